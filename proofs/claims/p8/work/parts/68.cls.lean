/-! the class's leaves over a view of its state -/
def CV (s : St) (n : Nat) (c l : Nat → Nat) (x : Nat) : Prop := gN s = n ∧ n ≤ 60 ∧ 8 ≤ n ∧ gA s 0 = NF c ∧ gA s 1 = NF l ∧ (∀ j, j < n → gA s 2 j = nI (so c l j)) ∧ gI s 1 = nI x ∧ 2 ≤ x ∧ x ≤ n ∧ (∀ i, c i < 256) ∧ (∀ i, l i ≤ 1)
/-- cells and lost flags alone -/
def CW (s : St) (n : Nat) (c l : Nat → Nat) : Prop := gN s = n ∧ n ≤ 60 ∧ 8 ≤ n ∧ gA s 0 = NF c ∧ gA s 1 = NF l ∧ (∀ i, c i < 256) ∧ (∀ i, l i ≤ 1)
theorem CV.w {s : St} {n x : Nat} {c l : Nat → Nat} (h : CV s n c l x) : CW s n c l := ⟨h.1, h.2.1, h.2.2.1, h.2.2.2.1, h.2.2.2.2.1, h.2.2.2.2.2.2.2.2.2.1, h.2.2.2.2.2.2.2.2.2.2⟩
theorem CV.n60 {s : St} {n x : Nat} {c l : Nat → Nat} (h : CV s n c l x) : n ≤ 60 ∧ 8 ≤ n ∧ 2 ≤ x ∧ x ≤ n := ⟨h.2.1, h.2.2.1, h.2.2.2.2.2.2.2.1, h.2.2.2.2.2.2.2.2.1⟩
theorem CV.xi {s : St} {n x : Nat} {c l : Nat → Nat} (h : CV s n c l x) : gI s 1 = nI x := h.2.2.2.2.2.2.1
theorem CV.b {s : St} {n x : Nat} {c l : Nat → Nat} (h : CV s n c l x) (i : Nat) : c i < 256 := h.2.2.2.2.2.2.2.2.2.1 i
section CL
variable {s : St} {n x : Nat} {c l : Nat → Nat}
theorem CV_sA (h : CV s n c l x) {k : Nat} (hk : 3 ≤ k) (f : Nat → Int32) : CV (sA s k f) n c l x := by
  unfold CV at *
  simp (disch := omega) only [c_lt, c_ge, c_gt, c_le, c_eq, c_ne, c_lt0, c_ge0, c_le0, c_gt0, c_eq0, c_ne0, c_eqm, c_nem, c_m0, c_meq, c_mne, c_mlt, nI_add, pk_mul, Bool.cond_decide, cond_true, cond_false, ldA_n, stA_n, cpA_n, bnd_s, bindP_s, Option.bind_some, gN_sI, gN_sA, gI_sA, gA_sI, gI_eq, gA_eq, gI_ne, gA_ne, sA_sA, sI_sI, if_pos, if_neg, ite_true, ite_false, eq_self, not_true_eq_false, not_false_eq_true, Nat.add_zero, NF_ap]
  exact h
theorem CV_sI (h : CV s n c l x) {k : Nat} (hk : k ≠ 1) (v : Int32) : CV (sI s k v) n c l x := by
  unfold CV at *
  simp (disch := omega) only [c_lt, c_ge, c_gt, c_le, c_eq, c_ne, c_lt0, c_ge0, c_le0, c_gt0, c_eq0, c_ne0, c_eqm, c_nem, c_m0, c_meq, c_mne, c_mlt, nI_add, pk_mul, Bool.cond_decide, cond_true, cond_false, ldA_n, stA_n, cpA_n, bnd_s, bindP_s, Option.bind_some, gN_sI, gN_sA, gI_sA, gA_sI, gI_eq, gA_eq, gI_ne, gA_ne, sA_sA, sI_sI, if_pos, if_neg, ite_true, ite_false, eq_self, not_true_eq_false, not_false_eq_true, Nat.add_zero, NF_ap]
  exact h
theorem CW_sA (h : CW s n c l) {k : Nat} (hk : 2 ≤ k) (f : Nat → Int32) : CW (sA s k f) n c l := by
  unfold CW at *
  simp (disch := omega) only [c_lt, c_ge, c_gt, c_le, c_eq, c_ne, c_lt0, c_ge0, c_le0, c_gt0, c_eq0, c_ne0, c_eqm, c_nem, c_m0, c_meq, c_mne, c_mlt, nI_add, pk_mul, Bool.cond_decide, cond_true, cond_false, ldA_n, stA_n, cpA_n, bnd_s, bindP_s, Option.bind_some, gN_sI, gN_sA, gI_sA, gA_sI, gI_eq, gA_eq, gI_ne, gA_ne, sA_sA, sI_sI, if_pos, if_neg, ite_true, ite_false, eq_self, not_true_eq_false, not_false_eq_true, Nat.add_zero, NF_ap]
  exact h
theorem CW_sI (h : CW s n c l) {k : Nat} (v : Int32) : CW (sI s k v) n c l := h
theorem a_has (h : CW s n c l) {j : Nat} (hj : j < 2 ^ 31) : F_X4_has s (nI j) = some (nI (if j < n then 1 else 0)) := by
  obtain ⟨h1, h2, h3, -⟩ := h
  unfold F_X4_has
  rw [h1]
  by_cases hc : j < n
  · simp (disch := omega) only [c_lt, c_ge, c_gt, c_le, c_eq, c_ne, c_lt0, c_ge0, c_le0, c_gt0, c_eq0, c_ne0, c_eqm, c_nem, c_m0, c_meq, c_mne, c_mlt, nI_add, pk_mul, Bool.cond_decide, cond_true, cond_false, ldA_n, stA_n, cpA_n, bnd_s, bindP_s, Option.bind_some, gN_sI, gN_sA, gI_sA, gA_sI, gI_eq, gA_eq, gI_ne, gA_ne, sA_sA, sI_sI, if_pos, if_neg, ite_true, ite_false, eq_self, not_true_eq_false, not_false_eq_true, Nat.add_zero, NF_ap]
  · simp (disch := omega) only [c_lt, c_ge, c_gt, c_le, c_eq, c_ne, c_lt0, c_ge0, c_le0, c_gt0, c_eq0, c_ne0, c_eqm, c_nem, c_m0, c_meq, c_mne, c_mlt, nI_add, pk_mul, Bool.cond_decide, cond_true, cond_false, ldA_n, stA_n, cpA_n, bnd_s, bindP_s, Option.bind_some, gN_sI, gN_sA, gI_sA, gA_sI, gI_eq, gA_eq, gI_ne, gA_ne, sA_sA, sI_sI, if_pos, if_neg, ite_true, ite_false, eq_self, not_true_eq_false, not_false_eq_true, Nat.add_zero, NF_ap]
theorem a_hasT (h : CW s n c l) {j : Nat} (hj : j < n) : F_X4_has s (nI j) = some (nI 1) := by
  rw [a_has h (by have := h.2.1; omega), if_pos hj]
theorem a_hasN (h : CW s n c l) {y : Int32} (hy : y < 0) : F_X4_has s y = some (nI 0) := by
  unfold F_X4_has
  rw [c_lt0n hy]
  rfl
theorem a_cell (h : CW s n c l) {j i : Nat} (hj : j < n) (hi : i < 32) : F_X4_cell s (nI j) (nI i) = some (nI (c (32 * j + i))) := by
  obtain ⟨h1, h2, h3, h4, -⟩ := h
  unfold F_X4_cell
  rw [h1, h4]
  simp (disch := omega) only [c_lt, c_ge, c_gt, c_le, c_eq, c_ne, c_lt0, c_ge0, c_le0, c_gt0, c_eq0, c_ne0, c_eqm, c_nem, c_m0, c_meq, c_mne, c_mlt, nI_add, pk_mul, Bool.cond_decide, cond_true, cond_false, ldA_n, stA_n, cpA_n, bnd_s, bindP_s, Option.bind_some, gN_sI, gN_sA, gI_sA, gA_sI, gI_eq, gA_eq, gI_ne, gA_ne, sA_sA, sI_sI, if_pos, if_neg, ite_true, ite_false, eq_self, not_true_eq_false, not_false_eq_true, Nat.add_zero, NF_ap]
  rw [Nat.mul_comm j 32]
theorem a_content (h : CW s n c l) {j i : Nat} (hj : j < n) (hi : i < 24) : F_X4_content s (nI j) (nI i) = some (nI (c (32 * j + (4 + i)))) := by
  unfold F_X4_content
  simp (disch := omega) only [c_lt, c_ge, c_gt, c_le, c_eq, c_ne, c_lt0, c_ge0, c_le0, c_gt0, c_eq0, c_ne0, c_eqm, c_nem, c_m0, c_meq, c_mne, c_mlt, nI_add, pk_mul, Bool.cond_decide, cond_true, cond_false, ldA_n, stA_n, cpA_n, bnd_s, bindP_s, Option.bind_some, gN_sI, gN_sA, gI_sA, gA_sI, gI_eq, gA_eq, gI_ne, gA_ne, sA_sA, sI_sI, if_pos, if_neg, ite_true, ite_false, eq_self, not_true_eq_false, not_false_eq_true, Nat.add_zero, NF_ap, a_cell h]
theorem a_ws (h : CV s n c l x) {j : Nat} (hj : j < n) : F_X4_wholeSort s (nI j) = some (nI (so c l j)) := by
  unfold F_X4_wholeSort
  rw [a_hasT h.w hj]
  obtain ⟨h1, h2, h3, h4, h5, h6, -⟩ := h
  rw [h1]
  simp (disch := omega) only [c_lt, c_ge, c_gt, c_le, c_eq, c_ne, c_lt0, c_ge0, c_le0, c_gt0, c_eq0, c_ne0, c_eqm, c_nem, c_m0, c_meq, c_mne, c_mlt, nI_add, pk_mul, Bool.cond_decide, cond_true, cond_false, ldA_n, stA_n, cpA_n, bnd_s, bindP_s, Option.bind_some, gN_sI, gN_sA, gI_sA, gA_sI, gI_eq, gA_eq, gI_ne, gA_ne, sA_sA, sI_sI, if_pos, if_neg, ite_true, ite_false, eq_self, not_true_eq_false, not_false_eq_true, Nat.add_zero, NF_ap]
  rw [h6 j hj]
theorem a_wsO (h : CV s n c l x) {j : Nat} (hj : n ≤ j) (hj2 : j < 2 ^ 31) : F_X4_wholeSort s (nI j) = some (nI 0) := by
  unfold F_X4_wholeSort
  rw [a_has h.w hj2]
  simp (disch := omega) only [c_lt, c_ge, c_gt, c_le, c_eq, c_ne, c_lt0, c_ge0, c_le0, c_gt0, c_eq0, c_ne0, c_eqm, c_nem, c_m0, c_meq, c_mne, c_mlt, nI_add, pk_mul, Bool.cond_decide, cond_true, cond_false, ldA_n, stA_n, cpA_n, bnd_s, bindP_s, Option.bind_some, gN_sI, gN_sA, gI_sA, gA_sI, gI_eq, gA_eq, gI_ne, gA_ne, sA_sA, sI_sI, if_pos, if_neg, ite_true, ite_false, eq_self, not_true_eq_false, not_false_eq_true, Nat.add_zero, NF_ap]
theorem a_inLog (h : CV s n c l x) {j : Nat} (hj : j < 2 ^ 31) : F_X5_isInLog s (nI j) = some (nI (if 2 ≤ j ∧ j < x then 1 else 0)) := by
  obtain ⟨h1, h2, h3, h4, h5, h6, h7, h8, h9, -⟩ := h
  unfold F_X5_isInLog
  rw [h7]
  by_cases hc : j < 2
  · simp (disch := omega) only [c_lt, c_ge, c_gt, c_le, c_eq, c_ne, c_lt0, c_ge0, c_le0, c_gt0, c_eq0, c_ne0, c_eqm, c_nem, c_m0, c_meq, c_mne, c_mlt, nI_add, pk_mul, Bool.cond_decide, cond_true, cond_false, ldA_n, stA_n, cpA_n, bnd_s, bindP_s, Option.bind_some, gN_sI, gN_sA, gI_sA, gA_sI, gI_eq, gA_eq, gI_ne, gA_ne, sA_sA, sI_sI, if_pos, if_neg, ite_true, ite_false, eq_self, not_true_eq_false, not_false_eq_true, Nat.add_zero, NF_ap]
  · by_cases hd : j < x
    · simp (disch := omega) only [c_lt, c_ge, c_gt, c_le, c_eq, c_ne, c_lt0, c_ge0, c_le0, c_gt0, c_eq0, c_ne0, c_eqm, c_nem, c_m0, c_meq, c_mne, c_mlt, nI_add, pk_mul, Bool.cond_decide, cond_true, cond_false, ldA_n, stA_n, cpA_n, bnd_s, bindP_s, Option.bind_some, gN_sI, gN_sA, gI_sA, gA_sI, gI_eq, gA_eq, gI_ne, gA_ne, sA_sA, sI_sI, if_pos, if_neg, ite_true, ite_false, eq_self, not_true_eq_false, not_false_eq_true, Nat.add_zero, NF_ap]
    · simp (disch := omega) only [c_lt, c_ge, c_gt, c_le, c_eq, c_ne, c_lt0, c_ge0, c_le0, c_gt0, c_eq0, c_ne0, c_eqm, c_nem, c_m0, c_meq, c_mne, c_mlt, nI_add, pk_mul, Bool.cond_decide, cond_true, cond_false, ldA_n, stA_n, cpA_n, bnd_s, bindP_s, Option.bind_some, gN_sI, gN_sA, gI_sA, gA_sI, gI_eq, gA_eq, gI_ne, gA_ne, sA_sA, sI_sI, if_pos, if_neg, ite_true, ite_false, eq_self, not_true_eq_false, not_false_eq_true, Nat.add_zero, NF_ap]
theorem a_isBlock (h : CV s n c l x) {j : Nat} (hj : j < 2 ^ 31) : F_X5_isBlock s (nI j) = some (nI (bk c l x j).toNat) := by
  unfold F_X5_isBlock
  rw [a_inLog h hj]
  by_cases hc : 2 ≤ j ∧ j < x
  · have := so_le c l j
    have h9 := h.2.2.2.2.2.2.2.2.1
    rw [if_pos hc]
    simp (disch := omega) only [c_lt, c_ge, c_gt, c_le, c_eq, c_ne, c_lt0, c_ge0, c_le0, c_gt0, c_eq0, c_ne0, c_eqm, c_nem, c_m0, c_meq, c_mne, c_mlt, nI_add, pk_mul, Bool.cond_decide, cond_true, cond_false, ldA_n, stA_n, cpA_n, bnd_s, bindP_s, Option.bind_some, gN_sI, gN_sA, gI_sA, gA_sI, gI_eq, gA_eq, gI_ne, gA_ne, sA_sA, sI_sI, if_pos, if_neg, ite_true, ite_false, eq_self, not_true_eq_false, not_false_eq_true, Nat.add_zero, NF_ap, a_ws h]
    unfold bk
    by_cases hd : so c l j = 2
    · simp (disch := omega) only [c_lt, c_ge, c_gt, c_le, c_eq, c_ne, c_lt0, c_ge0, c_le0, c_gt0, c_eq0, c_ne0, c_eqm, c_nem, c_m0, c_meq, c_mne, c_mlt, nI_add, pk_mul, Bool.cond_decide, cond_true, cond_false, ldA_n, stA_n, cpA_n, bnd_s, bindP_s, Option.bind_some, gN_sI, gN_sA, gI_sA, gA_sI, gI_eq, gA_eq, gI_ne, gA_ne, sA_sA, sI_sI, if_pos, if_neg, ite_true, ite_false, eq_self, not_true_eq_false, not_false_eq_true, Nat.add_zero, NF_ap]
      rw [decide_eq_true ⟨hc.1, hc.2, hd⟩]
      rfl
    · simp (disch := omega) only [c_lt, c_ge, c_gt, c_le, c_eq, c_ne, c_lt0, c_ge0, c_le0, c_gt0, c_eq0, c_ne0, c_eqm, c_nem, c_m0, c_meq, c_mne, c_mlt, nI_add, pk_mul, Bool.cond_decide, cond_true, cond_false, ldA_n, stA_n, cpA_n, bnd_s, bindP_s, Option.bind_some, gN_sI, gN_sA, gI_sA, gA_sI, gI_eq, gA_eq, gI_ne, gA_ne, sA_sA, sI_sI, if_pos, if_neg, ite_true, ite_false, eq_self, not_true_eq_false, not_false_eq_true, Nat.add_zero, NF_ap]
      rw [decide_eq_false (fun z => hd z.2.2)]
      rfl
  · rw [if_neg hc]
    simp (disch := omega) only [c_lt, c_ge, c_gt, c_le, c_eq, c_ne, c_lt0, c_ge0, c_le0, c_gt0, c_eq0, c_ne0, c_eqm, c_nem, c_m0, c_meq, c_mne, c_mlt, nI_add, pk_mul, Bool.cond_decide, cond_true, cond_false, ldA_n, stA_n, cpA_n, bnd_s, bindP_s, Option.bind_some, gN_sI, gN_sA, gI_sA, gA_sI, gI_eq, gA_eq, gI_ne, gA_ne, sA_sA, sI_sI, if_pos, if_neg, ite_true, ite_false, eq_self, not_true_eq_false, not_false_eq_true, Nat.add_zero, NF_ap]
    unfold bk
    rw [decide_eq_false (fun z => hc ⟨z.1, z.2.1⟩)]
    rfl
theorem a_count : F_X4_count s = some (nI (gN s)) := rfl
theorem a_left (h : CV s n c l x) : F_X5_sectorsLeft s = some (nI (n - x)) := by
  obtain ⟨h1, h2, h3, h4, h5, h6, h7, h8, h9, -⟩ := h
  unfold F_X5_sectorsLeft
  rw [a_count, h1, h7]
  simp (disch := omega) only [c_lt, c_ge, c_gt, c_le, c_eq, c_ne, c_lt0, c_ge0, c_le0, c_gt0, c_eq0, c_ne0, c_eqm, c_nem, c_m0, c_meq, c_mne, c_mlt, nI_add, pk_mul, Bool.cond_decide, cond_true, cond_false, ldA_n, stA_n, cpA_n, bnd_s, bindP_s, Option.bind_some, gN_sI, gN_sA, gI_sA, gA_sI, gI_eq, gA_eq, gI_ne, gA_ne, sA_sA, sI_sI, if_pos, if_neg, ite_true, ite_false, eq_self, not_true_eq_false, not_false_eq_true, Nat.add_zero, NF_ap]
  rw [pk_sub h9]
theorem a_isLost (h : CW s n c l) {j : Nat} (hj : j < n) : F_X4_isLost s (nI j) = some (nI (l j)) := by
  unfold F_X4_isLost
  rw [a_hasT h hj]
  obtain ⟨h1, h2, h3, h4, h5, h10, h11⟩ := h
  rw [h1, h5]
  have := h11 j
  by_cases hc : l j = 0
  · simp (disch := omega) only [c_lt, c_ge, c_gt, c_le, c_eq, c_ne, c_lt0, c_ge0, c_le0, c_gt0, c_eq0, c_ne0, c_eqm, c_nem, c_m0, c_meq, c_mne, c_mlt, nI_add, pk_mul, Bool.cond_decide, cond_true, cond_false, ldA_n, stA_n, cpA_n, bnd_s, bindP_s, Option.bind_some, gN_sI, gN_sA, gI_sA, gA_sI, gI_eq, gA_eq, gI_ne, gA_ne, sA_sA, sI_sI, if_pos, if_neg, ite_true, ite_false, eq_self, not_true_eq_false, not_false_eq_true, Nat.add_zero, NF_ap]
    rw [hc]
  · simp (disch := omega) only [c_lt, c_ge, c_gt, c_le, c_eq, c_ne, c_lt0, c_ge0, c_le0, c_gt0, c_eq0, c_ne0, c_eqm, c_nem, c_m0, c_meq, c_mne, c_mlt, nI_add, pk_mul, Bool.cond_decide, cond_true, cond_false, ldA_n, stA_n, cpA_n, bnd_s, bindP_s, Option.bind_some, gN_sI, gN_sA, gI_sA, gA_sI, gI_eq, gA_eq, gI_ne, gA_ne, sA_sA, sI_sI, if_pos, if_neg, ite_true, ite_false, eq_self, not_true_eq_false, not_false_eq_true, Nat.add_zero, NF_ap]
    rw [show l j = 1 by omega]
theorem a_hasCell (h : CW s n c l) {j i : Nat} (hj : j < 2 ^ 31) (hi : i < 2 ^ 31) : F_X4_hasCell s (nI j) (nI i) = some (nI (if j < n ∧ i < 32 then 1 else 0)) := by
  obtain ⟨h1, h2, h3, -⟩ := h
  unfold F_X4_hasCell
  rw [h1]
  by_cases hc : j < n
  · by_cases hd : i < 32
    · simp (disch := omega) only [c_lt, c_ge, c_gt, c_le, c_eq, c_ne, c_lt0, c_ge0, c_le0, c_gt0, c_eq0, c_ne0, c_eqm, c_nem, c_m0, c_meq, c_mne, c_mlt, nI_add, pk_mul, Bool.cond_decide, cond_true, cond_false, ldA_n, stA_n, cpA_n, bnd_s, bindP_s, Option.bind_some, gN_sI, gN_sA, gI_sA, gA_sI, gI_eq, gA_eq, gI_ne, gA_ne, sA_sA, sI_sI, if_pos, if_neg, ite_true, ite_false, eq_self, not_true_eq_false, not_false_eq_true, Nat.add_zero, NF_ap]
    · simp (disch := omega) only [c_lt, c_ge, c_gt, c_le, c_eq, c_ne, c_lt0, c_ge0, c_le0, c_gt0, c_eq0, c_ne0, c_eqm, c_nem, c_m0, c_meq, c_mne, c_mlt, nI_add, pk_mul, Bool.cond_decide, cond_true, cond_false, ldA_n, stA_n, cpA_n, bnd_s, bindP_s, Option.bind_some, gN_sI, gN_sA, gI_sA, gA_sI, gI_eq, gA_eq, gI_ne, gA_ne, sA_sA, sI_sI, if_pos, if_neg, ite_true, ite_false, eq_self, not_true_eq_false, not_false_eq_true, Nat.add_zero, NF_ap]
  · simp (disch := omega) only [c_lt, c_ge, c_gt, c_le, c_eq, c_ne, c_lt0, c_ge0, c_le0, c_gt0, c_eq0, c_ne0, c_eqm, c_nem, c_m0, c_meq, c_mne, c_mlt, nI_add, pk_mul, Bool.cond_decide, cond_true, cond_false, ldA_n, stA_n, cpA_n, bnd_s, bindP_s, Option.bind_some, gN_sI, gN_sA, gI_sA, gA_sI, gI_eq, gA_eq, gI_ne, gA_ne, sA_sA, sI_sI, if_pos, if_neg, ite_true, ite_false, eq_self, not_true_eq_false, not_false_eq_true, Nat.add_zero, NF_ap]
theorem a_sum (h : CW s n c l) {N j : Nat} (hN : 40 ≤ N) (hj : j < n) : F_X5_sumOf_2 N s (nI (j * 32)) = some (ps (NF c) (32 * j) 28) := by
  obtain ⟨h1, h2, h3, h4, -⟩ := h
  unfold F_X5_sumOf_2
  rw [h1, pk_sub (by omega), Nat.mul_comm j 32]
  simp (disch := omega) only [c_lt, c_ge, c_gt, c_le, c_eq, c_ne, c_lt0, c_ge0, c_le0, c_gt0, c_eq0, c_ne0, c_eqm, c_nem, c_m0, c_meq, c_mne, c_mlt, nI_add, pk_mul, Bool.cond_decide, cond_true, cond_false, ldA_n, stA_n, cpA_n, bnd_s, bindP_s, Option.bind_some, gN_sI, gN_sA, gI_sA, gA_sI, gI_eq, gA_eq, gI_ne, gA_ne, sA_sA, sI_sI, if_pos, if_neg, ite_true, ite_false, eq_self, not_true_eq_false, not_false_eq_true, Nat.add_zero, NF_ap]
  have := ps_lp (g := gA s 0) (n := 32 * gN s) (b := 32 * j) (G := fun f x1 x2 x3 => F_X5_sumOf_2_19 N f s x1 x2 x3) (by omega) (by omega) (fun f x1 x2 x3 => F_X5_sumOf_2_19.eq_2 N s x1 x2 x3 f) 28 0 N (by omega) (by omega)
  rw [h4] at this
  exact this
end CL
