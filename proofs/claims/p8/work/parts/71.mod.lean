/-! the reference's leaves and writes -/
def MV (s : St) (n : Nat) (c l : Nat → Nat) (x : Nat) : Prop := CW s n c l ∧ gI s 2 = nI x ∧ 2 ≤ x ∧ x ≤ n
section MM
variable {s : St} {n x N : Nat} {c l : Nat → Nat}
theorem MV_sA (h : MV s n c l x) {k : Nat} (hk : 2 ≤ k) (f : Nat → Int32) : MV (sA s k f) n c l x := ⟨CW_sA h.1 hk f, h.2⟩
theorem MV_sI (h : MV s n c l x) {k : Nat} (hk : k ≠ 2) (v : Int32) : MV (sI s k v) n c l x := ⟨CW_sI h.1 v, by rw [gI_ne (by omega)]; exact h.2.1, h.2.2⟩
theorem MV.xi (h : MV s n c l x) : gI s 2 = nI x := h.2.1
theorem MV.n60 (h : MV s n c l x) : n ≤ 60 ∧ 8 ≤ n ∧ 2 ≤ x ∧ x ≤ n := ⟨h.1.2.1, h.1.2.2.1, h.2.2.1, h.2.2.2⟩
theorem b_in {a lo hi : Nat} (ha : a < 2 ^ 31) (hl : lo < 2 ^ 31) (hh : hi < 2 ^ 31) : F_X6_in (nI a) (nI lo) (nI hi) = some (nI (if lo ≤ a ∧ a ≤ hi then 1 else 0)) := by
  unfold F_X6_in
  by_cases h1 : a < lo
  · simp (disch := omega) only [c_lt, c_ge, c_gt, c_le, c_eq, c_ne, c_lt0, c_ge0, c_le0, c_gt0, c_eq0, c_ne0, c_eqm, c_nem, c_m0, c_meq, c_mne, c_mlt, nI_add, pk_mul, Bool.cond_decide, cond_true, cond_false, ldA_n, stA_n, cpA_n, bnd_s, bindP_s, Option.bind_some, gN_sI, gN_sA, gI_sA, gA_sI, gI_eq, gA_eq, gI_ne, gA_ne, sA_sA, sI_sI, if_pos, if_neg, ite_true, ite_false, eq_self, not_true_eq_false, not_false_eq_true, Nat.add_zero, NF_ap]
  · by_cases h2 : hi < a
    · simp (disch := omega) only [c_lt, c_ge, c_gt, c_le, c_eq, c_ne, c_lt0, c_ge0, c_le0, c_gt0, c_eq0, c_ne0, c_eqm, c_nem, c_m0, c_meq, c_mne, c_mlt, nI_add, pk_mul, Bool.cond_decide, cond_true, cond_false, ldA_n, stA_n, cpA_n, bnd_s, bindP_s, Option.bind_some, gN_sI, gN_sA, gI_sA, gA_sI, gI_eq, gA_eq, gI_ne, gA_ne, sA_sA, sI_sI, if_pos, if_neg, ite_true, ite_false, eq_self, not_true_eq_false, not_false_eq_true, Nat.add_zero, NF_ap]
    · simp (disch := omega) only [c_lt, c_ge, c_gt, c_le, c_eq, c_ne, c_lt0, c_ge0, c_le0, c_gt0, c_eq0, c_ne0, c_eqm, c_nem, c_m0, c_meq, c_mne, c_mlt, nI_add, pk_mul, Bool.cond_decide, cond_true, cond_false, ldA_n, stA_n, cpA_n, bnd_s, bindP_s, Option.bind_some, gN_sI, gN_sA, gI_sA, gA_sI, gI_eq, gA_eq, gI_ne, gA_ne, sA_sA, sI_sI, if_pos, if_neg, ite_true, ite_false, eq_self, not_true_eq_false, not_false_eq_true, Nat.add_zero, NF_ap]
theorem b_inN {y : Int32} (hy : y < 0) {lo : Nat} (hl : lo < 2 ^ 31) (z : Int32) : F_X6_in y (nI lo) z = some (nI 0) := by
  unfold F_X6_in
  rw [c_ltn hy hl]
  rfl
theorem b_sum (h : CW s n c l) {j : Nat} (hN : 40 ≤ N) (hj : j < n) : F_X6_sumOf_19 N s (nI (32 * j)) = some (ps (NF c) (32 * j) 28) := by
  obtain ⟨h1, h2, h3, h4, -⟩ := h
  have := ps_lp (g := gA s 0) (n := 1920) (b := 32 * j) (G := fun f x1 x2 x3 => F_X6_sumOf_19_4 N f s x1 x2 x3) (by omega) (by omega) (fun f x1 x2 x3 => F_X6_sumOf_19_4.eq_2 N s x1 x2 x3 f) 28 0 N (by omega) (by omega)
  rw [h4] at this
  exact this
theorem b_so (h : CW s n c l) {j : Nat} (hN : 40 ≤ N) (hj : j < n) : F_X6_sortOf N s (nI j) = some (nI (so c l j)) := by
  have h1 := h.1
  have h2 := h.2.1
  have h4 := h.2.2.2.1
  have h5 := h.2.2.2.2.1
  have h6 := h.2.2.2.2.2.2 j
  have h7 := h.2.2.2.2.2.1 (32 * j)
  unfold F_X6_sortOf
  simp (disch := omega) only [c_lt, c_ge, c_gt, c_le, c_eq, c_ne, c_lt0, c_ge0, c_le0, c_gt0, c_eq0, c_ne0, c_eqm, c_nem, c_m0, c_meq, c_mne, c_mlt, nI_add, pk_mul, Bool.cond_decide, cond_true, cond_false, ldA_n, stA_n, cpA_n, bnd_s, bindP_s, Option.bind_some, gN_sI, gN_sA, gI_sA, gA_sI, gI_eq, gA_eq, gI_ne, gA_ne, sA_sA, sI_sI, if_pos, if_neg, ite_true, ite_false, eq_self, not_true_eq_false, not_false_eq_true, Nat.add_zero, NF_ap, h4, h5]
  rw [b_in (by omega) (by omega) (by omega)]
  simp (disch := omega) only [c_lt, c_ge, c_gt, c_le, c_eq, c_ne, c_lt0, c_ge0, c_le0, c_gt0, c_eq0, c_ne0, c_eqm, c_nem, c_m0, c_meq, c_mne, c_mlt, nI_add, pk_mul, Bool.cond_decide, cond_true, cond_false, ldA_n, stA_n, cpA_n, bnd_s, bindP_s, Option.bind_some, gN_sI, gN_sA, gI_sA, gA_sI, gI_eq, gA_eq, gI_ne, gA_ne, sA_sA, sI_sI, if_pos, if_neg, ite_true, ite_false, eq_self, not_true_eq_false, not_false_eq_true, Nat.add_zero, NF_ap, b_sum h hN hj]
  unfold so
  by_cases q4 : l j = 0
  · by_cases q1 : 1 ≤ c (32 * j)
    · by_cases q2 : c (32 * j) ≤ 4
      · simp (disch := omega) only [c_lt, c_ge, c_gt, c_le, c_eq, c_ne, c_lt0, c_ge0, c_le0, c_gt0, c_eq0, c_ne0, c_eqm, c_nem, c_m0, c_meq, c_mne, c_mlt, nI_add, pk_mul, Bool.cond_decide, cond_true, cond_false, ldA_n, stA_n, cpA_n, bnd_s, bindP_s, Option.bind_some, gN_sI, gN_sA, gI_sA, gA_sI, gI_eq, gA_eq, gI_ne, gA_ne, sA_sA, sI_sI, if_pos, if_neg, ite_true, ite_false, eq_self, not_true_eq_false, not_false_eq_true, Nat.add_zero, NF_ap]
        rw [c_nex, Bool.cond_decide]
        change (if ¬ w4 (nI (c (32 * j + 28))) (nI (c (32 * j + 29))) (nI (c (32 * j + 30))) (nI (c (32 * j + 31))) = ps (NF c) (32 * j) 28 then some (nI 0) else some (nI (c (32 * j)))) = _
        by_cases q3 : w4 (nI (c (32 * j + 28))) (nI (c (32 * j + 29))) (nI (c (32 * j + 30))) (nI (c (32 * j + 31))) = ps (NF c) (32 * j) 28
        · rw [if_neg (fun z => z q3), if_pos ⟨q4, q1, q2, q3⟩]
        · rw [if_pos q3, if_neg (fun z => q3 z.2.2.2)]
      · simp (disch := omega) only [c_lt, c_ge, c_gt, c_le, c_eq, c_ne, c_lt0, c_ge0, c_le0, c_gt0, c_eq0, c_ne0, c_eqm, c_nem, c_m0, c_meq, c_mne, c_mlt, nI_add, pk_mul, Bool.cond_decide, cond_true, cond_false, ldA_n, stA_n, cpA_n, bnd_s, bindP_s, Option.bind_some, gN_sI, gN_sA, gI_sA, gA_sI, gI_eq, gA_eq, gI_ne, gA_ne, sA_sA, sI_sI, if_pos, if_neg, ite_true, ite_false, eq_self, not_true_eq_false, not_false_eq_true, Nat.add_zero, NF_ap]
    · simp (disch := omega) only [c_lt, c_ge, c_gt, c_le, c_eq, c_ne, c_lt0, c_ge0, c_le0, c_gt0, c_eq0, c_ne0, c_eqm, c_nem, c_m0, c_meq, c_mne, c_mlt, nI_add, pk_mul, Bool.cond_decide, cond_true, cond_false, ldA_n, stA_n, cpA_n, bnd_s, bindP_s, Option.bind_some, gN_sI, gN_sA, gI_sA, gA_sI, gI_eq, gA_eq, gI_ne, gA_ne, sA_sA, sI_sI, if_pos, if_neg, ite_true, ite_false, eq_self, not_true_eq_false, not_false_eq_true, Nat.add_zero, NF_ap]
  · simp (disch := omega) only [c_lt, c_ge, c_gt, c_le, c_eq, c_ne, c_lt0, c_ge0, c_le0, c_gt0, c_eq0, c_ne0, c_eqm, c_nem, c_m0, c_meq, c_mne, c_mlt, nI_add, pk_mul, Bool.cond_decide, cond_true, cond_false, ldA_n, stA_n, cpA_n, bnd_s, bindP_s, Option.bind_some, gN_sI, gN_sA, gI_sA, gA_sI, gI_eq, gA_eq, gI_ne, gA_ne, sA_sA, sI_sI, if_pos, if_neg, ite_true, ite_false, eq_self, not_true_eq_false, not_false_eq_true, Nat.add_zero, NF_ap]
theorem b_inLog (h : MV s n c l x) {j : Nat} (hj : j < 2 ^ 31) : F_X6_isInLog s (nI j) = some (nI (if 2 ≤ j ∧ j < x then 1 else 0)) := by
  have h2 := h.n60
  unfold F_X6_isInLog
  rw [h.xi]
  by_cases hc : j < 2
  · simp (disch := omega) only [c_lt, c_ge, c_gt, c_le, c_eq, c_ne, c_lt0, c_ge0, c_le0, c_gt0, c_eq0, c_ne0, c_eqm, c_nem, c_m0, c_meq, c_mne, c_mlt, nI_add, pk_mul, Bool.cond_decide, cond_true, cond_false, ldA_n, stA_n, cpA_n, bnd_s, bindP_s, Option.bind_some, gN_sI, gN_sA, gI_sA, gA_sI, gI_eq, gA_eq, gI_ne, gA_ne, sA_sA, sI_sI, if_pos, if_neg, ite_true, ite_false, eq_self, not_true_eq_false, not_false_eq_true, Nat.add_zero, NF_ap]
  · by_cases hd : j < x
    · simp (disch := omega) only [c_lt, c_ge, c_gt, c_le, c_eq, c_ne, c_lt0, c_ge0, c_le0, c_gt0, c_eq0, c_ne0, c_eqm, c_nem, c_m0, c_meq, c_mne, c_mlt, nI_add, pk_mul, Bool.cond_decide, cond_true, cond_false, ldA_n, stA_n, cpA_n, bnd_s, bindP_s, Option.bind_some, gN_sI, gN_sA, gI_sA, gA_sI, gI_eq, gA_eq, gI_ne, gA_ne, sA_sA, sI_sI, if_pos, if_neg, ite_true, ite_false, eq_self, not_true_eq_false, not_false_eq_true, Nat.add_zero, NF_ap]
    · simp (disch := omega) only [c_lt, c_ge, c_gt, c_le, c_eq, c_ne, c_lt0, c_ge0, c_le0, c_gt0, c_eq0, c_ne0, c_eqm, c_nem, c_m0, c_meq, c_mne, c_mlt, nI_add, pk_mul, Bool.cond_decide, cond_true, cond_false, ldA_n, stA_n, cpA_n, bnd_s, bindP_s, Option.bind_some, gN_sI, gN_sA, gI_sA, gA_sI, gI_eq, gA_eq, gI_ne, gA_ne, sA_sA, sI_sI, if_pos, if_neg, ite_true, ite_false, eq_self, not_true_eq_false, not_false_eq_true, Nat.add_zero, NF_ap]
theorem b_isBlock (h : MV s n c l x) {j : Nat} (hN : 40 ≤ N) (hj : j < 2 ^ 31) : F_X6_isBlock N s (nI j) = some (nI (bk c l x j).toNat) := by
  unfold F_X6_isBlock
  rw [b_inLog h hj]
  have hb := h.n60
  by_cases hc : 2 ≤ j ∧ j < x
  · have := so_le c l j
    rw [if_pos hc]
    simp (disch := omega) only [c_lt, c_ge, c_gt, c_le, c_eq, c_ne, c_lt0, c_ge0, c_le0, c_gt0, c_eq0, c_ne0, c_eqm, c_nem, c_m0, c_meq, c_mne, c_mlt, nI_add, pk_mul, Bool.cond_decide, cond_true, cond_false, ldA_n, stA_n, cpA_n, bnd_s, bindP_s, Option.bind_some, gN_sI, gN_sA, gI_sA, gA_sI, gI_eq, gA_eq, gI_ne, gA_ne, sA_sA, sI_sI, if_pos, if_neg, ite_true, ite_false, eq_self, not_true_eq_false, not_false_eq_true, Nat.add_zero, NF_ap, b_so h.1 hN]
    unfold bk
    by_cases hd : so c l j = 2
    · simp (disch := omega) only [c_lt, c_ge, c_gt, c_le, c_eq, c_ne, c_lt0, c_ge0, c_le0, c_gt0, c_eq0, c_ne0, c_eqm, c_nem, c_m0, c_meq, c_mne, c_mlt, nI_add, pk_mul, Bool.cond_decide, cond_true, cond_false, ldA_n, stA_n, cpA_n, bnd_s, bindP_s, Option.bind_some, gN_sI, gN_sA, gI_sA, gA_sI, gI_eq, gA_eq, gI_ne, gA_ne, sA_sA, sI_sI, if_pos, if_neg, ite_true, ite_false, eq_self, not_true_eq_false, not_false_eq_true, Nat.add_zero, NF_ap]
      rw [decide_eq_true ⟨hc.1, hc.2, hd⟩]
      rfl
    · simp (disch := omega) only [c_lt, c_ge, c_gt, c_le, c_eq, c_ne, c_lt0, c_ge0, c_le0, c_gt0, c_eq0, c_ne0, c_eqm, c_nem, c_m0, c_meq, c_mne, c_mlt, nI_add, pk_mul, Bool.cond_decide, cond_true, cond_false, ldA_n, stA_n, cpA_n, bnd_s, bindP_s, Option.bind_some, gN_sI, gN_sA, gI_sA, gA_sI, gI_eq, gA_eq, gI_ne, gA_ne, sA_sA, sI_sI, if_pos, if_neg, ite_true, ite_false, eq_self, not_true_eq_false, not_false_eq_true, Nat.add_zero, NF_ap]
      rw [decide_eq_false (fun z => hd z.2.2)]
      rfl
  · rw [if_neg hc]
    simp (disch := omega) only [c_lt, c_ge, c_gt, c_le, c_eq, c_ne, c_lt0, c_ge0, c_le0, c_gt0, c_eq0, c_ne0, c_eqm, c_nem, c_m0, c_meq, c_mne, c_mlt, nI_add, pk_mul, Bool.cond_decide, cond_true, cond_false, ldA_n, stA_n, cpA_n, bnd_s, bindP_s, Option.bind_some, gN_sI, gN_sA, gI_sA, gA_sI, gI_eq, gA_eq, gI_ne, gA_ne, sA_sA, sI_sI, if_pos, if_neg, ite_true, ite_false, eq_self, not_true_eq_false, not_false_eq_true, Nat.add_zero, NF_ap]
    unfold bk
    rw [decide_eq_false (fun z => hc ⟨z.1, z.2.1⟩)]
    rfl
theorem b_begin (hN : 40 ≤ N) (a b c d : Nat) : F_X6_begin N s (nI a) (nI b) (nI c) (nI d) = some (sA s 6 (dF (gA s 6) a b c d (fun _ => 0))) := by
  unfold F_X6_begin
  have key : ∀ m i f s, i + m = 32 → m < f → F_X6_begin_3 N f s (nI a) (nI b) (nI c) (nI d) (nI i) = some (sA s 6 (upd (upd (upd (upd (fun j => if i ≤ j ∧ j < 32 then nI 0 else gA s 6 j) 0 (nI a)) 1 (nI b)) 2 (nI c)) 3 (nI d))) := by
    intro m
    induction m with
    | zero =>
      intro i f s e1 e2
      obtain ⟨f, rfl⟩ : ∃ q, f = q + 1 := ⟨f - 1, by omega⟩
      rw [F_X6_begin_3.eq_2]
      simp (disch := omega) only [c_lt, c_ge, c_gt, c_le, c_eq, c_ne, c_lt0, c_ge0, c_le0, c_gt0, c_eq0, c_ne0, c_eqm, c_nem, c_m0, c_meq, c_mne, c_mlt, nI_add, pk_mul, Bool.cond_decide, cond_true, cond_false, ldA_n, stA_n, cpA_n, bnd_s, bindP_s, Option.bind_some, gN_sI, gN_sA, gI_sA, gA_sI, gI_eq, gA_eq, gI_ne, gA_ne, sA_sA, sI_sI, if_pos, if_neg, ite_true, ite_false, eq_self, not_true_eq_false, not_false_eq_true, Nat.add_zero, NF_ap]
    | succ m ih =>
      intro i f s e1 e2
      obtain ⟨f, rfl⟩ : ∃ q, f = q + 1 := ⟨f - 1, by omega⟩
      rw [F_X6_begin_3.eq_2]
      simp (disch := omega) only [c_lt, c_ge, c_gt, c_le, c_eq, c_ne, c_lt0, c_ge0, c_le0, c_gt0, c_eq0, c_ne0, c_eqm, c_nem, c_m0, c_meq, c_mne, c_mlt, nI_add, pk_mul, Bool.cond_decide, cond_true, cond_false, ldA_n, stA_n, cpA_n, bnd_s, bindP_s, Option.bind_some, gN_sI, gN_sA, gI_sA, gA_sI, gI_eq, gA_eq, gI_ne, gA_ne, sA_sA, sI_sI, if_pos, if_neg, ite_true, ite_false, eq_self, not_true_eq_false, not_false_eq_true, Nat.add_zero, NF_ap]
      rw [ih (i + 1) f _ (by omega) (by omega)]
      simp (disch := omega) only [c_lt, c_ge, c_gt, c_le, c_eq, c_ne, c_lt0, c_ge0, c_le0, c_gt0, c_eq0, c_ne0, c_eqm, c_nem, c_m0, c_meq, c_mne, c_mlt, nI_add, pk_mul, Bool.cond_decide, cond_true, cond_false, ldA_n, stA_n, cpA_n, bnd_s, bindP_s, Option.bind_some, gN_sI, gN_sA, gI_sA, gA_sI, gI_eq, gA_eq, gI_ne, gA_ne, sA_sA, sI_sI, if_pos, if_neg, ite_true, ite_false, eq_self, not_true_eq_false, not_false_eq_true, Nat.add_zero, NF_ap]
      have e : (fun j => if i + 1 ≤ j ∧ j < 32 then nI 0 else upd (gA s 6) i (nI 0) j) = (fun j => if i ≤ j ∧ j < 32 then nI 0 else gA s 6 j) := by
        funext j
        unfold upd
        by_cases h3 : j = i
        · subst h3
          rw [if_neg (by omega), if_pos rfl, if_pos (by omega)]
        · by_cases h4 : i ≤ j ∧ j < 32
          · rw [if_pos (by omega), if_pos h4]
          · rw [if_neg (by omega), if_neg h3, if_neg h4]
      rw [e]
  rw [key 32 0 N s (by omega) (by omega), dF_bg]
theorem b_seal {g : Nat → Int32} {a b c d : Nat} {h : Nat → Nat} (hN : 40 ≤ N) (hd : gA s 6 = dF g a b c d h) : F_X6_seal N s = some (sA s 6 (secF g a b c d h)) := by
  unfold F_X6_seal
  have h1 : F_X6_sumOf_25 N s (nI 0) = some (sm a b c d h) := by
    have := ps_lp (g := gA s 6) (n := 32) (b := 0) (G := fun f x1 x2 x3 => F_X6_sumOf_25_4 N f s x1 x2 x3) (by omega) (by omega) (fun f x1 x2 x3 => F_X6_sumOf_25_4.eq_2 N _ x1 x2 x3 f) 28 0 N (by omega) (by omega)
    rw [hd, ps_dF] at this
    exact this
  rw [h1, Option.bind_some]
  have h2 : ∀ m i f, i + m = 4 → m < f → F_X6_seal_11 N f (sA s 6 (slF g a b c d h i)) (sm a b c d h) (nI i) = some (sA s 6 (secF g a b c d h)) := by
    intro m
    induction m with
    | zero =>
      intro i f e1 e2
      obtain ⟨f, rfl⟩ : ∃ q, f = q + 1 := ⟨f - 1, by omega⟩
      obtain rfl : i = 4 := by omega
      rw [F_X6_seal_11.eq_2]
      simp (disch := omega) only [c_lt, c_ge, c_gt, c_le, c_eq, c_ne, c_lt0, c_ge0, c_le0, c_gt0, c_eq0, c_ne0, c_eqm, c_nem, c_m0, c_meq, c_mne, c_mlt, nI_add, pk_mul, Bool.cond_decide, cond_true, cond_false, ldA_n, stA_n, cpA_n, bnd_s, bindP_s, Option.bind_some, gN_sI, gN_sA, gI_sA, gA_sI, gI_eq, gA_eq, gI_ne, gA_ne, sA_sA, sI_sI, if_pos, if_neg, ite_true, ite_false, eq_self, not_true_eq_false, not_false_eq_true, Nat.add_zero, NF_ap]
      rw [slF_4]
    | succ m ih =>
      intro i f e1 e2
      obtain ⟨f, rfl⟩ : ∃ q, f = q + 1 := ⟨f - 1, by omega⟩
      rw [F_X6_seal_11.eq_2, pk_mul, pk_sub (by omega), byt_s _ (by omega)]
      simp (disch := omega) only [c_lt, c_ge, c_gt, c_le, c_eq, c_ne, c_lt0, c_ge0, c_le0, c_gt0, c_eq0, c_ne0, c_eqm, c_nem, c_m0, c_meq, c_mne, c_mlt, nI_add, pk_mul, Bool.cond_decide, cond_true, cond_false, ldA_n, stA_n, cpA_n, bnd_s, bindP_s, Option.bind_some, gN_sI, gN_sA, gI_sA, gA_sI, gI_eq, gA_eq, gI_ne, gA_ne, sA_sA, sI_sI, if_pos, if_neg, ite_true, ite_false, eq_self, not_true_eq_false, not_false_eq_true, Nat.add_zero, NF_ap]
      rw [slF_s (by omega)]
      exact ih (i + 1) f (by omega) (by omega)
  have := h2 4 0 N (by omega) (by omega)
  rw [slF_0, ← hd, sA_id] at this
  exact this
/-- i bytes of a sector, copied -/
def cpN (c : Nat → Nat) (g : Nat → Int32) (a b i : Nat) : Nat → Int32 := va_cpy (NF c) g a b i
theorem cpN_0 (c : Nat → Nat) (g : Nat → Int32) (a b : Nat) : cpN c g a b 0 = g := by
  funext q
  exact if_neg (by omega)
theorem cpN_s (c : Nat → Nat) (g : Nat → Int32) (a b i : Nat) : upd (cpN c g a b i) (b + i) (nI (c (a + i))) = cpN c g a b (i + 1) := by
  funext q
  unfold upd cpN va_cpy NF
  by_cases h : q = b + i
  · subst h
    rw [if_pos rfl, if_pos (by omega), show b + i - b = i by omega]
  · rw [if_neg h]
    by_cases h1 : b ≤ q ∧ q < b + i
    · rw [if_pos h1, if_pos (by omega)]
    · rw [if_neg h1, if_neg (by omega)]
theorem e_write (h : CW s n c l) (hN : 40 ≤ N) {j w : Nat} (hj : j < n) (hw : w < 64) (h9 : gI s 9 = nI w) {g : Nat → Int32} {a b e d : Nat} {hh : Nat → Nat} (hd : gA s 6 = dF g a b e d hh) (ha : a < 256) (hb : b < 256) (he : e < 256) (hdd : d < 256) (hB : ∀ i, i < 24 → hh i < 256) : ∃ t, F_X6_write N s (nI j) = some t ∧ CW t n (stN c (sec a b e d hh) j 32) (uN l j 0) ∧ gI t 9 = nI (w + 1) ∧ (∀ k, k ≠ 9 → gI t k = gI s k) ∧ gA t 3 = upd (gA s 3) w (nI j) ∧ gA t 4 = va_cpy (NF c) (gA s 4) (32 * j) (32 * w) 32 ∧ gA t 5 = upd (gA s 5) w (nI (l j)) ∧ (∀ k, k = 2 ∨ 7 ≤ k → gA t k = gA s k) := by
  have h1 := h.1
  have h2 := h.2.1
  have h4 := h.2.2.2.1
  have h5 := h.2.2.2.2.1
  have hl := h.2.2.2.2.2.2 j
  unfold F_X6_write
  rw [b_seal hN hd]
  simp (disch := omega) only [c_lt, c_ge, c_gt, c_le, c_eq, c_ne, c_lt0, c_ge0, c_le0, c_gt0, c_eq0, c_ne0, c_eqm, c_nem, c_m0, c_meq, c_mne, c_mlt, nI_add, pk_mul, Bool.cond_decide, cond_true, cond_false, ldA_n, stA_n, cpA_n, bnd_s, bindP_s, Option.bind_some, gN_sI, gN_sA, gI_sA, gA_sI, gI_eq, gA_eq, gI_ne, gA_ne, sA_sA, sI_sI, if_pos, if_neg, ite_true, ite_false, eq_self, not_true_eq_false, not_false_eq_true, Nat.add_zero, NF_ap, h9, h5, nar_b hl]
  obtain ⟨u, hu⟩ : ∃ u, u = sA (sA (sA s 6 (secF g a b e d hh)) 3 (upd (gA s 3) w (nI j))) 5 (upd (gA s 5) w (nI (l j))) := ⟨_, rfl⟩
  rw [← hu]
  have u0 : gA u 0 = NF c := by rw [hu]; simp (disch := omega) only [c_lt, c_ge, c_gt, c_le, c_eq, c_ne, c_lt0, c_ge0, c_le0, c_gt0, c_eq0, c_ne0, c_eqm, c_nem, c_m0, c_meq, c_mne, c_mlt, nI_add, pk_mul, Bool.cond_decide, cond_true, cond_false, ldA_n, stA_n, cpA_n, bnd_s, bindP_s, Option.bind_some, gN_sI, gN_sA, gI_sA, gA_sI, gI_eq, gA_eq, gI_ne, gA_ne, sA_sA, sI_sI, if_pos, if_neg, ite_true, ite_false, eq_self, not_true_eq_false, not_false_eq_true, Nat.add_zero, NF_ap]; exact h4
  have u1 : gA u 1 = NF l := by rw [hu]; simp (disch := omega) only [c_lt, c_ge, c_gt, c_le, c_eq, c_ne, c_lt0, c_ge0, c_le0, c_gt0, c_eq0, c_ne0, c_eqm, c_nem, c_m0, c_meq, c_mne, c_mlt, nI_add, pk_mul, Bool.cond_decide, cond_true, cond_false, ldA_n, stA_n, cpA_n, bnd_s, bindP_s, Option.bind_some, gN_sI, gN_sA, gI_sA, gA_sI, gI_eq, gA_eq, gI_ne, gA_ne, sA_sA, sI_sI, if_pos, if_neg, ite_true, ite_false, eq_self, not_true_eq_false, not_false_eq_true, Nat.add_zero, NF_ap]; exact h5
  have u4 : gA u 4 = gA s 4 := by rw [hu]; simp (disch := omega) only [c_lt, c_ge, c_gt, c_le, c_eq, c_ne, c_lt0, c_ge0, c_le0, c_gt0, c_eq0, c_ne0, c_eqm, c_nem, c_m0, c_meq, c_mne, c_mlt, nI_add, pk_mul, Bool.cond_decide, cond_true, cond_false, ldA_n, stA_n, cpA_n, bnd_s, bindP_s, Option.bind_some, gN_sI, gN_sA, gI_sA, gA_sI, gI_eq, gA_eq, gI_ne, gA_ne, sA_sA, sI_sI, if_pos, if_neg, ite_true, ite_false, eq_self, not_true_eq_false, not_false_eq_true, Nat.add_zero, NF_ap]
  have u6 : gA u 6 = secF g a b e d hh := by rw [hu]; simp (disch := omega) only [c_lt, c_ge, c_gt, c_le, c_eq, c_ne, c_lt0, c_ge0, c_le0, c_gt0, c_eq0, c_ne0, c_eqm, c_nem, c_m0, c_meq, c_mne, c_mlt, nI_add, pk_mul, Bool.cond_decide, cond_true, cond_false, ldA_n, stA_n, cpA_n, bnd_s, bindP_s, Option.bind_some, gN_sI, gN_sA, gI_sA, gA_sI, gI_eq, gA_eq, gI_ne, gA_ne, sA_sA, sI_sI, if_pos, if_neg, ite_true, ite_false, eq_self, not_true_eq_false, not_false_eq_true, Nat.add_zero, NF_ap]
  have u3 : gA u 3 = upd (gA s 3) w (nI j) := by rw [hu]; simp (disch := omega) only [c_lt, c_ge, c_gt, c_le, c_eq, c_ne, c_lt0, c_ge0, c_le0, c_gt0, c_eq0, c_ne0, c_eqm, c_nem, c_m0, c_meq, c_mne, c_mlt, nI_add, pk_mul, Bool.cond_decide, cond_true, cond_false, ldA_n, stA_n, cpA_n, bnd_s, bindP_s, Option.bind_some, gN_sI, gN_sA, gI_sA, gA_sI, gI_eq, gA_eq, gI_ne, gA_ne, sA_sA, sI_sI, if_pos, if_neg, ite_true, ite_false, eq_self, not_true_eq_false, not_false_eq_true, Nat.add_zero, NF_ap]
  have u5 : gA u 5 = upd (gA s 5) w (nI (l j)) := by rw [hu]; simp (disch := omega) only [c_lt, c_ge, c_gt, c_le, c_eq, c_ne, c_lt0, c_ge0, c_le0, c_gt0, c_eq0, c_ne0, c_eqm, c_nem, c_m0, c_meq, c_mne, c_mlt, nI_add, pk_mul, Bool.cond_decide, cond_true, cond_false, ldA_n, stA_n, cpA_n, bnd_s, bindP_s, Option.bind_some, gN_sI, gN_sA, gI_sA, gA_sI, gI_eq, gA_eq, gI_ne, gA_ne, sA_sA, sI_sI, if_pos, if_neg, ite_true, ite_false, eq_self, not_true_eq_false, not_false_eq_true, Nat.add_zero, NF_ap]
  have u7 : ∀ k, k = 2 ∨ 7 ≤ k → gA u k = gA s k := by intro k hk; rw [hu]; simp (disch := omega) only [c_lt, c_ge, c_gt, c_le, c_eq, c_ne, c_lt0, c_ge0, c_le0, c_gt0, c_eq0, c_ne0, c_eqm, c_nem, c_m0, c_meq, c_mne, c_mlt, nI_add, pk_mul, Bool.cond_decide, cond_true, cond_false, ldA_n, stA_n, cpA_n, bnd_s, bindP_s, Option.bind_some, gN_sI, gN_sA, gI_sA, gA_sI, gI_eq, gA_eq, gI_ne, gA_ne, sA_sA, sI_sI, if_pos, if_neg, ite_true, ite_false, eq_self, not_true_eq_false, not_false_eq_true, Nat.add_zero, NF_ap]
  have ui : gI u = gI s := by rw [hu]; simp (disch := omega) only [c_lt, c_ge, c_gt, c_le, c_eq, c_ne, c_lt0, c_ge0, c_le0, c_gt0, c_eq0, c_ne0, c_eqm, c_nem, c_m0, c_meq, c_mne, c_mlt, nI_add, pk_mul, Bool.cond_decide, cond_true, cond_false, ldA_n, stA_n, cpA_n, bnd_s, bindP_s, Option.bind_some, gN_sI, gN_sA, gI_sA, gA_sI, gI_eq, gA_eq, gI_ne, gA_ne, sA_sA, sI_sI, if_pos, if_neg, ite_true, ite_false, eq_self, not_true_eq_false, not_false_eq_true, Nat.add_zero, NF_ap]
  have un : gN u = n := by rw [hu]; simp (disch := omega) only [c_lt, c_ge, c_gt, c_le, c_eq, c_ne, c_lt0, c_ge0, c_le0, c_gt0, c_eq0, c_ne0, c_eqm, c_nem, c_m0, c_meq, c_mne, c_mlt, nI_add, pk_mul, Bool.cond_decide, cond_true, cond_false, ldA_n, stA_n, cpA_n, bnd_s, bindP_s, Option.bind_some, gN_sI, gN_sA, gI_sA, gA_sI, gI_eq, gA_eq, gI_ne, gA_ne, sA_sA, sI_sI, if_pos, if_neg, ite_true, ite_false, eq_self, not_true_eq_false, not_false_eq_true, Nat.add_zero, NF_ap]; exact h1
  have key : ∀ m i f, i + m = 32 → m < f → F_X6_write_31 N f (sA (sA u 4 (cpN c (gA s 4) (32 * j) (32 * w) i)) 0 (NF (stN c (sec a b e d hh) j i))) (nI j) (nI i) = some (sI (sA (sA (sA u 4 (cpN c (gA s 4) (32 * j) (32 * w) 32)) 0 (NF (stN c (sec a b e d hh) j 32))) 1 (NF (uN l j 0))) 9 (nI (w + 1))) := by
    intro m
    induction m with
    | zero =>
      intro i f e1 e2
      obtain ⟨f, rfl⟩ : ∃ q, f = q + 1 := ⟨f - 1, by omega⟩
      obtain rfl : i = 32 := by omega
      rw [F_X6_write_31.eq_2]
      simp (disch := omega) only [c_lt, c_ge, c_gt, c_le, c_eq, c_ne, c_lt0, c_ge0, c_le0, c_gt0, c_eq0, c_ne0, c_eqm, c_nem, c_m0, c_meq, c_mne, c_mlt, nI_add, pk_mul, Bool.cond_decide, cond_true, cond_false, ldA_n, stA_n, cpA_n, bnd_s, bindP_s, Option.bind_some, gN_sI, gN_sA, gI_sA, gA_sI, gI_eq, gA_eq, gI_ne, gA_ne, sA_sA, sI_sI, if_pos, if_neg, ite_true, ite_false, eq_self, not_true_eq_false, not_false_eq_true, Nat.add_zero, NF_ap, ui, h9, u1, nar0, upd_NF]
    | succ m ih =>
      intro i f e1 e2
      obtain ⟨f, rfl⟩ : ∃ q, f = q + 1 := ⟨f - 1, by omega⟩
      rw [F_X6_write_31.eq_2]
      simp (disch := omega) only [c_lt, c_ge, c_gt, c_le, c_eq, c_ne, c_lt0, c_ge0, c_le0, c_gt0, c_eq0, c_ne0, c_eqm, c_nem, c_m0, c_meq, c_mne, c_mlt, nI_add, pk_mul, Bool.cond_decide, cond_true, cond_false, ldA_n, stA_n, cpA_n, bnd_s, bindP_s, Option.bind_some, gN_sI, gN_sA, gI_sA, gA_sI, gI_eq, gA_eq, gI_ne, gA_ne, sA_sA, sI_sI, if_pos, if_neg, ite_true, ite_false, eq_self, not_true_eq_false, not_false_eq_true, Nat.add_zero, NF_ap, ui, h9, u6]
      rw [secF_lo (by omega), upd_NF, stN_s, show stN c (sec a b e d hh) j i (32 * j + i) = c (32 * j + i) from if_neg (by omega), cpN_s, sA_cm (j := 0) (k := 4) (by omega)]
      simp (disch := omega) only [c_lt, c_ge, c_gt, c_le, c_eq, c_ne, c_lt0, c_ge0, c_le0, c_gt0, c_eq0, c_ne0, c_eqm, c_nem, c_m0, c_meq, c_mne, c_mlt, nI_add, pk_mul, Bool.cond_decide, cond_true, cond_false, ldA_n, stA_n, cpA_n, bnd_s, bindP_s, Option.bind_some, gN_sI, gN_sA, gI_sA, gA_sI, gI_eq, gA_eq, gI_ne, gA_ne, sA_sA, sI_sI, if_pos, if_neg, ite_true, ite_false, eq_self, not_true_eq_false, not_false_eq_true, Nat.add_zero, NF_ap]
      exact ih (i + 1) f (by omega) (by omega)
  have hk := key 32 0 N (by omega) (by omega)
  rw [stN_0, cpN_0, ← u4, ← u0, sA_id, sA_id] at hk
  refine ⟨_, hk, ?_, ?_, ?_, ?_, ?_, ?_, ?_⟩
  · unfold CW
    simp (disch := omega) only [c_lt, c_ge, c_gt, c_le, c_eq, c_ne, c_lt0, c_ge0, c_le0, c_gt0, c_eq0, c_ne0, c_eqm, c_nem, c_m0, c_meq, c_mne, c_mlt, nI_add, pk_mul, Bool.cond_decide, cond_true, cond_false, ldA_n, stA_n, cpA_n, bnd_s, bindP_s, Option.bind_some, gN_sI, gN_sA, gI_sA, gA_sI, gI_eq, gA_eq, gI_ne, gA_ne, sA_sA, sI_sI, if_pos, if_neg, ite_true, ite_false, eq_self, not_true_eq_false, not_false_eq_true, Nat.add_zero, NF_ap]
    refine ⟨un, h2, h.2.2.1, trivial, trivial, ?_, ?_⟩
    · intro i
      unfold stN
      by_cases q : 32 * j ≤ i ∧ i < 32 * j + 32
      · rw [if_pos q]; exact sec_lt ha hb he hdd hB _
      · rw [if_neg q]; exact h.2.2.2.2.2.1 i
    · intro i
      unfold uN
      by_cases q : i = j
      · rw [if_pos q]; omega
      · rw [if_neg q]; exact h.2.2.2.2.2.2 i
  · simp (disch := omega) only [c_lt, c_ge, c_gt, c_le, c_eq, c_ne, c_lt0, c_ge0, c_le0, c_gt0, c_eq0, c_ne0, c_eqm, c_nem, c_m0, c_meq, c_mne, c_mlt, nI_add, pk_mul, Bool.cond_decide, cond_true, cond_false, ldA_n, stA_n, cpA_n, bnd_s, bindP_s, Option.bind_some, gN_sI, gN_sA, gI_sA, gA_sI, gI_eq, gA_eq, gI_ne, gA_ne, sA_sA, sI_sI, if_pos, if_neg, ite_true, ite_false, eq_self, not_true_eq_false, not_false_eq_true, Nat.add_zero, NF_ap]
  · intro k hk
    simp (disch := omega) only [c_lt, c_ge, c_gt, c_le, c_eq, c_ne, c_lt0, c_ge0, c_le0, c_gt0, c_eq0, c_ne0, c_eqm, c_nem, c_m0, c_meq, c_mne, c_mlt, nI_add, pk_mul, Bool.cond_decide, cond_true, cond_false, ldA_n, stA_n, cpA_n, bnd_s, bindP_s, Option.bind_some, gN_sI, gN_sA, gI_sA, gA_sI, gI_eq, gA_eq, gI_ne, gA_ne, sA_sA, sI_sI, if_pos, if_neg, ite_true, ite_false, eq_self, not_true_eq_false, not_false_eq_true, Nat.add_zero, NF_ap, ui]
  · simp (disch := omega) only [c_lt, c_ge, c_gt, c_le, c_eq, c_ne, c_lt0, c_ge0, c_le0, c_gt0, c_eq0, c_ne0, c_eqm, c_nem, c_m0, c_meq, c_mne, c_mlt, nI_add, pk_mul, Bool.cond_decide, cond_true, cond_false, ldA_n, stA_n, cpA_n, bnd_s, bindP_s, Option.bind_some, gN_sI, gN_sA, gI_sA, gA_sI, gI_eq, gA_eq, gI_ne, gA_ne, sA_sA, sI_sI, if_pos, if_neg, ite_true, ite_false, eq_self, not_true_eq_false, not_false_eq_true, Nat.add_zero, NF_ap, u3]
  · simp (disch := omega) only [c_lt, c_ge, c_gt, c_le, c_eq, c_ne, c_lt0, c_ge0, c_le0, c_gt0, c_eq0, c_ne0, c_eqm, c_nem, c_m0, c_meq, c_mne, c_mlt, nI_add, pk_mul, Bool.cond_decide, cond_true, cond_false, ldA_n, stA_n, cpA_n, bnd_s, bindP_s, Option.bind_some, gN_sI, gN_sA, gI_sA, gA_sI, gI_eq, gA_eq, gI_ne, gA_ne, sA_sA, sI_sI, if_pos, if_neg, ite_true, ite_false, eq_self, not_true_eq_false, not_false_eq_true, Nat.add_zero, NF_ap, u4]
    rfl
  · simp (disch := omega) only [c_lt, c_ge, c_gt, c_le, c_eq, c_ne, c_lt0, c_ge0, c_le0, c_gt0, c_eq0, c_ne0, c_eqm, c_nem, c_m0, c_meq, c_mne, c_mlt, nI_add, pk_mul, Bool.cond_decide, cond_true, cond_false, ldA_n, stA_n, cpA_n, bnd_s, bindP_s, Option.bind_some, gN_sI, gN_sA, gI_sA, gA_sI, gI_eq, gA_eq, gI_ne, gA_ne, sA_sA, sI_sI, if_pos, if_neg, ite_true, ite_false, eq_self, not_true_eq_false, not_false_eq_true, Nat.add_zero, NF_ap, u5]
  · intro k hk
    simp (disch := omega) only [c_lt, c_ge, c_gt, c_le, c_eq, c_ne, c_lt0, c_ge0, c_le0, c_gt0, c_eq0, c_ne0, c_eqm, c_nem, c_m0, c_meq, c_mne, c_mlt, nI_add, pk_mul, Bool.cond_decide, cond_true, cond_false, ldA_n, stA_n, cpA_n, bnd_s, bindP_s, Option.bind_some, gN_sI, gN_sA, gI_sA, gA_sI, gI_eq, gA_eq, gI_ne, gA_ne, sA_sA, sI_sI, if_pos, if_neg, ite_true, ite_false, eq_self, not_true_eq_false, not_false_eq_true, Nat.add_zero, NF_ap]
    exact u7 k hk
theorem e_app (h : MV s n c l x) (hN : 40 ≤ N) (hx : x < n) {w : Nat} (hw : w < 60) (h9 : gI s 9 = nI w) {g : Nat → Int32} {a b e d : Nat} {hh : Nat → Nat} (hd : gA s 6 = dF g a b e d hh) (ha : a < 256) (hb : b < 256) (he : e < 256) (hdd : d < 256) (hB : ∀ i, i < 24 → hh i < 256) : ∃ t, F_X6_append N s = some (nI x, t) ∧ MV t n (stN c (sec a b e d hh) x 32) (uN l x 0) (x + 1) ∧ gI t 9 = nI (w + 1) ∧ (∀ k, k ≠ 2 → k ≠ 9 → gI t k = gI s k) ∧ gA t 3 = upd (gA s 3) w (nI x) ∧ gA t 4 = va_cpy (NF c) (gA s 4) (32 * x) (32 * w) 32 ∧ gA t 5 = upd (gA s 5) w (nI (l x)) ∧ (∀ k, k = 2 ∨ 7 ≤ k → gA t k = gA s k) := by
  have hb0 := h.n60
  obtain ⟨t, e1, v1, i1, f1, q3, q4, q5, g1⟩ := e_write h.1 hN hx (by omega) h9 hd ha hb he hdd hB
  refine ⟨sI t 2 (nI (x + 1)), ?_, ⟨CW_sI v1 _, gI_eq, by omega, by omega⟩, ?_, ?_, q3, q4, q5, g1⟩
  · unfold F_X6_append
    rw [h.xi, e1]
    simp (disch := omega) only [c_lt, c_ge, c_gt, c_le, c_eq, c_ne, c_lt0, c_ge0, c_le0, c_gt0, c_eq0, c_ne0, c_eqm, c_nem, c_m0, c_meq, c_mne, c_mlt, nI_add, pk_mul, Bool.cond_decide, cond_true, cond_false, ldA_n, stA_n, cpA_n, bnd_s, bindP_s, Option.bind_some, gN_sI, gN_sA, gI_sA, gA_sI, gI_eq, gA_eq, gI_ne, gA_ne, sA_sA, sI_sI, if_pos, if_neg, ite_true, ite_false, eq_self, not_true_eq_false, not_false_eq_true, Nat.add_zero, NF_ap, f1 2 (by omega), h.xi]
    rw [pk_sub (by omega), Nat.add_sub_cancel]
  · simp (disch := omega) only [c_lt, c_ge, c_gt, c_le, c_eq, c_ne, c_lt0, c_ge0, c_le0, c_gt0, c_eq0, c_ne0, c_eqm, c_nem, c_m0, c_meq, c_mne, c_mlt, nI_add, pk_mul, Bool.cond_decide, cond_true, cond_false, ldA_n, stA_n, cpA_n, bnd_s, bindP_s, Option.bind_some, gN_sI, gN_sA, gI_sA, gA_sI, gI_eq, gA_eq, gI_ne, gA_ne, sA_sA, sI_sI, if_pos, if_neg, ite_true, ite_false, eq_self, not_true_eq_false, not_false_eq_true, Nat.add_zero, NF_ap, i1]
  · intro k h1 h2
    simp (disch := omega) only [c_lt, c_ge, c_gt, c_le, c_eq, c_ne, c_lt0, c_ge0, c_le0, c_gt0, c_eq0, c_ne0, c_eqm, c_nem, c_m0, c_meq, c_mne, c_mlt, nI_add, pk_mul, Bool.cond_decide, cond_true, cond_false, ldA_n, stA_n, cpA_n, bnd_s, bindP_s, Option.bind_some, gN_sI, gN_sA, gI_sA, gA_sI, gI_eq, gA_eq, gI_ne, gA_ne, sA_sA, sI_sI, if_pos, if_neg, ite_true, ite_false, eq_self, not_true_eq_false, not_false_eq_true, Nat.add_zero, NF_ap]
    exact f1 k h2
end MM
