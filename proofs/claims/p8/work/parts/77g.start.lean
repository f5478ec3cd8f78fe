/-! start: the head, the log, the rows -/
def isH (c l : Nat → Nat) (n s : Nat) : Bool := decide (so c l s = 1 ∧ 2 ≤ c (32 * s + 8) ∧ c (32 * s + 8) ≤ n ∧ c (32 * s + 9) ≤ 60)
def gn (c : Nat → Nat) (s : Nat) : Int32 := w4 (nI (c (32 * s + 4))) (nI (c (32 * s + 5))) (nI (c (32 * s + 6))) (nI (c (32 * s + 7)))
def hch (c l : Nat → Nat) (n : Nat) : Option Nat := bif isH c l n 0 then (bif isH c l n 1 then (bif mx_cnd .le (gn c 1) (gn c 0) then some 0 else some 1) else some 0) else (bif isH c l n 1 then some 1 else none)
theorem hch_some {c l : Nat → Nat} {n h : Nat} (e : hch c l n = some h) : h ≤ 1 ∧ isH c l n h = true := by
  unfold hch at e
  cases h0 : isH c l n 0 with
  | true =>
    rw [h0] at e
    cases h1 : isH c l n 1 with
    | true =>
      rw [h1] at e
      cases h2 : mx_cnd .le (gn c 1) (gn c 0) with
      | true => rw [h2] at e; cases e; exact ⟨by decide, h0⟩
      | false => rw [h2] at e; cases e; exact ⟨by decide, h1⟩
    | false => rw [h1] at e; cases e; exact ⟨by decide, h0⟩
  | false =>
    rw [h0] at e
    cases h1 : isH c l n 1 with
    | true => rw [h1] at e; cases e; exact ⟨by decide, h1⟩
    | false => rw [h1] at e; cases e
section ST
variable {d m : St} {n x p N : Nat} {c l : Nat → Nat}
theorem a_isHead (h : CV d n c l x) {s : Nat} (hs : s ≤ 1) : F_X5_isHead d (nI s) = some (nI (isH c l n s).toNat) := by
  have hn := h.n60
  have h1 := h.1
  have w1 := h.b (32 * s + 8)
  have w2 := h.b (32 * s + 9)
  have w3 := so_le c l s
  unfold F_X5_isHead
  rw [a_content h.w (by omega) (by decide), a_ws h (by omega), a_count, h1, a_content h.w (by omega) (by decide), show 4 + 4 = 8 from rfl, show 4 + 5 = 9 from rfl]
  simp (disch := omega) only [c_lt, c_ge, c_gt, c_le, c_eq, c_ne, c_lt0, c_ge0, c_le0, c_gt0, c_eq0, c_ne0, c_eqm, c_nem, c_m0, c_meq, c_mne, c_mlt, nI_add, pk_mul, Bool.cond_decide, cond_true, cond_false, ldA_n, stA_n, cpA_n, bnd_s, bindP_s, Option.bind_some, gN_sI, gN_sA, gI_sA, gA_sI, gI_eq, gA_eq, gI_ne, gA_ne, sA_sA, sI_sI, if_pos, if_neg, ite_true, ite_false, eq_self, not_true_eq_false, not_false_eq_true, Nat.add_zero, NF_ap]
  unfold isH
  by_cases q1 : so c l s = 1
  · by_cases q2 : 2 ≤ c (32 * s + 8)
    · by_cases q3 : c (32 * s + 8) ≤ n
      · by_cases q4 : c (32 * s + 9) ≤ 60
        · rw [decide_eq_true ⟨q1, q2, q3, q4⟩, if_neg (by omega), if_neg (by omega), if_neg (by omega), if_neg (by omega)]
          rfl
        · rw [decide_eq_false (fun z => q4 z.2.2.2), if_neg (by omega), if_neg (by omega), if_neg (by omega), if_pos (by omega)]
          rfl
      · rw [decide_eq_false (fun z => q3 z.2.2.1), if_neg (by omega), if_neg (by omega), if_pos (by omega)]
        rfl
    · rw [decide_eq_false (fun z => q2 z.2.1), if_neg (by omega), if_pos (by omega)]
      rfl
  · rw [decide_eq_false (fun z => q1 z.1), if_pos (by omega)]
    rfl
theorem b_isHead (h : CW m n c l) (hN : 100 ≤ N) {s : Nat} (hs : s ≤ 1) : F_X6_isHead N m (nI s) = some (nI (isH c l n s).toNat) := by
  have h1 := h.1
  have h2 := h.2.1
  have h3 := h.2.2.1
  have h4 := h.2.2.2.1
  have w1 := h.2.2.2.2.2.1 (32 * s + 8)
  have w2 := h.2.2.2.2.2.1 (32 * s + 9)
  have w3 := so_le c l s
  unfold F_X6_isHead
  rw [b_so h (by omega) (by omega), h4, h1]
  simp (disch := omega) only [c_lt, c_ge, c_gt, c_le, c_eq, c_ne, c_lt0, c_ge0, c_le0, c_gt0, c_eq0, c_ne0, c_eqm, c_nem, c_m0, c_meq, c_mne, c_mlt, nI_add, pk_mul, Bool.cond_decide, cond_true, cond_false, ldA_n, stA_n, cpA_n, bnd_s, bindP_s, Option.bind_some, gN_sI, gN_sA, gI_sA, gA_sI, gI_eq, gA_eq, gI_ne, gA_ne, sA_sA, sI_sI, if_pos, if_neg, ite_true, ite_false, eq_self, not_true_eq_false, not_false_eq_true, Nat.add_zero, NF_ap]
  rw [b_in (by omega) (by decide) (by omega)]
  unfold isH
  by_cases q1 : so c l s = 1
  · by_cases q2 : 2 ≤ c (32 * s + 8) ∧ c (32 * s + 8) ≤ n
    · by_cases q4 : c (32 * s + 9) ≤ 60
      · rw [decide_eq_true ⟨q1, q2.1, q2.2, q4⟩]
        simp (disch := omega) only [c_lt, c_ge, c_gt, c_le, c_eq, c_ne, c_lt0, c_ge0, c_le0, c_gt0, c_eq0, c_ne0, c_eqm, c_nem, c_m0, c_meq, c_mne, c_mlt, nI_add, pk_mul, Bool.cond_decide, cond_true, cond_false, ldA_n, stA_n, cpA_n, bnd_s, bindP_s, Option.bind_some, gN_sI, gN_sA, gI_sA, gA_sI, gI_eq, gA_eq, gI_ne, gA_ne, sA_sA, sI_sI, if_pos, if_neg, ite_true, ite_false, eq_self, not_true_eq_false, not_false_eq_true, Nat.add_zero, NF_ap]
        rfl
      · rw [decide_eq_false (fun z => q4 z.2.2.2)]
        simp (disch := omega) only [c_lt, c_ge, c_gt, c_le, c_eq, c_ne, c_lt0, c_ge0, c_le0, c_gt0, c_eq0, c_ne0, c_eqm, c_nem, c_m0, c_meq, c_mne, c_mlt, nI_add, pk_mul, Bool.cond_decide, cond_true, cond_false, ldA_n, stA_n, cpA_n, bnd_s, bindP_s, Option.bind_some, gN_sI, gN_sA, gI_sA, gA_sI, gI_eq, gA_eq, gI_ne, gA_ne, sA_sA, sI_sI, if_pos, if_neg, ite_true, ite_false, eq_self, not_true_eq_false, not_false_eq_true, Nat.add_zero, NF_ap]
        rfl
    · rw [decide_eq_false (fun z => q2 ⟨z.2.1, z.2.2.1⟩)]
      simp (disch := omega) only [c_lt, c_ge, c_gt, c_le, c_eq, c_ne, c_lt0, c_ge0, c_le0, c_gt0, c_eq0, c_ne0, c_eqm, c_nem, c_m0, c_meq, c_mne, c_mlt, nI_add, pk_mul, Bool.cond_decide, cond_true, cond_false, ldA_n, stA_n, cpA_n, bnd_s, bindP_s, Option.bind_some, gN_sI, gN_sA, gI_sA, gA_sI, gI_eq, gA_eq, gI_ne, gA_ne, sA_sA, sI_sI, if_pos, if_neg, ite_true, ite_false, eq_self, not_true_eq_false, not_false_eq_true, Nat.add_zero, NF_ap]
      rfl
  · rw [decide_eq_false (fun z => q1 z.1)]
    simp (disch := omega) only [c_lt, c_ge, c_gt, c_le, c_eq, c_ne, c_lt0, c_ge0, c_le0, c_gt0, c_eq0, c_ne0, c_eqm, c_nem, c_m0, c_meq, c_mne, c_mlt, nI_add, pk_mul, Bool.cond_decide, cond_true, cond_false, ldA_n, stA_n, cpA_n, bnd_s, bindP_s, Option.bind_some, gN_sI, gN_sA, gI_sA, gA_sI, gI_eq, gA_eq, gI_ne, gA_ne, sA_sA, sI_sI, if_pos, if_neg, ite_true, ite_false, eq_self, not_true_eq_false, not_false_eq_true, Nat.add_zero, NF_ap]
    rfl
theorem a_gen (h : CW d n c l) (hN : 100 ≤ N) {s : Nat} (hs : s ≤ 1) : F_X5_generationIn N d (nI s) = some (gn c s) := by
  have hn := h.2.2.1
  have key : ∀ f, F_X5_generationIn_4 N (f + 5) d (nI s) (nI 0) (nI 0) = some (gn c s) := by
    intro f
    rw [show f + 5 = (f + 4) + 1 from rfl, F_X5_generationIn_4.eq_2]
    simp (disch := omega) only [c_lt, c_ge, c_gt, c_le, c_eq, c_ne, c_lt0, c_ge0, c_le0, c_gt0, c_eq0, c_ne0, c_eqm, c_nem, c_m0, c_meq, c_mne, c_mlt, nI_add, pk_mul, Bool.cond_decide, cond_true, cond_false, ldA_n, stA_n, cpA_n, bnd_s, bindP_s, Option.bind_some, gN_sI, gN_sA, gI_sA, gA_sI, gI_eq, gA_eq, gI_ne, gA_ne, sA_sA, sI_sI, if_pos, if_neg, ite_true, ite_false, eq_self, not_true_eq_false, not_false_eq_true, Nat.add_zero, NF_ap, a_content h]
    rw [show f + 4 = (f + 3) + 1 from rfl, F_X5_generationIn_4.eq_2]
    simp (disch := omega) only [c_lt, c_ge, c_gt, c_le, c_eq, c_ne, c_lt0, c_ge0, c_le0, c_gt0, c_eq0, c_ne0, c_eqm, c_nem, c_m0, c_meq, c_mne, c_mlt, nI_add, pk_mul, Bool.cond_decide, cond_true, cond_false, ldA_n, stA_n, cpA_n, bnd_s, bindP_s, Option.bind_some, gN_sI, gN_sA, gI_sA, gA_sI, gI_eq, gA_eq, gI_ne, gA_ne, sA_sA, sI_sI, if_pos, if_neg, ite_true, ite_false, eq_self, not_true_eq_false, not_false_eq_true, Nat.add_zero, NF_ap, a_content h]
    rw [show f + 3 = (f + 2) + 1 from rfl, F_X5_generationIn_4.eq_2]
    simp (disch := omega) only [c_lt, c_ge, c_gt, c_le, c_eq, c_ne, c_lt0, c_ge0, c_le0, c_gt0, c_eq0, c_ne0, c_eqm, c_nem, c_m0, c_meq, c_mne, c_mlt, nI_add, pk_mul, Bool.cond_decide, cond_true, cond_false, ldA_n, stA_n, cpA_n, bnd_s, bindP_s, Option.bind_some, gN_sI, gN_sA, gI_sA, gA_sI, gI_eq, gA_eq, gI_ne, gA_ne, sA_sA, sI_sI, if_pos, if_neg, ite_true, ite_false, eq_self, not_true_eq_false, not_false_eq_true, Nat.add_zero, NF_ap, a_content h]
    rw [show f + 2 = (f + 1) + 1 from rfl, F_X5_generationIn_4.eq_2]
    simp (disch := omega) only [c_lt, c_ge, c_gt, c_le, c_eq, c_ne, c_lt0, c_ge0, c_le0, c_gt0, c_eq0, c_ne0, c_eqm, c_nem, c_m0, c_meq, c_mne, c_mlt, nI_add, pk_mul, Bool.cond_decide, cond_true, cond_false, ldA_n, stA_n, cpA_n, bnd_s, bindP_s, Option.bind_some, gN_sI, gN_sA, gI_sA, gA_sI, gI_eq, gA_eq, gI_ne, gA_ne, sA_sA, sI_sI, if_pos, if_neg, ite_true, ite_false, eq_self, not_true_eq_false, not_false_eq_true, Nat.add_zero, NF_ap, a_content h]
    rw [F_X5_generationIn_4.eq_2, w4_h]
    simp (disch := omega) only [c_lt, c_ge, c_gt, c_le, c_eq, c_ne, c_lt0, c_ge0, c_le0, c_gt0, c_eq0, c_ne0, c_eqm, c_nem, c_m0, c_meq, c_mne, c_mlt, nI_add, pk_mul, Bool.cond_decide, cond_true, cond_false, ldA_n, stA_n, cpA_n, bnd_s, bindP_s, Option.bind_some, gN_sI, gN_sA, gI_sA, gA_sI, gI_eq, gA_eq, gI_ne, gA_ne, sA_sA, sI_sI, if_pos, if_neg, ite_true, ite_false, eq_self, not_true_eq_false, not_false_eq_true, Nat.add_zero, NF_ap]
    rfl
  obtain ⟨f, hf⟩ : ∃ q, N = q + 5 := ⟨N - 5, by omega⟩
  have := key f
  rw [← hf] at this
  exact this
theorem b_gen (h : CW m n c l) {s : Nat} (hs : s ≤ 1) : F_X6_generationAt m (nI s) = some (gn c s) := by
  have h2 := h.2.1
  have h4 := h.2.2.2.1
  unfold F_X6_generationAt
  simp (disch := omega) only [c_lt, c_ge, c_gt, c_le, c_eq, c_ne, c_lt0, c_ge0, c_le0, c_gt0, c_eq0, c_ne0, c_eqm, c_nem, c_m0, c_meq, c_mne, c_mlt, nI_add, pk_mul, Bool.cond_decide, cond_true, cond_false, ldA_n, stA_n, cpA_n, bnd_s, bindP_s, Option.bind_some, gN_sI, gN_sA, gI_sA, gA_sI, gI_eq, gA_eq, gI_ne, gA_ne, sA_sA, sI_sI, if_pos, if_neg, ite_true, ite_false, eq_self, not_true_eq_false, not_false_eq_true, Nat.add_zero, NF_ap, h4]
  rfl
theorem a_choose (h : CV d n c l x) (hN : 100 ≤ N) : F_X5_chooseHead N d = some (oI (hch c l n)) := by
  unfold F_X5_chooseHead hch
  rw [show nI 0 = nI 0 from rfl, a_isHead h (by decide), a_isHead h (by decide), a_gen h.w hN (by decide), a_gen h.w hN (by decide)]
  cases h0 : isH c l n 0 with
  | true =>
    cases h1 : isH c l n 1 with
    | true =>
      rw [Bool.toNat_true]
      simp (disch := omega) only [c_lt, c_ge, c_gt, c_le, c_eq, c_ne, c_lt0, c_ge0, c_le0, c_gt0, c_eq0, c_ne0, c_eqm, c_nem, c_m0, c_meq, c_mne, c_mlt, nI_add, pk_mul, Bool.cond_decide, cond_true, cond_false, ldA_n, stA_n, cpA_n, bnd_s, bindP_s, Option.bind_some, gN_sI, gN_sA, gI_sA, gA_sI, gI_eq, gA_eq, gI_ne, gA_ne, sA_sA, sI_sI, if_pos, if_neg, ite_true, ite_false, eq_self, not_true_eq_false, not_false_eq_true, Nat.add_zero, NF_ap]
      cases h2 : mx_cnd .le (gn c 1) (gn c 0) with
      | true => rfl
      | false => rfl
    | false =>
      rw [Bool.toNat_true, Bool.toNat_false]
      simp (disch := omega) only [c_lt, c_ge, c_gt, c_le, c_eq, c_ne, c_lt0, c_ge0, c_le0, c_gt0, c_eq0, c_ne0, c_eqm, c_nem, c_m0, c_meq, c_mne, c_mlt, nI_add, pk_mul, Bool.cond_decide, cond_true, cond_false, ldA_n, stA_n, cpA_n, bnd_s, bindP_s, Option.bind_some, gN_sI, gN_sA, gI_sA, gA_sI, gI_eq, gA_eq, gI_ne, gA_ne, sA_sA, sI_sI, if_pos, if_neg, ite_true, ite_false, eq_self, not_true_eq_false, not_false_eq_true, Nat.add_zero, NF_ap]
      rfl
  | false =>
    cases h1 : isH c l n 1 with
    | true =>
      rw [Bool.toNat_true, Bool.toNat_false]
      simp (disch := omega) only [c_lt, c_ge, c_gt, c_le, c_eq, c_ne, c_lt0, c_ge0, c_le0, c_gt0, c_eq0, c_ne0, c_eqm, c_nem, c_m0, c_meq, c_mne, c_mlt, nI_add, pk_mul, Bool.cond_decide, cond_true, cond_false, ldA_n, stA_n, cpA_n, bnd_s, bindP_s, Option.bind_some, gN_sI, gN_sA, gI_sA, gA_sI, gI_eq, gA_eq, gI_ne, gA_ne, sA_sA, sI_sI, if_pos, if_neg, ite_true, ite_false, eq_self, not_true_eq_false, not_false_eq_true, Nat.add_zero, NF_ap]
      rfl
    | false =>
      rw [Bool.toNat_false]
      simp (disch := omega) only [c_lt, c_ge, c_gt, c_le, c_eq, c_ne, c_lt0, c_ge0, c_le0, c_gt0, c_eq0, c_ne0, c_eqm, c_nem, c_m0, c_meq, c_mne, c_mlt, nI_add, pk_mul, Bool.cond_decide, cond_true, cond_false, ldA_n, stA_n, cpA_n, bnd_s, bindP_s, Option.bind_some, gN_sI, gN_sA, gI_sA, gA_sI, gI_eq, gA_eq, gI_ne, gA_ne, sA_sA, sI_sI, if_pos, if_neg, ite_true, ite_false, eq_self, not_true_eq_false, not_false_eq_true, Nat.add_zero, NF_ap]
      rfl
theorem b_choose (h : CW m n c l) (hN : 100 ≤ N) (o : gI m 1 = nI 0) {m0 : St} (e0 : m = sI m0 0 (nI 0)) : F_X6_start N m0 = F_X6_start_62 N m (oI (hch c l n)) := by
  unfold F_X6_start hch
  rw [← e0, bnd_s m, o, b_isHead h hN (by decide), b_isHead h hN (by decide), b_gen h (by decide), b_gen h (by decide)]
  cases h0 : isH c l n 0 with
  | true =>
    cases h1 : isH c l n 1 with
    | true =>
      rw [Bool.toNat_true]
      simp (disch := omega) only [c_lt, c_ge, c_gt, c_le, c_eq, c_ne, c_lt0, c_ge0, c_le0, c_gt0, c_eq0, c_ne0, c_eqm, c_nem, c_m0, c_meq, c_mne, c_mlt, nI_add, pk_mul, Bool.cond_decide, cond_true, cond_false, ldA_n, stA_n, cpA_n, bnd_s, bindP_s, Option.bind_some, gN_sI, gN_sA, gI_sA, gA_sI, gI_eq, gA_eq, gI_ne, gA_ne, sA_sA, sI_sI, if_pos, if_neg, ite_true, ite_false, eq_self, not_true_eq_false, not_false_eq_true, Nat.add_zero, NF_ap]
      cases h2 : mx_cnd .le (gn c 1) (gn c 0) with
      | true => rfl
      | false => rfl
    | false =>
      rw [Bool.toNat_true, Bool.toNat_false]
      simp (disch := omega) only [c_lt, c_ge, c_gt, c_le, c_eq, c_ne, c_lt0, c_ge0, c_le0, c_gt0, c_eq0, c_ne0, c_eqm, c_nem, c_m0, c_meq, c_mne, c_mlt, nI_add, pk_mul, Bool.cond_decide, cond_true, cond_false, ldA_n, stA_n, cpA_n, bnd_s, bindP_s, Option.bind_some, gN_sI, gN_sA, gI_sA, gA_sI, gI_eq, gA_eq, gI_ne, gA_ne, sA_sA, sI_sI, if_pos, if_neg, ite_true, ite_false, eq_self, not_true_eq_false, not_false_eq_true, Nat.add_zero, NF_ap]
      rfl
  | false =>
    cases h1 : isH c l n 1 with
    | true =>
      rw [Bool.toNat_true, Bool.toNat_false]
      simp (disch := omega) only [c_lt, c_ge, c_gt, c_le, c_eq, c_ne, c_lt0, c_ge0, c_le0, c_gt0, c_eq0, c_ne0, c_eqm, c_nem, c_m0, c_meq, c_mne, c_mlt, nI_add, pk_mul, Bool.cond_decide, cond_true, cond_false, ldA_n, stA_n, cpA_n, bnd_s, bindP_s, Option.bind_some, gN_sI, gN_sA, gI_sA, gA_sI, gI_eq, gA_eq, gI_ne, gA_ne, sA_sA, sI_sI, if_pos, if_neg, ite_true, ite_false, eq_self, not_true_eq_false, not_false_eq_true, Nat.add_zero, NF_ap]
      rfl
    | false =>
      rw [Bool.toNat_false]
      simp (disch := omega) only [c_lt, c_ge, c_gt, c_le, c_eq, c_ne, c_lt0, c_ge0, c_le0, c_gt0, c_eq0, c_ne0, c_eqm, c_nem, c_m0, c_meq, c_mne, c_mlt, nI_add, pk_mul, Bool.cond_decide, cond_true, cond_false, ldA_n, stA_n, cpA_n, bnd_s, bindP_s, Option.bind_some, gN_sI, gN_sA, gI_sA, gA_sI, gI_eq, gA_eq, gI_ne, gA_ne, sA_sA, sI_sI, if_pos, if_neg, ite_true, ite_false, eq_self, not_true_eq_false, not_false_eq_true, Nat.add_zero, NF_ap]
      rfl
/-- both read the head -/
theorem u_head (hc : CV d n c l x) (hm : MV m n c l x) (hN : 100 ≤ N) (o : gI m 1 = nI 0) {m0 : St} (e0 : m = sI m0 0 (nI 0)) : ∃ x' p' g', 2 ≤ x' ∧ x' ≤ n ∧ p' ≤ 60 ∧ F_X5_readHead N d = some (sI (sI (sI d 3 g') 1 (nI x')) 2 (nI p')) ∧ F_X6_start N m0 = F_X6_start_130 N N (sI (sI (sI m 4 g') 2 (nI x')) 3 (nI p')) := by
  have hn := hc.n60
  rw [b_choose hm.1 hN o e0]
  unfold F_X5_readHead F_X6_start_62
  rw [a_choose hc hN]
  cases hq : hch c l n with
  | none =>
    unfold oI
    refine ⟨2, 0, nI 0, by omega, by omega, by omega, ?_, ?_⟩
    · simp (disch := omega) only [c_lt, c_ge, c_gt, c_le, c_eq, c_ne, c_lt0, c_ge0, c_le0, c_gt0, c_eq0, c_ne0, c_eqm, c_nem, c_m0, c_meq, c_mne, c_mlt, nI_add, pk_mul, Bool.cond_decide, cond_true, cond_false, ldA_n, stA_n, cpA_n, bnd_s, bindP_s, Option.bind_some, gN_sI, gN_sA, gI_sA, gA_sI, gI_eq, gA_eq, gI_ne, gA_ne, sA_sA, sI_sI, if_pos, if_neg, ite_true, ite_false, eq_self, not_true_eq_false, not_false_eq_true, Nat.add_zero, NF_ap]
    · simp (disch := omega) only [c_lt, c_ge, c_gt, c_le, c_eq, c_ne, c_lt0, c_ge0, c_le0, c_gt0, c_eq0, c_ne0, c_eqm, c_nem, c_m0, c_meq, c_mne, c_mlt, nI_add, pk_mul, Bool.cond_decide, cond_true, cond_false, ldA_n, stA_n, cpA_n, bnd_s, bindP_s, Option.bind_some, gN_sI, gN_sA, gI_sA, gA_sI, gI_eq, gA_eq, gI_ne, gA_ne, sA_sA, sI_sI, if_pos, if_neg, ite_true, ite_false, eq_self, not_true_eq_false, not_false_eq_true, Nat.add_zero, NF_ap]
  | some s =>
    obtain ⟨s1, s2⟩ := hch_some hq
    have s3 := of_decide_eq_true s2
    have h4 := hm.1.2.2.2.1
    have cw3 : CW (sI d 3 (gn c s)) n c l := hc.w
    have cw1 : CW (sI (sI d 3 (gn c s)) 1 (nI (c (32 * s + 8)))) n c l := hc.w
    unfold oI
    refine ⟨c (32 * s + 8), c (32 * s + 9), gn c s, by omega, by omega, by omega, ?_, ?_⟩
    · simp (disch := omega) only [c_lt, c_ge, c_gt, c_le, c_eq, c_ne, c_lt0, c_ge0, c_le0, c_gt0, c_eq0, c_ne0, c_eqm, c_nem, c_m0, c_meq, c_mne, c_mlt, nI_add, pk_mul, Bool.cond_decide, cond_true, cond_false, ldA_n, stA_n, cpA_n, bnd_s, bindP_s, Option.bind_some, gN_sI, gN_sA, gI_sA, gA_sI, gI_eq, gA_eq, gI_ne, gA_ne, sA_sA, sI_sI, if_pos, if_neg, ite_true, ite_false, eq_self, not_true_eq_false, not_false_eq_true, Nat.add_zero, NF_ap, a_gen hc.w hN, a_content cw3, a_content cw1]
    · simp (disch := omega) only [c_lt, c_ge, c_gt, c_le, c_eq, c_ne, c_lt0, c_ge0, c_le0, c_gt0, c_eq0, c_ne0, c_eqm, c_nem, c_m0, c_meq, c_mne, c_mlt, nI_add, pk_mul, Bool.cond_decide, cond_true, cond_false, ldA_n, stA_n, cpA_n, bnd_s, bindP_s, Option.bind_some, gN_sI, gN_sA, gI_sA, gA_sI, gI_eq, gA_eq, gI_ne, gA_ne, sA_sA, sI_sI, if_pos, if_neg, ite_true, ite_false, eq_self, not_true_eq_false, not_false_eq_true, Nat.add_zero, NF_ap, b_gen hm.1, h4]
/-- both run on through the log -/
theorem u_ext (hN : 100 ≤ N) : ∀ a x f f' d m, CV d n c l x → MV m n c l x → x + a = n → a < f → a < f' → ∃ x', 2 ≤ x' ∧ x' ≤ n ∧ F_X5_extendLog_8 N f d (nI n) = some (sI d 1 (nI x')) ∧ F_X6_start_130 N f' m = F_X6_start_172 N N (sI m 2 (nI x')) (gI m 3) := by
  intro a
  induction a with
  | zero =>
    intro x f f' d m hc hm e1 e2 e3
    obtain ⟨f, rfl⟩ : ∃ q, f = q + 1 := ⟨f - 1, by omega⟩
    obtain ⟨f', rfl⟩ : ∃ q, f' = q + 1 := ⟨f' - 1, by omega⟩
    have hn := hc.n60
    have hxd := hc.xi
    have hxm := hm.xi
    have hnm := hm.1.1
    refine ⟨x, by omega, by omega, ?_, ?_⟩
    · rw [F_X5_extendLog_8.eq_2, hxd]
      simp (disch := omega) only [c_lt, c_ge, c_gt, c_le, c_eq, c_ne, c_lt0, c_ge0, c_le0, c_gt0, c_eq0, c_ne0, c_eqm, c_nem, c_m0, c_meq, c_mne, c_mlt, nI_add, pk_mul, Bool.cond_decide, cond_true, cond_false, ldA_n, stA_n, cpA_n, bnd_s, bindP_s, Option.bind_some, gN_sI, gN_sA, gI_sA, gA_sI, gI_eq, gA_eq, gI_ne, gA_ne, sA_sA, sI_sI, if_pos, if_neg, ite_true, ite_false, eq_self, not_true_eq_false, not_false_eq_true, Nat.add_zero, NF_ap]
      rw [← hxd, sI_id]
    · rw [F_X6_start_130.eq_2, hxm, hnm]
      simp (disch := omega) only [c_lt, c_ge, c_gt, c_le, c_eq, c_ne, c_lt0, c_ge0, c_le0, c_gt0, c_eq0, c_ne0, c_eqm, c_nem, c_m0, c_meq, c_mne, c_mlt, nI_add, pk_mul, Bool.cond_decide, cond_true, cond_false, ldA_n, stA_n, cpA_n, bnd_s, bindP_s, Option.bind_some, gN_sI, gN_sA, gI_sA, gA_sI, gI_eq, gA_eq, gI_ne, gA_ne, sA_sA, sI_sI, if_pos, if_neg, ite_true, ite_false, eq_self, not_true_eq_false, not_false_eq_true, Nat.add_zero, NF_ap]
      rw [← hxm, sI_id]
  | succ a ih =>
    intro x f f' d m hc hm e1 e2 e3
    obtain ⟨f, rfl⟩ : ∃ q, f = q + 1 := ⟨f - 1, by omega⟩
    obtain ⟨f', rfl⟩ : ∃ q, f' = q + 1 := ⟨f' - 1, by omega⟩
    have hn := hc.n60
    have hxd := hc.xi
    have hxm := hm.xi
    have hnm := hm.1.1
    have w1 := so_le c l x
    by_cases q : 2 ≤ so c l x
    · obtain ⟨x', y1, y2, y3, y4⟩ := ih (x + 1) f f' (sI d 1 (nI (x + 1))) (sI m 2 (nI (x + 1))) (CV_x hc (by omega) (by omega)) ⟨CW_sI hm.1 _, gI_eq, by omega, by omega⟩ (by omega) (by omega) (by omega)
      rw [sI_sI] at y3 y4
      rw [gI_ne (by decide)] at y4
      refine ⟨x', y1, y2, ?_, ?_⟩
      · rw [F_X5_extendLog_8.eq_2, hxd, a_ws hc (by omega)]
        simp (disch := omega) only [c_lt, c_ge, c_gt, c_le, c_eq, c_ne, c_lt0, c_ge0, c_le0, c_gt0, c_eq0, c_ne0, c_eqm, c_nem, c_m0, c_meq, c_mne, c_mlt, nI_add, pk_mul, Bool.cond_decide, cond_true, cond_false, ldA_n, stA_n, cpA_n, bnd_s, bindP_s, Option.bind_some, gN_sI, gN_sA, gI_sA, gA_sI, gI_eq, gA_eq, gI_ne, gA_ne, sA_sA, sI_sI, if_pos, if_neg, ite_true, ite_false, eq_self, not_true_eq_false, not_false_eq_true, Nat.add_zero, NF_ap]
        exact y3
      · rw [F_X6_start_130.eq_2, hxm, hnm, b_so hm.1 (by omega) (by omega)]
        simp (disch := omega) only [c_lt, c_ge, c_gt, c_le, c_eq, c_ne, c_lt0, c_ge0, c_le0, c_gt0, c_eq0, c_ne0, c_eqm, c_nem, c_m0, c_meq, c_mne, c_mlt, nI_add, pk_mul, Bool.cond_decide, cond_true, cond_false, ldA_n, stA_n, cpA_n, bnd_s, bindP_s, Option.bind_some, gN_sI, gN_sA, gI_sA, gA_sI, gI_eq, gA_eq, gI_ne, gA_ne, sA_sA, sI_sI, if_pos, if_neg, ite_true, ite_false, eq_self, not_true_eq_false, not_false_eq_true, Nat.add_zero, NF_ap]
        exact y4
    · refine ⟨x, by omega, by omega, ?_, ?_⟩
      · rw [F_X5_extendLog_8.eq_2, hxd, a_ws hc (by omega)]
        simp (disch := omega) only [c_lt, c_ge, c_gt, c_le, c_eq, c_ne, c_lt0, c_ge0, c_le0, c_gt0, c_eq0, c_ne0, c_eqm, c_nem, c_m0, c_meq, c_mne, c_mlt, nI_add, pk_mul, Bool.cond_decide, cond_true, cond_false, ldA_n, stA_n, cpA_n, bnd_s, bindP_s, Option.bind_some, gN_sI, gN_sA, gI_sA, gA_sI, gI_eq, gA_eq, gI_ne, gA_ne, sA_sA, sI_sI, if_pos, if_neg, ite_true, ite_false, eq_self, not_true_eq_false, not_false_eq_true, Nat.add_zero, NF_ap]
        rw [← hxd, sI_id]
      · rw [F_X6_start_130.eq_2, hxm, hnm, b_so hm.1 (by omega) (by omega)]
        simp (disch := omega) only [c_lt, c_ge, c_gt, c_le, c_eq, c_ne, c_lt0, c_ge0, c_le0, c_gt0, c_eq0, c_ne0, c_eqm, c_nem, c_m0, c_meq, c_mne, c_mlt, nI_add, pk_mul, Bool.cond_decide, cond_true, cond_false, ldA_n, stA_n, cpA_n, bnd_s, bindP_s, Option.bind_some, gN_sI, gN_sA, gI_sA, gA_sI, gI_eq, gA_eq, gI_ne, gA_ne, sA_sA, sI_sI, if_pos, if_neg, ite_true, ite_false, eq_self, not_true_eq_false, not_false_eq_true, Nat.add_zero, NF_ap]
        rw [← hxm, sI_id]
/-- the rows behind those that the head tells -/
def cr (P : Nat → Bool) (p : Nat) : Nat → Nat
  | 0 => p
  | k + 1 => if P (p + k) = true then p + k + 1 else cr P p k
theorem cr_le {P : Nat → Bool} {p : Nat} : ∀ k, cr P p k ≤ p + k := by
  intro k
  induction k with
  | zero => exact Nat.le_refl p
  | succ k ih =>
    unfold cr
    by_cases h : P (p + k) = true
    · rw [if_pos h]; omega
    · rw [if_neg h]; omega
def thr (c l : Nat → Nat) (x r : Nat) : Bool := (lst (isR c l r) (x - 2)).isSome
theorem a_rows (hN : 100 ≤ N) (hc : CV d n c l x) (h2 : gI d 2 = nI p) (hp : p ≤ 60) : F_X5_countRows N d = some (sI d 2 (nI (cr (thr c l x) p (60 - p)))) := by
  have key : ∀ k f, p + k ≤ 60 → k < f → F_X5_countRows_3 N f d (pI (p + k)) = some (sI d 2 (nI (cr (thr c l x) p k))) := by
    intro k
    induction k with
    | zero =>
      intro f e1 e2
      obtain ⟨f, rfl⟩ : ∃ q, f = q + 1 := ⟨f - 1, by omega⟩
      rw [F_X5_countRows_3.eq_2, h2]
      have : mx_cnd .lt (pI (p + 0)) (nI p) = true := by
        cases p with
        | zero => exact c_mlt (by decide)
        | succ p =>
          show mx_cnd .lt (nI p) (nI (p + 1)) = true
          rw [c_lt (by omega) (by omega)]
          exact decide_eq_true (by omega)
      rw [this, cond_true]
      show _ = some (sI d 2 (nI p))
      rw [← h2, sI_id]
    | succ k ih =>
      intro f e1 e2
      obtain ⟨f, rfl⟩ : ∃ q, f = q + 1 := ⟨f - 1, by omega⟩
      rw [F_X5_countRows_3.eq_2, h2, show pI (p + (k + 1)) = nI (p + k) from rfl, c_lt (by omega) (by omega), decide_eq_false (by omega), cond_false, a_findRow hc hN (by omega), Option.bind_some, pI_m, nI_add]
      show _ = some (sI d 2 (nI (if thr c l x (p + k) = true then p + k + 1 else cr (thr c l x) p k)))
      unfold thr
      cases hq : lst (isR c l (p + k)) (x - 2) with
      | none =>
        unfold oI
        rw [c_meq, cond_true, Option.isSome_none, if_neg (by decide)]
        exact ih f (by omega) (by omega)
      | some j =>
        have := lst_R hq
        have hn := hc.n60
        unfold oI
        rw [c_eqm (by omega), cond_false, Option.isSome_some, if_pos rfl]
        rfl
  unfold F_X5_countRows
  have := key (60 - p) N (by omega) (by omega)
  rw [show pI (p + (60 - p)) = nI 59 from by rw [show p + (60 - p) = 59 + 1 by omega]; rfl] at this
  exact this
theorem b_rows (hN : 100 ≤ N) (hm : MV m n c l x) (h3 : gI m 3 = nI p) (hp : p ≤ 60) : F_X6_start_172 N N m (nI p) = F_X6_start_223 N N (sI (sI (sI m 3 (nI (cr (thr c l x) p (60 - p)))) 1 (nI 1)) 5 (nI 0)) (nI 1) := by
  have key : ∀ a k f, p + k + a = 60 → a < f → F_X6_start_172 N f (sI m 3 (nI (cr (thr c l x) p k))) (nI (p + k)) = F_X6_start_223 N N (sI (sI (sI m 3 (nI (cr (thr c l x) p (60 - p)))) 1 (nI 1)) 5 (nI 0)) (nI 1) := by
    intro a
    induction a with
    | zero =>
      intro k f e1 e2
      obtain ⟨f, rfl⟩ : ∃ q, f = q + 1 := ⟨f - 1, by omega⟩
      obtain rfl : k = 60 - p := by omega
      rw [F_X6_start_172.eq_2]
      simp (disch := omega) only [c_lt, c_ge, c_gt, c_le, c_eq, c_ne, c_lt0, c_ge0, c_le0, c_gt0, c_eq0, c_ne0, c_eqm, c_nem, c_m0, c_meq, c_mne, c_mlt, nI_add, pk_mul, Bool.cond_decide, cond_true, cond_false, ldA_n, stA_n, cpA_n, bnd_s, bindP_s, Option.bind_some, gN_sI, gN_sA, gI_sA, gA_sI, gI_eq, gA_eq, gI_ne, gA_ne, sA_sA, sI_sI, if_pos, if_neg, ite_true, ite_false, eq_self, not_true_eq_false, not_false_eq_true, Nat.add_zero, NF_ap]
    | succ a ih =>
      intro k f e1 e2
      obtain ⟨f, rfl⟩ : ∃ q, f = q + 1 := ⟨f - 1, by omega⟩
      have ih := ih (k + 1) f (by omega) (by omega)
      rw [F_X6_start_172.eq_2, c_ge (by omega) (by decide), decide_eq_false (by omega), cond_false, b_secOf (MV_sI hm (by decide) _) hN (by omega), Option.bind_some, nI_add, gI_eq, bnd_s, bnd_s, sI_sI, sI_sI]
      rw [show cr (thr c l x) p (k + 1) = if thr c l x (p + k) = true then p + k + 1 else cr (thr c l x) p k from rfl] at ih
      unfold thr at ih ⊢
      cases hq : lst (isR c l (p + k)) (x - 2) with
      | none =>
        rw [hq, Option.isSome_none, if_neg (by decide)] at ih
        unfold oI
        rw [c_meq, cond_true]
        exact ih
      | some j =>
        rw [hq, Option.isSome_some, if_pos rfl] at ih
        have := lst_R hq
        have hn := hm.n60
        unfold oI
        rw [c_eqm (by omega), cond_false]
        exact ih
  have := key (60 - p) 0 N (by omega) (by omega)
  rw [show cr (thr c l x) p 0 = p from rfl, ← h3, sI_id] at this
  exact this
end ST
