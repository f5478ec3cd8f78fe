/-! the class's writes -/
theorem dN_lt {a b c d : Nat} {h : Nat → Nat} (ha : a < 256) (hb : b < 256) (hc : c < 256) (hd : d < 256) (hh : ∀ i, i < 24 → h i < 256) (j : Nat) : dN a b c d h j < 256 := by
  unfold dN
  by_cases h0 : j = 0
  · rw [if_pos h0]; exact ha
  by_cases h1 : j = 1
  · rw [if_neg h0, if_pos h1]; exact hb
  by_cases h2 : j = 2
  · rw [if_neg h0, if_neg h1, if_pos h2]; exact hc
  by_cases h3 : j = 3
  · rw [if_neg h0, if_neg h1, if_neg h2, if_pos h3]; exact hd
  by_cases h4 : j < 28
  · rw [if_neg h0, if_neg h1, if_neg h2, if_neg h3, if_pos h4]; exact hh _ (by omega)
  · rw [if_neg h0, if_neg h1, if_neg h2, if_neg h3, if_neg h4]; omega
theorem sec_lt {a b c d : Nat} {h : Nat → Nat} (ha : a < 256) (hb : b < 256) (hc : c < 256) (hd : d < 256) (hh : ∀ i, i < 24 → h i < 256) (j : Nat) : sec a b c d h j < 256 := by
  unfold sec
  by_cases h0 : j < 28
  · rw [if_pos h0]; exact dN_lt ha hb hc hd hh j
  · rw [if_neg h0]; exact byt_lt _ _
section CS
variable {s : St} {n x N : Nat} {c l : Nat → Nat}
theorem e_seal {g : Nat → Int32} {a b c d : Nat} {h : Nat → Nat} (hN : 40 ≤ N) (hd : gA s 6 = dF g a b c d h) : F_X0_seal N s = some (sA s 6 (secF g a b c d h)) := by
  have := a_seal (s := s) (g := g) (a := a) (b := b) (c := c) (d := d) (h := h) hN
  rw [← hd, sA_id] at this
  exact this
theorem e_note (h : CV s n c l x) {j w : Nat} (hj : j < n) (hw : w < 60) (h8 : gI s 8 = nI w) : ∃ t, F_X3_note s (nI j) = some t ∧ CV t n c l x ∧ gI t 8 = nI (w + 1) ∧ (∀ k, k ≠ 8 → gI t k = gI s k) ∧ gA t 3 = upd (gA s 3) w (nI j) ∧ gA t 4 = va_cpy (NF c) (gA s 4) (32 * j) (32 * w) 32 ∧ gA t 5 = upd (gA s 5) w (nI (l j)) ∧ (∀ k, k ≠ 3 → k ≠ 4 → k ≠ 5 → gA t k = gA s k) := by
  refine ⟨_, a_note h hj hw h8, CV_sI (CV_sA (CV_sA (CV_sA h (by omega) _) (by omega) _) (by omega) _) (by omega) _, ?_, ?_, ?_, ?_, ?_, ?_⟩
  · simp (disch := omega) only [c_lt, c_ge, c_gt, c_le, c_eq, c_ne, c_lt0, c_ge0, c_le0, c_gt0, c_eq0, c_ne0, c_eqm, c_nem, c_m0, c_meq, c_mne, c_mlt, nI_add, pk_mul, Bool.cond_decide, cond_true, cond_false, ldA_n, stA_n, cpA_n, bnd_s, bindP_s, Option.bind_some, gN_sI, gN_sA, gI_sA, gA_sI, gI_eq, gA_eq, gI_ne, gA_ne, sA_sA, sI_sI, if_pos, if_neg, ite_true, ite_false, eq_self, not_true_eq_false, not_false_eq_true, Nat.add_zero, NF_ap]
  · intro k hk
    simp (disch := omega) only [c_lt, c_ge, c_gt, c_le, c_eq, c_ne, c_lt0, c_ge0, c_le0, c_gt0, c_eq0, c_ne0, c_eqm, c_nem, c_m0, c_meq, c_mne, c_mlt, nI_add, pk_mul, Bool.cond_decide, cond_true, cond_false, ldA_n, stA_n, cpA_n, bnd_s, bindP_s, Option.bind_some, gN_sI, gN_sA, gI_sA, gA_sI, gI_eq, gA_eq, gI_ne, gA_ne, sA_sA, sI_sI, if_pos, if_neg, ite_true, ite_false, eq_self, not_true_eq_false, not_false_eq_true, Nat.add_zero, NF_ap]
  · simp (disch := omega) only [c_lt, c_ge, c_gt, c_le, c_eq, c_ne, c_lt0, c_ge0, c_le0, c_gt0, c_eq0, c_ne0, c_eqm, c_nem, c_m0, c_meq, c_mne, c_mlt, nI_add, pk_mul, Bool.cond_decide, cond_true, cond_false, ldA_n, stA_n, cpA_n, bnd_s, bindP_s, Option.bind_some, gN_sI, gN_sA, gI_sA, gA_sI, gI_eq, gA_eq, gI_ne, gA_ne, sA_sA, sI_sI, if_pos, if_neg, ite_true, ite_false, eq_self, not_true_eq_false, not_false_eq_true, Nat.add_zero, NF_ap]
  · simp (disch := omega) only [c_lt, c_ge, c_gt, c_le, c_eq, c_ne, c_lt0, c_ge0, c_le0, c_gt0, c_eq0, c_ne0, c_eqm, c_nem, c_m0, c_meq, c_mne, c_mlt, nI_add, pk_mul, Bool.cond_decide, cond_true, cond_false, ldA_n, stA_n, cpA_n, bnd_s, bindP_s, Option.bind_some, gN_sI, gN_sA, gI_sA, gA_sI, gI_eq, gA_eq, gI_ne, gA_ne, sA_sA, sI_sI, if_pos, if_neg, ite_true, ite_false, eq_self, not_true_eq_false, not_false_eq_true, Nat.add_zero, NF_ap]
  · simp (disch := omega) only [c_lt, c_ge, c_gt, c_le, c_eq, c_ne, c_lt0, c_ge0, c_le0, c_gt0, c_eq0, c_ne0, c_eqm, c_nem, c_m0, c_meq, c_mne, c_mlt, nI_add, pk_mul, Bool.cond_decide, cond_true, cond_false, ldA_n, stA_n, cpA_n, bnd_s, bindP_s, Option.bind_some, gN_sI, gN_sA, gI_sA, gA_sI, gI_eq, gA_eq, gI_ne, gA_ne, sA_sA, sI_sI, if_pos, if_neg, ite_true, ite_false, eq_self, not_true_eq_false, not_false_eq_true, Nat.add_zero, NF_ap]
  · intro k hk1 hk2 hk3
    simp (disch := omega) only [c_lt, c_ge, c_gt, c_le, c_eq, c_ne, c_lt0, c_ge0, c_le0, c_gt0, c_eq0, c_ne0, c_eqm, c_nem, c_m0, c_meq, c_mne, c_mlt, nI_add, pk_mul, Bool.cond_decide, cond_true, cond_false, ldA_n, stA_n, cpA_n, bnd_s, bindP_s, Option.bind_some, gN_sI, gN_sA, gI_sA, gA_sI, gI_eq, gA_eq, gI_ne, gA_ne, sA_sA, sI_sI, if_pos, if_neg, ite_true, ite_false, eq_self, not_true_eq_false, not_false_eq_true, Nat.add_zero, NF_ap]
theorem e_store (h : CV s n c l x) {j t : Nat} {D : Nat → Nat} (hN : 40 ≤ N) (hj : j < n) (ht : t ≤ 32) (hD : ∀ i, i < 32 → gA s 6 i = nI (D i)) (hB : ∀ i, i < 32 → D i < 256) : ∃ q, F_X4_store N s (nI j) (nI t) = some q ∧ CV q n (stN c D j t) (uN l j 0) x ∧ gI q = gI s ∧ (∀ k, 3 ≤ k → gA q k = gA s k) := by
  obtain ⟨h1, h2⟩ := a_store h.w hN hj ht hD hB
  refine ⟨_, h1, CV_store h hj ht h2, ?_, ?_⟩
  · simp (disch := omega) only [c_lt, c_ge, c_gt, c_le, c_eq, c_ne, c_lt0, c_ge0, c_le0, c_gt0, c_eq0, c_ne0, c_eqm, c_nem, c_m0, c_meq, c_mne, c_mlt, nI_add, pk_mul, Bool.cond_decide, cond_true, cond_false, ldA_n, stA_n, cpA_n, bnd_s, bindP_s, Option.bind_some, gN_sI, gN_sA, gI_sA, gA_sI, gI_eq, gA_eq, gI_ne, gA_ne, sA_sA, sI_sI, if_pos, if_neg, ite_true, ite_false, eq_self, not_true_eq_false, not_false_eq_true, Nat.add_zero, NF_ap]
  · intro k hk
    simp (disch := omega) only [c_lt, c_ge, c_gt, c_le, c_eq, c_ne, c_lt0, c_ge0, c_le0, c_gt0, c_eq0, c_ne0, c_eqm, c_nem, c_m0, c_meq, c_mne, c_mlt, nI_add, pk_mul, Bool.cond_decide, cond_true, cond_false, ldA_n, stA_n, cpA_n, bnd_s, bindP_s, Option.bind_some, gN_sI, gN_sA, gI_sA, gA_sI, gI_eq, gA_eq, gI_ne, gA_ne, sA_sA, sI_sI, if_pos, if_neg, ite_true, ite_false, eq_self, not_true_eq_false, not_false_eq_true, Nat.add_zero, NF_ap]
theorem CV_x (h : CV s n c l x) {y : Nat} (hy : 2 ≤ y) (hy2 : y ≤ n) : CV (sI s 1 (nI y)) n c l y := by
  obtain ⟨h1, h2, h3, h4, h5, h6, h7, h8, h9, h10, h11⟩ := h
  unfold CV
  simp (disch := omega) only [c_lt, c_ge, c_gt, c_le, c_eq, c_ne, c_lt0, c_ge0, c_le0, c_gt0, c_eq0, c_ne0, c_eqm, c_nem, c_m0, c_meq, c_mne, c_mlt, nI_add, pk_mul, Bool.cond_decide, cond_true, cond_false, ldA_n, stA_n, cpA_n, bnd_s, bindP_s, Option.bind_some, gN_sI, gN_sA, gI_sA, gA_sI, gI_eq, gA_eq, gI_ne, gA_ne, sA_sA, sI_sI, if_pos, if_neg, ite_true, ite_false, eq_self, not_true_eq_false, not_false_eq_true, Nat.add_zero, NF_ap]
  exact ⟨h1, h2, h3, h4, h5, h6, trivial, hy, hy2, h10, h11⟩
theorem e_wn (h : CV s n c l x) (hN : 40 ≤ N) (hx : x < n) {w : Nat} (hw : w < 60) (h8 : gI s 8 = nI w) {g : Nat → Int32} {a b e d : Nat} {hh : Nat → Nat} (hd : gA s 6 = dF g a b e d hh) (ha : a < 256) (hb : b < 256) (he : e < 256) (hdd : d < 256) (hB : ∀ i, i < 24 → hh i < 256) : ∃ t, F_X5_writeNext N s = some (nI x, t) ∧ CV t n (stN c (sec a b e d hh) x 32) (uN l x 0) (x + 1) ∧ gI t 8 = nI (w + 1) ∧ (∀ k, k ≠ 1 → k ≠ 8 → gI t k = gI s k) ∧ gA t 3 = upd (gA s 3) w (nI x) ∧ gA t 4 = va_cpy (NF c) (gA s 4) (32 * x) (32 * w) 32 ∧ gA t 5 = upd (gA s 5) w (nI (l x)) ∧ (∀ k, 7 ≤ k → gA t k = gA s k) := by
  have hb0 := h.n60
  obtain ⟨t5, e5, v5, i5, f5, q3, q4, q5, g5⟩ := e_note (CV_sA h (k := 6) (by omega) (secF g a b e d hh)) hx hw (by simp (disch := omega) only [c_lt, c_ge, c_gt, c_le, c_eq, c_ne, c_lt0, c_ge0, c_le0, c_gt0, c_eq0, c_ne0, c_eqm, c_nem, c_m0, c_meq, c_mne, c_mlt, nI_add, pk_mul, Bool.cond_decide, cond_true, cond_false, ldA_n, stA_n, cpA_n, bnd_s, bindP_s, Option.bind_some, gN_sI, gN_sA, gI_sA, gA_sI, gI_eq, gA_eq, gI_ne, gA_ne, sA_sA, sI_sI, if_pos, if_neg, ite_true, ite_false, eq_self, not_true_eq_false, not_false_eq_true, Nat.add_zero, NF_ap, h8])
  have e6 : gA t5 6 = secF g a b e d hh := by rw [g5 6 (by omega) (by omega) (by omega), gA_eq]
  obtain ⟨t7, e7, v7, i7, g7⟩ := e_store v5 (t := 32) (D := sec a b e d hh) hN hx (by omega) (fun i hi => by rw [e6]; exact secF_lo hi) (fun i _ => sec_lt ha hb he hdd hB i)
  refine ⟨sI t7 1 (nI (x + 1)), ?_, CV_x v7 (by omega) (by omega), ?_, ?_, ?_, ?_, ?_, ?_⟩
  · unfold F_X5_writeNext
    rw [h.xi, a_hasT h.w hx, e_seal hN hd]
    simp (disch := omega) only [c_lt, c_ge, c_gt, c_le, c_eq, c_ne, c_lt0, c_ge0, c_le0, c_gt0, c_eq0, c_ne0, c_eqm, c_nem, c_m0, c_meq, c_mne, c_mlt, nI_add, pk_mul, Bool.cond_decide, cond_true, cond_false, ldA_n, stA_n, cpA_n, bnd_s, bindP_s, Option.bind_some, gN_sI, gN_sA, gI_sA, gA_sI, gI_eq, gA_eq, gI_ne, gA_ne, sA_sA, sI_sI, if_pos, if_neg, ite_true, ite_false, eq_self, not_true_eq_false, not_false_eq_true, Nat.add_zero, NF_ap, gI_sA, h.xi]
    rw [e5]
    simp (disch := omega) only [c_lt, c_ge, c_gt, c_le, c_eq, c_ne, c_lt0, c_ge0, c_le0, c_gt0, c_eq0, c_ne0, c_eqm, c_nem, c_m0, c_meq, c_mne, c_mlt, nI_add, pk_mul, Bool.cond_decide, cond_true, cond_false, ldA_n, stA_n, cpA_n, bnd_s, bindP_s, Option.bind_some, gN_sI, gN_sA, gI_sA, gA_sI, gI_eq, gA_eq, gI_ne, gA_ne, sA_sA, sI_sI, if_pos, if_neg, ite_true, ite_false, eq_self, not_true_eq_false, not_false_eq_true, Nat.add_zero, NF_ap, v5.xi]
    rw [e7]
    simp (disch := omega) only [c_lt, c_ge, c_gt, c_le, c_eq, c_ne, c_lt0, c_ge0, c_le0, c_gt0, c_eq0, c_ne0, c_eqm, c_nem, c_m0, c_meq, c_mne, c_mlt, nI_add, pk_mul, Bool.cond_decide, cond_true, cond_false, ldA_n, stA_n, cpA_n, bnd_s, bindP_s, Option.bind_some, gN_sI, gN_sA, gI_sA, gA_sI, gI_eq, gA_eq, gI_ne, gA_ne, sA_sA, sI_sI, if_pos, if_neg, ite_true, ite_false, eq_self, not_true_eq_false, not_false_eq_true, Nat.add_zero, NF_ap, v7.xi]
    rw [pk_sub (by omega), Nat.add_sub_cancel]
  · simp (disch := omega) only [c_lt, c_ge, c_gt, c_le, c_eq, c_ne, c_lt0, c_ge0, c_le0, c_gt0, c_eq0, c_ne0, c_eqm, c_nem, c_m0, c_meq, c_mne, c_mlt, nI_add, pk_mul, Bool.cond_decide, cond_true, cond_false, ldA_n, stA_n, cpA_n, bnd_s, bindP_s, Option.bind_some, gN_sI, gN_sA, gI_sA, gA_sI, gI_eq, gA_eq, gI_ne, gA_ne, sA_sA, sI_sI, if_pos, if_neg, ite_true, ite_false, eq_self, not_true_eq_false, not_false_eq_true, Nat.add_zero, NF_ap, i7, i5]
  · intro k h1 h2
    simp (disch := omega) only [c_lt, c_ge, c_gt, c_le, c_eq, c_ne, c_lt0, c_ge0, c_le0, c_gt0, c_eq0, c_ne0, c_eqm, c_nem, c_m0, c_meq, c_mne, c_mlt, nI_add, pk_mul, Bool.cond_decide, cond_true, cond_false, ldA_n, stA_n, cpA_n, bnd_s, bindP_s, Option.bind_some, gN_sI, gN_sA, gI_sA, gA_sI, gI_eq, gA_eq, gI_ne, gA_ne, sA_sA, sI_sI, if_pos, if_neg, ite_true, ite_false, eq_self, not_true_eq_false, not_false_eq_true, Nat.add_zero, NF_ap, i7]
    rw [f5 k h2, gI_sA]
  · simp (disch := omega) only [c_lt, c_ge, c_gt, c_le, c_eq, c_ne, c_lt0, c_ge0, c_le0, c_gt0, c_eq0, c_ne0, c_eqm, c_nem, c_m0, c_meq, c_mne, c_mlt, nI_add, pk_mul, Bool.cond_decide, cond_true, cond_false, ldA_n, stA_n, cpA_n, bnd_s, bindP_s, Option.bind_some, gN_sI, gN_sA, gI_sA, gA_sI, gI_eq, gA_eq, gI_ne, gA_ne, sA_sA, sI_sI, if_pos, if_neg, ite_true, ite_false, eq_self, not_true_eq_false, not_false_eq_true, Nat.add_zero, NF_ap]
    rw [g7 3 (by omega), q3, gA_ne (by omega)]
  · simp (disch := omega) only [c_lt, c_ge, c_gt, c_le, c_eq, c_ne, c_lt0, c_ge0, c_le0, c_gt0, c_eq0, c_ne0, c_eqm, c_nem, c_m0, c_meq, c_mne, c_mlt, nI_add, pk_mul, Bool.cond_decide, cond_true, cond_false, ldA_n, stA_n, cpA_n, bnd_s, bindP_s, Option.bind_some, gN_sI, gN_sA, gI_sA, gA_sI, gI_eq, gA_eq, gI_ne, gA_ne, sA_sA, sI_sI, if_pos, if_neg, ite_true, ite_false, eq_self, not_true_eq_false, not_false_eq_true, Nat.add_zero, NF_ap]
    rw [g7 4 (by omega), q4, gA_ne (by omega)]
  · simp (disch := omega) only [c_lt, c_ge, c_gt, c_le, c_eq, c_ne, c_lt0, c_ge0, c_le0, c_gt0, c_eq0, c_ne0, c_eqm, c_nem, c_m0, c_meq, c_mne, c_mlt, nI_add, pk_mul, Bool.cond_decide, cond_true, cond_false, ldA_n, stA_n, cpA_n, bnd_s, bindP_s, Option.bind_some, gN_sI, gN_sA, gI_sA, gA_sI, gI_eq, gA_eq, gI_ne, gA_ne, sA_sA, sI_sI, if_pos, if_neg, ite_true, ite_false, eq_self, not_true_eq_false, not_false_eq_true, Nat.add_zero, NF_ap]
    rw [g7 5 (by omega), q5, gA_ne (by omega)]
  · intro k hk
    simp (disch := omega) only [c_lt, c_ge, c_gt, c_le, c_eq, c_ne, c_lt0, c_ge0, c_le0, c_gt0, c_eq0, c_ne0, c_eqm, c_nem, c_m0, c_meq, c_mne, c_mlt, nI_add, pk_mul, Bool.cond_decide, cond_true, cond_false, ldA_n, stA_n, cpA_n, bnd_s, bindP_s, Option.bind_some, gN_sI, gN_sA, gI_sA, gA_sI, gI_eq, gA_eq, gI_ne, gA_ne, sA_sA, sI_sI, if_pos, if_neg, ite_true, ite_false, eq_self, not_true_eq_false, not_false_eq_true, Nat.add_zero, NF_ap]
    rw [g7 k (by omega), g5 k (by omega) (by omega) (by omega), gA_ne (by omega)]
end CS
