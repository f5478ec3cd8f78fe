/-! the class's drafts and stores -/
theorem nar_b {v : Nat} (h : v ≤ 1) : vp_nar .boolean (nI v) = nI v := by
  have : v = 0 ∨ v = 1 := by omega
  rcases this with rfl | rfl
  · exact nar0
  · exact nar1
section CS
variable {s : St} {n x N : Nat} {c l : Nat → Nat}
theorem a_fill10 (hN : 40 ≤ N) (v : Int32) : F_J7_fill_10 N s v = some (sA s 6 (fun j => if 0 ≤ j ∧ j < 32 then v else gA s 6 j)) :=
  fl_lp (G := F_J7_fill_10_5 N) (by decide) (fun f s x1 x2 x3 => F_J7_fill_10_5.eq_2 N s x1 x2 x3 f) 32 0 N s (by omega) (by omega)
theorem a_fill16 (hN : 100 ≤ N) (v : Int32) : F_J7_fill_16 N s v = some (sA s 11 (fun j => if 0 ≤ j ∧ j < 96 then v else gA s 11 j)) :=
  fl_lp (G := F_J7_fill_16_5 N) (by decide) (fun f s x1 x2 x3 => F_J7_fill_16_5.eq_2 N s x1 x2 x3 f) 96 0 N s (by omega) (by omega)
theorem a_fill13 (hN : 40 ≤ N) (v : Int32) : F_J7_fill_13 N s v = some (sA s 8 (fun j => if 0 ≤ j ∧ j < 4 then v else gA s 8 j)) :=
  fl_lp (G := F_J7_fill_13_5 N) (by decide) (fun f s x1 x2 x3 => F_J7_fill_13_5.eq_2 N s x1 x2 x3 f) 4 0 N s (by omega) (by omega)
theorem a_fill14 (hN : 40 ≤ N) (v : Int32) : F_J7_fill_14 N s v = some (sA s 9 (fun j => if 0 ≤ j ∧ j < 4 then v else gA s 9 j)) :=
  fl_lp (G := F_J7_fill_14_5 N) (by decide) (fun f s x1 x2 x3 => F_J7_fill_14_5.eq_2 N s x1 x2 x3 f) 4 0 N s (by omega) (by omega)
theorem a_begin (hN : 40 ≤ N) (a b c d : Nat) : F_X0_begin N s (nI a) (nI b) (nI c) (nI d) = some (sA s 6 (dF (gA s 6) a b c d (fun _ => 0))) := by
  unfold F_X0_begin
  rw [a_fill10 hN]
  simp (disch := omega) only [c_lt, c_ge, c_gt, c_le, c_eq, c_ne, c_lt0, c_ge0, c_le0, c_gt0, c_eq0, c_ne0, c_eqm, c_nem, c_m0, c_meq, c_mne, c_mlt, nI_add, pk_mul, Bool.cond_decide, cond_true, cond_false, ldA_n, stA_n, cpA_n, bnd_s, bindP_s, Option.bind_some, gN_sI, gN_sA, gI_sA, gA_sI, gI_eq, gA_eq, gI_ne, gA_ne, sA_sA, sI_sI, if_pos, if_neg, ite_true, ite_false, eq_self, not_true_eq_false, not_false_eq_true, Nat.add_zero, NF_ap]
  rw [dF_bg]
theorem a_setC {g : Nat → Int32} {a b c d : Nat} {h : Nat → Nat} {i v : Nat} (hi : i < 24) (hv : v < 256) : F_X0_setContent (sA s 6 (dF g a b c d h)) (nI i) (nI v) = some (sA s 6 (dF g a b c d (uN h i v))) := by
  unfold F_X0_setContent
  rw [byt_8 hv]
  simp (disch := omega) only [c_lt, c_ge, c_gt, c_le, c_eq, c_ne, c_lt0, c_ge0, c_le0, c_gt0, c_eq0, c_ne0, c_eqm, c_nem, c_m0, c_meq, c_mne, c_mlt, nI_add, pk_mul, Bool.cond_decide, cond_true, cond_false, ldA_n, stA_n, cpA_n, bnd_s, bindP_s, Option.bind_some, gN_sI, gN_sA, gI_sA, gA_sI, gI_eq, gA_eq, gI_ne, gA_ne, sA_sA, sI_sI, if_pos, if_neg, ite_true, ite_false, eq_self, not_true_eq_false, not_false_eq_true, Nat.add_zero, NF_ap]
  rw [dF_set hi]
theorem a_seal {g : Nat → Int32} {a b c d : Nat} {h : Nat → Nat} (hN : 40 ≤ N) : F_X0_seal N (sA s 6 (dF g a b c d h)) = some (sA s 6 (secF g a b c d h)) := by
  unfold F_X0_seal
  have h1 : F_X5_sumOf_10 N (sA s 6 (dF g a b c d h)) (nI 0) = some (sm a b c d h) := by
    unfold F_X5_sumOf_10
    rw [pk_sub (by omega)]
    simp (disch := omega) only [c_lt, c_ge, c_gt, c_le, c_eq, c_ne, c_lt0, c_ge0, c_le0, c_gt0, c_eq0, c_ne0, c_eqm, c_nem, c_m0, c_meq, c_mne, c_mlt, nI_add, pk_mul, Bool.cond_decide, cond_true, cond_false, ldA_n, stA_n, cpA_n, bnd_s, bindP_s, Option.bind_some, gN_sI, gN_sA, gI_sA, gA_sI, gI_eq, gA_eq, gI_ne, gA_ne, sA_sA, sI_sI, if_pos, if_neg, ite_true, ite_false, eq_self, not_true_eq_false, not_false_eq_true, Nat.add_zero, NF_ap]
    have := ps_lp (g := gA (sA s 6 (dF g a b c d h)) 6) (n := 32) (b := 0) (G := fun f x1 x2 x3 => F_X5_sumOf_10_19 N f (sA s 6 (dF g a b c d h)) x1 x2 x3) (by omega) (by omega) (fun f x1 x2 x3 => F_X5_sumOf_10_19.eq_2 N _ x1 x2 x3 f) 28 0 N (by omega) (by omega)
    rw [gA_eq, ps_dF] at this
    exact this
  rw [h1, Option.bind_some]
  have h2 : ∀ m i f, i + m = 4 → m < f → F_X0_seal_11 N f (sA s 6 (slF g a b c d h i)) (sm a b c d h) (nI i) = some (sA s 6 (secF g a b c d h)) := by
    intro m
    induction m with
    | zero =>
      intro i f e1 e2
      obtain ⟨f, rfl⟩ : ∃ q, f = q + 1 := ⟨f - 1, by omega⟩
      obtain rfl : i = 4 := by omega
      rw [F_X0_seal_11.eq_2]
      simp (disch := omega) only [c_lt, c_ge, c_gt, c_le, c_eq, c_ne, c_lt0, c_ge0, c_le0, c_gt0, c_eq0, c_ne0, c_eqm, c_nem, c_m0, c_meq, c_mne, c_mlt, nI_add, pk_mul, Bool.cond_decide, cond_true, cond_false, ldA_n, stA_n, cpA_n, bnd_s, bindP_s, Option.bind_some, gN_sI, gN_sA, gI_sA, gA_sI, gI_eq, gA_eq, gI_ne, gA_ne, sA_sA, sI_sI, if_pos, if_neg, ite_true, ite_false, eq_self, not_true_eq_false, not_false_eq_true, Nat.add_zero, NF_ap]
      rw [slF_4]
    | succ m ih =>
      intro i f e1 e2
      obtain ⟨f, rfl⟩ : ∃ q, f = q + 1 := ⟨f - 1, by omega⟩
      rw [F_X0_seal_11.eq_2, pk_mul, pk_sub (by omega), byt_u _ (by omega)]
      simp (disch := omega) only [c_lt, c_ge, c_gt, c_le, c_eq, c_ne, c_lt0, c_ge0, c_le0, c_gt0, c_eq0, c_ne0, c_eqm, c_nem, c_m0, c_meq, c_mne, c_mlt, nI_add, pk_mul, Bool.cond_decide, cond_true, cond_false, ldA_n, stA_n, cpA_n, bnd_s, bindP_s, Option.bind_some, gN_sI, gN_sA, gI_sA, gA_sI, gI_eq, gA_eq, gI_ne, gA_ne, sA_sA, sI_sI, if_pos, if_neg, ite_true, ite_false, eq_self, not_true_eq_false, not_false_eq_true, Nat.add_zero, NF_ap]
      rw [slF_s (by omega)]
      exact ih (i + 1) f (by omega) (by omega)
  have := h2 4 0 N (by omega) (by omega)
  rw [slF_0] at this
  exact this
theorem a_judge (h : CW s n c l) {j : Nat} (hN : 40 ≤ N) (hj : j < n) : F_X4_judge N s (nI j) = some (sA s 2 (upd (gA s 2) j (nI (so c l j)))) := by
  unfold F_X4_judge
  rw [a_hasT h hj]
  have h1 := h.1
  have h2 := h.2.1
  have h5 := h.2.2.2.2.1
  have h6 := h.2.2.2.2.2.2 j
  have h7 := h.2.2.2.2.2.1 (32 * j)
  simp (disch := omega) only [c_lt, c_ge, c_gt, c_le, c_eq, c_ne, c_lt0, c_ge0, c_le0, c_gt0, c_eq0, c_ne0, c_eqm, c_nem, c_m0, c_meq, c_mne, c_mlt, nI_add, pk_mul, Bool.cond_decide, cond_true, cond_false, ldA_n, stA_n, cpA_n, bnd_s, bindP_s, Option.bind_some, gN_sI, gN_sA, gI_sA, gA_sI, gI_eq, gA_eq, gI_ne, gA_ne, sA_sA, sI_sI, if_pos, if_neg, ite_true, ite_false, eq_self, not_true_eq_false, not_false_eq_true, Nat.add_zero, NF_ap]
  have key : ∀ f, F_X4_judge_13 N (f + 5) s (nI j) (nI 0) (nI 0) = some (sA s 2 (upd (gA s 2) j (nI (so c l j)))) := by
    intro f
    rw [show f + 5 = (f + 4) + 1 from rfl, F_X4_judge_13.eq_2]
    simp (disch := omega) only [c_lt, c_ge, c_gt, c_le, c_eq, c_ne, c_lt0, c_ge0, c_le0, c_gt0, c_eq0, c_ne0, c_eqm, c_nem, c_m0, c_meq, c_mne, c_mlt, nI_add, pk_mul, Bool.cond_decide, cond_true, cond_false, ldA_n, stA_n, cpA_n, bnd_s, bindP_s, Option.bind_some, gN_sI, gN_sA, gI_sA, gA_sI, gI_eq, gA_eq, gI_ne, gA_ne, sA_sA, sI_sI, if_pos, if_neg, ite_true, ite_false, eq_self, not_true_eq_false, not_false_eq_true, Nat.add_zero, NF_ap, a_cell h]
    rw [show f + 4 = (f + 3) + 1 from rfl, F_X4_judge_13.eq_2]
    simp (disch := omega) only [c_lt, c_ge, c_gt, c_le, c_eq, c_ne, c_lt0, c_ge0, c_le0, c_gt0, c_eq0, c_ne0, c_eqm, c_nem, c_m0, c_meq, c_mne, c_mlt, nI_add, pk_mul, Bool.cond_decide, cond_true, cond_false, ldA_n, stA_n, cpA_n, bnd_s, bindP_s, Option.bind_some, gN_sI, gN_sA, gI_sA, gA_sI, gI_eq, gA_eq, gI_ne, gA_ne, sA_sA, sI_sI, if_pos, if_neg, ite_true, ite_false, eq_self, not_true_eq_false, not_false_eq_true, Nat.add_zero, NF_ap, a_cell h]
    rw [show f + 3 = (f + 2) + 1 from rfl, F_X4_judge_13.eq_2]
    simp (disch := omega) only [c_lt, c_ge, c_gt, c_le, c_eq, c_ne, c_lt0, c_ge0, c_le0, c_gt0, c_eq0, c_ne0, c_eqm, c_nem, c_m0, c_meq, c_mne, c_mlt, nI_add, pk_mul, Bool.cond_decide, cond_true, cond_false, ldA_n, stA_n, cpA_n, bnd_s, bindP_s, Option.bind_some, gN_sI, gN_sA, gI_sA, gA_sI, gI_eq, gA_eq, gI_ne, gA_ne, sA_sA, sI_sI, if_pos, if_neg, ite_true, ite_false, eq_self, not_true_eq_false, not_false_eq_true, Nat.add_zero, NF_ap, a_cell h]
    rw [show f + 2 = (f + 1) + 1 from rfl, F_X4_judge_13.eq_2]
    simp (disch := omega) only [c_lt, c_ge, c_gt, c_le, c_eq, c_ne, c_lt0, c_ge0, c_le0, c_gt0, c_eq0, c_ne0, c_eqm, c_nem, c_m0, c_meq, c_mne, c_mlt, nI_add, pk_mul, Bool.cond_decide, cond_true, cond_false, ldA_n, stA_n, cpA_n, bnd_s, bindP_s, Option.bind_some, gN_sI, gN_sA, gI_sA, gA_sI, gI_eq, gA_eq, gI_ne, gA_ne, sA_sA, sI_sI, if_pos, if_neg, ite_true, ite_false, eq_self, not_true_eq_false, not_false_eq_true, Nat.add_zero, NF_ap, a_cell h]
    rw [F_X4_judge_13.eq_2, w4_h]
    simp (disch := omega) only [c_lt, c_ge, c_gt, c_le, c_eq, c_ne, c_lt0, c_ge0, c_le0, c_gt0, c_eq0, c_ne0, c_eqm, c_nem, c_m0, c_meq, c_mne, c_mlt, nI_add, pk_mul, Bool.cond_decide, cond_true, cond_false, ldA_n, stA_n, cpA_n, bnd_s, bindP_s, Option.bind_some, gN_sI, gN_sA, gI_sA, gA_sI, gI_eq, gA_eq, gI_ne, gA_ne, sA_sA, sI_sI, if_pos, if_neg, ite_true, ite_false, eq_self, not_true_eq_false, not_false_eq_true, Nat.add_zero, NF_ap, a_cell h, a_sum h, h1, h5]
    rw [c_nex, Bool.cond_decide]
    unfold so
    by_cases q1 : 1 ≤ c (32 * j)
    · by_cases q2 : c (32 * j) ≤ 4
      · by_cases q3 : w4 (nI (c (32 * j + 28))) (nI (c (32 * j + 29))) (nI (c (32 * j + 30))) (nI (c (32 * j + 31))) = ps (NF c) (32 * j) 28
        · by_cases q4 : l j = 0
          · simp (disch := omega) only [c_lt, c_ge, c_gt, c_le, c_eq, c_ne, c_lt0, c_ge0, c_le0, c_gt0, c_eq0, c_ne0, c_eqm, c_nem, c_m0, c_meq, c_mne, c_mlt, nI_add, pk_mul, Bool.cond_decide, cond_true, cond_false, ldA_n, stA_n, cpA_n, bnd_s, bindP_s, Option.bind_some, gN_sI, gN_sA, gI_sA, gA_sI, gI_eq, gA_eq, gI_ne, gA_ne, sA_sA, sI_sI, if_pos, if_neg, ite_true, ite_false, eq_self, not_true_eq_false, not_false_eq_true, Nat.add_zero, NF_ap]
            rw [if_neg (fun z => z q3), if_pos ⟨q4, q1, q2, q3⟩]
          · simp (disch := omega) only [c_lt, c_ge, c_gt, c_le, c_eq, c_ne, c_lt0, c_ge0, c_le0, c_gt0, c_eq0, c_ne0, c_eqm, c_nem, c_m0, c_meq, c_mne, c_mlt, nI_add, pk_mul, Bool.cond_decide, cond_true, cond_false, ldA_n, stA_n, cpA_n, bnd_s, bindP_s, Option.bind_some, gN_sI, gN_sA, gI_sA, gA_sI, gI_eq, gA_eq, gI_ne, gA_ne, sA_sA, sI_sI, if_pos, if_neg, ite_true, ite_false, eq_self, not_true_eq_false, not_false_eq_true, Nat.add_zero, NF_ap]
            rw [if_neg (fun z => z q3)]
        · simp (disch := omega) only [c_lt, c_ge, c_gt, c_le, c_eq, c_ne, c_lt0, c_ge0, c_le0, c_gt0, c_eq0, c_ne0, c_eqm, c_nem, c_m0, c_meq, c_mne, c_mlt, nI_add, pk_mul, Bool.cond_decide, cond_true, cond_false, ldA_n, stA_n, cpA_n, bnd_s, bindP_s, Option.bind_some, gN_sI, gN_sA, gI_sA, gA_sI, gI_eq, gA_eq, gI_ne, gA_ne, sA_sA, sI_sI, if_pos, if_neg, ite_true, ite_false, eq_self, not_true_eq_false, not_false_eq_true, Nat.add_zero, NF_ap]
          rw [if_neg (fun z => q3 z.2.2.2)]
      · simp (disch := omega) only [c_lt, c_ge, c_gt, c_le, c_eq, c_ne, c_lt0, c_ge0, c_le0, c_gt0, c_eq0, c_ne0, c_eqm, c_nem, c_m0, c_meq, c_mne, c_mlt, nI_add, pk_mul, Bool.cond_decide, cond_true, cond_false, ldA_n, stA_n, cpA_n, bnd_s, bindP_s, Option.bind_some, gN_sI, gN_sA, gI_sA, gA_sI, gI_eq, gA_eq, gI_ne, gA_ne, sA_sA, sI_sI, if_pos, if_neg, ite_true, ite_false, eq_self, not_true_eq_false, not_false_eq_true, Nat.add_zero, NF_ap]
    · simp (disch := omega) only [c_lt, c_ge, c_gt, c_le, c_eq, c_ne, c_lt0, c_ge0, c_le0, c_gt0, c_eq0, c_ne0, c_eqm, c_nem, c_m0, c_meq, c_mne, c_mlt, nI_add, pk_mul, Bool.cond_decide, cond_true, cond_false, ldA_n, stA_n, cpA_n, bnd_s, bindP_s, Option.bind_some, gN_sI, gN_sA, gI_sA, gA_sI, gI_eq, gA_eq, gI_ne, gA_ne, sA_sA, sI_sI, if_pos, if_neg, ite_true, ite_false, eq_self, not_true_eq_false, not_false_eq_true, Nat.add_zero, NF_ap]
  obtain ⟨f, hf⟩ : ∃ q, N = q + 5 := ⟨N - 5, by omega⟩
  have := key f
  rw [← hf] at this
  exact this
theorem a_store (h : CW s n c l) {j t : Nat} {D : Nat → Nat} (hN : 40 ≤ N) (hj : j < n) (ht : t ≤ 32) (hD : ∀ i, i < 32 → gA s 6 i = nI (D i)) (hB : ∀ i, i < 32 → D i < 256) : F_X4_store N s (nI j) (nI t) = some (sA (sA (sA s 0 (NF (stN c D j t))) 1 (NF (uN l j 0))) 2 (upd (gA s 2) j (nI (so (stN c D j t) (uN l j 0) j)))) ∧ CW (sA (sA s 0 (NF (stN c D j t))) 1 (NF (uN l j 0))) n (stN c D j t) (uN l j 0) := by
  have h1 := h.1
  have h2 := h.2.1
  have h5 := h.2.2.2.2.1
  have hst : ∀ t, t ≤ 32 → ∀ i, stN c D j t i < 256 := by
    intro t ht i
    unfold stN
    by_cases q : 32 * j ≤ i ∧ i < 32 * j + t
    · rw [if_pos q]; exact hB _ (by omega)
    · rw [if_neg q]; exact h.2.2.2.2.2.1 i
  have hul : ∀ i, uN l j 0 i ≤ 1 := by
    intro i
    unfold uN
    by_cases q : i = j
    · rw [if_pos q]; omega
    · rw [if_neg q]; exact h.2.2.2.2.2.2 i
  have hC : CW (sA (sA s 0 (NF (stN c D j t))) 1 (NF (uN l j 0))) n (stN c D j t) (uN l j 0) := by
    unfold CW
    simp (disch := omega) only [c_lt, c_ge, c_gt, c_le, c_eq, c_ne, c_lt0, c_ge0, c_le0, c_gt0, c_eq0, c_ne0, c_eqm, c_nem, c_m0, c_meq, c_mne, c_mlt, nI_add, pk_mul, Bool.cond_decide, cond_true, cond_false, ldA_n, stA_n, cpA_n, bnd_s, bindP_s, Option.bind_some, gN_sI, gN_sA, gI_sA, gA_sI, gI_eq, gA_eq, gI_ne, gA_ne, sA_sA, sI_sI, if_pos, if_neg, ite_true, ite_false, eq_self, not_true_eq_false, not_false_eq_true, Nat.add_zero, NF_ap]
    exact ⟨h1, h2, h.2.2.1, trivial, trivial, hst t ht, hul⟩
  refine ⟨?_, hC⟩
  unfold F_X4_store
  rw [a_hasT h hj]
  simp (disch := omega) only [c_lt, c_ge, c_gt, c_le, c_eq, c_ne, c_lt0, c_ge0, c_le0, c_gt0, c_eq0, c_ne0, c_eqm, c_nem, c_m0, c_meq, c_mne, c_mlt, nI_add, pk_mul, Bool.cond_decide, cond_true, cond_false, ldA_n, stA_n, cpA_n, bnd_s, bindP_s, Option.bind_some, gN_sI, gN_sA, gI_sA, gA_sI, gI_eq, gA_eq, gI_ne, gA_ne, sA_sA, sI_sI, if_pos, if_neg, ite_true, ite_false, eq_self, not_true_eq_false, not_false_eq_true, Nat.add_zero, NF_ap]
  have key : ∀ m i f, i + m = t → m < f → F_X4_store_12 N f (sA s 0 (NF (stN c D j i))) (nI j) (nI t) (nI i) = some (sA (sA (sA s 0 (NF (stN c D j t))) 1 (NF (uN l j 0))) 2 (upd (gA s 2) j (nI (so (stN c D j t) (uN l j 0) j)))) := by
    intro m
    induction m with
    | zero =>
      intro i f e1 e2
      obtain ⟨f, rfl⟩ : ∃ q, f = q + 1 := ⟨f - 1, by omega⟩
      obtain rfl : i = t := by omega
      rw [F_X4_store_12.eq_2]
      simp (disch := omega) only [c_lt, c_ge, c_gt, c_le, c_eq, c_ne, c_lt0, c_ge0, c_le0, c_gt0, c_eq0, c_ne0, c_eqm, c_nem, c_m0, c_meq, c_mne, c_mlt, nI_add, pk_mul, Bool.cond_decide, cond_true, cond_false, ldA_n, stA_n, cpA_n, bnd_s, bindP_s, Option.bind_some, gN_sI, gN_sA, gI_sA, gA_sI, gI_eq, gA_eq, gI_ne, gA_ne, sA_sA, sI_sI, if_pos, if_neg, ite_true, ite_false, eq_self, not_true_eq_false, not_false_eq_true, Nat.add_zero, NF_ap, h1, h5, nar0, upd_NF]
      rw [a_judge hC hN hj]
      simp (disch := omega) only [c_lt, c_ge, c_gt, c_le, c_eq, c_ne, c_lt0, c_ge0, c_le0, c_gt0, c_eq0, c_ne0, c_eqm, c_nem, c_m0, c_meq, c_mne, c_mlt, nI_add, pk_mul, Bool.cond_decide, cond_true, cond_false, ldA_n, stA_n, cpA_n, bnd_s, bindP_s, Option.bind_some, gN_sI, gN_sA, gI_sA, gA_sI, gI_eq, gA_eq, gI_ne, gA_ne, sA_sA, sI_sI, if_pos, if_neg, ite_true, ite_false, eq_self, not_true_eq_false, not_false_eq_true, Nat.add_zero, NF_ap]
    | succ m ih =>
      intro i f e1 e2
      obtain ⟨f, rfl⟩ : ∃ q, f = q + 1 := ⟨f - 1, by omega⟩
      rw [F_X4_store_12.eq_2]
      simp (disch := omega) only [c_lt, c_ge, c_gt, c_le, c_eq, c_ne, c_lt0, c_ge0, c_le0, c_gt0, c_eq0, c_ne0, c_eqm, c_nem, c_m0, c_meq, c_mne, c_mlt, nI_add, pk_mul, Bool.cond_decide, cond_true, cond_false, ldA_n, stA_n, cpA_n, bnd_s, bindP_s, Option.bind_some, gN_sI, gN_sA, gI_sA, gA_sI, gI_eq, gA_eq, gI_ne, gA_ne, sA_sA, sI_sI, if_pos, if_neg, ite_true, ite_false, eq_self, not_true_eq_false, not_false_eq_true, Nat.add_zero, NF_ap, h1]
      unfold F_X0_cell
      simp (disch := omega) only [c_lt, c_ge, c_gt, c_le, c_eq, c_ne, c_lt0, c_ge0, c_le0, c_gt0, c_eq0, c_ne0, c_eqm, c_nem, c_m0, c_meq, c_mne, c_mlt, nI_add, pk_mul, Bool.cond_decide, cond_true, cond_false, ldA_n, stA_n, cpA_n, bnd_s, bindP_s, Option.bind_some, gN_sI, gN_sA, gI_sA, gA_sI, gI_eq, gA_eq, gI_ne, gA_ne, sA_sA, sI_sI, if_pos, if_neg, ite_true, ite_false, eq_self, not_true_eq_false, not_false_eq_true, Nat.add_zero, NF_ap, hD i]
      rw [upd_NF, Nat.mul_comm j 32, stN_s]
      exact ih (i + 1) f (by omega) (by omega)
  have := key t 0 N (by omega) (by omega)
  rw [stN_0, ← h.2.2.2.1, sA_id] at this
  exact this
/-- after a store of sector j the sorts are those of the new cells -/
theorem so_st {c D l : Nat → Nat} {j t k : Nat} (ht : t ≤ 32) (hk : k ≠ j) : so (stN c D j t) (uN l j 0) k = so c l k := by
  apply so_cg
  · intro i hi
    unfold stN
    rw [if_neg (by omega)]
  · unfold uN
    rw [if_neg hk]
theorem CV_store (h : CV s n c l x) {j t : Nat} {D : Nat → Nat} (hj : j < n) (ht : t ≤ 32) (hC : CW (sA (sA s 0 (NF (stN c D j t))) 1 (NF (uN l j 0))) n (stN c D j t) (uN l j 0)) : CV (sA (sA (sA s 0 (NF (stN c D j t))) 1 (NF (uN l j 0))) 2 (upd (gA s 2) j (nI (so (stN c D j t) (uN l j 0) j)))) n (stN c D j t) (uN l j 0) x := by
  obtain ⟨h1, h2, h3, h4, h5, h6, h7, h8, h9, h10, h11⟩ := h
  unfold CV
  simp (disch := omega) only [c_lt, c_ge, c_gt, c_le, c_eq, c_ne, c_lt0, c_ge0, c_le0, c_gt0, c_eq0, c_ne0, c_eqm, c_nem, c_m0, c_meq, c_mne, c_mlt, nI_add, pk_mul, Bool.cond_decide, cond_true, cond_false, ldA_n, stA_n, cpA_n, bnd_s, bindP_s, Option.bind_some, gN_sI, gN_sA, gI_sA, gA_sI, gI_eq, gA_eq, gI_ne, gA_ne, sA_sA, sI_sI, if_pos, if_neg, ite_true, ite_false, eq_self, not_true_eq_false, not_false_eq_true, Nat.add_zero, NF_ap]
  refine ⟨h1, h2, h3, trivial, trivial, ?_, h7, h8, h9, hC.2.2.2.2.2.1, hC.2.2.2.2.2.2⟩
  intro k hk
  by_cases q : k = j
  · subst q; exact pk_us
  · rw [pk_un q, h6 k hk, so_st ht q]
theorem a_note (h : CV s n c l x) {j w : Nat} (hj : j < n) (hw : w < 60) (h8 : gI s 8 = nI w) : F_X3_note s (nI j) = some (sI (sA (sA (sA s 3 (upd (gA s 3) w (nI j))) 5 (upd (gA s 5) w (nI (l j)))) 4 (va_cpy (NF c) (gA s 4) (32 * j) (32 * w) 32)) 8 (nI (w + 1))) := by
  unfold F_X3_note
  have hb := h.n60
  have h1 := h.1
  have h4 := h.2.2.2.1
  have hl := h.w.2.2.2.2.2.2 j
  simp (disch := omega) only [c_lt, c_ge, c_gt, c_le, c_eq, c_ne, c_lt0, c_ge0, c_le0, c_gt0, c_eq0, c_ne0, c_eqm, c_nem, c_m0, c_meq, c_mne, c_mlt, nI_add, pk_mul, Bool.cond_decide, cond_true, cond_false, ldA_n, stA_n, cpA_n, bnd_s, bindP_s, Option.bind_some, gN_sI, gN_sA, gI_sA, gA_sI, gI_eq, gA_eq, gI_ne, gA_ne, sA_sA, sI_sI, if_pos, if_neg, ite_true, ite_false, eq_self, not_true_eq_false, not_false_eq_true, Nat.add_zero, NF_ap, h8]
  rw [a_isLost (CW_sA h.w (by omega) _) hj]
  simp (disch := omega) only [c_lt, c_ge, c_gt, c_le, c_eq, c_ne, c_lt0, c_ge0, c_le0, c_gt0, c_eq0, c_ne0, c_eqm, c_nem, c_m0, c_meq, c_mne, c_mlt, nI_add, pk_mul, Bool.cond_decide, cond_true, cond_false, ldA_n, stA_n, cpA_n, bnd_s, bindP_s, Option.bind_some, gN_sI, gN_sA, gI_sA, gA_sI, gI_eq, gA_eq, gI_ne, gA_ne, sA_sA, sI_sI, if_pos, if_neg, ite_true, ite_false, eq_self, not_true_eq_false, not_false_eq_true, Nat.add_zero, NF_ap, h8, nar_b hl]
  unfold F_X4_copyTo
  rw [a_hasT (CW_sA (CW_sA h.w (by omega) _) (by omega) _) hj, pk_sub (by omega)]
  simp (disch := omega) only [c_lt, c_ge, c_gt, c_le, c_eq, c_ne, c_lt0, c_ge0, c_le0, c_gt0, c_eq0, c_ne0, c_eqm, c_nem, c_m0, c_meq, c_mne, c_mlt, nI_add, pk_mul, Bool.cond_decide, cond_true, cond_false, ldA_n, stA_n, cpA_n, bnd_s, bindP_s, Option.bind_some, gN_sI, gN_sA, gI_sA, gA_sI, gI_eq, gA_eq, gI_ne, gA_ne, sA_sA, sI_sI, if_pos, if_neg, ite_true, ite_false, eq_self, not_true_eq_false, not_false_eq_true, Nat.add_zero, NF_ap, h8, h1, h4]
  rw [Nat.mul_comm j 32, Nat.mul_comm w 32]
end CS
