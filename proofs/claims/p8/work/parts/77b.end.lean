/-! end, its last part -/
section EN
variable {d m : St} {n x p N : Nat} {c l : Nat → Nat}
theorem u_end2 {kp len : Nat} {o : Nat → Nat} (h : MR d m n c l x p kp len o) (hN : 100 ≤ N) (hx : x < n) (hp : p < 60) {B : Nat} (hB : B ≤ 4) {pl : Nat → Nat} (hpl : ∀ q, q < B → gA d 12 q = nI (pl q) ∧ gA m 7 q = nI (pl q)) (hp8 : ∀ q, pl q < 256) : ∃ v d' m', ((F_X0_begin N d (nI 3) (gI d 4) (gI d 2) (gI d 5)).bind fun s1 => F_X5_end_71 N N s1 (nI B) (nI 0)) = some (v, d') ∧ ((F_X6_begin N m (nI 3) (gI m 7) (gI m 3) (gI m 8)).bind fun s1 => F_X6_end_82 N N s1 (nI B) (nI 0)) = some (v, m') ∧ RR n d' m' := by
  obtain ⟨hc, hm, hg, o1, o2, jj, hr⟩ := h
  have hn := hc.n60
  obtain ⟨r1, r2, r3, r4, r5, r6, r7, r8, r9, r10⟩ := hr
  obtain ⟨g1, g2, g3, g4, g5, g6⟩ := hg
  have hh8 : ∀ i, i < 24 → ct pl 0 B i < 256 := fun i _ => ct_lt hp8 _ _ _
  obtain ⟨d1, hd1⟩ : ∃ q, q = sA d 6 (dF (gA d 6) 3 kp p len (ct pl 0 B)) := ⟨_, rfl⟩
  obtain ⟨m1, hm1⟩ : ∃ q, q = sA m 6 (dF (gA m 6) 3 kp p len (ct pl 0 B)) := ⟨_, rfl⟩
  have cd1 : CV d1 n c l x := by rw [hd1]; exact CV_sA hc (by decide) _
  have cm1 : MV m1 n c l x := by rw [hm1]; exact MV_sA hm (by decide) _
  have ad6 : gA d1 6 = dF (gA d 6) 3 kp p len (ct pl 0 B) := by rw [hd1]; exact gA_eq
  have am6 : gA m1 6 = dF (gA m 6) 3 kp p len (ct pl 0 B) := by rw [hm1]; exact gA_eq
  have id1 : gI d1 = gI d := by rw [hd1]; rfl
  have im1 : gI m1 = gI m := by rw [hm1]; rfl
  have xd1 : ∀ k, k ≠ 6 → gA d1 k = gA d k := by intro k hk; rw [hd1]; exact gA_ne hk
  have xm1 : ∀ k, k ≠ 6 → gA m1 k = gA m k := by intro k hk; rw [hm1]; exact gA_ne hk
  have jj1 : JJ d1 m1 n x := JJ_g jj (Nat.le_refl x) (by rw [id1]) (by rw [im1]) (xd1 3 (by decide)) (xd1 4 (by decide)) (xd1 5 (by decide)) (xm1 3 (by decide)) (xm1 4 (by decide)) (xm1 5 (by decide))
  obtain ⟨d2, m2, c2, l2, w1, w2, w3, w4, w5, w6, w7, w8, w9, -⟩ := u_wr cd1 cm1 jj1 hN hx ad6 am6 (by decide) (by omega) (by omega) (by omega) hh8
  have k1 : ∀ a k f, k + a = B → a < f → F_X5_end_71 N f (sA d 6 (dF (gA d 6) 3 kp p len (ct pl 0 k))) (nI B) (nI k) = some (nI p, sI (sI d2 5 (-nI 1)) 2 (nI (p + 1))) := by
    intro a
    induction a with
    | zero =>
      intro k f e1 e2
      obtain ⟨f, rfl⟩ : ∃ q, f = q + 1 := ⟨f - 1, by omega⟩
      obtain rfl : k = B := by omega
      rw [F_X5_end_71.eq_2, ← hd1]
      simp (disch := omega) only [c_lt, c_ge, c_gt, c_le, c_eq, c_ne, c_lt0, c_ge0, c_le0, c_gt0, c_eq0, c_ne0, c_eqm, c_nem, c_m0, c_meq, c_mne, c_mlt, nI_add, pk_mul, Bool.cond_decide, cond_true, cond_false, ldA_n, stA_n, cpA_n, bnd_s, bindP_s, Option.bind_some, gN_sI, gN_sA, gI_sA, gA_sI, gI_eq, gA_eq, gI_ne, gA_ne, sA_sA, sI_sI, if_pos, if_neg, ite_true, ite_false, eq_self, not_true_eq_false, not_false_eq_true, Nat.add_zero, NF_ap, w1, w6 2 (by decide) (by decide), id1, g1]
      rw [pk_sub (by omega), Nat.add_sub_cancel]
    | succ a ih =>
      intro k f e1 e2
      obtain ⟨f, rfl⟩ : ∃ q, f = q + 1 := ⟨f - 1, by omega⟩
      rw [F_X5_end_71.eq_2]
      simp (disch := omega) only [c_lt, c_ge, c_gt, c_le, c_eq, c_ne, c_lt0, c_ge0, c_le0, c_gt0, c_eq0, c_ne0, c_eqm, c_nem, c_m0, c_meq, c_mne, c_mlt, nI_add, pk_mul, Bool.cond_decide, cond_true, cond_false, ldA_n, stA_n, cpA_n, bnd_s, bindP_s, Option.bind_some, gN_sI, gN_sA, gI_sA, gA_sI, gI_eq, gA_eq, gI_ne, gA_ne, sA_sA, sI_sI, if_pos, if_neg, ite_true, ite_false, eq_self, not_true_eq_false, not_false_eq_true, Nat.add_zero, NF_ap]
      have hs := ct_s pl 0 k
      rw [Nat.zero_add] at hs
      rw [(hpl k (by omega)).1, a_setC (by omega) (hp8 k), Option.bind_some, hs]
      exact ih (k + 1) f (by omega) (by omega)
  have k2 : ∀ a k f, k + a = B → a < f → F_X6_end_82 N f (sA m 6 (dF (gA m 6) 3 kp p len (ct pl 0 k))) (nI B) (nI k) = some (nI p, sI (sI m2 7 (-nI 1)) 3 (nI (p + 1))) := by
    intro a
    induction a with
    | zero =>
      intro k f e1 e2
      obtain ⟨f, rfl⟩ : ∃ q, f = q + 1 := ⟨f - 1, by omega⟩
      obtain rfl : k = B := by omega
      rw [F_X6_end_82.eq_2, ← hm1]
      simp (disch := omega) only [c_lt, c_ge, c_gt, c_le, c_eq, c_ne, c_lt0, c_ge0, c_le0, c_gt0, c_eq0, c_ne0, c_eqm, c_nem, c_m0, c_meq, c_mne, c_mlt, nI_add, pk_mul, Bool.cond_decide, cond_true, cond_false, ldA_n, stA_n, cpA_n, bnd_s, bindP_s, Option.bind_some, gN_sI, gN_sA, gI_sA, gA_sI, gI_eq, gA_eq, gI_ne, gA_ne, sA_sA, sI_sI, if_pos, if_neg, ite_true, ite_false, eq_self, not_true_eq_false, not_false_eq_true, Nat.add_zero, NF_ap, w2, w7 3 (by decide) (by decide), im1, g2]
      rw [pk_sub (by omega), Nat.add_sub_cancel]
    | succ a ih =>
      intro k f e1 e2
      obtain ⟨f, rfl⟩ : ∃ q, f = q + 1 := ⟨f - 1, by omega⟩
      rw [F_X6_end_82.eq_2]
      simp (disch := omega) only [c_lt, c_ge, c_gt, c_le, c_eq, c_ne, c_lt0, c_ge0, c_le0, c_gt0, c_eq0, c_ne0, c_eqm, c_nem, c_m0, c_meq, c_mne, c_mlt, nI_add, pk_mul, Bool.cond_decide, cond_true, cond_false, ldA_n, stA_n, cpA_n, bnd_s, bindP_s, Option.bind_some, gN_sI, gN_sA, gI_sA, gA_sI, gI_eq, gA_eq, gI_ne, gA_ne, sA_sA, sI_sI, if_pos, if_neg, ite_true, ite_false, eq_self, not_true_eq_false, not_false_eq_true, Nat.add_zero, NF_ap]
      have hs := ct_s pl 0 k
      rw [Nat.zero_add] at hs
      rw [(hpl k (by omega)).2, dF_set (by omega), hs]
      exact ih (k + 1) f (by omega) (by omega)
  refine ⟨nI p, sI (sI d2 5 (-nI 1)) 2 (nI (p + 1)), sI (sI m2 7 (-nI 1)) 3 (nI (p + 1)), ?_, ?_, ⟨c2, l2, x + 1, p + 1, ?_, ?_, ?_, ?_⟩⟩
  · rw [r3, g1, r5, a_begin (by omega), Option.bind_some, ← ct_0 pl 0]
    exact k1 B 0 N (by omega) (by omega)
  · rw [r4, g2, r6, b_begin (by omega), Option.bind_some, ← ct_0 pl 0]
    exact k2 B 0 N (by omega) (by omega)
  · exact CV_sI (CV_sI w3 (by decide) _) (by decide) _
  · exact MV_sI (MV_sI w4 (by decide) _) (by decide) _
  · unfold GG
    simp (disch := omega) only [c_lt, c_ge, c_gt, c_le, c_eq, c_ne, c_lt0, c_ge0, c_le0, c_gt0, c_eq0, c_ne0, c_eqm, c_nem, c_m0, c_meq, c_mne, c_mlt, nI_add, pk_mul, Bool.cond_decide, cond_true, cond_false, ldA_n, stA_n, cpA_n, bnd_s, bindP_s, Option.bind_some, gN_sI, gN_sA, gI_sA, gA_sI, gI_eq, gA_eq, gI_ne, gA_ne, sA_sA, sI_sI, if_pos, if_neg, ite_true, ite_false, eq_self, not_true_eq_false, not_false_eq_true, Nat.add_zero, NF_ap, w6, w7, id1, im1]
    exact ⟨trivial, trivial, by omega, g4, g5, g6⟩
  · refine Or.inl ⟨?_, ?_, ?_, Or.inl ⟨?_, ?_⟩⟩
    · simp (disch := omega) only [c_lt, c_ge, c_gt, c_le, c_eq, c_ne, c_lt0, c_ge0, c_le0, c_gt0, c_eq0, c_ne0, c_eqm, c_nem, c_m0, c_meq, c_mne, c_mlt, nI_add, pk_mul, Bool.cond_decide, cond_true, cond_false, ldA_n, stA_n, cpA_n, bnd_s, bindP_s, Option.bind_some, gN_sI, gN_sA, gI_sA, gA_sI, gI_eq, gA_eq, gI_ne, gA_ne, sA_sA, sI_sI, if_pos, if_neg, ite_true, ite_false, eq_self, not_true_eq_false, not_false_eq_true, Nat.add_zero, NF_ap, w6, id1]
      exact o1
    · simp (disch := omega) only [c_lt, c_ge, c_gt, c_le, c_eq, c_ne, c_lt0, c_ge0, c_le0, c_gt0, c_eq0, c_ne0, c_eqm, c_nem, c_m0, c_meq, c_mne, c_mlt, nI_add, pk_mul, Bool.cond_decide, cond_true, cond_false, ldA_n, stA_n, cpA_n, bnd_s, bindP_s, Option.bind_some, gN_sI, gN_sA, gI_sA, gA_sI, gI_eq, gA_eq, gI_ne, gA_ne, sA_sA, sI_sI, if_pos, if_neg, ite_true, ite_false, eq_self, not_true_eq_false, not_false_eq_true, Nat.add_zero, NF_ap, w7, im1]
      exact o2
    · exact JJ_g w5 (Nat.le_refl _) (by simp (disch := omega) only [c_lt, c_ge, c_gt, c_le, c_eq, c_ne, c_lt0, c_ge0, c_le0, c_gt0, c_eq0, c_ne0, c_eqm, c_nem, c_m0, c_meq, c_mne, c_mlt, nI_add, pk_mul, Bool.cond_decide, cond_true, cond_false, ldA_n, stA_n, cpA_n, bnd_s, bindP_s, Option.bind_some, gN_sI, gN_sA, gI_sA, gA_sI, gI_eq, gA_eq, gI_ne, gA_ne, sA_sA, sI_sI, if_pos, if_neg, ite_true, ite_false, eq_self, not_true_eq_false, not_false_eq_true, Nat.add_zero, NF_ap]) (by simp (disch := omega) only [c_lt, c_ge, c_gt, c_le, c_eq, c_ne, c_lt0, c_ge0, c_le0, c_gt0, c_eq0, c_ne0, c_eqm, c_nem, c_m0, c_meq, c_mne, c_mlt, nI_add, pk_mul, Bool.cond_decide, cond_true, cond_false, ldA_n, stA_n, cpA_n, bnd_s, bindP_s, Option.bind_some, gN_sI, gN_sA, gI_sA, gA_sI, gI_eq, gA_eq, gI_ne, gA_ne, sA_sA, sI_sI, if_pos, if_neg, ite_true, ite_false, eq_self, not_true_eq_false, not_false_eq_true, Nat.add_zero, NF_ap]) rfl rfl rfl rfl rfl rfl
    · simp (disch := omega) only [c_lt, c_ge, c_gt, c_le, c_eq, c_ne, c_lt0, c_ge0, c_le0, c_gt0, c_eq0, c_ne0, c_eqm, c_nem, c_m0, c_meq, c_mne, c_mlt, nI_add, pk_mul, Bool.cond_decide, cond_true, cond_false, ldA_n, stA_n, cpA_n, bnd_s, bindP_s, Option.bind_some, gN_sI, gN_sA, gI_sA, gA_sI, gI_eq, gA_eq, gI_ne, gA_ne, sA_sA, sI_sI, if_pos, if_neg, ite_true, ite_false, eq_self, not_true_eq_false, not_false_eq_true, Nat.add_zero, NF_ap]
    · simp (disch := omega) only [c_lt, c_ge, c_gt, c_le, c_eq, c_ne, c_lt0, c_ge0, c_le0, c_gt0, c_eq0, c_ne0, c_eqm, c_nem, c_m0, c_meq, c_mne, c_mlt, nI_add, pk_mul, Bool.cond_decide, cond_true, cond_false, ldA_n, stA_n, cpA_n, bnd_s, bindP_s, Option.bind_some, gN_sI, gN_sA, gI_sA, gA_sI, gI_eq, gA_eq, gI_ne, gA_ne, sA_sA, sI_sI, if_pos, if_neg, ite_true, ite_false, eq_self, not_true_eq_false, not_false_eq_true, Nat.add_zero, NF_ap]
theorem u_end (h : Rel d m n c l x p) (hN : 100 ≤ N) : ∃ v d' m', F_X5_end N d = some (v, d') ∧ F_X6_end N m = some (v, m') ∧ RR n d' m' := by
  have h' := Rel_0 h (nI 0)
  obtain ⟨m', hm'⟩ : ∃ q, q = sI m 0 (nI 0) := ⟨_, rfl⟩
  rw [← hm'] at h'
  have h0 := h'
  obtain ⟨hc, hm, hg, hp⟩ := h'
  have h2 := hc.n60
  have same : ∀ {A B : Option (Int32 × St)} (v : Int32), A = some (v, d) → B = some (v, m') → ∃ v d' m', A = some (v, d') ∧ B = some (v, m') ∧ RR n d' m' := fun v e1 e2 => ⟨v, d, _, e1, e2, ⟨c, l, x, p, h0⟩⟩
  unfold F_X5_end F_X6_end
  rw [bnd_s, ← hm']
  rcases hp with ⟨o1, o2, jj, oo⟩ | ⟨o1, o2, -⟩
  rotate_left
  · refine same (-nI 3) ?_ ?_
    · rw [o1]
      simp (disch := omega) only [c_lt, c_ge, c_gt, c_le, c_eq, c_ne, c_lt0, c_ge0, c_le0, c_gt0, c_eq0, c_ne0, c_eqm, c_nem, c_m0, c_meq, c_mne, c_mlt, nI_add, pk_mul, Bool.cond_decide, cond_true, cond_false, ldA_n, stA_n, cpA_n, bnd_s, bindP_s, Option.bind_some, gN_sI, gN_sA, gI_sA, gA_sI, gI_eq, gA_eq, gI_ne, gA_ne, sA_sA, sI_sI, if_pos, if_neg, ite_true, ite_false, eq_self, not_true_eq_false, not_false_eq_true, Nat.add_zero, NF_ap]
    · rw [o2]
      simp (disch := omega) only [c_lt, c_ge, c_gt, c_le, c_eq, c_ne, c_lt0, c_ge0, c_le0, c_gt0, c_eq0, c_ne0, c_eqm, c_nem, c_m0, c_meq, c_mne, c_mlt, nI_add, pk_mul, Bool.cond_decide, cond_true, cond_false, ldA_n, stA_n, cpA_n, bnd_s, bindP_s, Option.bind_some, gN_sI, gN_sA, gI_sA, gA_sI, gI_eq, gA_eq, gI_ne, gA_ne, sA_sA, sI_sI, if_pos, if_neg, ite_true, ite_false, eq_self, not_true_eq_false, not_false_eq_true, Nat.add_zero, NF_ap]
  unfold F_X5_isOpen
  rw [o1, o2]
  rcases oo with ⟨i1, i2⟩ | ⟨hx5, hp60, kp, len, o, hr⟩
  · refine same (-nI 3) ?_ ?_
    · rw [i1]
      simp (disch := omega) only [c_lt, c_ge, c_gt, c_le, c_eq, c_ne, c_lt0, c_ge0, c_le0, c_gt0, c_eq0, c_ne0, c_eqm, c_nem, c_m0, c_meq, c_mne, c_mlt, nI_add, pk_mul, Bool.cond_decide, cond_true, cond_false, ldA_n, stA_n, cpA_n, bnd_s, bindP_s, Option.bind_some, gN_sI, gN_sA, gI_sA, gA_sI, gI_eq, gA_eq, gI_ne, gA_ne, sA_sA, sI_sI, if_pos, if_neg, ite_true, ite_false, eq_self, not_true_eq_false, not_false_eq_true, Nat.add_zero, NF_ap]
    · rw [i2]
      simp (disch := omega) only [c_lt, c_ge, c_gt, c_le, c_eq, c_ne, c_lt0, c_ge0, c_le0, c_gt0, c_eq0, c_ne0, c_eqm, c_nem, c_m0, c_meq, c_mne, c_mlt, nI_add, pk_mul, Bool.cond_decide, cond_true, cond_false, ldA_n, stA_n, cpA_n, bnd_s, bindP_s, Option.bind_some, gN_sI, gN_sA, gI_sA, gA_sI, gI_eq, gA_eq, gI_ne, gA_ne, sA_sA, sI_sI, if_pos, if_neg, ite_true, ite_false, eq_self, not_true_eq_false, not_false_eq_true, Nat.add_zero, NF_ap]
  have hr0 := hr
  obtain ⟨r1, r2, r3, r4, r5, r6, -⟩ := hr
  have hB := nbk_le len
  have key : ∀ a k f f' d m c l y (pl : Nat → Nat), MR d m n c l y p kp len o → k + a = nbk len → y ≤ x + k → a < f → a < f' → (∀ q, q < k → gA d 12 q = nI (pl q) ∧ gA m 7 q = nI (pl q)) → (∀ q, pl q < 256) → ∃ v d' m', F_X5_end_27 N f d (nI (nbk len)) (nI k) = some (v, d') ∧ F_X6_end_38 N f' m (nI (nbk len)) (nI k) = some (v, m') ∧ RR n d' m' := by
    intro a
    induction a with
    | zero =>
      intro k f f' d m c l y pl hR e1 e2 e3 e4 hpl hp8
      obtain ⟨f, rfl⟩ : ∃ q, f = q + 1 := ⟨f - 1, by omega⟩
      obtain ⟨f', rfl⟩ : ∃ q, f' = q + 1 := ⟨f' - 1, by omega⟩
      rw [F_X5_end_27.eq_2, F_X6_end_38.eq_2]
      rw [c_ge (by omega) (by omega), decide_eq_true (show nbk len ≤ k by omega), cond_true, cond_true]
      exact u_end2 hR hN (by omega) hp60 hB (fun q hq => hpl q (by omega)) hp8
    | succ a ih =>
      intro k f f' d m c l y pl hR e1 e2 e3 e4 hpl hp8
      obtain ⟨f, rfl⟩ : ∃ q, f = q + 1 := ⟨f - 1, by omega⟩
      obtain ⟨f', rfl⟩ : ∃ q, f' = q + 1 := ⟨f' - 1, by omega⟩
      obtain ⟨v, d1, m1, c1, l1, x1, w1, w2, w3, w4, w5, w6, w7⟩ := u_place hR hN (k := k) (by omega) (by omega)
      rw [F_X5_end_27.eq_2, F_X6_end_38.eq_2, w1]
      rw [c_ge (by omega) (by omega), decide_eq_false (show ¬ nbk len ≤ k by omega), cond_false, cond_false, pk_mul, w2, bindP_s, bindP_s, stA_n (by omega) (by decide), stA_n (by omega) (by decide), nI_add]
      refine ih (k + 1) f f' _ _ c1 l1 x1 (uN pl k v) ?_ (by omega) (by omega) (by omega) (by omega) ?_ ?_
      · obtain ⟨z1, z2, z3, z4, z5, z6, z7⟩ := w4
        refine ⟨CV_sA z1 (by decide) _, MV_sA z2 (by decide) _, z3, z4, z5, ?_, ?_⟩
        · exact JJ_g z6 (Nat.le_refl _) rfl rfl (gA_ne (by decide)) (gA_ne (by decide)) (gA_ne (by decide)) (gA_ne (by decide)) (gA_ne (by decide)) (gA_ne (by decide))
        · exact OR_g z7 rfl rfl rfl rfl (gA_ne (by decide)) (gA_ne (by decide))
      · intro q hq
        rw [gA_eq, gA_eq, w6, w7]
        unfold upd uN
        by_cases q3 : q = k
        · rw [if_pos q3, if_pos q3, if_pos q3]; exact ⟨rfl, rfl⟩
        · rw [if_neg q3, if_neg q3, if_neg q3]; exact hpl q (by omega)
      · intro q
        unfold uN
        by_cases q3 : q = k
        · rw [if_pos q3]; omega
        · rw [if_neg q3]; exact hp8 q
  obtain ⟨v, d1, m1, e1, e2, e3⟩ := key (nbk len) 0 N N d m' c l x (fun _ => 0) ⟨hc, hm, hg, o1, o2, jj, hr0⟩ (by omega) (by omega) (by omega) (by omega) (fun q hq => by omega) (fun _ => by omega)
  refine ⟨v, d1, m1, ?_, ?_, e3⟩
  · rw [r5, a_bfl (by omega)]
    simp (disch := omega) only [c_lt, c_ge, c_gt, c_le, c_eq, c_ne, c_lt0, c_ge0, c_le0, c_gt0, c_eq0, c_ne0, c_eqm, c_nem, c_m0, c_meq, c_mne, c_mlt, nI_add, pk_mul, Bool.cond_decide, cond_true, cond_false, ldA_n, stA_n, cpA_n, bnd_s, bindP_s, Option.bind_some, gN_sI, gN_sA, gI_sA, gA_sI, gI_eq, gA_eq, gI_ne, gA_ne, sA_sA, sI_sI, if_pos, if_neg, ite_true, ite_false, eq_self, not_true_eq_false, not_false_eq_true, Nat.add_zero, NF_ap]
    exact e1
  · rw [r4, r6, nI_add, pk_sub (by omega), pk_div (by omega) (by decide) (by decide), show len + 24 - 1 = len + 23 by omega, ← nbk_96 r2]
    simp (disch := omega) only [c_lt, c_ge, c_gt, c_le, c_eq, c_ne, c_lt0, c_ge0, c_le0, c_gt0, c_eq0, c_ne0, c_eqm, c_nem, c_m0, c_meq, c_mne, c_mlt, nI_add, pk_mul, Bool.cond_decide, cond_true, cond_false, ldA_n, stA_n, cpA_n, bnd_s, bindP_s, Option.bind_some, gN_sI, gN_sA, gI_sA, gA_sI, gI_eq, gA_eq, gI_ne, gA_ne, sA_sA, sI_sI, if_pos, if_neg, ite_true, ite_false, eq_self, not_true_eq_false, not_false_eq_true, Nat.add_zero, NF_ap]
    exact e2
end EN
