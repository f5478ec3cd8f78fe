/-! cut -/
section CU
variable {d m : St} {n x p N : Nat} {c l : Nat → Nat}
/-- the power goes: what is left of the relation -/
theorem RR_off {d' m' : St} {c' l' : Nat → Nat} (hc : CV d' n c' l' x) (hm : MV m' n c' l' x) (hg : GG d m p) (hd : gI d' = gI d) (hmi : ∀ k, k ≠ 9 → gI m' k = gI m k) : RR n (sI (sI d' 5 (-nI 1)) 0 (nI 0)) (sI (sI (sI m' 9 (nI 0)) 7 (-nI 1)) 1 (nI 0)) := by
  refine ⟨c', l', x, p, CV_sI (CV_sI hc (by decide) _) (by decide) _, MV_sI (MV_sI (MV_sI hm (by decide) _) (by decide) _) (by decide) _, ?_, Or.inr ⟨?_, ?_, ?_, ?_, ?_⟩⟩
  · refine GG_g hg ?_ ?_ ?_ ?_ ?_ ?_ ?_ ?_
    · simp (disch := omega) only [c_lt, c_ge, c_gt, c_le, c_eq, c_ne, c_lt0, c_ge0, c_le0, c_gt0, c_eq0, c_ne0, c_eqm, c_nem, c_m0, c_meq, c_mne, c_mlt, nI_add, pk_mul, Bool.cond_decide, cond_true, cond_false, ldA_n, stA_n, cpA_n, bnd_s, bindP_s, Option.bind_some, gN_sI, gN_sA, gI_sA, gA_sI, gI_eq, gA_eq, gI_ne, gA_ne, sA_sA, sI_sI, if_pos, if_neg, ite_true, ite_false, eq_self, not_true_eq_false, not_false_eq_true, Nat.add_zero, NF_ap, hd]
    · simp (disch := omega) only [c_lt, c_ge, c_gt, c_le, c_eq, c_ne, c_lt0, c_ge0, c_le0, c_gt0, c_eq0, c_ne0, c_eqm, c_nem, c_m0, c_meq, c_mne, c_mlt, nI_add, pk_mul, Bool.cond_decide, cond_true, cond_false, ldA_n, stA_n, cpA_n, bnd_s, bindP_s, Option.bind_some, gN_sI, gN_sA, gI_sA, gA_sI, gI_eq, gA_eq, gI_ne, gA_ne, sA_sA, sI_sI, if_pos, if_neg, ite_true, ite_false, eq_self, not_true_eq_false, not_false_eq_true, Nat.add_zero, NF_ap, hd]
    · simp (disch := omega) only [c_lt, c_ge, c_gt, c_le, c_eq, c_ne, c_lt0, c_ge0, c_le0, c_gt0, c_eq0, c_ne0, c_eqm, c_nem, c_m0, c_meq, c_mne, c_mlt, nI_add, pk_mul, Bool.cond_decide, cond_true, cond_false, ldA_n, stA_n, cpA_n, bnd_s, bindP_s, Option.bind_some, gN_sI, gN_sA, gI_sA, gA_sI, gI_eq, gA_eq, gI_ne, gA_ne, sA_sA, sI_sI, if_pos, if_neg, ite_true, ite_false, eq_self, not_true_eq_false, not_false_eq_true, Nat.add_zero, NF_ap, hd]
    · simp (disch := omega) only [c_lt, c_ge, c_gt, c_le, c_eq, c_ne, c_lt0, c_ge0, c_le0, c_gt0, c_eq0, c_ne0, c_eqm, c_nem, c_m0, c_meq, c_mne, c_mlt, nI_add, pk_mul, Bool.cond_decide, cond_true, cond_false, ldA_n, stA_n, cpA_n, bnd_s, bindP_s, Option.bind_some, gN_sI, gN_sA, gI_sA, gA_sI, gI_eq, gA_eq, gI_ne, gA_ne, sA_sA, sI_sI, if_pos, if_neg, ite_true, ite_false, eq_self, not_true_eq_false, not_false_eq_true, Nat.add_zero, NF_ap, hd]
    · simp (disch := omega) only [c_lt, c_ge, c_gt, c_le, c_eq, c_ne, c_lt0, c_ge0, c_le0, c_gt0, c_eq0, c_ne0, c_eqm, c_nem, c_m0, c_meq, c_mne, c_mlt, nI_add, pk_mul, Bool.cond_decide, cond_true, cond_false, ldA_n, stA_n, cpA_n, bnd_s, bindP_s, Option.bind_some, gN_sI, gN_sA, gI_sA, gA_sI, gI_eq, gA_eq, gI_ne, gA_ne, sA_sA, sI_sI, if_pos, if_neg, ite_true, ite_false, eq_self, not_true_eq_false, not_false_eq_true, Nat.add_zero, NF_ap, hmi]
    · simp (disch := omega) only [c_lt, c_ge, c_gt, c_le, c_eq, c_ne, c_lt0, c_ge0, c_le0, c_gt0, c_eq0, c_ne0, c_eqm, c_nem, c_m0, c_meq, c_mne, c_mlt, nI_add, pk_mul, Bool.cond_decide, cond_true, cond_false, ldA_n, stA_n, cpA_n, bnd_s, bindP_s, Option.bind_some, gN_sI, gN_sA, gI_sA, gA_sI, gI_eq, gA_eq, gI_ne, gA_ne, sA_sA, sI_sI, if_pos, if_neg, ite_true, ite_false, eq_self, not_true_eq_false, not_false_eq_true, Nat.add_zero, NF_ap, hmi]
    · simp (disch := omega) only [c_lt, c_ge, c_gt, c_le, c_eq, c_ne, c_lt0, c_ge0, c_le0, c_gt0, c_eq0, c_ne0, c_eqm, c_nem, c_m0, c_meq, c_mne, c_mlt, nI_add, pk_mul, Bool.cond_decide, cond_true, cond_false, ldA_n, stA_n, cpA_n, bnd_s, bindP_s, Option.bind_some, gN_sI, gN_sA, gI_sA, gA_sI, gI_eq, gA_eq, gI_ne, gA_ne, sA_sA, sI_sI, if_pos, if_neg, ite_true, ite_false, eq_self, not_true_eq_false, not_false_eq_true, Nat.add_zero, NF_ap, hmi]
    · simp (disch := omega) only [c_lt, c_ge, c_gt, c_le, c_eq, c_ne, c_lt0, c_ge0, c_le0, c_gt0, c_eq0, c_ne0, c_eqm, c_nem, c_m0, c_meq, c_mne, c_mlt, nI_add, pk_mul, Bool.cond_decide, cond_true, cond_false, ldA_n, stA_n, cpA_n, bnd_s, bindP_s, Option.bind_some, gN_sI, gN_sA, gI_sA, gA_sI, gI_eq, gA_eq, gI_ne, gA_ne, sA_sA, sI_sI, if_pos, if_neg, ite_true, ite_false, eq_self, not_true_eq_false, not_false_eq_true, Nat.add_zero, NF_ap, hmi]
  · simp (disch := omega) only [c_lt, c_ge, c_gt, c_le, c_eq, c_ne, c_lt0, c_ge0, c_le0, c_gt0, c_eq0, c_ne0, c_eqm, c_nem, c_m0, c_meq, c_mne, c_mlt, nI_add, pk_mul, Bool.cond_decide, cond_true, cond_false, ldA_n, stA_n, cpA_n, bnd_s, bindP_s, Option.bind_some, gN_sI, gN_sA, gI_sA, gA_sI, gI_eq, gA_eq, gI_ne, gA_ne, sA_sA, sI_sI, if_pos, if_neg, ite_true, ite_false, eq_self, not_true_eq_false, not_false_eq_true, Nat.add_zero, NF_ap]
  · simp (disch := omega) only [c_lt, c_ge, c_gt, c_le, c_eq, c_ne, c_lt0, c_ge0, c_le0, c_gt0, c_eq0, c_ne0, c_eqm, c_nem, c_m0, c_meq, c_mne, c_mlt, nI_add, pk_mul, Bool.cond_decide, cond_true, cond_false, ldA_n, stA_n, cpA_n, bnd_s, bindP_s, Option.bind_some, gN_sI, gN_sA, gI_sA, gA_sI, gI_eq, gA_eq, gI_ne, gA_ne, sA_sA, sI_sI, if_pos, if_neg, ite_true, ite_false, eq_self, not_true_eq_false, not_false_eq_true, Nat.add_zero, NF_ap]
  · simp (disch := omega) only [c_lt, c_ge, c_gt, c_le, c_eq, c_ne, c_lt0, c_ge0, c_le0, c_gt0, c_eq0, c_ne0, c_eqm, c_nem, c_m0, c_meq, c_mne, c_mlt, nI_add, pk_mul, Bool.cond_decide, cond_true, cond_false, ldA_n, stA_n, cpA_n, bnd_s, bindP_s, Option.bind_some, gN_sI, gN_sA, gI_sA, gA_sI, gI_eq, gA_eq, gI_ne, gA_ne, sA_sA, sI_sI, if_pos, if_neg, ite_true, ite_false, eq_self, not_true_eq_false, not_false_eq_true, Nat.add_zero, NF_ap]
  · simp (disch := omega) only [c_lt, c_ge, c_gt, c_le, c_eq, c_ne, c_lt0, c_ge0, c_le0, c_gt0, c_eq0, c_ne0, c_eqm, c_nem, c_m0, c_meq, c_mne, c_mlt, nI_add, pk_mul, Bool.cond_decide, cond_true, cond_false, ldA_n, stA_n, cpA_n, bnd_s, bindP_s, Option.bind_some, gN_sI, gN_sA, gI_sA, gA_sI, gI_eq, gA_eq, gI_ne, gA_ne, sA_sA, sI_sI, if_pos, if_neg, ite_true, ite_false, eq_self, not_true_eq_false, not_false_eq_true, Nat.add_zero, NF_ap]
  · simp (disch := omega) only [c_lt, c_ge, c_gt, c_le, c_eq, c_ne, c_lt0, c_ge0, c_le0, c_gt0, c_eq0, c_ne0, c_eqm, c_nem, c_m0, c_meq, c_mne, c_mlt, nI_add, pk_mul, Bool.cond_decide, cond_true, cond_false, ldA_n, stA_n, cpA_n, bnd_s, bindP_s, Option.bind_some, gN_sI, gN_sA, gI_sA, gA_sI, gI_eq, gA_eq, gI_ne, gA_ne, sA_sA, sI_sI, if_pos, if_neg, ite_true, ite_false, eq_self, not_true_eq_false, not_false_eq_true, Nat.add_zero, NF_ap]
theorem u_cut (h : Rel d m n c l x p) (hN : 100 ≤ N) (y z : Int32) : ∃ v v' d' m', F_X5_cut N d y z = some (v, d') ∧ F_X6_cut N m y z = some (v', m') ∧ RR n d' m' := by
  have h' := Rel_0 h (nI 0)
  obtain ⟨m', hm'⟩ : ∃ q, q = sI m 0 (nI 0) := ⟨_, rfl⟩
  rw [← hm'] at h'
  have h0 := h'
  obtain ⟨hc, hm, hg, hp⟩ := h'
  have h2 := hc.n60
  have hxd := hc.xi
  have hxm := hm.xi
  have hg0 := hg
  obtain ⟨g1, g2, g3, g4, g5, g6⟩ := hg
  have same : ∀ {A B : Option (Int32 × St)} (v v' : Int32), A = some (v, d) → B = some (v', m') → ∃ v v' d' m', A = some (v, d') ∧ B = some (v', m') ∧ RR n d' m' := fun v v' e1 e2 => ⟨v, v', d, _, e1, e2, ⟨c, l, x, p, h0⟩⟩
  unfold F_X5_cut F_X6_cut F_X3_size
  rw [← hm', bnd_s m']
  rcases sgn z with hz | ⟨t, ht, rfl⟩
  · refine same (-nI 2) (-nI 2) ?_ ?_
    · rw [c_ltn hz (by decide)]; rfl
    · rw [b_inN hz (by decide)]; rfl
  rw [b_in ht (by decide) (by decide)]
  by_cases q1 : 1 ≤ t ∧ t ≤ 31
  rotate_left
  · refine same (-nI 2) (-nI 2) ?_ ?_
    · by_cases q2 : t < 1
      · rw [c_lt ht (by decide), decide_eq_true q2]; rfl
      · rw [c_lt ht (by decide), decide_eq_false q2, c_ge ht (by decide), decide_eq_true (show 32 ≤ t by omega)]; rfl
    · rw [if_neg q1]; rfl
  rw [if_pos q1]
  simp only [Option.bind_some]
  rw [c_eq0 (by decide), show decide (1 = 0) = false from rfl, cond_false, c_lt ht (by decide), decide_eq_false (show ¬ t < 1 by omega), cond_false, c_ge ht (by decide), decide_eq_false (show ¬ 32 ≤ t by omega), cond_false]
  rcases sgn y with hy | ⟨k, hk, rfl⟩
  · refine same (-nI 2) (-nI 2) ?_ ?_
    · rw [c_lt0n hy]; rfl
    · rw [b_inN hy (by decide)]; rfl
  rw [c_lt0 hk, cond_false]
  rcases hp with ⟨o1, o2, jj, oo⟩ | ⟨o1, o2, -, -, o5⟩
  rotate_left
  · rw [o1, o2, o5, b_in hk (by decide) (by decide)]
    have e1 : ∃ v, (bif mx_cnd .le (nI k) (gI d 8) then bif mx_cnd .ne (nI 0) 0 then (bif mx_cnd .ne (nI k) (gI d 8) then (F_X3_undoBehind N d (nI k) (nI t)).bind fun s5 => bnd (sI s5 5 (-nI 1)) fun s7 => bnd (sI s7 0 (nI 0)) fun s8 => some (nI 1, s8) else (F_X5_tearHead N d (nI t)).bind fun s9 => bnd (sI s9 5 (-nI 1)) fun s11 => bnd (sI s11 0 (nI 0)) fun s12 => some (nI 1, s12)) else some (-nI 3, d) else some (-nI 2, d)) = some (v, d) := by
      cases mx_cnd .le (nI k) (gI d 8)
      · exact ⟨-nI 2, rfl⟩
      · exact ⟨-nI 3, rfl⟩
    obtain ⟨v, e1⟩ := e1
    by_cases q2 : 0 ≤ k ∧ k ≤ 0
    · exact same v (-nI 3) e1 (by rw [if_pos q2]; rfl)
    · exact same v (-nI 2) e1 (by rw [if_neg q2]; rfl)
  obtain ⟨w, wa, wt, wl, jw1, jw2, jw3, jw4, jw5⟩ := jj
  rw [o1, o2, jw1, jw2, b_in hk (by decide) (by omega), c_le hk (by omega)]
  by_cases q2 : k ≤ w
  rotate_left
  · refine same (-nI 2) (-nI 2) ?_ ?_
    · rw [decide_eq_false q2]; rfl
    · rw [if_neg (fun z => q2 z.2)]; rfl
  rw [decide_eq_true q2, cond_true, if_pos ⟨Nat.zero_le k, q2⟩, Option.bind_some, c_ne0 (by decide), show decide (¬ 1 = 0) = true from rfl, cond_true, cond_true, cond_true, c_ne hk (by omega)]
  by_cases q3 : k = w
  rotate_left
  · -- a write behind
    rw [decide_eq_true q3, cond_true, cond_true]
    obtain ⟨d1, m1, c1, l1, e1, e2, e3, e4, e5, e6⟩ := u_undo (n := n) (x := x) hN (wa := wa) (wl := wl) (wt := wt) (w := w) (k := k) (t := t) (by omega) (by omega) (by omega) (by omega) (w - 1 - k) (w - 1) N N d m' c l (by omega) (by omega) (by omega) (by omega) hc hm jw4 jw5 jw1
    refine ⟨nI 1, nI 1, sI (sI d1 5 (-nI 1)) 0 (nI 0), sI (sI (sI m1 9 (nI 0)) 7 (-nI 1)) 1 (nI 0), ?_, ?_, RR_off e3 e4 hg0 e5 (fun k _ => by rw [e6])⟩
    · unfold F_X3_undoBehind
      rw [jw1, pk_sub (by omega), e1]
      rfl
    · unfold F_X6_cut_70
      rw [jw2, pk_sub (by omega)]
      exact e2
  · -- the head
    rw [decide_eq_false (fun z => z q3), cond_false, cond_false]
    subst q3
    obtain ⟨b, hb2, hb⟩ := lb (gI d 3 + nI 1)
    have hh8 : ∀ i, i < 24 → hdF (gI d 3 + nI 1) x p i < 256 := fun i _ => hdF_lt (by omega) (by omega) i
    obtain ⟨D, hD⟩ : ∃ D, D = sec 1 0 0 0 (hdF (gI d 3 + nI 1) x p) := ⟨_, rfl⟩
    have hD8 : ∀ i, i < 32 → D i < 256 := fun i _ => by rw [hD]; exact sec_lt (by decide) (by decide) (by decide) (by decide) hh8 i
    obtain ⟨d2, hd2⟩ : ∃ q, q = sA d 6 (secF (gA d 6) 1 0 0 0 (hdF (gI d 3 + nI 1) x p)) := ⟨_, rfl⟩
    have cd2 : CV d2 n c l x := by rw [hd2]; exact CV_sA hc (by decide) _
    have id2 : gI d2 = gI d := by rw [hd2]; rfl
    obtain ⟨d3, e3, cd3, id3, -⟩ := e_store cd2 (N := N) (j := b) (t := t) (D := D) (by omega) (by omega) (by omega) (fun i hi => by rw [hd2, gA_eq, hD]; exact secF_lo hi) hD8
    obtain ⟨m2, hm2⟩ : ∃ q, q = sA m' 6 (dF (gA m' 6) 1 0 0 0 (hdF (gI d 3 + nI 1) x p)) := ⟨_, rfl⟩
    have cm2 : MV m2 n c l x := by rw [hm2]; exact MV_sA hm (by decide) _
    have im2 : gI m2 = gI m' := by rw [hm2]; rfl
    have am2 : ∀ k, k ≠ 6 → gA m2 k = gA m' k := by intro k hk; rw [hm2]; exact gA_ne hk
    obtain ⟨m3, f3, cm3, j3, im3, t3, t4, t5, am3⟩ := e_write cm2.1 (N := N) (by omega) (j := b) (w := k) (by omega) (by omega) (by rw [im2]; exact jw2) (g := gA m' 6) (a := 1) (b := 0) (e := 0) (d := 0) (hh := hdF (gI d 3 + nI 1) x p) (by rw [hm2]; exact gA_eq) (by decide) (by decide) (by decide) (by decide) hh8
    rw [← hD] at cm3
    have jr2 : JR m2 n k wa wt wl := JR_f jw5 (am2 3 (by decide)) (am2 4 (by decide)) (am2 5 (by decide))
    have jr3 := JR_w jr2 t3 t4 t5 (show b < n by omega) hc.b hc.w.2.2.2.2.2.2
    have mv3 : MV m3 n (stN c D b 32) (uN l b 0) x := ⟨cm3, by rw [im3 2 (by decide), im2]; exact hxm, cm2.2.2⟩
    obtain ⟨m4, y1, y2, y3, -⟩ := e_102 mv3 hN jr3 (q := k) (by omega) (by omega) (t := t) (by omega) (k := k) (by omega)
    have ewa : uN wa k b k = b := if_pos rfl
    rw [if_pos (Nat.le_refl k), ewa] at y2
    rw [ewa] at y1
    have eun : unI (stN c D b 32) (fun i => if k = k then c (32 * b + i) else wt k i) b t 32 = stN c D b t := by
      funext z
      unfold unI stN
      dsimp only
      by_cases k1 : 32 * b + t ≤ z ∧ z < 32 * b + 32
      · rw [if_pos k1, if_pos rfl, if_neg (by omega), show 32 * b + (z - 32 * b) = z by omega]
      · rw [if_neg k1]
        by_cases k2 : 32 * b ≤ z ∧ z < 32 * b + t
        · rw [if_pos (by omega), if_pos k2]
        · rw [if_neg (by omega), if_neg k2]
    have eul : uN (uN l b 0) b 0 = uN l b 0 := by
      funext z
      unfold uN
      by_cases k1 : z = b
      · rw [if_pos k1, if_pos k1]
      · rw [if_neg k1]
    have y2' : MV m4 n (stN c D b t) (uN l b 0) x := by
      have := y2
      rw [eul] at this
      have e := eun
      exact e ▸ this
    refine ⟨nI 1, nI 1, sI (sI d3 5 (-nI 1)) 0 (nI 0), sI (sI (sI m4 9 (nI 0)) 7 (-nI 1)) 1 (nI 0), ?_, ?_, RR_off cd3 y2' hg0 (id3.trans id2) (fun k hk => by rw [y3, im3 k hk, im2])⟩
    · unfold F_X5_tearHead F_X5_headSector
      rw [a_dh hN _ hxd g1 (by omega) (by omega), Option.bind_some, ← hd2, hb, Option.bind_some, e3]
      rfl
    · rw [g4, b_hd hN _ hxm g2, Option.bind_some, ← hm2, im2, g4, hb, f3, Option.bind_some]
      unfold F_X6_cut_70
      rw [j3, pk_sub (by omega), Nat.add_sub_cancel]
      obtain ⟨M, hM⟩ : ∃ q, N = q + 2 := ⟨N - 2, by omega⟩
      have jk := (jr3 k (by omega)).1
      rw [ewa] at jk
      have : F_X6_cut_77 N (M + 2) m3 (nI k) (nI t) (nI k) = some (nI 1, sI (sI (sI m4 9 (nI 0)) 7 (-nI 1)) 1 (nI 0)) := by
        rw [show M + 2 = (M + 1) + 1 from rfl, F_X6_cut_77.eq_2, c_lt (by omega) (by omega), decide_eq_false (by omega), cond_false, ldA_n (by omega) (by decide), jk, c_ne (by omega) (by omega), decide_eq_false (fun z => z rfl), cond_false, y1]
        exact b_cutE hN (by omega) _ (by omega)
      rw [← hM] at this
      exact this
end CU
