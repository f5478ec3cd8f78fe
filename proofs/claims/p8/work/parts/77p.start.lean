/-! start -/
section SS
variable {d m : St} {n x p N : Nat} {c l : Nat → Nat}
/-- one round over the rows -/
theorem u_pass (hN : 300 ≤ N) (hp : p ≤ 60) {e0 : Nat} : ∀ a r f f' d m c l e b0, r + a = p → a < f → a < f' → CV d n c l x → MV m n c l x → gI d 2 = nI p → gI m 3 = nI p → gI d 6 = nI e → gI m 5 = nI e → e0 ≤ e → e ≤ cnt c l (x - 2) → b0 ≤ 1 → (b0 = 0 ↔ e = e0) → ∃ d' m' c' l' e', (∀ (K : St → Int32 → Option St) (y : Int32), F_X5_repairAll_15 N K f d y (nI e0) (nI r) = bif mx_cnd .ne (nI e') (nI e0) then K d' (y + nI 1) else some d') ∧ (∀ (K : St → Int32 → Option (Int32 × St)), F_X6_start_234 N K f' m (nI b0) (nI r) = K m' (nI (if e' = e0 then 0 else 1))) ∧ CV d' n c' l' x ∧ MV m' n c' l' x ∧ gI d' 6 = nI e' ∧ gI m' 5 = nI e' ∧ e ≤ e' ∧ e' + cnt c l (x - 2) = e + cnt c' l' (x - 2) ∧ RD d d' ∧ RM m m' := by
  intro a
  induction a with
  | zero =>
    intro r f f' d m c l e b0 e1 e2 e3 hc hm d2 m3 d6 m5 h1 h2 h3 h4
    obtain ⟨f, rfl⟩ : ∃ q, f = q + 1 := ⟨f - 1, by omega⟩
    obtain ⟨f', rfl⟩ : ∃ q, f' = q + 1 := ⟨f' - 1, by omega⟩
    refine ⟨d, m, c, l, e, ?_, ?_, hc, hm, d6, m5, Nat.le_refl e, rfl, fun _ _ _ _ => rfl, fun _ _ _ _ => rfl⟩
    · intro K y
      rw [F_X5_repairAll_15.eq_2, d2, c_ge (by omega) (by omega), decide_eq_true (by omega), cond_true, d6]
    · intro K
      rw [F_X6_start_234.eq_2, m3, c_ge (by omega) (by omega), decide_eq_true (by omega), cond_true]
      by_cases z : e = e0
      · rw [if_pos z, h4.mpr z]
      · have : b0 = 1 := by
          have : ¬ b0 = 0 := fun w => z (h4.mp w)
          omega
        rw [if_neg z, this]
  | succ a ih =>
    intro r f f' d m c l e b0 e1 e2 e3 hc hm d2 m3 d6 m5 h1 h2 h3 h4
    obtain ⟨f, rfl⟩ : ∃ q, f = q + 1 := ⟨f - 1, by omega⟩
    obtain ⟨f', rfl⟩ : ∃ q, f' = q + 1 := ⟨f' - 1, by omega⟩
    obtain ⟨d1, m1, c1, l1, g1, y1, y2, y3, y4, y5, y6, y7, y8, y9, y10⟩ := u_rep hc hm hN (r := r) (by omega) d6 m5
    have hb1 : (if g1 = e0 then 0 else 1) ≤ 1 := by
      by_cases z : g1 = e0
      · rw [if_pos z]; omega
      · rw [if_neg z]; omega
    obtain ⟨d', m', c', l', e', w1, w2, w3, w4, w5, w6, w7, w8, w9, w10⟩ := ih (r + 1) f f' d1 m1 c1 l1 g1 (if g1 = e0 then 0 else 1) (by omega) (by omega) (by omega) y3 y4 (by rw [y9 2 (by decide) (by decide) (by decide)]; exact d2) (by rw [y10 3 (by decide) (by decide) (by decide)]; exact m3) y5 y6 (by omega) (by omega) hb1 (by
      by_cases z : g1 = e0
      · rw [if_pos z]; exact ⟨fun _ => z, fun _ => rfl⟩
      · rw [if_neg z]; exact ⟨fun w => absurd w (by decide), fun w => absurd w z⟩)
    refine ⟨d', m', c', l', e', ?_, ?_, w3, w4, w5, w6, by omega, by omega, ?_, ?_⟩
    · intro K y
      rw [F_X5_repairAll_15.eq_2, d2, c_ge (by omega) (by omega), decide_eq_false (by omega), cond_false, y1, Option.bind_some, nI_add]
      exact w1 K y
    · intro K
      have w2 := w2 K
      rw [F_X6_start_234.eq_2, m3, c_ge (by omega) (by omega), decide_eq_false (by omega), cond_false, nI_add, c_eq0 (show b0 < 2 ^ 31 by omega)]
      have keep : g1 = e → (bif decide (b0 = 0) then F_X6_start_234 N K f' m1 (nI 0) (nI (r + 1)) else F_X6_start_234 N K f' m1 (nI 1) (nI (r + 1))) = K m' (nI (if e' = e0 then 0 else 1)) := by
        intro z
        by_cases z1 : b0 = 0
        · rw [decide_eq_true z1, cond_true]
          rw [if_pos (show g1 = e0 from z.trans (h4.mp z1))] at w2
          exact w2
        · rw [decide_eq_false z1, cond_false]
          rw [if_neg (fun w => z1 (h4.mpr (z.symm.trans w)))] at w2
          exact w2
      rcases y2 with ⟨z1, z2, z3⟩ | ⟨j, b, zj, z1, z2, z3, z4⟩
      · rw [z1, Option.bind_some, c_meq, cond_true, ← z2]
        exact keep z3
      · rw [z1, Option.bind_some, c_eqm zj, cond_false, z2, bindP_s, c_ne0 (by omega)]
        by_cases zb : b = 0
        · rw [decide_eq_false (fun w => w zb), cond_false]
          exact keep (z4.mp zb)
        · rw [decide_eq_true zb, cond_true]
          have : ¬ g1 = e0 := fun w => zb (z4.mpr (by omega))
          rw [if_neg this] at w2
          exact w2
    · intro q q1 q2 q3
      rw [w9 q q1 q2 q3, y9 q q1 q2 q3]
    · intro q q1 q2 q3
      rw [w10 q q1 q2 q3, y10 q q1 q2 q3]
/-- all rounds -/
theorem u_rounds (hN : 300 ≤ N) (hp : p ≤ 60) (hx : x ≤ 60) : ∀ a k f f' d m c l e, (x - 2) ≤ a + cnt c l (x - 2) → k ≤ e → a < f → a + 1 < f' → CV d n c l x → MV m n c l x → gI d 2 = nI p → gI m 3 = nI p → gI d 6 = nI e → gI m 5 = nI e → e ≤ cnt c l (x - 2) → ∃ d' m' c' l' e', F_X5_repairAll_2 N f d (nI k) = some d' ∧ F_X6_start_223 N f' m (nI 1) = some (nI p, sI m' 9 (nI 0)) ∧ CV d' n c' l' x ∧ MV m' n c' l' x ∧ gI d' 6 = nI e' ∧ gI m' 5 = nI e' ∧ RD d d' ∧ RM m m' := by
  intro a
  induction a with
  | zero =>
    intro k f f' d m c l e e1 e2 e3 e4 hc hm d2 m3 d6 m5 h1
    obtain ⟨f, rfl⟩ : ∃ q, f = q + 1 := ⟨f - 1, by omega⟩
    obtain ⟨f', rfl⟩ : ∃ q, f' = q + 2 := ⟨f' - 2, by omega⟩
    have hcl := cnt_le c l (x - 2)
    obtain ⟨d', m', c', l', e', w1, w2, w3, w4, w5, w6, w7, w8, w9, w10⟩ := u_pass (n := n) (x := x) hN hp (e0 := e) p 0 N N d m c l e 0 (by omega) (by omega) (by omega) hc hm d2 m3 d6 m5 (Nat.le_refl e) h1 (by decide) ⟨fun _ => rfl, fun _ => rfl⟩
    have hcl' := cnt_le c' l' (x - 2)
    have ee : e' = e := by omega
    refine ⟨d', m', c', l', e', ?_, ?_, w3, w4, w5, w6, w9, w10⟩
    · rw [F_X5_repairAll_2.eq_2, c_gt (by omega) (by decide), decide_eq_false (by omega), cond_false, d6, w1, ee, c_ne (by omega) (by omega), decide_eq_false (fun z => z rfl), cond_false]
    · rw [show f' + 2 = (f' + 1) + 1 from rfl, F_X6_start_223.eq_2, c_eq0 (by decide), show decide (1 = 0) = false from rfl, cond_false, w2, if_pos ee, F_X6_start_223.eq_2, c_eq0 (by decide), show decide (0 = 0) = true from rfl, cond_true, bnd_s, gI_ne (by decide), w10 3 (by decide) (by decide) (by decide), m3]
  | succ a ih =>
    intro k f f' d m c l e e1 e2 e3 e4 hc hm d2 m3 d6 m5 h1
    obtain ⟨f, rfl⟩ : ∃ q, f = q + 1 := ⟨f - 1, by omega⟩
    obtain ⟨f', rfl⟩ : ∃ q, f' = q + 2 := ⟨f' - 2, by omega⟩
    have hcl := cnt_le c l (x - 2)
    obtain ⟨d1, m1, c1, l1, g1, w1, w2, w3, w4, w5, w6, w7, w8, w9, w10⟩ := u_pass (n := n) (x := x) hN hp (e0 := e) p 0 N N d m c l e 0 (by omega) (by omega) (by omega) hc hm d2 m3 d6 m5 (Nat.le_refl e) h1 (by decide) ⟨fun _ => rfl, fun _ => rfl⟩
    have hcl' := cnt_le c1 l1 (x - 2)
    have ec : F_X5_repairAll_2 N (f + 1) d (nI k) = bif mx_cnd .ne (nI g1) (nI e) then F_X5_repairAll_2 N f d1 (nI k + nI 1) else some d1 := by
      rw [F_X5_repairAll_2.eq_2, c_gt (by omega) (by decide), decide_eq_false (by omega), cond_false, d6, w1]
    have em : F_X6_start_223 N (f' + 2) m (nI 1) = F_X6_start_223 N (f' + 1) m1 (nI (if g1 = e then 0 else 1)) := by
      rw [show f' + 2 = (f' + 1) + 1 from rfl, F_X6_start_223.eq_2, c_eq0 (by decide), show decide (1 = 0) = false from rfl, cond_false, w2]
    by_cases ee : g1 = e
    · refine ⟨d1, m1, c1, l1, g1, ?_, ?_, w3, w4, w5, w6, w9, w10⟩
      · rw [ec, ee, c_ne (by omega) (by omega), decide_eq_false (fun z => z rfl), cond_false]
      · rw [em, if_pos ee, F_X6_start_223.eq_2, c_eq0 (by decide), show decide (0 = 0) = true from rfl, cond_true, bnd_s, gI_ne (by decide), w10 3 (by decide) (by decide) (by decide), m3]
    · obtain ⟨d', m', c', l', e', v1, v2, v3, v4, v5, v6, v7, v8⟩ := ih (k + 1) f (f' + 1) d1 m1 c1 l1 g1 (by omega) (by omega) (by omega) (by omega) w3 w4 (by rw [w9 2 (by decide) (by decide) (by decide)]; exact d2) (by rw [w10 3 (by decide) (by decide) (by decide)]; exact m3) w5 w6 (by omega)
      refine ⟨d', m', c', l', e', ?_, ?_, v3, v4, v5, v6, ?_, ?_⟩
      · rw [ec, c_ne (by omega) (by omega), decide_eq_true ee, cond_true, nI_add]
        exact v1
      · rw [em, if_neg ee]
        exact v2
      · intro q q1 q2 q3
        rw [v7 q q1 q2 q3, w9 q q1 q2 q3]
      · intro q q1 q2 q3
        rw [v8 q q1 q2 q3, w10 q q1 q2 q3]
theorem u_start (h : Rel d m n c l x p) (hN : 300 ≤ N) : ∃ v d' m', F_X5_start N d = some (v, d') ∧ F_X6_start N m = some (v, m') ∧ RR n d' m' := by
  have h' := Rel_0 h (nI 0)
  obtain ⟨m0, hm0⟩ : ∃ q, q = sI m 0 (nI 0) := ⟨_, rfl⟩
  rw [← hm0] at h'
  have h0 := h'
  obtain ⟨hc, hm, hg, hp⟩ := h'
  have h2 := hc.n60
  obtain ⟨g1, g2, g3, g4, g5, g6⟩ := hg
  rcases hp with ⟨o1, o2, jj, oo⟩ | ⟨o1, o2, o3, o4, o5⟩
  · refine ⟨-nI 3, d, m0, ?_, ?_, ⟨c, l, x, p, h0⟩⟩
    · unfold F_X5_start
      rw [o1]; rfl
    · unfold F_X6_start
      rw [← hm0, bnd_s m0, o2]; rfl
  -- the head
  have hcA : CV (sI d 0 (nI 1)) n c l x := CV_sI hc (by decide) _
  obtain ⟨x1, p1, gn1, q1, q2, q3, q4, q5⟩ := u_head (N := N) hcA hm (by omega) o2 hm0
  obtain ⟨dA, hdA⟩ : ∃ q, q = sI (sI (sI (sI d 0 (nI 1)) 3 gn1) 1 (nI x1)) 2 (nI p1) := ⟨_, rfl⟩
  obtain ⟨mA, hmA⟩ : ∃ q, q = sI (sI (sI m0 4 gn1) 2 (nI x1)) 3 (nI p1) := ⟨_, rfl⟩
  have cA : CV dA n c l x1 := by
    rw [hdA]
    exact CV_sI (CV_x (CV_sI hcA (by decide) _) q1 q2) (by decide) _
  have vA : MV mA n c l x1 := by
    rw [hmA]
    refine MV_sI ⟨CW_sI (CW_sI hm.1 _) _, gI_eq, q1, q2⟩ (by decide) _
  -- the log
  obtain ⟨x2, r1, r2, r3, r4⟩ := u_ext (c := c) (l := l) (N := N) (by omega) (n - x1) x1 N N dA mA cA vA (by omega) (by omega) (by omega)
  have cB : CV (sI dA 1 (nI x2)) n c l x2 := CV_x cA r1 r2
  have vB : MV (sI mA 2 (nI x2)) n c l x2 := ⟨CW_sI vA.1 _, gI_eq, r1, r2⟩
  have dB2 : gI (sI dA 1 (nI x2)) 2 = nI p1 := by rw [gI_ne (by decide), hdA]; exact gI_eq
  have mA3 : gI mA 3 = nI p1 := by rw [hmA]; exact gI_eq
  have mB3 : gI (sI mA 2 (nI x2)) 3 = nI p1 := by rw [gI_ne (by decide)]; exact mA3
  -- the rows
  have s1 := a_rows (N := N) (by omega) cB dB2 q3
  have s2 := b_rows (N := N) (by omega) vB mB3 q3
  have hp2 := cr_le (P := thr c l x2) (p := p1) (60 - p1)
  obtain ⟨p2, hpp⟩ : ∃ q, q = cr (thr c l x2) p1 (60 - p1) := ⟨_, rfl⟩
  rw [← hpp] at s1 s2 hp2
  obtain ⟨dC, hdC⟩ : ∃ q, q = sI (sI (sI dA 1 (nI x2)) 2 (nI p2)) 6 (nI 0) := ⟨_, rfl⟩
  obtain ⟨mC, hmC⟩ : ∃ q, q = sI (sI (sI (sI mA 2 (nI x2)) 3 (nI p2)) 1 (nI 1)) 5 (nI 0) := ⟨_, rfl⟩
  have cC : CV dC n c l x2 := by rw [hdC]; exact CV_sI (CV_sI cB (by decide) _) (by decide) _
  have vC : MV mC n c l x2 := by rw [hmC]; exact MV_sI (MV_sI (MV_sI vB (by decide) _) (by decide) _) (by decide) _
  -- the repairs
  obtain ⟨d', m', c', l', e', t1, t2, t3, t4, t5, t6, t7, t8⟩ := u_rounds (n := n) (x := x2) (p := p2) hN (by omega) (by omega) (x2 - 2) 0 N N dC mC c l 0 (by omega) (Nat.le_refl 0) (by omega) (by omega) cC vC (by rw [hdC]; simp (disch := omega) only [c_lt, c_ge, c_gt, c_le, c_eq, c_ne, c_lt0, c_ge0, c_le0, c_gt0, c_eq0, c_ne0, c_eqm, c_nem, c_m0, c_meq, c_mne, c_mlt, nI_add, pk_mul, Bool.cond_decide, cond_true, cond_false, ldA_n, stA_n, cpA_n, bnd_s, bindP_s, Option.bind_some, gN_sI, gN_sA, gI_sA, gA_sI, gI_eq, gA_eq, gI_ne, gA_ne, sA_sA, sI_sI, if_pos, if_neg, ite_true, ite_false, eq_self, not_true_eq_false, not_false_eq_true, Nat.add_zero, NF_ap]) (by rw [hmC]; simp (disch := omega) only [c_lt, c_ge, c_gt, c_le, c_eq, c_ne, c_lt0, c_ge0, c_le0, c_gt0, c_eq0, c_ne0, c_eqm, c_nem, c_m0, c_meq, c_mne, c_mlt, nI_add, pk_mul, Bool.cond_decide, cond_true, cond_false, ldA_n, stA_n, cpA_n, bnd_s, bindP_s, Option.bind_some, gN_sI, gN_sA, gI_sA, gA_sI, gI_eq, gA_eq, gI_ne, gA_ne, sA_sA, sI_sI, if_pos, if_neg, ite_true, ite_false, eq_self, not_true_eq_false, not_false_eq_true, Nat.add_zero, NF_ap]) (by rw [hdC]; simp (disch := omega) only [c_lt, c_ge, c_gt, c_le, c_eq, c_ne, c_lt0, c_ge0, c_le0, c_gt0, c_eq0, c_ne0, c_eqm, c_nem, c_m0, c_meq, c_mne, c_mlt, nI_add, pk_mul, Bool.cond_decide, cond_true, cond_false, ldA_n, stA_n, cpA_n, bnd_s, bindP_s, Option.bind_some, gN_sI, gN_sA, gI_sA, gA_sI, gI_eq, gA_eq, gI_ne, gA_ne, sA_sA, sI_sI, if_pos, if_neg, ite_true, ite_false, eq_self, not_true_eq_false, not_false_eq_true, Nat.add_zero, NF_ap]) (by rw [hmC]; simp (disch := omega) only [c_lt, c_ge, c_gt, c_le, c_eq, c_ne, c_lt0, c_ge0, c_le0, c_gt0, c_eq0, c_ne0, c_eqm, c_nem, c_m0, c_meq, c_mne, c_mlt, nI_add, pk_mul, Bool.cond_decide, cond_true, cond_false, ldA_n, stA_n, cpA_n, bnd_s, bindP_s, Option.bind_some, gN_sI, gN_sA, gI_sA, gA_sI, gI_eq, gA_eq, gI_ne, gA_ne, sA_sA, sI_sI, if_pos, if_neg, ite_true, ite_false, eq_self, not_true_eq_false, not_false_eq_true, Nat.add_zero, NF_ap]) (Nat.zero_le _)
  have dC0 : gI dC 0 = nI 1 := by rw [hdC, hdA]; simp (disch := omega) only [c_lt, c_ge, c_gt, c_le, c_eq, c_ne, c_lt0, c_ge0, c_le0, c_gt0, c_eq0, c_ne0, c_eqm, c_nem, c_m0, c_meq, c_mne, c_mlt, nI_add, pk_mul, Bool.cond_decide, cond_true, cond_false, ldA_n, stA_n, cpA_n, bnd_s, bindP_s, Option.bind_some, gN_sI, gN_sA, gI_sA, gA_sI, gI_eq, gA_eq, gI_ne, gA_ne, sA_sA, sI_sI, if_pos, if_neg, ite_true, ite_false, eq_self, not_true_eq_false, not_false_eq_true, Nat.add_zero, NF_ap]
  have dC3 : gI dC 3 = gn1 := by rw [hdC, hdA]; simp (disch := omega) only [c_lt, c_ge, c_gt, c_le, c_eq, c_ne, c_lt0, c_ge0, c_le0, c_gt0, c_eq0, c_ne0, c_eqm, c_nem, c_m0, c_meq, c_mne, c_mlt, nI_add, pk_mul, Bool.cond_decide, cond_true, cond_false, ldA_n, stA_n, cpA_n, bnd_s, bindP_s, Option.bind_some, gN_sI, gN_sA, gI_sA, gA_sI, gI_eq, gA_eq, gI_ne, gA_ne, sA_sA, sI_sI, if_pos, if_neg, ite_true, ite_false, eq_self, not_true_eq_false, not_false_eq_true, Nat.add_zero, NF_ap]
  have dC5 : gI dC 5 = -nI 1 := by rw [hdC, hdA]; simp (disch := omega) only [c_lt, c_ge, c_gt, c_le, c_eq, c_ne, c_lt0, c_ge0, c_le0, c_gt0, c_eq0, c_ne0, c_eqm, c_nem, c_m0, c_meq, c_mne, c_mlt, nI_add, pk_mul, Bool.cond_decide, cond_true, cond_false, ldA_n, stA_n, cpA_n, bnd_s, bindP_s, Option.bind_some, gN_sI, gN_sA, gI_sA, gA_sI, gI_eq, gA_eq, gI_ne, gA_ne, sA_sA, sI_sI, if_pos, if_neg, ite_true, ite_false, eq_self, not_true_eq_false, not_false_eq_true, Nat.add_zero, NF_ap]; exact o3
  have dC7 : gI dC 7 = gI d 7 := by rw [hdC, hdA]; simp (disch := omega) only [c_lt, c_ge, c_gt, c_le, c_eq, c_ne, c_lt0, c_ge0, c_le0, c_gt0, c_eq0, c_ne0, c_eqm, c_nem, c_m0, c_meq, c_mne, c_mlt, nI_add, pk_mul, Bool.cond_decide, cond_true, cond_false, ldA_n, stA_n, cpA_n, bnd_s, bindP_s, Option.bind_some, gN_sI, gN_sA, gI_sA, gA_sI, gI_eq, gA_eq, gI_ne, gA_ne, sA_sA, sI_sI, if_pos, if_neg, ite_true, ite_false, eq_self, not_true_eq_false, not_false_eq_true, Nat.add_zero, NF_ap]
  have dC2 : gI dC 2 = nI p2 := by rw [hdC]; simp (disch := omega) only [c_lt, c_ge, c_gt, c_le, c_eq, c_ne, c_lt0, c_ge0, c_le0, c_gt0, c_eq0, c_ne0, c_eqm, c_nem, c_m0, c_meq, c_mne, c_mlt, nI_add, pk_mul, Bool.cond_decide, cond_true, cond_false, ldA_n, stA_n, cpA_n, bnd_s, bindP_s, Option.bind_some, gN_sI, gN_sA, gI_sA, gA_sI, gI_eq, gA_eq, gI_ne, gA_ne, sA_sA, sI_sI, if_pos, if_neg, ite_true, ite_false, eq_self, not_true_eq_false, not_false_eq_true, Nat.add_zero, NF_ap]
  have mC1 : gI mC 1 = nI 1 := by rw [hmC]; simp (disch := omega) only [c_lt, c_ge, c_gt, c_le, c_eq, c_ne, c_lt0, c_ge0, c_le0, c_gt0, c_eq0, c_ne0, c_eqm, c_nem, c_m0, c_meq, c_mne, c_mlt, nI_add, pk_mul, Bool.cond_decide, cond_true, cond_false, ldA_n, stA_n, cpA_n, bnd_s, bindP_s, Option.bind_some, gN_sI, gN_sA, gI_sA, gA_sI, gI_eq, gA_eq, gI_ne, gA_ne, sA_sA, sI_sI, if_pos, if_neg, ite_true, ite_false, eq_self, not_true_eq_false, not_false_eq_true, Nat.add_zero, NF_ap]
  have mC4 : gI mC 4 = gn1 := by rw [hmC, hmA]; simp (disch := omega) only [c_lt, c_ge, c_gt, c_le, c_eq, c_ne, c_lt0, c_ge0, c_le0, c_gt0, c_eq0, c_ne0, c_eqm, c_nem, c_m0, c_meq, c_mne, c_mlt, nI_add, pk_mul, Bool.cond_decide, cond_true, cond_false, ldA_n, stA_n, cpA_n, bnd_s, bindP_s, Option.bind_some, gN_sI, gN_sA, gI_sA, gA_sI, gI_eq, gA_eq, gI_ne, gA_ne, sA_sA, sI_sI, if_pos, if_neg, ite_true, ite_false, eq_self, not_true_eq_false, not_false_eq_true, Nat.add_zero, NF_ap]
  have mC6 : gI mC 6 = gI m0 6 := by rw [hmC, hmA]; simp (disch := omega) only [c_lt, c_ge, c_gt, c_le, c_eq, c_ne, c_lt0, c_ge0, c_le0, c_gt0, c_eq0, c_ne0, c_eqm, c_nem, c_m0, c_meq, c_mne, c_mlt, nI_add, pk_mul, Bool.cond_decide, cond_true, cond_false, ldA_n, stA_n, cpA_n, bnd_s, bindP_s, Option.bind_some, gN_sI, gN_sA, gI_sA, gA_sI, gI_eq, gA_eq, gI_ne, gA_ne, sA_sA, sI_sI, if_pos, if_neg, ite_true, ite_false, eq_self, not_true_eq_false, not_false_eq_true, Nat.add_zero, NF_ap]
  have mC7 : gI mC 7 = -nI 1 := by rw [hmC, hmA]; simp (disch := omega) only [c_lt, c_ge, c_gt, c_le, c_eq, c_ne, c_lt0, c_ge0, c_le0, c_gt0, c_eq0, c_ne0, c_eqm, c_nem, c_m0, c_meq, c_mne, c_mlt, nI_add, pk_mul, Bool.cond_decide, cond_true, cond_false, ldA_n, stA_n, cpA_n, bnd_s, bindP_s, Option.bind_some, gN_sI, gN_sA, gI_sA, gA_sI, gI_eq, gA_eq, gI_ne, gA_ne, sA_sA, sI_sI, if_pos, if_neg, ite_true, ite_false, eq_self, not_true_eq_false, not_false_eq_true, Nat.add_zero, NF_ap]; exact o4
  have mC3 : gI mC 3 = nI p2 := by rw [hmC]; simp (disch := omega) only [c_lt, c_ge, c_gt, c_le, c_eq, c_ne, c_lt0, c_ge0, c_le0, c_gt0, c_eq0, c_ne0, c_eqm, c_nem, c_m0, c_meq, c_mne, c_mlt, nI_add, pk_mul, Bool.cond_decide, cond_true, cond_false, ldA_n, stA_n, cpA_n, bnd_s, bindP_s, Option.bind_some, gN_sI, gN_sA, gI_sA, gA_sI, gI_eq, gA_eq, gI_ne, gA_ne, sA_sA, sI_sI, if_pos, if_neg, ite_true, ite_false, eq_self, not_true_eq_false, not_false_eq_true, Nat.add_zero, NF_ap]
  refine ⟨nI p2, sI d' 8 (nI 0), sI m' 9 (nI 0), ?_, ?_, ⟨c', l', x2, p2, CV_sI t3 (by decide) _, MV_sI t4 (by decide) _, ?_, ?_⟩⟩
  · unfold F_X5_start F_X5_extendLog F_X3_clear F_X5_repairAll
    rw [o1, c_eq0 (by decide), show decide (0 = 0) = true from rfl, cond_true, bnd_s, q4, Option.bind_some, ← hdA, a_count, cA.1, Option.bind_some, r3, Option.bind_some, s1, Option.bind_some, bnd_s, ← hdC, t1, Option.bind_some, bnd_s, Option.bind_some, gI_ne (by decide), t7 2 (by decide) (by decide) (by decide), dC2]
  · rw [q5, ← hmA, r4, mA3, s2, ← hmC, t2]
  · refine ⟨?_, ?_, by omega, ?_, ?_, ?_⟩
    · rw [gI_ne (by decide), t7 2 (by decide) (by decide) (by decide), dC2]
    · rw [gI_ne (by decide), t8 3 (by decide) (by decide) (by decide), mC3]
    · rw [gI_ne (by decide), gI_ne (by decide), t7 3 (by decide) (by decide) (by decide), t8 4 (by decide) (by decide) (by decide), dC3, mC4]
    · rw [gI_ne (by decide), gI_ne (by decide), t5, t6]
    · rw [gI_ne (by decide), gI_ne (by decide), t7 7 (by decide) (by decide) (by decide), t8 6 (by decide) (by decide) (by decide), dC7, mC6, g6]
  · refine Or.inl ⟨?_, ?_, ⟨0, fun _ => 0, fun _ _ => 0, fun _ => 0, gI_eq, gI_eq, by omega, fun k hk => by omega, fun k hk => by omega⟩, Or.inl ⟨?_, ?_⟩⟩
    · rw [gI_ne (by decide), t7 0 (by decide) (by decide) (by decide), dC0]
    · rw [gI_ne (by decide), t8 1 (by decide) (by decide) (by decide), mC1]
    · rw [gI_ne (by decide), t7 5 (by decide) (by decide) (by decide), dC5]
    · rw [gI_ne (by decide), t8 7 (by decide) (by decide) (by decide), mC7]
end SS
