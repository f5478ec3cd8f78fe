/-! start: the repair of a row, a round over the rows, all rounds -/
def RD (d d' : St) : Prop := ∀ q, q ≠ 6 → q ≠ 9 → q ≠ 10 → gI d' q = gI d q
def RM (m m' : St) : Prop := ∀ q, q ≠ 5 → q ≠ 9 → q ≠ 10 → gI m' q = gI m q
section RP
variable {d m : St} {n x p N : Nat} {c l : Nat → Nat}
theorem red4 {j : Nat} {P Q : Option Nat} (hP : ∀ y, P = some y → y < 2 ^ 31) (hQ : ∀ y, Q = some y → y < 2 ^ 31) : (bif mx_cnd .eq (oI P) (-nI 1) then (bif mx_cnd .eq (oI Q) (-nI 1) then (bindP (F_X2_prepare N d (nI 0) (nI 0)) fun v10 s11 => bif mx_cnd .ne v10 0 then (F_X5_repairRow_70 N N s11 (nI j) (oI P) (oI Q) (nI 0)) else (some s11)) else (bindP (F_X2_prepare N d (nI 0) (nI 1)) fun v13 s14 => bif mx_cnd .ne v13 0 then (F_X5_repairRow_70 N N s14 (nI j) (oI P) (oI Q) (nI 0)) else (some s14))) else (bif mx_cnd .eq (oI Q) (-nI 1) then (bindP (F_X2_prepare N d (nI 1) (nI 0)) fun v16 s17 => bif mx_cnd .ne v16 0 then (F_X5_repairRow_70 N N s17 (nI j) (oI P) (oI Q) (nI 0)) else (some s17)) else (bindP (F_X2_prepare N d (nI 1) (nI 1)) fun v19 s20 => bif mx_cnd .ne v19 0 then (F_X5_repairRow_70 N N s20 (nI j) (oI P) (oI Q) (nI 0)) else (some s20)))) = bindP (F_X2_prepare N d (nI (hO P)) (nI (hO Q))) fun v s11 => bif mx_cnd .ne v 0 then F_X5_repairRow_70 N N s11 (nI j) (oI P) (oI Q) (nI 0) else some s11 := by
  cases P with
  | none =>
    rw [show mx_cnd .eq (oI none) (-nI 1) = true from c_meq, cond_true]
    cases Q with
    | none => rw [show mx_cnd .eq (oI none) (-nI 1) = true from c_meq, cond_true]; rfl
    | some z => rw [show mx_cnd .eq (oI (some z)) (-nI 1) = false from c_eqm (hQ z rfl), cond_false]; rfl
  | some y =>
    rw [show mx_cnd .eq (oI (some y)) (-nI 1) = false from c_eqm (hP y rfl), cond_false]
    cases Q with
    | none => rw [show mx_cnd .eq (oI none) (-nI 1) = true from c_meq, cond_true]; rfl
    | some z => rw [show mx_cnd .eq (oI (some z)) (-nI 1) = false from c_eqm (hQ z rfl), cond_false]; rfl
/-- the found sectors are written, on both sides -/
theorem u_fill (hc : CV d n c l x) (hm : MV m n c l x) (hN : 300 ≤ N) {s e : Nat} {un A B : Nat → Nat} (hs : 1 ≤ s ∧ s ≤ 2) (d9 : gI d 9 = nI s) (m10 : gI m 10 = nI s) (d6 : gI d 6 = nI e) (m5 : gI m 5 = nI e) (hu : ∀ g, g < s → gA d 7 g = nI (un g) ∧ gA m 8 g = nI (un g)) (hun : ∀ g, g < s → 2 ≤ un g ∧ un g < x ∧ so c l (un g) ≠ 2) (hdi : ∀ g g', g < s → g' < s → un g = un g' → g = g') (hA : ∀ i, i < 24 → gA d 10 i = nI (A i) ∧ gA m 13 i = nI (A i)) (hB : s = 2 → ∀ i, i < 24 → gA d 10 (24 + i) = nI (B i) ∧ gA m 14 i = nI (B i)) (h8 : ∀ i, A i < 256 ∧ B i < 256) : ∃ d' m' c' l' e', F_X5_fillGaps N d = some d' ∧ F_X6_repairs_132 N m (nI 1) = some (nI 1, m') ∧ CV d' n c' l' x ∧ MV m' n c' l' x ∧ gI d' 6 = nI e' ∧ gI m' 5 = nI e' ∧ e < e' ∧ e' + cnt c l (x - 2) = e + cnt c' l' (x - 2) ∧ RD d d' ∧ RM m m' := by
  have hn := hc.n60
  obtain ⟨M, hM⟩ : ∃ q, N = q + 3 := ⟨N - 3, by omega⟩
  have u0 := hu 0 (by omega)
  have v0 := hun 0 (by omega)
  obtain ⟨d1, a1, a2, a3, a4, a5⟩ := a_fill hc (N := N) (by omega) (s := s) (g := 0) (a := un 0) (C := A) (fun i => (h8 i).1) d9 hs.2 (by omega) u0.1 (by omega) (fun i hi => by rw [Nat.mul_zero, Nat.zero_add]; exact (hA i hi).1) (f := M + 2)
  obtain ⟨m1, b1, b2, b3, b4, b5⟩ := b_fill32 hm (N := N) (by omega) (a := un 0) (C := A) (fun i => (h8 i).1) (by omega) (fun i hi => (hA i hi).2)
  have c1 : cnt (stN c (sec 2 0 0 0 (ct A 0 24)) (un 0) 32) (uN l (un 0) 0) (x - 2) = cnt c l (x - 2) + 1 := cnt_up (a := un 0) (fun j hj => so_st (by omega) hj) v0.2.2 (so_sec (by decide)) v0.1 (x - 2) (by omega)
  have e5 : F_X5_fillGaps N d = F_X5_fillGaps_10 N (M + 2) d1 (nI s) (nI 1) := by
    unfold F_X5_fillGaps F_X2_size
    rw [Option.bind_some, d9]
    have := a1
    rw [show M + 2 + 1 = N by omega] at this
    exact this
  have e6 : F_X6_repairs_132 N m (nI 1) = bif mx_cnd .ne (gI m1 10) (nI 2) then (rz (nI 1) (some (nI 1, m1))) else (ldA (gA m1 8) 4 (nI 1) fun v4 => (F_X6_fill_33 N m1 v4).bind fun s5 => rz (nI 1) (some (nI 1, s5))) := by
    unfold F_X6_repairs_132
    rw [c_eq0 (by decide), show decide (1 = 0) = false from rfl, cond_false, ldA_n (by decide) (by decide), u0.2, b1, Option.bind_some]
  rw [e5, e6, b4 10 (by decide) (by decide), m10, c_ne (by omega) (by decide)]
  by_cases s2 : s = 2
  · subst s2
    have u1 := hu 1 (by decide)
    have v1 := hun 1 (by decide)
    have ne01 : un 1 ≠ un 0 := fun z => absurd (hdi 1 0 (by decide) (by decide) z) (by decide)
    have so1 : so (stN c (sec 2 0 0 0 (ct A 0 24)) (un 0) 32) (uN l (un 0) 0) (un 1) ≠ 2 := by
      rw [so_st (by omega) ne01]; exact v1.2.2
    obtain ⟨d2, p1, p2, p3, p4, p5⟩ := a_fill a2 (N := N) (by omega) (s := 2) (g := 1) (a := un 1) (C := B) (fun i => (h8 i).2) (by rw [a4 9 (by decide)]; exact d9) (by omega) (by omega) (by rw [a5 7 (by decide)]; exact u1.1) (by omega) (fun i hi => by rw [a5 10 (by decide)]; exact (hB rfl i hi).1) (f := M + 1)
    obtain ⟨m2, q1, q2, q3, q4, q5⟩ := b_fill33 b2 (N := N) (by omega) (a := un 1) (C := B) (fun i => (h8 i).2) (by omega) (fun i hi => by rw [b5 14 (by decide)]; exact (hB rfl i hi).2)
    have c2 : cnt (stN (stN c (sec 2 0 0 0 (ct A 0 24)) (un 0) 32) (sec 2 0 0 0 (ct B 0 24)) (un 1) 32) (uN (uN l (un 0) 0) (un 1) 0) (x - 2) = cnt (stN c (sec 2 0 0 0 (ct A 0 24)) (un 0) 32) (uN l (un 0) 0) (x - 2) + 1 := cnt_up (a := un 1) (fun j hj => so_st (by omega) hj) so1 (so_sec (by decide)) v1.1 (x - 2) (by omega)
    refine ⟨d2, m2, _, _, e + 2, ?_, ?_, p2, q2, ?_, ?_, by omega, by omega, ?_, ?_⟩
    · rw [show M + 2 = (M + 1) + 1 from rfl, p1, F_X5_fillGaps_10.eq_2, c_ge (by decide) (by decide), show decide (2 ≤ 1 + 1) = true from rfl, cond_true]
    · rw [show decide (¬ 2 = 2) = false from rfl, cond_false, ldA_n (by decide) (by decide), b5 8 (by decide), u1.2, q1, Option.bind_some, rz_1]
    · rw [p3, a3, d6, nI_add, nI_add]
    · rw [q3, b3, m5, nI_add, nI_add]
    · intro q h1 h2 h3
      rw [p4 q h1, a4 q h1]
    · intro q h1 h2 h3
      rw [q4 q h1 h2, b4 q h1 h2]
  · have s1 : s = 1 := by omega
    subst s1
    refine ⟨d1, m1, _, _, e + 1, ?_, ?_, a2, b2, ?_, ?_, by omega, by omega, ?_, ?_⟩
    · rw [show M + 2 = (M + 1) + 1 from rfl, F_X5_fillGaps_10.eq_2, c_ge (by decide) (by decide), show decide (1 ≤ 1) = true from rfl, cond_true]
    · rw [show decide (¬ 1 = 2) = true from rfl, cond_true, rz_1]
    · rw [a3, d6, nI_add]
    · rw [b3, m5, nI_add]
    · intro q h1 h2 h3
      exact a4 q h1
    · intro q h1 h2 h3
      exact b4 q h1 h2
theorem lst_S {r w k j : Nat} (h : lst (isS c l r w) k = some j) : 2 ≤ j ∧ j < k + 2 := ⟨(lst_some h).1, (lst_some h).2.1⟩
/-- the repair of one row -/
theorem u_rep (hc : CV d n c l x) (hm : MV m n c l x) (hN : 300 ≤ N) {r e : Nat} (hr : r < 2 ^ 31) (d6 : gI d 6 = nI e) (m5 : gI m 5 = nI e) : ∃ d' m' c' l' e', F_X5_repairRow N d (nI r) = some d' ∧ ((F_X6_sectorOf N m (nI r) = some (-nI 1) ∧ m' = m ∧ e' = e) ∨ (∃ j b, j < 2 ^ 31 ∧ F_X6_sectorOf N m (nI r) = some (nI j) ∧ F_X6_repairs N m (nI r) (nI j) = some (nI b, m') ∧ b ≤ 1 ∧ (b = 0 ↔ e' = e))) ∧ CV d' n c' l' x ∧ MV m' n c' l' x ∧ gI d' 6 = nI e' ∧ gI m' 5 = nI e' ∧ e ≤ e' ∧ e' + cnt c l (x - 2) = e + cnt c' l' (x - 2) ∧ RD d d' ∧ RM m m' := by
  have hn := hc.n60
  unfold F_X5_repairRow
  rw [a_findRow hc (by omega) hr, b_secOf hm (by omega) hr]
  cases hq : lst (isR c l r) (x - 2) with
  | none =>
    refine ⟨d, m, c, l, e, ?_, Or.inl ⟨rfl, rfl, rfl⟩, hc, hm, d6, m5, Nat.le_refl e, rfl, fun _ _ _ _ => rfl, fun _ _ _ _ => rfl⟩
    rw [Option.bind_some, show mx_cnd .eq (oI none) (-nI 1) = true from c_meq, cond_true]
  | some j =>
    obtain ⟨j1, j2, -, j4⟩ := lst_R hq
    have hj : j < n := by omega
    have hB := nbk_le (c (32 * j + 3))
    rw [Option.bind_some, show mx_cnd .eq (oI (some j)) (-nI 1) = false from c_eqm (by omega), cond_false, show oI (some j) = nI j from rfl]
    -- the gaps are cleared
    obtain ⟨d0, hd0⟩ : ∃ q, q = sA (sA (sI d 9 (nI 0)) 8 (fun i => if 0 ≤ i ∧ i < 4 then nI 0 else gA (sI d 9 (nI 0)) 8 i)) 9 (fun i => if 0 ≤ i ∧ i < 4 then nI 0 else gA (sA (sI d 9 (nI 0)) 8 (fun i => if 0 ≤ i ∧ i < 4 then nI 0 else gA (sI d 9 (nI 0)) 8 i)) 9 i) := ⟨_, rfl⟩
    have fd0 : FD d d0 := by
      rw [hd0]
      refine ⟨rfl, fun q a b => ?_, fun q hq => ?_⟩
      · rw [gI_sA, gI_sA, gI_ne a]
      · rw [gA_ne (by omega), gA_ne (by omega)]; rfl
    obtain ⟨m0, hm0⟩ : ∃ q, q = sI m 10 (nI 0) := ⟨_, rfl⟩
    have fm0 : FM m m0 := by
      rw [hm0]
      exact ⟨rfl, fun q a => gI_ne a, fun q hq => rfl⟩
    have g0 : GI d0 m0 c l x 0 (fun _ => 0) (fun _ => 0) (fun _ => 0) := by
      refine ⟨?_, ?_, by decide, fun g hg => by omega, ?_, fun g hg => by omega, fun g => ⟨Nat.zero_le 1, Nat.zero_lt_succ 15⟩, fun g hg => ⟨rfl, rfl⟩, fun g g' hg => by omega⟩
      · rw [hd0, gI_sA, gI_sA]; exact gI_eq
      · rw [hm0]; exact gI_eq
      · intro g hg
        rw [hd0, gA_ne (by decide), gA_eq, gA_eq, if_pos ⟨Nat.zero_le g, hg⟩, if_pos ⟨Nat.zero_le g, hg⟩]
        exact ⟨rfl, rfl⟩
    have ecol : F_X5_collectGaps N d (nI j) = F_X5_collectGaps_18 N N d0 (nI j) (nI (2 ^ 0)) (nI (nbk (c (32 * j + 3)))) (nI 0) := by
      unfold F_X5_collectGaps F_X2_clear
      rw [bnd_s, a_fill13 (by omega), Option.bind_some, a_fill14 (by omega), Option.bind_some, Option.bind_some, ← hd0, a_bor (fd0.cv hc).w hj, Option.bind_some]
    have efu : F_X6_findUnknown N m (nI j) = F_X6_findUnknown_9 N N m0 (nI j) (nI 1) (nI 0) := by
      unfold F_X6_findUnknown
      rw [bnd_s, ← hm0]
    have RDof : ∀ {d' : St}, FD d d' → RD d d' := fun h q h1 h2 h3 => h.2.1 q h2 h3
    have RMof : ∀ {m' : St}, FM m m' → RM m m' := fun h q h1 h2 h3 => h.2.1 q h3
    -- nothing is repaired
    have none' : ∀ {A : Option St} {d' m' : St}, A = some d' → F_X6_repairs N m (nI r) (nI j) = some (nI 0, m') → FD d d' → FM m m' → ∃ d' m' c' l' e', A = some d' ∧ ((some (nI j) = some (-nI 1) ∧ m' = m ∧ e' = e) ∨ (∃ j' b, j' < 2 ^ 31 ∧ some (nI j) = some (nI j') ∧ F_X6_repairs N m (nI r) (nI j') = some (nI b, m') ∧ b ≤ 1 ∧ (b = 0 ↔ e' = e))) ∧ CV d' n c' l' x ∧ MV m' n c' l' x ∧ gI d' 6 = nI e' ∧ gI m' 5 = nI e' ∧ e ≤ e' ∧ e' + cnt c l (x - 2) = e + cnt c' l' (x - 2) ∧ RD d d' ∧ RM m m' := by
      intro A d' m' e1 e2 f1 f2
      exact ⟨d', m', c, l, e, e1, Or.inr ⟨j, 0, by omega, rfl, e2, by omega, ⟨fun _ => rfl, fun _ => rfl⟩⟩, f1.cv hc, f2.mv hm, by rw [f1.2.1 6 (by decide) (by decide)]; exact d6, by rw [f2.2.1 5 (by decide)]; exact m5, Nat.le_refl e, rfl, RDof f1, RMof f2⟩
    rw [ecol]
    rcases u_col (N := N) (by omega) hj j4 (nbk (c (32 * j + 3))) 0 N N d0 m0 0 _ _ _ (by omega) (by omega) (by omega) (fd0.cv hc) (fm0.mv hm) g0 (Nat.le_refl 0) with ⟨d1, m1, b, y1, y2, y3, y4, y5, y6⟩ | ⟨d1, m1, s, un, P, Q, y1, y2, y3, y4, y5, y6⟩
    · refine none' ?_ ?_ (fd0.t y5) (fm0.t y6)
      · rw [y1, bindP_s, c_ne0 (by decide), show decide (¬ 0 = 0) = false from rfl, cond_false]
      · unfold F_X6_repairs
        rw [efu, y2, bindP_s, c_eq0 (by omega)]
        by_cases z : b = 0
        · rw [decide_eq_true z, cond_true]
        · rw [decide_eq_false z, cond_false, y4.resolve_left z, c_eq0 (by decide), show decide (0 = 0) = true from rfl, cond_true]
    · have fd1 := fd0.t y5
      have fm1 := fm0.t y6
      have hc1 := fd1.cv hc
      have hm1 := fm1.mv hm
      have hs4 := y3.2.2.1
      have Pn : ∀ y, lst (isS c l r 0) (x - 2) = some y → y < n := fun y hy => by have := lst_S hy; omega
      have Qn : ∀ y, lst (isS c l r 1) (x - 2) = some y → y < n := fun y hy => by have := lst_S hy; omega
      have e5 : (bindP (F_X5_collectGaps_18 N N d0 (nI j) (nI (2 ^ 0)) (nI (nbk (c (32 * j + 3)))) (nI 0)) fun v3 s4 => bif mx_cnd .ne v3 0 then ((F_X5_findSymbol N s4 (nI r) (nI 0)).bind fun v6 => (F_X5_findSymbol N s4 (nI r) (nI 1)).bind fun v8 => bif mx_cnd .eq v6 (-nI 1) then (bif mx_cnd .eq v8 (-nI 1) then (bindP (F_X2_prepare N s4 (nI 0) (nI 0)) fun v10 s11 => bif mx_cnd .ne v10 0 then (F_X5_repairRow_70 N N s11 (nI j) v6 v8 (nI 0)) else (some s11)) else (bindP (F_X2_prepare N s4 (nI 0) (nI 1)) fun v13 s14 => bif mx_cnd .ne v13 0 then (F_X5_repairRow_70 N N s14 (nI j) v6 v8 (nI 0)) else (some s14))) else (bif mx_cnd .eq v8 (-nI 1) then (bindP (F_X2_prepare N s4 (nI 1) (nI 0)) fun v16 s17 => bif mx_cnd .ne v16 0 then (F_X5_repairRow_70 N N s17 (nI j) v6 v8 (nI 0)) else (some s17)) else (bindP (F_X2_prepare N s4 (nI 1) (nI 1)) fun v19 s20 => bif mx_cnd .ne v19 0 then (F_X5_repairRow_70 N N s20 (nI j) v6 v8 (nI 0)) else (some s20)))) else (some s4)) = bindP (F_X2_prepare N d1 (nI (hO (lst (isS c l r 0) (x - 2)))) (nI (hO (lst (isS c l r 1) (x - 2))))) fun v s11 => bif mx_cnd .ne v 0 then F_X5_repairRow_70 N N s11 (nI j) (oI (lst (isS c l r 0) (x - 2))) (oI (lst (isS c l r 1) (x - 2))) (nI 0) else some s11 := by
        rw [y1, bindP_s, c_ne0 (by decide), show decide (¬ 1 = 0) = true from rfl, cond_true, a_findSym hc1 (by omega) hr (by decide), Option.bind_some, a_findSym hc1 (by omega) hr (by decide), Option.bind_some]
        exact red4 (fun y hy => by have := Pn y hy; omega) (fun y hy => by have := Qn y hy; omega)
      rw [e5]
      by_cases s2 : s ≤ 2
      rotate_left
      · refine none' (d' := d1) (m' := m1) ?_ ?_ fd1 fm1
        · unfold F_X2_prepare
          rw [y3.1, c_lt (by omega) (by decide), decide_eq_false (by omega), cond_false, c_le (by omega) (by decide), decide_eq_false s2, cond_false, bindP_s, c_ne0 (by decide), show decide (¬ 0 = 0) = false from rfl, cond_false]
        · unfold F_X6_repairs
          rw [efu, y2, bindP_s, c_eq0 (by decide), show decide (1 = 0) = false from rfl, cond_false, y3.2.1, c_eq0 (by omega), decide_eq_false (by omega), cond_false, c_le (by omega) (by decide), decide_eq_false s2, cond_false]
      · have e6 : F_X6_repairs N m (nI r) (nI j) = (bif mx_cnd .eq (oI (lst (isS c l r 0) (x - 2))) (-nI 1) then (F_X6_repairs_56 N m1 (nI j) (oI (lst (isS c l r 0) (x - 2))) (oI (lst (isS c l r 1) (x - 2)))) else ((F_X6_findRest_30 N m1 (nI j) (oI (lst (isS c l r 0) (x - 2))) (nI 0)).bind fun s8 => F_X6_repairs_56 N s8 (nI j) (oI (lst (isS c l r 0) (x - 2))) (oI (lst (isS c l r 1) (x - 2))))) := by
          unfold F_X6_repairs
          rw [efu, y2, bindP_s, c_eq0 (by decide), show decide (1 = 0) = false from rfl, cond_false, y3.2.1, c_eq0 (by omega), decide_eq_false (by omega), cond_false, c_le (by omega) (by decide), decide_eq_true s2, cond_true, b_symOf hm1 (by omega) hr (by decide), Option.bind_some, b_symOf hm1 (by omega) hr (by decide), Option.bind_some]
        rcases u_slv hc1 hm1 hN y3 ⟨y4, s2⟩ hj j4 Pn Qn with ⟨d2, m2, z1, z2, z3, z4⟩ | ⟨d2, m2, A, B, z1, z2, z3, z4, z5, z6, z7, z8, z9, z10⟩
        · exact none' z1 (e6.trans z2) (fd1.t z3) (fm1.t z4)
        · have fd2 := fd1.t z3
          have fm2 := fm1.t z4
          obtain ⟨d3, m3, c3, l3, e3, w1, w2, w3, w4, w5, w6, w7, w8, w9, w10⟩ := u_fill (fd2.cv hc) (fm2.mv hm) hN (e := e) ⟨y4, s2⟩ z5 z6 (by rw [fd2.2.1 6 (by decide) (by decide)]; exact d6) (by rw [fm2.2.1 5 (by decide)]; exact m5) z7 (fun g hg => (y3.2.2.2.1 g hg).2.2) y3.2.2.2.2.2.2.2.2 z8 z9 z10
          refine ⟨d3, m3, c3, l3, e3, z1.trans w1, Or.inr ⟨j, 1, by omega, rfl, (e6.trans z2).trans w2, by omega, ⟨fun z => absurd z (by decide), fun z => by omega⟩⟩, w3, w4, w5, w6, by omega, w8, ?_, ?_⟩
          · intro q h1 h2 h3
            rw [w9 q h1 h2 h3]; exact RDof fd2 q h1 h2 h3
          · intro q h1 h2 h3
            rw [w10 q h1 h2 h3]; exact RMof fm2 q h1 h2 h3
end RP
