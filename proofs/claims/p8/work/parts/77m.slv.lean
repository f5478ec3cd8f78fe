/-! start: both solve alike -/
def hO : Option Nat → Nat
  | none => 0
  | some _ => 1
theorem hO_le (p : Option Nat) : hO p ≤ 1 := by
  cases p with
  | none => exact Nat.zero_le 1
  | some y => exact Nat.le_refl 1
theorem hO_s (y : Nat) : ¬ hO (some y) = 0 := fun z => absurd (show (1 : Nat) = 0 from z) (by decide)
theorem tm_0l {b : Nat} (hb : b < 256) : tm 0 b = 0 := (tm_rp hb (by decide)).trans (pr_0 b)
theorem tm_0r {a : Nat} (ha : a < 256) : tm a 0 = 0 := (tm_pr ha (by decide)).trans (pr_0 a)
section SV
variable {d m : St} {n x N : Nat} {c l : Nat → Nat}
theorem b_132n (b : St) : F_X6_repairs_132 N b (nI 0) = some (nI 0, b) := by
  unfold F_X6_repairs_132
  rw [c_eq0 (by decide), show decide (0 = 0) = true from rfl, cond_true, rz_0]
/-- the rests, where there is a symbol -/
theorem b_rests (hm : MV m n c l x) (hN : 300 ≤ N) {j : Nat} (hj : j < n) (h96 : c (32 * j + 3) ≤ 96) {p q : Option Nat} (hp : ∀ y, p = some y → y < n) (hq : ∀ y, q = some y → y < n) : ∃ m', (bif mx_cnd .eq (oI p) (-nI 1) then (F_X6_repairs_56 N m (nI j) (oI p) (oI q)) else ((F_X6_findRest_30 N m (nI j) (oI p) (nI 0)).bind fun s8 => F_X6_repairs_56 N s8 (nI j) (oI p) (oI q))) = F_X6_repairs_74 N m' (oI p) (oI q) ∧ (hO p ≠ 0 → ∀ k, k < 24 → gA m' 11 k = nI (rst c l x j 0 p k)) ∧ (hO q ≠ 0 → ∀ k, k < 24 → gA m' 12 k = nI (rst c l x j 1 q k)) ∧ gI m' = gI m ∧ (∀ q, q < 11 → gA m' q = gA m q) ∧ gN m' = gN m := by
  have hn := hm.n60
  have s56 : ∀ m1 : St, MV m1 n c l x → ∃ m', F_X6_repairs_56 N m1 (nI j) (oI p) (oI q) = F_X6_repairs_74 N m' (oI p) (oI q) ∧ gA m' 11 = gA m1 11 ∧ (hO q ≠ 0 → ∀ k, k < 24 → gA m' 12 k = nI (rst c l x j 1 q k)) ∧ gI m' = gI m1 ∧ (∀ q, q < 11 → gA m' q = gA m1 q) ∧ gN m' = gN m1 := by
    intro m1 hm1
    unfold F_X6_repairs_56
    cases q with
    | none =>
      refine ⟨m1, ?_, rfl, fun z => absurd rfl z, rfl, fun _ _ => rfl, rfl⟩
      rw [show oI none = -nI 1 from rfl, c_meq, cond_true]
    | some y =>
      have hy := hq y rfl
      obtain ⟨m', k1, k2, k3, k4, k5⟩ := b_rest31 hm1 (N := N) (by omega) hj hy (w := 1) (by decide) h96
      refine ⟨m', ?_, k5 11 (by decide), fun _ => k2, k4, fun q hq => k5 q (by omega), k3⟩
      rw [show oI (some y) = nI y from rfl, c_eqm (by omega), cond_false, k1, Option.bind_some]
  cases p with
  | none =>
    obtain ⟨m', k1, k2, k3, k4, k5, k6⟩ := s56 m hm
    refine ⟨m', ?_, fun z => absurd rfl z, k3, k4, k5, k6⟩
    rw [show mx_cnd .eq (oI none) (-nI 1) = true from c_meq, cond_true, k1]
  | some y =>
    have hy := hp y rfl
    obtain ⟨m1, y1, y2, y3, y4, y5⟩ := b_rest30 hm (N := N) (by omega) hj hy (w := 0) (by decide) h96
    have hm1 : MV m1 n c l x := by
      unfold MV CW at *
      rw [y3, y4, y5 0 (by decide), y5 1 (by decide)]
      exact hm
    obtain ⟨m', k1, k2, k3, k4, k5, k6⟩ := s56 m1 hm1
    refine ⟨m', ?_, fun _ k hk => by rw [k2]; exact y2 k hk, k3, k4.trans y4, fun q hq => (k5 q hq).trans (y5 q (by omega)), k6.trans y3⟩
    rw [show mx_cnd .eq (oI (some y)) (-nI 1) = false from c_eqm (by omega), cond_false]
    rw [show oI (some y) = nI y from rfl, y1, Option.bind_some]
    exact k1
theorem b_isOne (hN : 300 ≤ N) {P0 Q0 hp hq : Nat} (hP : P0 ≤ 1) (hQ : Q0 < 16) (hp1 : hp ≤ 1) (hq1 : hq ≤ 1) (g9 : gA m 9 0 = nI P0) (g10 : gA m 10 0 = nI Q0) : F_X6_isOne N m (nI hp) (nI hq) = F_X6_isOne_58 N N m (nI hp) (nI hq) (nI (if hp = 0 ∨ P0 = 0 then 0 else 1)) (nI (if (hp = 0 ∨ P0 = 0) ∧ (hq = 0 ∨ Q0 = 0) then 0 else 1)) (nI 0) := by
  have s39 : ∀ bp bq, bp ≤ 1 → bq ≤ 1 → F_X6_isOne_39 N m (nI hp) (nI hq) (nI bp) (nI bq) = F_X6_isOne_58 N N m (nI hp) (nI hq) (nI bp) (nI (if bp = 0 ∧ bq = 0 then 0 else 1)) (nI 0) := by
    intro bp bq h1 h2
    unfold F_X6_isOne_39 F_X6_isOne_55
    rw [c_ne0 (by omega), c_eq0 (by omega)]
    by_cases z1 : bp = 0
    · rw [decide_eq_false (fun z => z z1), cond_false]
      by_cases z2 : bq = 0
      · rw [decide_eq_true z2, cond_true, if_pos ⟨z1, z2⟩]
      · rw [decide_eq_false z2, cond_false, if_neg (fun z => z2 z.2)]
    · rw [decide_eq_true z1, cond_true, if_neg (fun z => z1 z.1)]
  have s19 : ∀ bp, bp ≤ 1 → F_X6_isOne_19 N m (nI hp) (nI hq) (nI bp) = F_X6_isOne_58 N N m (nI hp) (nI hq) (nI bp) (nI (if bp = 0 ∧ (hq = 0 ∨ Q0 = 0) then 0 else 1)) (nI 0) := by
    intro bp h1
    unfold F_X6_isOne_19
    rw [c_eq0 (by omega), ldA_n (by decide) (by decide), g10, c_eq0 (by omega)]
    by_cases z1 : hq = 0
    · rw [decide_eq_true z1, cond_true, s39 bp 0 h1 (by decide)]
      by_cases z2 : bp = 0
      · rw [if_pos ⟨z2, rfl⟩, if_pos ⟨z2, Or.inl z1⟩]
      · rw [if_neg (fun z => z2 z.1), if_neg (fun z => z2 z.1)]
    · rw [decide_eq_false z1, cond_false]
      by_cases z3 : Q0 = 0
      · rw [decide_eq_true z3, cond_true, s39 bp 0 h1 (by decide)]
        by_cases z2 : bp = 0
        · rw [if_pos ⟨z2, rfl⟩, if_pos ⟨z2, Or.inr z3⟩]
        · rw [if_neg (fun z => z2 z.1), if_neg (fun z => z2 z.1)]
      · rw [decide_eq_false z3, cond_false, s39 bp 1 h1 (by decide), if_neg (fun z => absurd z.2 (by decide)), if_neg (fun z => z.2.elim z1 z3)]
  unfold F_X6_isOne
  rw [c_eq0 (by omega), ldA_n (by decide) (by decide), g9, c_eq0 (by omega)]
  by_cases z1 : hp = 0
  · rw [decide_eq_true z1, cond_true, s19 0 (by decide), if_pos (Or.inl z1)]
    by_cases z3 : hq = 0 ∨ Q0 = 0
    · rw [if_pos ⟨rfl, z3⟩, if_pos ⟨Or.inl z1, z3⟩]
    · rw [if_neg (fun z => z3 z.2), if_neg (fun z => z3 z.2)]
  · rw [decide_eq_false z1, cond_false]
    by_cases z2 : P0 = 0
    · rw [decide_eq_true z2, cond_true, s19 0 (by decide), if_pos (Or.inr z2)]
      by_cases z3 : hq = 0 ∨ Q0 = 0
      · rw [if_pos ⟨rfl, z3⟩, if_pos ⟨Or.inr z2, z3⟩]
      · rw [if_neg (fun z => z3 z.2), if_neg (fun z => z3 z.2)]
    · rw [decide_eq_false z2, cond_false, s19 1 (by decide), if_neg (show ¬ (1 = 0 ∧ (hq = 0 ∨ Q0 = 0)) from fun z => absurd z.1 (by decide)), if_neg (show ¬ (hp = 0 ∨ P0 = 0) from fun z => z.elim z1 z2), if_neg (show ¬ ((hp = 0 ∨ P0 = 0) ∧ (hq = 0 ∨ Q0 = 0)) from fun z => z.1.elim z1 z2)]
theorem b_one0 (hN : 300 ≤ N) (x1 x2 x3 : Int32) : F_X6_isOne_58 N N m x1 x2 x3 (nI 0) (nI 0) = some (nI 0, m) := by
  obtain ⟨f, hf⟩ : ∃ q, N = q + 1 := ⟨N - 1, by omega⟩
  have : ∀ f, F_X6_isOne_58 N (f + 1) m x1 x2 x3 (nI 0) (nI 0) = some (nI 0, m) := by
    intro f
    rw [F_X6_isOne_58.eq_2, c_ge (by decide) (by decide), show decide (24 ≤ 0) = false from rfl, cond_false, c_eq0 (by decide), show decide (0 = 0) = true from rfl, cond_true, rz_0]
  have := this f
  rw [← hf] at this
  exact this
/-- both sides find the same bytes, or none -/
theorem u_slv (hc : CV d n c l x) (hm : MV m n c l x) (hN : 300 ≤ N) {j s : Nat} {un P Q : Nat → Nat} (hg : GI d m c l x s un P Q) (hs : 1 ≤ s ∧ s ≤ 2) (hj : j < n) (h96 : c (32 * j + 3) ≤ 96) {p q : Option Nat} (hp : ∀ y, p = some y → y < n) (hq : ∀ y, q = some y → y < n) : (∃ d' m', (bindP (F_X2_prepare N d (nI (hO p)) (nI (hO q))) fun v s11 => bif mx_cnd .ne v 0 then F_X5_repairRow_70 N N s11 (nI j) (oI p) (oI q) (nI 0) else some s11) = some d' ∧ (bif mx_cnd .eq (oI p) (-nI 1) then (F_X6_repairs_56 N m (nI j) (oI p) (oI q)) else ((F_X6_findRest_30 N m (nI j) (oI p) (nI 0)).bind fun s8 => F_X6_repairs_56 N s8 (nI j) (oI p) (oI q))) = some (nI 0, m') ∧ FD d d' ∧ FM m m') ∨ (∃ (d' m' : St) (A B : Nat → Nat), (bindP (F_X2_prepare N d (nI (hO p)) (nI (hO q))) fun v s11 => bif mx_cnd .ne v 0 then F_X5_repairRow_70 N N s11 (nI j) (oI p) (oI q) (nI 0) else some s11) = F_X5_fillGaps N d' ∧ (bif mx_cnd .eq (oI p) (-nI 1) then (F_X6_repairs_56 N m (nI j) (oI p) (oI q)) else ((F_X6_findRest_30 N m (nI j) (oI p) (nI 0)).bind fun s8 => F_X6_repairs_56 N s8 (nI j) (oI p) (oI q))) = F_X6_repairs_132 N m' (nI 1) ∧ FD d d' ∧ FM m m' ∧ gI d' 9 = nI s ∧ gI m' 10 = nI s ∧ (∀ g, g < s → gA d' 7 g = nI (un g) ∧ gA m' 8 g = nI (un g)) ∧ (∀ i, i < 24 → gA d' 10 i = nI (A i) ∧ gA m' 13 i = nI (A i)) ∧ (s = 2 → ∀ i, i < 24 → gA d' 10 (24 + i) = nI (B i) ∧ gA m' 14 i = nI (B i)) ∧ (∀ i, A i < 256 ∧ B i < 256)) := by
  obtain ⟨h1, h2, h3, h4, h5, h6, h7, h8, h9⟩ := hg
  have hn := hc.n60
  have hp1 := hO_le p
  have hq1 := hO_le q
  obtain ⟨m2, r1, r2, r3, r4, r5, r6⟩ := b_rests hm hN hj h96 hp hq
  have fm2 : FM m m2 := ⟨r6, fun q _ => by rw [r4], fun q hq => r5 q (by omega)⟩
  have rp8 : ∀ i, rst c l x j 0 p i < 256 := fun i => rst_lt hc.b x j 0 p i
  have rq8 : ∀ i, rst c l x j 1 q i < 256 := fun i => rst_lt hc.b x j 1 q i
  obtain ⟨P', hP'⟩ : ∃ P' : Nat → Nat, P' = fun g => if hO p = 0 then 0 else P g := ⟨_, rfl⟩
  obtain ⟨Q', hQ'⟩ : ∃ Q' : Nat → Nat, Q' = fun g => if hO q = 0 then 0 else Q g := ⟨_, rfl⟩
  obtain ⟨d1, k1, k2, k3, k4, k5, k6⟩ := a_prep hN h1 hs h5 h7 hp1 hq1
  rw [← hP', ← hQ'] at k1 k2
  have k5' : ∀ g, g < 4 → gA d1 8 g = nI (P' g) ∧ gA d1 9 g = nI (Q' g) := by rw [hP', hQ']; exact k5
  have hb' : ∀ g, P' g ≤ 1 ∧ Q' g < 16 := by
    intro g
    have := h7 g
    rw [hP', hQ']
    dsimp only
    constructor
    · by_cases z : hO p = 0
      · rw [if_pos z]; omega
      · rw [if_neg z]; omega
    · by_cases z : hO q = 0
      · rw [if_pos z]; omega
      · rw [if_neg z]; omega
  have hpv := pvF_lt (s := s) hb'
  have hiv := iv_lt hpv
  rw [r1, k1, bindP_s]
  have u8 : ∀ g, g < s → gA d1 7 g = nI (un g) ∧ gA m2 8 g = nI (un g) := fun g hg => ⟨by rw [k4]; exact (h4 g hg).1, by rw [r5 8 (by decide)]; exact (h4 g hg).2.1⟩
  by_cases s2 : s = 2
  · -- two unknowns
    subst s2
    have hPm : ∀ g, g < 2 → gA m2 9 g = nI (P g) ∧ gA m2 10 g = nI (Q g) := fun g hg => by rw [r5 9 (by decide), r5 10 (by decide)]; exact h6 g hg
    have two := b_isTwo (m := m2) hN h7 hPm
    have e74 : F_X6_repairs_74 N m2 (oI p) (oI q) = bindP (F_X6_isTwo N m2 (nI (if hO p = 0 ∨ hO q = 0 then 0 else 1))) fun v s => F_X6_repairs_132 N s v := by
      unfold F_X6_repairs_74
      rw [r4, h2, c_ne (by decide) (by decide), show decide (¬ 2 = 1) = true from rfl, cond_true]
      cases p with
      | none => rw [show mx_cnd .eq (oI none) (-nI 1) = true from c_meq, cond_true, if_pos (show hO none = 0 ∨ hO q = 0 from Or.inl rfl)]
      | some y =>
        have hy := hp y rfl
        rw [show mx_cnd .eq (oI (some y)) (-nI 1) = false from c_eqm (by omega), cond_false]
        cases q with
        | none => rw [show mx_cnd .eq (oI none) (-nI 1) = true from c_meq, cond_true, if_pos (show hO (some y) = 0 ∨ hO none = 0 from Or.inr rfl)]
        | some z =>
          have hz := hq z rfl
          rw [show mx_cnd .eq (oI (some z)) (-nI 1) = false from c_eqm (by omega), cond_false, if_neg (fun w => w.elim (hO_s y) (hO_s z))]
    rw [e74, two]
    by_cases both : hO p = 0 ∨ hO q = 0
    · have pv0 : pvF 2 P' Q' = 0 := by
        unfold pvF
        have b0 := hb' 0
        have b1 := hb' 1
        rw [if_pos rfl]
        rcases both with z | z
        · have : P' = fun _ => 0 := by rw [hP']; funext g; rw [if_pos z]
          rw [this, tm_0l (by omega), tm_0l (by omega)]
          rfl
        · have : Q' = fun _ => 0 := by rw [hQ']; funext g; rw [if_pos z]
          rw [this, tm_0r (by omega), tm_0r (by omega)]
          rfl
      refine Or.inl ⟨d1, m2, ?_, ?_, k6, fm2⟩
      · rw [if_pos pv0, c_ne0 (by decide), show decide (¬ 0 = 0) = false from rfl, cond_false]
      · rw [if_pos both, b_two0 hN (by decide) (pvF_lt h7) (Or.inl rfl), bindP_s, b_132n]
    · have zp : hO p ≠ 0 := fun z => both (Or.inl z)
      have zq : hO q ≠ 0 := fun z => both (Or.inr z)
      have eP : P' = P := by rw [hP']; funext g; rw [if_neg zp]
      have eQ : Q' = Q := by rw [hQ']; funext g; rw [if_neg zq]
      rw [eP, eQ] at k2 k5' hpv hiv ⊢
      rw [if_neg both]
      by_cases pv0 : pvF 2 P Q = 0
      · refine Or.inl ⟨d1, m2, ?_, ?_, k6, fm2⟩
        · rw [if_pos pv0, c_ne0 (by decide), show decide (¬ 0 = 0) = false from rfl, cond_false]
        · rw [b_two0 hN (by decide) hpv (Or.inr pv0), bindP_s, b_132n]
      · obtain ⟨d2, y1, y2, -, y4, y5, y6⟩ := a_loop2 hN hj hp hq hiv h7 24 0 N d1 (by omega) (by omega) (k6.cv hc) k3 k2 k5'
        obtain ⟨m3, z1, z2, -, z4, z5, z6⟩ := b_two hN h7 hpv pv0 rp8 rq8 24 0 N m2 (by omega) (by omega) hPm (fun k hk => ⟨r2 zp k hk, r3 zq k hk⟩)
        have b0 := h7 0
        have b1 := h7 1
        refine Or.inr ⟨d2, m3, fun k => tm (pr (rst c l x j 0 p k) (Q 1) ^^^ pr (rst c l x j 1 q k) (P 1)) (iv (pvF 2 P Q)), fun k => tm (pr (rst c l x j 1 q k) (P 0) ^^^ pr (rst c l x j 0 p k) (Q 0)) (iv (pvF 2 P Q)), ?_, ?_, ?_, ?_, ?_, ?_, ?_, ?_, ?_, ?_⟩
        · rw [if_neg pv0, c_ne0 (by decide), show decide (¬ 1 = 0) = true from rfl, cond_true]
          exact y1
        · rw [z1, bindP_s]
        · exact k6.t ⟨y4, fun q _ _ => by rw [y5], fun q hq => y6 q (by omega)⟩
        · exact fm2.t ⟨z4, fun q _ => by rw [z5], fun q hq => z6 q (by omega) (by omega)⟩
        · rw [y5]; exact k3
        · rw [z5, r4]; exact h2
        · intro g hg
          rw [y6 7 (by decide), z6 8 (by decide) (by decide)]
          exact u8 g hg
        · intro i hi
          have e := y2 i (by omega) hi
          rw [tm_pr (rp8 i) (by omega), tm_pr (rq8 i) (by omega)] at e
          exact ⟨e.1, (z2 i (by omega) hi).1⟩
        · intro _ i hi
          have e := y2 i (by omega) hi
          rw [tm_pr (rq8 i) (show P 0 < 16 by omega), tm_pr (rp8 i) (show Q 0 < 16 by omega)] at e
          exact ⟨e.2, (z2 i (by omega) hi).2⟩
        · intro i
          exact ⟨(g_dv ⟨_, hpv⟩ pv0 ⟨_, xor_b (pr_lt (rp8 i) (by omega)) (pr_lt (rq8 i) (by omega))⟩).1, (g_dv ⟨_, hpv⟩ pv0 ⟨_, xor_b (pr_lt (rq8 i) (by omega)) (pr_lt (rp8 i) (by omega))⟩).1⟩
  · -- one unknown
    obtain rfl : s = 1 := by omega
    have b0 := h7 0
    have g9 : gA m2 9 0 = nI (P 0) := by rw [r5 9 (by decide)]; exact (h6 0 (by decide)).1
    have g10 : gA m2 10 0 = nI (Q 0) := by rw [r5 10 (by decide)]; exact (h6 0 (by decide)).2
    have e74 : F_X6_repairs_74 N m2 (oI p) (oI q) = bindP (F_X6_isOne N m2 (nI (hO p)) (nI (hO q))) fun v s => F_X6_repairs_132 N s v := by
      unfold F_X6_repairs_74
      rw [r4, h2, c_ne (by decide) (by decide), show decide (¬ 1 = 1) = false from rfl, cond_false]
      cases p with
      | none =>
        rw [show mx_cnd .eq (oI none) (-nI 1) = true from c_meq, cond_true]
        cases q with
        | none => rw [show mx_cnd .eq (oI none) (-nI 1) = true from c_meq, cond_true]; rfl
        | some z =>
          have hz := hq z rfl
          rw [show mx_cnd .eq (oI (some z)) (-nI 1) = false from c_eqm (by omega), cond_false]; rfl
      | some y =>
        have hy := hp y rfl
        rw [show mx_cnd .eq (oI (some y)) (-nI 1) = false from c_eqm (by omega), cond_false]
        cases q with
        | none => rw [show mx_cnd .eq (oI none) (-nI 1) = true from c_meq, cond_true]; rfl
        | some z =>
          have hz := hq z rfl
          rw [show mx_cnd .eq (oI (some z)) (-nI 1) = false from c_eqm (by omega), cond_false]; rfl
    have eP0 : P' 0 = if hO p = 0 then 0 else P 0 := by rw [hP']
    have eQ0 : Q' 0 = if hO q = 0 then 0 else Q 0 := by rw [hQ']
    have epv : pvF 1 P' Q' = if P' 0 = 0 then Q' 0 else P' 0 := by unfold pvF; rw [if_neg (by decide)]
    have cp : (hO p = 0 ∨ P 0 = 0) ↔ P' 0 = 0 := by
      rw [eP0]
      by_cases z : hO p = 0
      · rw [if_pos z]; exact ⟨fun _ => rfl, fun _ => Or.inl z⟩
      · rw [if_neg z]; exact ⟨fun y => y.elim (fun w => absurd w z) id, Or.inr⟩
    have cq : (hO q = 0 ∨ Q 0 = 0) ↔ Q' 0 = 0 := by
      rw [eQ0]
      by_cases z : hO q = 0
      · rw [if_pos z]; exact ⟨fun _ => rfl, fun _ => Or.inl z⟩
      · rw [if_neg z]; exact ⟨fun y => y.elim (fun w => absurd w z) id, Or.inr⟩
    rw [e74, b_isOne hN b0.1 b0.2 hp1 hq1 g9 g10]
    by_cases pv0 : pvF 1 P' Q' = 0
    · have z0 : P' 0 = 0 ∧ Q' 0 = 0 := by
        rw [epv] at pv0
        by_cases z : P' 0 = 0
        · rw [if_pos z] at pv0; exact ⟨z, pv0⟩
        · rw [if_neg z] at pv0; exact absurd pv0 z
      refine Or.inl ⟨d1, m2, ?_, ?_, k6, fm2⟩
      · rw [if_pos pv0, c_ne0 (by decide), show decide (¬ 0 = 0) = false from rfl, cond_false]
      · rw [if_pos (show (hO p = 0 ∨ P 0 = 0) ∧ (hO q = 0 ∨ Q 0 = 0) from ⟨cp.mpr z0.1, cq.mpr z0.2⟩), b_one0 hN, bindP_s, b_132n]
    · have zn : ¬ ((hO p = 0 ∨ P 0 = 0) ∧ (hO q = 0 ∨ Q 0 = 0)) := by
        intro z
        apply pv0
        rw [epv, if_pos (cp.mp z.1)]
        exact cq.mp z.2
      obtain ⟨bp, hbp⟩ : ∃ bp, bp = if hO p = 0 ∨ P 0 = 0 then 0 else 1 := ⟨_, rfl⟩
      have hbp1 : bp ≤ 1 := by
        rw [hbp]
        by_cases z : hO p = 0 ∨ P 0 = 0
        · rw [if_pos z]; omega
        · rw [if_neg z]; omega
      have bpP : bp = 0 ↔ P' 0 = 0 := by
        rw [hbp, ← cp]
        by_cases z : hO p = 0 ∨ P 0 = 0
        · rw [if_pos z]; exact ⟨fun _ => z, fun _ => rfl⟩
        · rw [if_neg z]; exact ⟨fun w => absurd w (by decide), fun w => absurd w z⟩
      have c1 : bp ≠ 0 → hO p ≠ 0 := fun z w => z (bpP.mpr (cp.mp (Or.inl w)))
      have c2 : bp = 0 → hO q ≠ 0 ∧ Q 0 ≠ 0 := fun z => by
        have z1 := cp.mpr (bpP.mp z)
        exact ⟨fun w => zn ⟨z1, Or.inl w⟩, fun w => zn ⟨z1, Or.inr w⟩⟩
      obtain ⟨A, hA⟩ : ∃ A : Nat → Nat, A = fun i => tm (if P' 0 = 0 then rst c l x j 1 q i else rst c l x j 0 p i) (iv (pvF 1 P' Q')) := ⟨_, rfl⟩
      have hA8 : ∀ i, A i < 256 := by
        intro i
        rw [hA]
        dsimp only
        by_cases z : P' 0 = 0
        · rw [if_pos z]; exact (g_dv ⟨_, hpv⟩ pv0 ⟨_, rq8 i⟩).1
        · rw [if_neg z]; exact (g_dv ⟨_, hpv⟩ pv0 ⟨_, rp8 i⟩).1
      have hAo : ∀ i, oneA bp (Q 0) (rst c l x j 0 p) (rst c l x j 1 q) i = A i := by
        intro i
        rw [hA]
        dsimp only
        unfold oneA
        by_cases z : P' 0 = 0
        · have zb := bpP.mpr z
          have zq := (c2 zb).1
          rw [if_pos zb, if_pos z, epv, if_pos z, eQ0, if_neg zq]
        · have zb : ¬ bp = 0 := fun w => z (bpP.mp w)
          have b0' := hb' 0
          rw [if_neg zb, if_neg z, epv, if_neg z, show P' 0 = 1 by omega, show iv 1 = 1 from by decide, tm_pr (rp8 i) (by decide), pr_1 (rp8 i)]
      have okE : ∀ k, okM (hO p) (hO q) (P 0) (Q 0) (oneA bp (Q 0) (rst c l x j 0 p) (rst c l x j 1 q)) (rst c l x j 0 p) (rst c l x j 1 q) k ↔ (tm (P' 0) (A k) = rst c l x j 0 p k ∧ tm (Q' 0) (A k) = rst c l x j 1 q k) := by
        intro k
        unfold okM
        rw [hAo k, eP0, eQ0]
        have e1 : (hO p = 0 ∨ pr (A k) (P 0) = rst c l x j 0 p k) ↔ tm (if hO p = 0 then 0 else P 0) (A k) = rst c l x j 0 p k := by
          cases p with
          | none => exact ⟨fun _ => by rw [if_pos (show hO none = 0 from rfl), tm_0l (hA8 k)]; rfl, fun _ => Or.inl rfl⟩
          | some y =>
            rw [if_neg (hO_s y), tm_rp (hA8 k) (by omega)]
            exact ⟨fun z => z.elim (fun w => absurd w (hO_s y)) id, Or.inr⟩
        have e2 : (hO q = 0 ∨ pr (A k) (Q 0) = rst c l x j 1 q k) ↔ tm (if hO q = 0 then 0 else Q 0) (A k) = rst c l x j 1 q k := by
          cases q with
          | none => exact ⟨fun _ => by rw [if_pos (show hO none = 0 from rfl), tm_0l (hA8 k)]; rfl, fun _ => Or.inl rfl⟩
          | some y =>
            rw [if_neg (hO_s y), tm_rp (hA8 k) (by omega)]
            exact ⟨fun z => z.elim (fun w => absurd w (hO_s y)) id, Or.inr⟩
        rw [e1, e2]
      obtain ⟨d2, y1, y4, y5, y6⟩ := a_loop1 hN hj hp hq hiv hb' (A := A) (fun i => by rw [hA]) hA8 24 0 N d1 (by omega) (by omega) (k6.cv hc) k3 k2 k5'
      obtain ⟨m3, b, z1, z2, -, z4, z5, z6⟩ := b_one hN b0.1 b0.2 hp1 hq1 hbp1 c1 c2 rp8 rq8 24 0 N m2 (by omega) (by omega) g9 g10 r2 r3
      have fd2 : FD d d2 := k6.t ⟨y4, fun q _ _ => by rw [y5], fun q hq => y6 q (by omega)⟩
      have fm3 : FM m m3 := fm2.t ⟨z4, fun q _ => by rw [z5], fun q hq => z6 q (by omega)⟩
      rw [if_neg zn, ← hbp, z1, bindP_s, if_neg pv0, c_ne0 (by decide), show decide (¬ 1 = 0) = true from rfl, cond_true]
      rcases y1 with ⟨w1, w2, -, w4⟩ | ⟨w1, k, -, w3, w4⟩
      · rcases z2 with ⟨v1, v2, v3⟩ | ⟨v1, k, v2, v3, v4⟩
        · rw [v1]
          refine Or.inr ⟨d2, m3, A, fun _ => 0, w1, rfl, fd2, fm3, by rw [y5]; exact k3, by rw [z5, r4]; exact h2, ?_, ?_, fun z => absurd z (by decide), fun i => ⟨hA8 i, Nat.zero_lt_succ 255⟩⟩
          · intro g hg
            rw [y6 7 (by decide), z6 8 (by decide)]
            exact u8 g hg
          · intro i hi
            exact ⟨w2 i (by omega) hi, by rw [v3 i (by omega) hi, hAo]⟩
        · exact absurd ((okE k).mpr (w4 k (by omega) v3)) v4
      · rcases z2 with ⟨v1, v2, v3⟩ | ⟨v1, -⟩
        · exact absurd ((okE k).mp (v2 k (by omega) w3)) w4
        · rw [v1]
          exact Or.inl ⟨d2, m3, w1, b_132n m3, fd2, fm3⟩
end SV
