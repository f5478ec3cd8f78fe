/-! start: what the symbols leave over, and the class's equations -/
theorem tq_0 (w k : Nat) : tq w k 0 = 0 := by
  unfold tq
  rw [tp_0]
  by_cases q : w = 1
  · rw [if_pos q]
  · rw [if_neg q]
def pvF (s : Nat) (P Q : Nat → Nat) : Nat := if s = 2 then tm (P 0) (Q 1) ^^^ tm (P 1) (Q 0) else if P 0 = 0 then Q 0 else P 0
theorem g_t1 : ∀ a : Fin 2, ∀ b : Fin 16, tm a b < 16 := by decide +kernel
theorem pvF_lt {s : Nat} {P Q : Nat → Nat} (h : ∀ g, P g ≤ 1 ∧ Q g < 16) : pvF s P Q < 16 := by
  unfold pvF
  have h0 := h 0
  have h1 := h 1
  by_cases q : s = 2
  · rw [if_pos q]
    exact x16 (g_t1 ⟨P 0, by omega⟩ ⟨Q 1, by omega⟩) (g_t1 ⟨P 1, by omega⟩ ⟨Q 0, by omega⟩)
  · rw [if_neg q]
    by_cases q2 : P 0 = 0
    · rw [if_pos q2]; omega
    · rw [if_neg q2]; omega
theorem iv_0 {e : Nat} (he : e < 16) : iv e = 0 ↔ e = 0 := by
  constructor
  · intro h
    by_cases q : e = 0
    · exact q
    · have := ((g_iv ⟨e, he⟩).2 q).1
      dsimp only at this
      omega
  · intro h
    rw [h]
    decide
theorem iv_lt {e : Nat} (he : e < 16) : iv e < 256 := (g_iv ⟨e, he⟩).1
/-- what symbol w leaves over at byte i; none: 0 -/
def rst (c l : Nat → Nat) (x j w : Nat) (y : Option Nat) (i : Nat) : Nat := match y with
  | none => 0
  | some y => c (32 * y + (4 + i)) ^^^ xs_ w (sbv c l x j i) (nbk (c (32 * j + 3)))
theorem rst_lt {c l : Nat → Nat} (hc : ∀ i, c i < 256) (x j w : Nat) (y : Option Nat) (i : Nat) : rst c l x j w y i < 256 := by
  cases y with
  | none => exact (by decide : 0 < 256)
  | some y => exact xor_b (hc _) (xs_lt (fun k => sbv_lt hc x j i k) _)
section RS
variable {d m : St} {n x N : Nat} {c l : Nat → Nat}
theorem b_rest30 (hm : MV m n c l x) (hN : 100 ≤ N) {j y w : Nat} (hj : j < n) (hy : y < n) (hw : w ≤ 1) (h96 : c (32 * j + 3) ≤ 96) : ∃ m', F_X6_findRest_30 N m (nI j) (nI y) (nI w) = some m' ∧ (∀ i, i < 24 → gA m' 11 i = nI (rst c l x j w (some y) i)) ∧ gN m' = gN m ∧ gI m' = gI m ∧ (∀ q, q ≠ 11 → gA m' q = gA m q) := by
  have hn := hm.n60
  have hB := nbk_le (c (32 * j + 3))
  have hb8 := hm.1.2.2.2.2.2.1
  have inn : ∀ (K : St → Int32 → Int32 → Int32 → Int32 → Option St) (m : St), MV m n c l x → ∀ (e i : Nat), e < 256 → i < 24 → ∀ a k f, k + a = nbk (c (32 * j + 3)) → a < f → F_X6_findRest_30_29 N K f m (nI j) (nI y) (nI w) (nI i) (nI (e ^^^ xs_ w (sbv c l x j i) k)) (nI k) = K (sA m 11 (upd (gA m 11) i (nI (e ^^^ xs_ w (sbv c l x j i) (nbk (c (32 * j + 3))))))) (nI j) (nI y) (nI w) (nI (i + 1)) := by
    intro K m hm e i he hi a
    have hbat := b_bat hm.1 hj
    rw [← nbk_96 h96] at hbat
    have h4 := hm.1.2.2.2.1
    induction a with
    | zero =>
      intro k f e1 e2
      obtain ⟨f, rfl⟩ : ∃ q, f = q + 1 := ⟨f - 1, by omega⟩
      rw [F_X6_findRest_30_29.eq_2, hbat, Option.bind_some, c_ge (by omega) (by omega), decide_eq_true (by omega), cond_true, stA_n (by omega) (by decide), nI_add, show k = nbk (c (32 * j + 3)) by omega]
    | succ a ih =>
      intro k f e1 e2
      obtain ⟨f, rfl⟩ : ∃ q, f = q + 1 := ⟨f - 1, by omega⟩
      have ih := ih (k + 1) f (by omega) (by omega)
      have w1 := hb8 (32 * j + (4 + k))
      have hx8 := xs_lt (w := w) (fun k => sbv_lt (l := l) hb8 x j i k) k
      rw [F_X6_findRest_30_29.eq_2, hbat, Option.bind_some, c_ge (by omega) (by omega), decide_eq_false (by omega), cond_false, b_blk hm.1 hj (by omega), Option.bind_some, b_isBlock hm (by omega) (by omega), Option.bind_some, nI_add k 1]
      rw [show xs_ w (sbv c l x j i) (k + 1) = xs_ w (sbv c l x j i) k ^^^ tq w k (sbv c l x j i k) from rfl] at ih
      cases hq : bk c l x (c (32 * j + (4 + k))) with
      | true =>
        have hb := of_decide_eq_true hq
        have hsv : sbv c l x j i k = c (32 * c (32 * j + (4 + k)) + (4 + i)) := if_pos hq
        rw [hsv] at ih
        have htq := tq_lt (w := w) (k := k) (hb8 (32 * c (32 * j + (4 + k)) + (4 + i)))
        have hex := xor_b he hx8
        rw [Bool.toNat_true, c_eq0 (by decide), show decide (1 = 0) = false from rfl, cond_false, pk_mul, nI_add, nI_add, ldA_n (by omega) (by decide), h4, NF_ap, b_wt hw (by omega), Option.bind_some, Nat.add_assoc, b_pw hN (by omega) (hb8 _), Option.bind_some, nI_xor (by omega) (by omega), Nat.xor_assoc]
        exact ih
      | false =>
        have hsv : sbv c l x j i k = 0 := if_neg (by rw [hq]; decide)
        rw [hsv, tq_0, Nat.xor_zero] at ih
        rw [Bool.toNat_false, c_eq0 (by decide), show decide (0 = 0) = true from rfl, cond_true]
        exact ih
  have key : ∀ a i f m0, i + a = 24 → a < f → MV m0 n c l x → ∃ m', F_X6_findRest_30_3 N f m0 (nI j) (nI y) (nI w) (nI i) = some m' ∧ (∀ k, i ≤ k → k < 24 → gA m' 11 k = nI (rst c l x j w (some y) k)) ∧ (∀ k, k < i → gA m' 11 k = gA m0 11 k) ∧ gN m' = gN m0 ∧ gI m' = gI m0 ∧ (∀ q, q ≠ 11 → gA m' q = gA m0 q) := by
    intro a
    induction a with
    | zero =>
      intro i f m0 e1 e2 hm0
      obtain ⟨f, rfl⟩ : ∃ q, f = q + 1 := ⟨f - 1, by omega⟩
      refine ⟨m0, ?_, fun k h1 h2 => by omega, fun _ _ => rfl, rfl, rfl, fun _ _ => rfl⟩
      rw [F_X6_findRest_30_3.eq_2, c_ge (by omega) (by decide), decide_eq_true (by omega), cond_true]
    | succ a ih =>
      intro i f m0 e1 e2 hm0
      obtain ⟨f, rfl⟩ : ∃ q, f = q + 1 := ⟨f - 1, by omega⟩
      have h4 := hm0.1.2.2.2.1
      obtain ⟨m', k1, k2, k3, k4, k5, k6⟩ := ih (i + 1) f (sA m0 11 (upd (gA m0 11) i (nI (rst c l x j w (some y) i)))) (by omega) (by omega) (MV_sA hm0 (by decide) _)
      have hin := inn (F_X6_findRest_30_3 N f) m0 hm0 (c (32 * y + (4 + i))) i (hb8 _) (by omega) (nbk (c (32 * j + 3))) 0 N (by omega) (by omega)
      rw [show xs_ w (sbv c l x j i) 0 = 0 from rfl, Nat.xor_zero] at hin
      refine ⟨m', ?_, ?_, ?_, k4, k5, ?_⟩
      · rw [F_X6_findRest_30_3.eq_2, c_ge (by omega) (by decide), decide_eq_false (by omega), cond_false, pk_mul, nI_add, nI_add, ldA_n (by omega) (by decide), h4, NF_ap, Nat.add_assoc, hin]
        exact k1
      · intro k h1 h2
        by_cases q : k = i
        · subst q
          rw [k3 k (by omega), gA_eq, pk_us]
        · exact k2 k (by omega) h2
      · intro k hk
        rw [k3 k (by omega), gA_eq, pk_un (by omega)]
      · intro q hq
        rw [k6 q hq, gA_ne hq]
  obtain ⟨m', k1, k2, k3, k4, k5, k6⟩ := key 24 0 N m (by omega) (by omega) hm
  exact ⟨m', k1, fun i hi => k2 i (by omega) hi, k4, k5, k6⟩
theorem b_rest31 (hm : MV m n c l x) (hN : 100 ≤ N) {j y w : Nat} (hj : j < n) (hy : y < n) (hw : w ≤ 1) (h96 : c (32 * j + 3) ≤ 96) : ∃ m', F_X6_findRest_31 N m (nI j) (nI y) (nI w) = some m' ∧ (∀ i, i < 24 → gA m' 12 i = nI (rst c l x j w (some y) i)) ∧ gN m' = gN m ∧ gI m' = gI m ∧ (∀ q, q ≠ 12 → gA m' q = gA m q) := by
  have hn := hm.n60
  have hB := nbk_le (c (32 * j + 3))
  have hb8 := hm.1.2.2.2.2.2.1
  have inn : ∀ (K : St → Int32 → Int32 → Int32 → Int32 → Option St) (m : St), MV m n c l x → ∀ (e i : Nat), e < 256 → i < 24 → ∀ a k f, k + a = nbk (c (32 * j + 3)) → a < f → F_X6_findRest_31_29 N K f m (nI j) (nI y) (nI w) (nI i) (nI (e ^^^ xs_ w (sbv c l x j i) k)) (nI k) = K (sA m 12 (upd (gA m 12) i (nI (e ^^^ xs_ w (sbv c l x j i) (nbk (c (32 * j + 3))))))) (nI j) (nI y) (nI w) (nI (i + 1)) := by
    intro K m hm e i he hi a
    have hbat := b_bat hm.1 hj
    rw [← nbk_96 h96] at hbat
    have h4 := hm.1.2.2.2.1
    induction a with
    | zero =>
      intro k f e1 e2
      obtain ⟨f, rfl⟩ : ∃ q, f = q + 1 := ⟨f - 1, by omega⟩
      rw [F_X6_findRest_31_29.eq_2, hbat, Option.bind_some, c_ge (by omega) (by omega), decide_eq_true (by omega), cond_true, stA_n (by omega) (by decide), nI_add, show k = nbk (c (32 * j + 3)) by omega]
    | succ a ih =>
      intro k f e1 e2
      obtain ⟨f, rfl⟩ : ∃ q, f = q + 1 := ⟨f - 1, by omega⟩
      have ih := ih (k + 1) f (by omega) (by omega)
      have w1 := hb8 (32 * j + (4 + k))
      have hx8 := xs_lt (w := w) (fun k => sbv_lt (l := l) hb8 x j i k) k
      rw [F_X6_findRest_31_29.eq_2, hbat, Option.bind_some, c_ge (by omega) (by omega), decide_eq_false (by omega), cond_false, b_blk hm.1 hj (by omega), Option.bind_some, b_isBlock hm (by omega) (by omega), Option.bind_some, nI_add k 1]
      rw [show xs_ w (sbv c l x j i) (k + 1) = xs_ w (sbv c l x j i) k ^^^ tq w k (sbv c l x j i k) from rfl] at ih
      cases hq : bk c l x (c (32 * j + (4 + k))) with
      | true =>
        have hb := of_decide_eq_true hq
        have hsv : sbv c l x j i k = c (32 * c (32 * j + (4 + k)) + (4 + i)) := if_pos hq
        rw [hsv] at ih
        have htq := tq_lt (w := w) (k := k) (hb8 (32 * c (32 * j + (4 + k)) + (4 + i)))
        have hex := xor_b he hx8
        rw [Bool.toNat_true, c_eq0 (by decide), show decide (1 = 0) = false from rfl, cond_false, pk_mul, nI_add, nI_add, ldA_n (by omega) (by decide), h4, NF_ap, b_wt hw (by omega), Option.bind_some, Nat.add_assoc, b_pw hN (by omega) (hb8 _), Option.bind_some, nI_xor (by omega) (by omega), Nat.xor_assoc]
        exact ih
      | false =>
        have hsv : sbv c l x j i k = 0 := if_neg (by rw [hq]; decide)
        rw [hsv, tq_0, Nat.xor_zero] at ih
        rw [Bool.toNat_false, c_eq0 (by decide), show decide (0 = 0) = true from rfl, cond_true]
        exact ih
  have key : ∀ a i f m0, i + a = 24 → a < f → MV m0 n c l x → ∃ m', F_X6_findRest_31_3 N f m0 (nI j) (nI y) (nI w) (nI i) = some m' ∧ (∀ k, i ≤ k → k < 24 → gA m' 12 k = nI (rst c l x j w (some y) k)) ∧ (∀ k, k < i → gA m' 12 k = gA m0 12 k) ∧ gN m' = gN m0 ∧ gI m' = gI m0 ∧ (∀ q, q ≠ 12 → gA m' q = gA m0 q) := by
    intro a
    induction a with
    | zero =>
      intro i f m0 e1 e2 hm0
      obtain ⟨f, rfl⟩ : ∃ q, f = q + 1 := ⟨f - 1, by omega⟩
      refine ⟨m0, ?_, fun k h1 h2 => by omega, fun _ _ => rfl, rfl, rfl, fun _ _ => rfl⟩
      rw [F_X6_findRest_31_3.eq_2, c_ge (by omega) (by decide), decide_eq_true (by omega), cond_true]
    | succ a ih =>
      intro i f m0 e1 e2 hm0
      obtain ⟨f, rfl⟩ : ∃ q, f = q + 1 := ⟨f - 1, by omega⟩
      have h4 := hm0.1.2.2.2.1
      obtain ⟨m', k1, k2, k3, k4, k5, k6⟩ := ih (i + 1) f (sA m0 12 (upd (gA m0 12) i (nI (rst c l x j w (some y) i)))) (by omega) (by omega) (MV_sA hm0 (by decide) _)
      have hin := inn (F_X6_findRest_31_3 N f) m0 hm0 (c (32 * y + (4 + i))) i (hb8 _) (by omega) (nbk (c (32 * j + 3))) 0 N (by omega) (by omega)
      rw [show xs_ w (sbv c l x j i) 0 = 0 from rfl, Nat.xor_zero] at hin
      refine ⟨m', ?_, ?_, ?_, k4, k5, ?_⟩
      · rw [F_X6_findRest_31_3.eq_2, c_ge (by omega) (by decide), decide_eq_false (by omega), cond_false, pk_mul, nI_add, nI_add, ldA_n (by omega) (by decide), h4, NF_ap, Nat.add_assoc, hin]
        exact k1
      · intro k h1 h2
        by_cases q : k = i
        · subst q
          rw [k3 k (by omega), gA_eq, pk_us]
        · exact k2 k (by omega) h2
      · intro k hk
        rw [k3 k (by omega), gA_eq, pk_un (by omega)]
      · intro q hq
        rw [k6 q hq, gA_ne hq]
  obtain ⟨m', k1, k2, k3, k4, k5, k6⟩ := key 24 0 N m (by omega) (by omega) hm
  exact ⟨m', k1, fun i hi => k2 i (by omega) hi, k4, k5, k6⟩
theorem a_prep42 (hN : 300 ≤ N) {s : Nat} {P Q : Nat → Nat} (h9 : gI d 9 = nI s) (hs : 1 ≤ s ∧ s ≤ 2) (hP : ∀ g, g < 4 → gA d 8 g = nI (P g) ∧ gA d 9 g = nI (Q g)) (hb : ∀ g, P g ≤ 1 ∧ Q g < 16) : F_X2_prepare_42 N d = some (nI (if pvF s P Q = 0 then 0 else 1), sI d 10 (nI (iv (pvF s P Q)))) := by
  have b0 := hb 0
  have b1 := hb 1
  have p0 := hP 0 (by decide)
  have p1 := hP 1 (by decide)
  have last : ∀ v, v = pvF s P Q → F_X2_prepare_109 N d (nI v) = some (nI (if pvF s P Q = 0 then 0 else 1), sI d 10 (nI (iv (pvF s P Q)))) := by
    intro v hv
    have hlt := pvF_lt (s := s) hb
    have hil := iv_lt hlt
    have hi0 := iv_0 hlt
    unfold F_X2_prepare_109
    rw [hv, a_inv hN hlt, Option.bind_some, bnd_s, gI_eq, c_eq0 (by omega)]
    by_cases q : pvF s P Q = 0
    · rw [decide_eq_true (hi0.mpr q), cond_true, if_pos q]
    · rw [decide_eq_false (fun z => q (hi0.mp z)), cond_false, if_neg q]
  unfold F_X2_prepare_42
  rw [h9, c_ne (by omega) (by decide), ldA_n (by decide) (by decide), ldA_n (by decide) (by decide), ldA_n (by decide) (by decide), ldA_n (by decide) (by decide), p0.1]
  have t1 := g_t1 ⟨P 0, by omega⟩ ⟨Q 1, by omega⟩
  have t2 := g_t1 ⟨P 1, by omega⟩ ⟨Q 0, by omega⟩
  dsimp only at t1 t2
  by_cases q : s = 2
  · rw [decide_eq_false (fun z => z q), cond_false, ldA_n (by decide) (by decide), p1.2, a_tm (by omega) (by omega) (by omega), Option.bind_some, ldA_n (by decide) (by decide), ldA_n (by decide) (by decide), p1.1, p0.2, a_tm (by omega) (by omega) (by omega), Option.bind_some, nI_xor (by omega) (by omega)]
    exact last _ (by unfold pvF; rw [if_pos q])
  · rw [decide_eq_true q, cond_true, c_eq0 (by omega)]
    by_cases q2 : P 0 = 0
    · rw [decide_eq_true q2, cond_true, p0.2]
      exact last _ (by unfold pvF; rw [if_neg q, if_pos q2])
    · rw [decide_eq_false q2, cond_false]
      exact last _ (by unfold pvF; rw [if_neg q, if_neg q2])
theorem a_prep (hN : 300 ≤ N) {s hp hq : Nat} {P Q : Nat → Nat} (h9 : gI d 9 = nI s) (hs : 1 ≤ s ∧ s ≤ 2) (hP : ∀ g, g < 4 → gA d 8 g = nI (P g) ∧ gA d 9 g = nI (Q g)) (hb : ∀ g, P g ≤ 1 ∧ Q g < 16) (hp1 : hp ≤ 1) (hq1 : hq ≤ 1) : ∃ d', F_X2_prepare N d (nI hp) (nI hq) = some (nI (if pvF s (fun g => if hp = 0 then 0 else P g) (fun g => if hq = 0 then 0 else Q g) = 0 then 0 else 1), d') ∧ gI d' 10 = nI (iv (pvF s (fun g => if hp = 0 then 0 else P g) (fun g => if hq = 0 then 0 else Q g))) ∧ gI d' 9 = nI s ∧ gA d' 7 = gA d 7 ∧ (∀ g, g < 4 → gA d' 8 g = nI (if hp = 0 then 0 else P g) ∧ gA d' 9 g = nI (if hq = 0 then 0 else Q g)) ∧ FD d d' := by
  obtain ⟨P', hP'⟩ : ∃ P' : Nat → Nat, P' = fun g => if hp = 0 then 0 else P g := ⟨_, rfl⟩
  obtain ⟨Q', hQ'⟩ : ∃ Q' : Nat → Nat, Q' = fun g => if hq = 0 then 0 else Q g := ⟨_, rfl⟩
  have hb' : ∀ g, P' g ≤ 1 ∧ Q' g < 16 := by
    intro g
    have := hb g
    rw [hP', hQ']
    dsimp only
    constructor
    · by_cases z : hp = 0
      · rw [if_pos z]; omega
      · rw [if_neg z]; omega
    · by_cases z : hq = 0
      · rw [if_pos z]; omega
      · rw [if_neg z]; omega
  -- the second symbol
  have st30 : ∀ d1 : St, gI d1 9 = nI s → (∀ g, g < 4 → gA d1 8 g = nI (P' g) ∧ gA d1 9 g = nI (Q g)) → gA d1 7 = gA d 7 → FD d d1 → ∃ d', F_X2_prepare_30 N d1 (nI hq) = some (nI (if pvF s P' Q' = 0 then 0 else 1), d') ∧ gI d' 10 = nI (iv (pvF s P' Q')) ∧ gI d' 9 = nI s ∧ gA d' 7 = gA d 7 ∧ (∀ g, g < 4 → gA d' 8 g = nI (P' g) ∧ gA d' 9 g = nI (Q' g)) ∧ FD d d' := by
    intro d1 z9 zP z7 zf
    unfold F_X2_prepare_30
    rw [c_ne0 (by omega)]
    by_cases z : hq = 0
    · rw [decide_eq_false (fun y => y z), cond_false, a_fill14 (by omega), Option.bind_some]
      have hg : ∀ g, g < 4 → gA (sA d1 9 (fun j => if 0 ≤ j ∧ j < 4 then nI 0 else gA d1 9 j)) 8 g = nI (P' g) ∧ gA (sA d1 9 (fun j => if 0 ≤ j ∧ j < 4 then nI 0 else gA d1 9 j)) 9 g = nI (Q' g) := by
        intro g hg
        rw [gA_ne (by decide), gA_eq, if_pos ⟨Nat.zero_le g, hg⟩, hQ']
        dsimp only
        rw [if_pos z]
        exact ⟨(zP g hg).1, rfl⟩
      refine ⟨_, a_prep42 hN (P := P') (Q := Q') z9 hs hg hb', gI_eq, ?_, ?_, ?_, ?_⟩
      · rw [gI_ne (by decide)]; exact z9
      · rw [gA_sI, gA_ne (by decide)]; exact z7
      · intro g hgg
        rw [gA_sI]
        exact hg g hgg
      · refine zf.t ⟨rfl, fun q a b => ?_, fun q hq => ?_⟩
        · rw [gI_ne b]; rfl
        · rw [gA_sI, gA_ne (by omega)]
    · have hg : ∀ g, g < 4 → gA d1 8 g = nI (P' g) ∧ gA d1 9 g = nI (Q' g) := by
        intro g hg
        rw [hQ']
        dsimp only
        rw [if_neg z]
        exact zP g hg
      rw [decide_eq_true z, cond_true]
      refine ⟨_, a_prep42 hN (P := P') (Q := Q') z9 hs hg hb', gI_eq, ?_, z7, hg, ?_⟩
      · rw [gI_ne (by decide)]; exact z9
      · refine zf.t ⟨rfl, fun q a b => ?_, fun q hq => rfl⟩
        rw [gI_ne b]
  have goal : ∃ d', F_X2_prepare N d (nI hp) (nI hq) = some (nI (if pvF s P' Q' = 0 then 0 else 1), d') ∧ gI d' 10 = nI (iv (pvF s P' Q')) ∧ gI d' 9 = nI s ∧ gA d' 7 = gA d 7 ∧ (∀ g, g < 4 → gA d' 8 g = nI (P' g) ∧ gA d' 9 g = nI (Q' g)) ∧ FD d d' := by
    unfold F_X2_prepare
    rw [h9, c_lt (by omega) (by decide), decide_eq_false (by omega), cond_false, c_le (by omega) (by decide), decide_eq_true hs.2, cond_true, c_ne0 (by omega)]
    by_cases z : hp = 0
    · rw [decide_eq_false (fun y => y z), cond_false, a_fill13 (by omega), Option.bind_some]
      refine st30 _ h9 ?_ ?_ ⟨rfl, fun q a b => rfl, fun q hq => gA_ne (by omega)⟩
      · intro g hg
        rw [gA_eq, gA_ne (by decide), if_pos ⟨Nat.zero_le g, hg⟩, hP']
        dsimp only
        rw [if_pos z]
        exact ⟨rfl, (hP g hg).2⟩
      · exact gA_ne (by decide)
    · rw [decide_eq_true z, cond_true]
      refine st30 d h9 ?_ rfl (FD.r d)
      intro g hg
      rw [hP']
      dsimp only
      rw [if_neg z]
      exact hP g hg
  rw [hP', hQ'] at goal
  exact goal
end RS
