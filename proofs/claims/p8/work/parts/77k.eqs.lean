/-! start: the class's equations, byte by byte -/
section EQ
variable {d m : St} {n x N : Nat} {c l : Nat → Nat}
theorem tm_lt {a b : Nat} (ha : a < 256) (hb : b < 16) : tm a b < 256 := by rw [tm_pr ha hb]; exact pr_lt ha hb
theorem a_solve2 (hN : 300 ≤ N) {i rp rq V : Nat} {P Q : Nat → Nat} (hi : i < 24) (h9 : gI d 9 = nI 2) (h10 : gI d 10 = nI V) (hV : V < 256) (hP : ∀ g, g < 4 → gA d 8 g = nI (P g) ∧ gA d 9 g = nI (Q g)) (hb : ∀ g, P g ≤ 1 ∧ Q g < 16) (hrp : rp < 256) (hrq : rq < 256) : F_X2_solve N d (nI i) (nI rp) (nI rq) = some (nI 1, sA d 10 (upd (upd (gA d 10) i (nI (tm (tm rp (Q 1) ^^^ tm rq (P 1)) V))) (24 + i) (nI (tm (tm rq (P 0) ^^^ tm rp (Q 0)) V)))) := by
  have b0 := hb 0
  have b1 := hb 1
  have p0 := hP 0 (by decide)
  have p1 := hP 1 (by decide)
  have t1 := tm_lt hrp (show Q 1 < 16 by omega)
  have t2 := tm_lt hrq (show P 1 < 16 by omega)
  have t3 := tm_lt hrq (show P 0 < 16 by omega)
  have t4 := tm_lt hrp (show Q 0 < 16 by omega)
  unfold F_X2_solve
  rw [c_lt0 (by omega), cond_false, c_lt (by omega) (by decide), decide_eq_true hi, cond_true, h9, c_ne (by decide) (by decide), show decide (¬ 2 = 2) = false from rfl, cond_false]
  rw [ldA_n (by decide) (by decide), p1.2, a_tm (by omega) hrp (by omega), Option.bind_some, ldA_n (by decide) (by decide), p1.1, a_tm (by omega) hrq (by omega), Option.bind_some, ldA_n (by decide) (by decide), p0.1, a_tm (by omega) hrq (by omega), Option.bind_some, ldA_n (by decide) (by decide), p0.2, a_tm (by omega) hrp (by omega), Option.bind_some, nI_xor (by omega) (by omega), nI_xor (by omega) (by omega), h10, a_tm (by omega) (xor_b t1 t2) hV, Option.bind_some, stA_n (by omega) (by decide), gI_sA, h10, a_tm (by omega) (xor_b t3 t4) hV, Option.bind_some, nI_add, stA_n (by omega) (by decide), sA_sA, gA_eq]
theorem a_solve1 (hN : 300 ≤ N) {i rp rq V : Nat} {P Q : Nat → Nat} (hi : i < 24) (h9 : gI d 9 = nI 1) (h10 : gI d 10 = nI V) (hV : V < 256) (hP : ∀ g, g < 4 → gA d 8 g = nI (P g) ∧ gA d 9 g = nI (Q g)) (hb : ∀ g, P g ≤ 1 ∧ Q g < 16) (hrp : rp < 256) (hrq : rq < 256) {X : Nat} (hX : X = tm (if P 0 = 0 then rq else rp) V) (hX8 : X < 256) : F_X2_solve N d (nI i) (nI rp) (nI rq) = some (nI (if tm (P 0) X = rp ∧ tm (Q 0) X = rq then 1 else 0), sA d 10 (upd (gA d 10) i (nI X))) := by
  have b0 := hb 0
  have p0 := hP 0 (by decide)
  have t1 : tm (P 0) X < 256 := by rw [tm_rp hX8 (by omega)]; exact pr_lt hX8 (by omega)
  have t2 : tm (Q 0) X < 256 := by rw [tm_rp hX8 (by omega)]; exact pr_lt hX8 (by omega)
  have tail : F_X2_solve_124 N d (nI i) (nI rp) (nI rq) (nI X) = some (nI (if tm (P 0) X = rp ∧ tm (Q 0) X = rq then 1 else 0), sA d 10 (upd (gA d 10) i (nI X))) := by
    unfold F_X2_solve_124
    rw [stA_n (by omega) (by decide), ldA_n (by decide) (by decide), gA_ne (by decide), p0.1, a_tm (by omega) (by omega) hX8, Option.bind_some, c_ne (by omega) (by omega), ldA_n (by decide) (by decide), gA_ne (by decide), p0.2, a_tm (by omega) (by omega) hX8, Option.bind_some, c_ne (by omega) (by omega)]
    by_cases q1 : tm (P 0) X = rp
    · by_cases q2 : tm (Q 0) X = rq
      · rw [decide_eq_false (fun z => z q1), cond_false, decide_eq_false (fun z => z q2), cond_false, if_pos ⟨q1, q2⟩]
      · rw [decide_eq_false (fun z => z q1), cond_false, decide_eq_true q2, cond_true, if_neg (fun z => q2 z.2)]
    · rw [decide_eq_true q1, cond_true, if_neg (fun z => q1 z.1)]
  unfold F_X2_solve
  rw [c_lt0 (by omega), cond_false, c_lt (by omega) (by decide), decide_eq_true hi, cond_true, h9, c_ne (by decide) (by decide), show decide (¬ 1 = 2) = true from rfl, cond_true, ldA_n (by decide) (by decide), p0.1, c_eq0 (by omega), h10]
  by_cases q : P 0 = 0
  · rw [decide_eq_true q, cond_true, a_tm (by omega) hrq hV, Option.bind_some]
    rw [if_pos q] at hX
    rw [← hX]
    exact tail
  · rw [decide_eq_false q, cond_false, a_tm (by omega) hrp hV, Option.bind_some]
    rw [if_neg q] at hX
    rw [← hX]
    exact tail
theorem a_70 (hc : CV d n c l x) (hN : 300 ≤ N) {j i f : Nat} (hj : j < n) (hi : i < 24) {p q : Option Nat} (hp : ∀ y, p = some y → y < n) (hq : ∀ y, q = some y → y < n) : F_X5_repairRow_70 N (f + 1) d (nI j) (oI p) (oI q) (nI i) = bindP (F_X2_solve N d (nI i) (nI (rst c l x j 0 p i)) (nI (rst c l x j 1 q i))) fun v s => bif mx_cnd .ne v 0 then F_X5_repairRow_70 N f s (nI j) (oI p) (oI q) (nI (i + 1)) else some s := by
  have hn := hc.n60
  have x0 := xs_lt (w := 0) (fun k => sbv_lt (l := l) hc.b x j i k) (nbk (c (32 * j + 3)))
  have x1 := xs_lt (w := 1) (fun k => sbv_lt (l := l) hc.b x j i k) (nbk (c (32 * j + 3)))
  rw [F_X5_repairRow_70.eq_2, c_ge (by omega) (by decide), decide_eq_false (by omega), cond_false, nI_add]
  cases p with
  | none =>
    rw [show oI none = -nI 1 from rfl, c_mne, cond_false]
    cases q with
    | none =>
      rw [show oI none = -nI 1 from rfl, c_mne, cond_false]
      rfl
    | some y =>
      have hy := hq y rfl
      have w1 := hc.b (32 * y + (4 + i))
      rw [show oI (some y) = nI y from rfl, c_nem (by omega), cond_true, a_content hc.w hy hi, Option.bind_some, a_sb hc (by omega) hj (by decide) hi, Option.bind_some, nI_xor (by omega) (by omega)]
      rfl
  | some z =>
    have hz := hp z rfl
    have w0 := hc.b (32 * z + (4 + i))
    rw [show oI (some z) = nI z from rfl, c_nem (by omega), cond_true, a_content hc.w hz hi, Option.bind_some, a_sb hc (by omega) hj (by decide) hi, Option.bind_some, nI_xor (by omega) (by omega)]
    cases q with
    | none =>
      rw [show oI none = -nI 1 from rfl, c_mne, cond_false]
      rfl
    | some y =>
      have hy := hq y rfl
      have w1 := hc.b (32 * y + (4 + i))
      rw [show oI (some y) = nI y from rfl, c_nem (by omega), cond_true, a_content hc.w hy hi, Option.bind_some, a_sb hc (by omega) hj (by decide) hi, Option.bind_some, nI_xor (by omega) (by omega)]
      rfl
theorem a_70e (hN : 300 ≤ N) {f : Nat} {x2 x3 x4 : Int32} : F_X5_repairRow_70 N (f + 1) d x2 x3 x4 (nI 24) = F_X5_fillGaps N d := by
  rw [F_X5_repairRow_70.eq_2, c_ge (by decide) (by decide), show decide (24 ≤ 24) = true from rfl, cond_true]
  cases F_X5_fillGaps N d with
  | none => rfl
  | some q => rfl
/-- two unknowns: every byte has its way -/
theorem a_loop2 (hN : 300 ≤ N) {j V : Nat} {P Q : Nat → Nat} (hj : j < n) {p q : Option Nat} (hp : ∀ y, p = some y → y < n) (hq : ∀ y, q = some y → y < n) (hV : V < 256) (hb : ∀ g, P g ≤ 1 ∧ Q g < 16) : ∀ a i f d, i + a = 24 → a < f → CV d n c l x → gI d 9 = nI 2 → gI d 10 = nI V → (∀ g, g < 4 → gA d 8 g = nI (P g) ∧ gA d 9 g = nI (Q g)) → ∃ d', F_X5_repairRow_70 N f d (nI j) (oI p) (oI q) (nI i) = F_X5_fillGaps N d' ∧ (∀ k, i ≤ k → k < 24 → gA d' 10 k = nI (tm (tm (rst c l x j 0 p k) (Q 1) ^^^ tm (rst c l x j 1 q k) (P 1)) V) ∧ gA d' 10 (24 + k) = nI (tm (tm (rst c l x j 1 q k) (P 0) ^^^ tm (rst c l x j 0 p k) (Q 0)) V)) ∧ (∀ k, k < i → gA d' 10 k = gA d 10 k ∧ gA d' 10 (24 + k) = gA d 10 (24 + k)) ∧ gN d' = gN d ∧ gI d' = gI d ∧ (∀ k, k ≠ 10 → gA d' k = gA d k) := by
  intro a
  induction a with
  | zero =>
    intro i f d e1 e2 hc h9 h10 hP
    obtain ⟨f, rfl⟩ : ∃ q, f = q + 1 := ⟨f - 1, by omega⟩
    obtain rfl : i = 24 := by omega
    exact ⟨d, a_70e hN, fun k h1 h2 => by omega, fun _ _ => ⟨rfl, rfl⟩, rfl, rfl, fun _ _ => rfl⟩
  | succ a ih =>
    intro i f d e1 e2 hc h9 h10 hP
    obtain ⟨f, rfl⟩ : ∃ q, f = q + 1 := ⟨f - 1, by omega⟩
    rw [a_70 hc hN hj (by omega) hp hq, a_solve2 hN (by omega) h9 h10 hV hP hb (rst_lt hc.b x j 0 p i) (rst_lt hc.b x j 1 q i), bindP_s, c_ne0 (by decide), show decide (¬ 1 = 0) = true from rfl, cond_true]
    obtain ⟨d', k1, k2, k3, k4, k5, k6⟩ := ih (i + 1) f (sA d 10 (upd (upd (gA d 10) i (nI (tm (tm (rst c l x j 0 p i) (Q 1) ^^^ tm (rst c l x j 1 q i) (P 1)) V))) (24 + i) (nI (tm (tm (rst c l x j 1 q i) (P 0) ^^^ tm (rst c l x j 0 p i) (Q 0)) V)))) (by omega) (by omega) (CV_sA hc (by decide) _) h9 h10 (fun g hg => by rw [gA_ne (by decide), gA_ne (by decide)]; exact hP g hg)
    refine ⟨d', k1, ?_, ?_, k4, k5, ?_⟩
    · intro k h1 h2
      by_cases z : k = i
      · subst z
        have := k3 k (by omega)
        rw [this.1, this.2, gA_eq, pk_un (by omega), pk_us, pk_us]
        exact ⟨rfl, rfl⟩
      · exact k2 k (by omega) h2
    · intro k hk
      have := k3 k (by omega)
      rw [this.1, this.2, gA_eq, pk_un (by omega), pk_un (by omega), pk_un (by omega), pk_un (by omega)]
      exact ⟨rfl, rfl⟩
    · intro k hk
      rw [k6 k hk, gA_ne hk]
/-- one unknown: a byte that fits both symbols, or none -/
theorem a_loop1 (hN : 300 ≤ N) {j V : Nat} {P Q : Nat → Nat} (hj : j < n) {p q : Option Nat} (hp : ∀ y, p = some y → y < n) (hq : ∀ y, q = some y → y < n) (hV : V < 256) (hb : ∀ g, P g ≤ 1 ∧ Q g < 16) {A : Nat → Nat} (hA : ∀ i, A i = tm (if P 0 = 0 then rst c l x j 1 q i else rst c l x j 0 p i) V) (hA8 : ∀ i, A i < 256) : ∀ a i f d, i + a = 24 → a < f → CV d n c l x → gI d 9 = nI 1 → gI d 10 = nI V → (∀ g, g < 4 → gA d 8 g = nI (P g) ∧ gA d 9 g = nI (Q g)) → ∃ d', ((F_X5_repairRow_70 N f d (nI j) (oI p) (oI q) (nI i) = F_X5_fillGaps N d' ∧ (∀ k, i ≤ k → k < 24 → gA d' 10 k = nI (A k)) ∧ (∀ k, k < i → gA d' 10 k = gA d 10 k) ∧ (∀ k, i ≤ k → k < 24 → tm (P 0) (A k) = rst c l x j 0 p k ∧ tm (Q 0) (A k) = rst c l x j 1 q k)) ∨ (F_X5_repairRow_70 N f d (nI j) (oI p) (oI q) (nI i) = some d' ∧ ∃ k, i ≤ k ∧ k < 24 ∧ ¬ (tm (P 0) (A k) = rst c l x j 0 p k ∧ tm (Q 0) (A k) = rst c l x j 1 q k))) ∧ gN d' = gN d ∧ gI d' = gI d ∧ (∀ k, k ≠ 10 → gA d' k = gA d k) := by
  intro a
  induction a with
  | zero =>
    intro i f d e1 e2 hc h9 h10 hP
    obtain ⟨f, rfl⟩ : ∃ q, f = q + 1 := ⟨f - 1, by omega⟩
    obtain rfl : i = 24 := by omega
    exact ⟨d, Or.inl ⟨a_70e hN, fun k h1 h2 => by omega, fun _ _ => rfl, fun k h1 h2 => by omega⟩, rfl, rfl, fun _ _ => rfl⟩
  | succ a ih =>
    intro i f d e1 e2 hc h9 h10 hP
    obtain ⟨f, rfl⟩ : ∃ q, f = q + 1 := ⟨f - 1, by omega⟩
    rw [a_70 hc hN hj (by omega) hp hq, a_solve1 hN (by omega) h9 h10 hV hP hb (rst_lt hc.b x j 0 p i) (rst_lt hc.b x j 1 q i) (hA i) (hA8 i), bindP_s]
    by_cases ok : tm (P 0) (A i) = rst c l x j 0 p i ∧ tm (Q 0) (A i) = rst c l x j 1 q i
    · rw [if_pos ok, c_ne0 (by decide), show decide (¬ 1 = 0) = true from rfl, cond_true]
      obtain ⟨d', k1, k4, k5, k6⟩ := ih (i + 1) f (sA d 10 (upd (gA d 10) i (nI (A i)))) (by omega) (by omega) (CV_sA hc (by decide) _) h9 h10 (fun g hg => by rw [gA_ne (by decide), gA_ne (by decide)]; exact hP g hg)
      refine ⟨d', ?_, k4, k5, fun k hk => by rw [k6 k hk, gA_ne hk]⟩
      rcases k1 with ⟨y1, y2, y3, y4⟩ | ⟨y1, k, y2, y3, y4⟩
      · refine Or.inl ⟨y1, ?_, ?_, ?_⟩
        · intro k h1 h2
          by_cases z : k = i
          · subst z
            rw [y3 k (by omega), gA_eq, pk_us]
          · exact y2 k (by omega) h2
        · intro k hk
          rw [y3 k (by omega), gA_eq, pk_un (by omega)]
        · intro k h1 h2
          by_cases z : k = i
          · subst z; exact ok
          · exact y4 k (by omega) h2
      · exact Or.inr ⟨y1, k, by omega, y3, y4⟩
    · rw [if_neg ok, c_ne0 (by decide), show decide (¬ 0 = 0) = false from rfl, cond_false]
      exact ⟨_, Or.inr ⟨rfl, i, by omega, by omega, ok⟩, rfl, rfl, fun k hk => gA_ne hk⟩
end EQ
