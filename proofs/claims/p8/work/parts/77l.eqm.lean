/-! start: the reference's equations -/
section EM
variable {d m : St} {n x N : Nat} {c l : Nat → Nat}
theorem pr_t1 : ∀ a : Fin 2, ∀ b : Fin 16, pr a b = tm a b := by decide +kernel
theorem pr_0 (a : Nat) : pr a 0 = 0 := rfl
theorem pr_1 {a : Nat} (h : a < 256) : pr a 1 = a := g_p2 ⟨0, by decide⟩ ⟨a, h⟩
theorem b_two (hN : 300 ≤ N) {P Q rp rq : Nat → Nat} {e : Nat} (hb : ∀ g, P g ≤ 1 ∧ Q g < 16) (he : e < 16) (he0 : e ≠ 0) (hrp : ∀ i, rp i < 256) (hrq : ∀ i, rq i < 256) : ∀ a i f m, i + a = 24 → a < f → (∀ g, g < 2 → gA m 9 g = nI (P g) ∧ gA m 10 g = nI (Q g)) → (∀ k, k < 24 → gA m 11 k = nI (rp k) ∧ gA m 12 k = nI (rq k)) → ∃ m', F_X6_isTwo_34 N f m (nI 1) (nI e) (nI i) = some (nI 1, m') ∧ (∀ k, i ≤ k → k < 24 → gA m' 13 k = nI (tm (pr (rp k) (Q 1) ^^^ pr (rq k) (P 1)) (iv e)) ∧ gA m' 14 k = nI (tm (pr (rq k) (P 0) ^^^ pr (rp k) (Q 0)) (iv e))) ∧ (∀ k, k < i → gA m' 13 k = gA m 13 k ∧ gA m' 14 k = gA m 14 k) ∧ gN m' = gN m ∧ gI m' = gI m ∧ (∀ q, q ≠ 13 → q ≠ 14 → gA m' q = gA m q) := by
  have b0 := hb 0
  have b1 := hb 1
  intro a
  induction a with
  | zero =>
    intro i f m e1 e2 hP hr
    obtain ⟨f, rfl⟩ : ∃ q, f = q + 1 := ⟨f - 1, by omega⟩
    refine ⟨m, ?_, fun k h1 h2 => by omega, fun _ _ => ⟨rfl, rfl⟩, rfl, rfl, fun _ _ _ => rfl⟩
    rw [F_X6_isTwo_34.eq_2, c_ge (by omega) (by decide), decide_eq_true (by omega), cond_true, c_eq0 (by decide), show decide (1 = 0) = false from rfl, cond_false, c_eq0 (by omega), decide_eq_false he0, cond_false]
  | succ a ih =>
    intro i f m e1 e2 hP hr
    obtain ⟨f, rfl⟩ : ∃ q, f = q + 1 := ⟨f - 1, by omega⟩
    have p0 := hP 0 (by decide)
    have p1 := hP 1 (by decide)
    have r := hr i (by omega)
    have hi24 : i < 24 := by omega
    have r1 := hrp i
    have r2 := hrq i
    have t1 := pr_lt r1 (show Q 1 < 16 by omega)
    have t2 := pr_lt r2 (show P 1 < 16 by omega)
    have t3 := pr_lt r2 (show P 0 < 16 by omega)
    have t4 := pr_lt r1 (show Q 0 < 16 by omega)
    obtain ⟨m', k1, k2, k3, k4, k5, k6⟩ := ih (i + 1) f (sA (sA m 13 (upd (gA m 13) i (nI (tm (pr (rp i) (Q 1) ^^^ pr (rq i) (P 1)) (iv e))))) 14 (upd (gA m 14) i (nI (tm (pr (rq i) (P 0) ^^^ pr (rp i) (Q 0)) (iv e))))) (by omega) (by omega) (fun g hg => by rw [gA_ne (by decide), gA_ne (by decide), gA_ne (by decide), gA_ne (by decide)]; exact hP g hg) (fun k hk => by rw [gA_ne (by decide), gA_ne (by decide), gA_ne (by decide), gA_ne (by decide)]; exact hr k hk)
    refine ⟨m', ?_, ?_, ?_, k4, k5, ?_⟩
    · rw [F_X6_isTwo_34.eq_2, c_ge (by omega) (by decide), decide_eq_false (by omega), cond_false, c_eq0 (by decide), show decide (1 = 0) = false from rfl, cond_false, c_eq0 (by omega), decide_eq_false he0, cond_false]
      rw [ldA_n hi24 (by decide), r.1, ldA_n (by decide) (by decide), p1.2, b_pr (by omega) r1 (by omega), Option.bind_some, ldA_n hi24 (by decide), r.2, ldA_n (by decide) (by decide), p1.1, b_pr (by omega) r2 (by omega), Option.bind_some, nI_xor (by omega) (by omega), b_quo hN (xor_b t1 t2) he he0, Option.bind_some, stA_n hi24 (by decide), ldA_n hi24 (by decide), gA_ne (k := 13) (j := 12) (by decide), r.2, ldA_n (by decide) (by decide), gA_ne (k := 13) (j := 9) (by decide), p0.1, b_pr (by omega) r2 (by omega), Option.bind_some, ldA_n hi24 (by decide), gA_ne (k := 13) (j := 11) (by decide), r.1, ldA_n (by decide) (by decide), gA_ne (k := 13) (j := 10) (by decide), p0.2, b_pr (by omega) r1 (by omega), Option.bind_some, nI_xor (by omega) (by omega), b_quo hN (xor_b t3 t4) he he0, Option.bind_some, stA_n hi24 (by decide), gA_ne (k := 13) (j := 14) (by decide), nI_add]
      exact k1
    · intro k h1 h2
      by_cases z : k = i
      · subst z
        have := k3 k (by omega)
        rw [this.1, this.2, gA_ne (by decide), gA_eq, gA_eq, pk_us, pk_us]
        exact ⟨rfl, rfl⟩
      · exact k2 k (by omega) h2
    · intro k hk
      have := k3 k (by omega)
      rw [this.1, this.2, gA_ne (by decide), gA_eq, gA_eq, pk_un (by omega), pk_un (by omega)]
      exact ⟨rfl, rfl⟩
    · intro q h1 h2
      rw [k6 q h1 h2, gA_ne h2, gA_ne h1]
theorem b_isTwo (hN : 300 ≤ N) {P Q : Nat → Nat} (hb : ∀ g, P g ≤ 1 ∧ Q g < 16) (hP : ∀ g, g < 2 → gA m 9 g = nI (P g) ∧ gA m 10 g = nI (Q g)) (y : Int32) : F_X6_isTwo N m y = F_X6_isTwo_34 N N m y (nI (pvF 2 P Q)) (nI 0) := by
  have b0 := hb 0
  have b1 := hb 1
  have p0 := hP 0 (by decide)
  have p1 := hP 1 (by decide)
  have t1 : pr (P 0) (Q 1) = tm (P 0) (Q 1) := pr_t1 ⟨P 0, by omega⟩ ⟨Q 1, by omega⟩
  have t2 : pr (P 1) (Q 0) = tm (P 1) (Q 0) := pr_t1 ⟨P 1, by omega⟩ ⟨Q 0, by omega⟩
  have u1 := pr_lt (show P 0 < 256 by omega) (show Q 1 < 16 by omega)
  have u2 := pr_lt (show P 1 < 256 by omega) (show Q 0 < 16 by omega)
  unfold F_X6_isTwo
  rw [ldA_n (by decide) (by decide), p0.1, ldA_n (by decide) (by decide), p1.2, b_pr (by omega) (by omega) (by omega), Option.bind_some, ldA_n (by decide) (by decide), p1.1, ldA_n (by decide) (by decide), p0.2, b_pr (by omega) (by omega) (by omega), Option.bind_some, nI_xor (by omega) (by omega), t1, t2]
  unfold pvF
  rw [if_pos rfl]
theorem b_two0 (hN : 300 ≤ N) {u e : Nat} (hu : u ≤ 1) (he : e < 16) (h : u = 0 ∨ e = 0) : F_X6_isTwo_34 N N m (nI u) (nI e) (nI 0) = some (nI 0, m) := by
  obtain ⟨f, hf⟩ : ∃ q, N = q + 1 := ⟨N - 1, by omega⟩
  have : ∀ f, F_X6_isTwo_34 N (f + 1) m (nI u) (nI e) (nI 0) = some (nI 0, m) := by
    intro f
    rw [F_X6_isTwo_34.eq_2, c_ge (by decide) (by decide), show decide (24 ≤ 0) = false from rfl, cond_false, c_eq0 (by omega), c_eq0 (by omega)]
    by_cases q : u = 0
    · rw [decide_eq_true q, cond_true, cond_true]
    · rw [decide_eq_false q, cond_false, decide_eq_true (show e = 0 by omega), cond_true, cond_false, cond_true]
  have := this f
  rw [← hf] at this
  exact this
/-- the one unknown's bytes in the reference -/
def oneA (bp Q0 : Nat) (rp rq : Nat → Nat) (i : Nat) : Nat := if bp = 0 then tm (rq i) (iv Q0) else rp i
def okM (hp hq P0 Q0 : Nat) (A rp rq : Nat → Nat) (i : Nat) : Prop := (hp = 0 ∨ pr (A i) P0 = rp i) ∧ (hq = 0 ∨ pr (A i) Q0 = rq i)
theorem b_one (hN : 300 ≤ N) {P0 Q0 hp hq bp : Nat} {rp rq : Nat → Nat} (hP : P0 ≤ 1) (hQ : Q0 < 16) (hp1 : hp ≤ 1) (hq1 : hq ≤ 1) (hbp : bp ≤ 1) (c1 : bp ≠ 0 → hp ≠ 0) (c2 : bp = 0 → hq ≠ 0 ∧ Q0 ≠ 0) (hrp : ∀ i, rp i < 256) (hrq : ∀ i, rq i < 256) : ∀ a i f m, i + a = 24 → a + 1 < f → gA m 9 0 = nI P0 → gA m 10 0 = nI Q0 → (hp ≠ 0 → ∀ k, k < 24 → gA m 11 k = nI (rp k)) → (hq ≠ 0 → ∀ k, k < 24 → gA m 12 k = nI (rq k)) → ∃ m' b, F_X6_isOne_58 N f m (nI hp) (nI hq) (nI bp) (nI 1) (nI i) = some (nI b, m') ∧ ((b = 1 ∧ (∀ k, i ≤ k → k < 24 → okM hp hq P0 Q0 (oneA bp Q0 rp rq) rp rq k) ∧ (∀ k, i ≤ k → k < 24 → gA m' 13 k = nI (oneA bp Q0 rp rq k))) ∨ (b = 0 ∧ ∃ k, i ≤ k ∧ k < 24 ∧ ¬ okM hp hq P0 Q0 (oneA bp Q0 rp rq) rp rq k)) ∧ (∀ k, k < i → gA m' 13 k = gA m 13 k) ∧ gN m' = gN m ∧ gI m' = gI m ∧ (∀ q, q ≠ 13 → gA m' q = gA m q) := by
  intro a
  induction a with
  | zero =>
    intro i f m e1 e2 g9 g10 g11 g12
    obtain ⟨f, rfl⟩ : ∃ q, f = q + 1 := ⟨f - 1, by omega⟩
    refine ⟨m, 1, ?_, Or.inl ⟨rfl, fun k h1 h2 => by omega, fun k h1 h2 => by omega⟩, fun _ _ => rfl, rfl, rfl, fun _ _ => rfl⟩
    rw [F_X6_isOne_58.eq_2, c_ge (by omega) (by decide), decide_eq_true (by omega), cond_true, rz_1]
  | succ a ih =>
    intro i f m e1 e2 g9 g10 g11 g12
    obtain ⟨f, rfl⟩ : ∃ q, f = q + 1 := ⟨f - 1, by omega⟩
    have hi24 : i < 24 := by omega
    obtain ⟨X, hX⟩ : ∃ X, X = oneA bp Q0 rp rq i := ⟨_, rfl⟩
    have hX8 : X < 256 := by
      rw [hX]
      unfold oneA
      by_cases z : bp = 0
      · rw [if_pos z]
        exact (g_dv ⟨Q0, hQ⟩ (c2 z).2 ⟨rq i, hrq i⟩).1
      · rw [if_neg z]; exact hrp i
    obtain ⟨m1, hm1⟩ : ∃ q, q = sA m 13 (upd (gA m 13) i (nI X)) := ⟨_, rfl⟩
    have a9 : gA m1 9 0 = nI P0 := by rw [hm1, gA_ne (by decide)]; exact g9
    have a10 : gA m1 10 0 = nI Q0 := by rw [hm1, gA_ne (by decide)]; exact g10
    have a11 : hp ≠ 0 → ∀ k, k < 24 → gA m1 11 k = nI (rp k) := by intro z k hk; rw [hm1, gA_ne (by decide)]; exact g11 z k hk
    have a12 : hq ≠ 0 → ∀ k, k < 24 → gA m1 12 k = nI (rq k) := by intro z k hk; rw [hm1, gA_ne (by decide)]; exact g12 z k hk
    have a13 : gA m1 13 i = nI X := by rw [hm1, gA_eq, pk_us]
    have u1 := pr_lt hX8 (show P0 < 16 by omega)
    have u2 := pr_lt hX8 hQ
    -- the next round, with a word
    have nxt1 : okM hp hq P0 Q0 (oneA bp Q0 rp rq) rp rq i → ∃ m' b, F_X6_isOne_58 N f m1 (nI hp) (nI hq) (nI bp) (nI 1) (nI (i + 1)) = some (nI b, m') ∧ ((b = 1 ∧ (∀ k, i ≤ k → k < 24 → okM hp hq P0 Q0 (oneA bp Q0 rp rq) rp rq k) ∧ (∀ k, i ≤ k → k < 24 → gA m' 13 k = nI (oneA bp Q0 rp rq k))) ∨ (b = 0 ∧ ∃ k, i ≤ k ∧ k < 24 ∧ ¬ okM hp hq P0 Q0 (oneA bp Q0 rp rq) rp rq k)) ∧ (∀ k, k < i → gA m' 13 k = gA m 13 k) ∧ gN m' = gN m ∧ gI m' = gI m ∧ (∀ q, q ≠ 13 → gA m' q = gA m q) := by
      intro ok
      obtain ⟨m', b, k1, k2, k3, k4, k5, k6⟩ := ih (i + 1) f m1 (by omega) (by omega) a9 a10 a11 a12
      refine ⟨m', b, k1, ?_, ?_, by rw [k4, hm1]; rfl, by rw [k5, hm1]; rfl, fun q hq => by rw [k6 q hq, hm1, gA_ne hq]⟩
      · rcases k2 with ⟨y1, y2, y3⟩ | ⟨y1, k, y2, y3, y4⟩
        · refine Or.inl ⟨y1, ?_, ?_⟩
          · intro k h1 h2
            by_cases z : k = i
            · rw [z]; exact ok
            · exact y2 k (by omega) h2
          · intro k h1 h2
            by_cases z : k = i
            · rw [z, k3 i (by omega), a13, hX]
            · exact y3 k (by omega) h2
        · exact Or.inr ⟨y1, k, by omega, y3, y4⟩
      · intro k hk
        rw [k3 k (by omega), hm1, gA_eq, pk_un (by omega)]
    have nxt0 : ¬ okM hp hq P0 Q0 (oneA bp Q0 rp rq) rp rq i → ∃ m' b, F_X6_isOne_58 N f m1 (nI hp) (nI hq) (nI bp) (nI 0) (nI (i + 1)) = some (nI b, m') ∧ ((b = 1 ∧ (∀ k, i ≤ k → k < 24 → okM hp hq P0 Q0 (oneA bp Q0 rp rq) rp rq k) ∧ (∀ k, i ≤ k → k < 24 → gA m' 13 k = nI (oneA bp Q0 rp rq k))) ∨ (b = 0 ∧ ∃ k, i ≤ k ∧ k < 24 ∧ ¬ okM hp hq P0 Q0 (oneA bp Q0 rp rq) rp rq k)) ∧ (∀ k, k < i → gA m' 13 k = gA m 13 k) ∧ gN m' = gN m ∧ gI m' = gI m ∧ (∀ q, q ≠ 13 → gA m' q = gA m q) := by
      intro ok
      obtain ⟨f, rfl⟩ : ∃ q, f = q + 1 := ⟨f - 1, by omega⟩
      refine ⟨m1, 0, ?_, Or.inr ⟨rfl, i, by omega, hi24, ok⟩, ?_, by rw [hm1]; rfl, by rw [hm1]; rfl, fun q hq => by rw [hm1, gA_ne hq]⟩
      · rw [F_X6_isOne_58.eq_2, c_ge (by omega) (by decide), c_eq0 (by decide), show decide (0 = 0) = true from rfl, cond_true, rz_0]
        by_cases z : 24 ≤ i + 1
        · rw [decide_eq_true z, cond_true]
        · rw [decide_eq_false z, cond_false]
      · intro k hk
        rw [hm1, gA_eq, pk_un (by omega)]
    -- the two checks
    have chk : ∃ m' b, (bif mx_cnd .eq (nI hp) 0 then (bif mx_cnd .eq (nI hq) 0 then (F_X6_isOne_58 N f m1 (nI hp) (nI hq) (nI bp) (nI 1) (nI (i + 1))) else (ldA (gA m1 13) 24 (nI i) fun v23 => ldA (gA m1 10) 4 (nI 0) fun v24 => (F_X6_product N v23 v24).bind fun v25 => ldA (gA m1 12) 24 (nI i) fun v27 => bif mx_cnd .ne v25 v27 then (F_X6_isOne_58 N f m1 (nI hp) (nI hq) (nI bp) (nI 0) (nI (i + 1))) else (F_X6_isOne_58 N f m1 (nI hp) (nI hq) (nI bp) (nI 1) (nI (i + 1))))) else (ldA (gA m1 13) 24 (nI i) fun v28 => ldA (gA m1 9) 4 (nI 0) fun v29 => (F_X6_product N v28 v29).bind fun v30 => ldA (gA m1 11) 24 (nI i) fun v32 => bif mx_cnd .ne v30 v32 then (F_X6_isOne_58 N f m1 (nI hp) (nI hq) (nI bp) (nI 0) (nI (i + 1))) else (bif mx_cnd .eq (nI hq) 0 then (F_X6_isOne_58 N f m1 (nI hp) (nI hq) (nI bp) (nI 1) (nI (i + 1))) else (ldA (gA m1 13) 24 (nI i) fun v33 => ldA (gA m1 10) 4 (nI 0) fun v34 => (F_X6_product N v33 v34).bind fun v35 => ldA (gA m1 12) 24 (nI i) fun v37 => bif mx_cnd .ne v35 v37 then (F_X6_isOne_58 N f m1 (nI hp) (nI hq) (nI bp) (nI 0) (nI (i + 1))) else (F_X6_isOne_58 N f m1 (nI hp) (nI hq) (nI bp) (nI 1) (nI (i + 1))))))) = some (nI b, m') ∧ ((b = 1 ∧ (∀ k, i ≤ k → k < 24 → okM hp hq P0 Q0 (oneA bp Q0 rp rq) rp rq k) ∧ (∀ k, i ≤ k → k < 24 → gA m' 13 k = nI (oneA bp Q0 rp rq k))) ∨ (b = 0 ∧ ∃ k, i ≤ k ∧ k < 24 ∧ ¬ okM hp hq P0 Q0 (oneA bp Q0 rp rq) rp rq k)) ∧ (∀ k, k < i → gA m' 13 k = gA m 13 k) ∧ gN m' = gN m ∧ gI m' = gI m ∧ (∀ q, q ≠ 13 → gA m' q = gA m q) := by
      have r1 := hrp i
      have r2 := hrq i
      have ldp : ∀ K : Int32 → Option (Int32 × St), ldA (gA m1 13) 24 (nI i) K = K (nI X) := fun K => by rw [ldA_n hi24 (by decide), a13]
      have ld9 : ∀ K : Int32 → Option (Int32 × St), ldA (gA m1 9) 4 (nI 0) K = K (nI P0) := fun K => by rw [ldA_n (by decide) (by decide), a9]
      have ld10 : ∀ K : Int32 → Option (Int32 × St), ldA (gA m1 10) 4 (nI 0) K = K (nI Q0) := fun K => by rw [ldA_n (by decide) (by decide), a10]
      rw [c_eq0 (by omega), c_eq0 (by omega)]
      by_cases z1 : hp = 0
      · rw [decide_eq_true z1, cond_true]
        by_cases z2 : hq = 0
        · rw [decide_eq_true z2, cond_true]
          exact nxt1 ⟨Or.inl z1, Or.inl z2⟩
        · rw [decide_eq_false z2, cond_false, ldp, ld10, b_pr (by omega) hX8 (by omega), Option.bind_some, ldA_n hi24 (by decide), a12 z2 i hi24, c_ne (by omega) (by omega)]
          by_cases z3 : pr X Q0 = rq i
          · rw [decide_eq_false (fun z => z z3), cond_false]
            exact nxt1 ⟨Or.inl z1, Or.inr (by rw [← hX]; exact z3)⟩
          · rw [decide_eq_true z3, cond_true]
            exact nxt0 (fun z => z.2.elim z2 (fun z => z3 (by rw [← hX] at z; exact z)))
      · rw [decide_eq_false z1, cond_false, ldp, ld9, b_pr (by omega) hX8 (by omega), Option.bind_some, ldA_n hi24 (by decide), a11 z1 i hi24, c_ne (by omega) (by omega)]
        by_cases z4 : pr X P0 = rp i
        · rw [decide_eq_false (fun z => z z4), cond_false]
          by_cases z2 : hq = 0
          · rw [decide_eq_true z2, cond_true]
            exact nxt1 ⟨Or.inr (by rw [← hX]; exact z4), Or.inl z2⟩
          · rw [decide_eq_false z2, cond_false, ldp, ld10, b_pr (by omega) hX8 (by omega), Option.bind_some, ldA_n hi24 (by decide), a12 z2 i hi24, c_ne (by omega) (by omega)]
            by_cases z3 : pr X Q0 = rq i
            · rw [decide_eq_false (fun z => z z3), cond_false]
              exact nxt1 ⟨Or.inr (by rw [← hX]; exact z4), Or.inr (by rw [← hX]; exact z3)⟩
            · rw [decide_eq_true z3, cond_true]
              exact nxt0 (fun z => z.2.elim z2 (fun z => z3 (by rw [← hX] at z; exact z)))
        · rw [decide_eq_true z4, cond_true]
          exact nxt0 (fun z => z.1.elim z1 (fun z => z4 (by rw [← hX] at z; exact z)))
    rw [F_X6_isOne_58.eq_2, c_ge (by omega) (by decide), decide_eq_false (by omega), cond_false, c_eq0 (show 1 < 2 ^ 31 by decide), show decide (1 = 0) = false from rfl, cond_false, c_eq0 (show bp < 2 ^ 31 by omega), nI_add]
    unfold oneA at hX
    by_cases z : bp = 0
    · rw [if_pos z] at hX
      rw [decide_eq_true z, cond_true, ldA_n hi24 (by decide), g12 (c2 z).1 i hi24, ldA_n (by decide) (by decide), g10, b_quo hN (hrq i) hQ (c2 z).2, Option.bind_some, stA_n hi24 (by decide), ← hX, ← hm1]
      exact chk
    · rw [if_neg z] at hX
      rw [decide_eq_false z, cond_false, ldA_n hi24 (by decide), g11 (c1 z) i hi24, stA_n hi24 (by decide), ← hX, ← hm1]
      exact chk
end EM
