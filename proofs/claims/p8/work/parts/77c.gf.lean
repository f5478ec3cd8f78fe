/-! the bytes' sums and products -/
def tw (a : Nat) : Nat := if 2 * a ≤ 255 then 2 * a else (2 * a) ^^^ 285
theorem tw_t : ∀ a : Fin 256, tw a < 256 := by decide +kernel
theorem tw_lt {a : Nat} (h : a < 256) : tw a < 256 := tw_t ⟨a, h⟩
theorem tw_x : ∀ a b : Fin 256, tw ((a : Nat) ^^^ (b : Nat)) = tw a ^^^ tw b := by decide +kernel
theorem tw_xor {a b : Nat} (ha : a < 256) (hb : b < 256) : tw (a ^^^ b) = tw a ^^^ tw b := tw_x ⟨a, ha⟩ ⟨b, hb⟩
/-- a product, as the reference makes it -/
def prg : Nat → Nat → Nat → Nat → Nat
  | 0, _, _, v => v
  | k + 1, q, b, v => if q = 0 then v else prg k (q / 2) (tw b) (if q % 2 = 1 then v ^^^ b else v)
def pr (a b : Nat) : Nat := prg 8 b a 0
/-- a product, as the class makes it -/
def tmg (a b : Nat) : Nat → Nat → Nat
  | 0, p => p
  | k + 1, p => tmg a b k (tw p ^^^ (if b / 2 ^ k % 2 = 1 then a else 0))
def tm (a b : Nat) : Nat := tmg a b 8 0
/-- k times doubled -/
def tp : Nat → Nat → Nat
  | 0, v => v
  | k + 1, v => tp k (tw v)
def ivL : List Nat := [0, 1, 142, 244, 71, 167, 122, 186, 173, 157, 221, 152, 61, 170, 93, 150]
def iv (d : Nat) : Nat := ivL.getD d 0
theorem g_p2 : ∀ k : Fin 4, ∀ v : Fin 256, pr v (2 ^ (k : Nat)) = tp k v := by decide +kernel
theorem g_tp : ∀ b : Fin 16, ∀ a : Fin 256, tm a b = pr a b ∧ tm b a = pr a b ∧ pr a b < 256 := by decide +kernel
theorem g_iv : ∀ d : Fin 16, iv d < 256 ∧ ((d : Nat) ≠ 0 → 0 < iv d ∧ tm d (iv d) = 1) := by decide +kernel
theorem g_iv2 : ∀ d : Fin 16, ∀ x : Fin 256, (x : Nat) < iv d ∨ iv d = 0 → tm d x ≠ 1 := by decide +kernel
theorem g_dv : ∀ d : Fin 16, (d : Nat) ≠ 0 → ∀ a : Fin 256, tm a (iv d) < 256 ∧ pr (tm a (iv d)) d = a ∧ tm (pr a d) (iv d) = a := by decide +kernel
theorem tp_lt : ∀ {k v : Nat}, v < 256 → tp k v < 256 := by
  intro k
  induction k with
  | zero => intro v h; exact h
  | succ k ih => intro v h; exact ih (tw_lt h)
theorem tp_xor : ∀ {k a b : Nat}, a < 256 → b < 256 → tp k (a ^^^ b) = tp k a ^^^ tp k b := by
  intro k
  induction k with
  | zero => intro a b _ _; rfl
  | succ k ih =>
    intro a b ha hb
    show tp k (tw (a ^^^ b)) = tp k (tw a) ^^^ tp k (tw b)
    rw [tw_xor ha hb, ih (tw_lt ha) (tw_lt hb)]
theorem tp_0 : ∀ k, tp k 0 = 0 := by
  intro k
  induction k with
  | zero => rfl
  | succ k ih => exact ih
section GF
variable {N : Nat}
theorem a_tw {a : Nat} (h : a < 256) : F_X1_twice (nI a) = some (nI (tw a)) := by
  unfold F_X1_twice tw
  rw [pk_shlN (nI 1 &&& 31) 1 (by decide) (by omega), show a * 2 ^ 1 = 2 * a by omega]
  by_cases q : 2 * a ≤ 255
  · simp (disch := omega) only [c_lt, c_ge, c_gt, c_le, c_eq, c_ne, c_lt0, c_ge0, c_le0, c_gt0, c_eq0, c_ne0, c_eqm, c_nem, c_m0, c_meq, c_mne, c_mlt, nI_add, pk_mul, Bool.cond_decide, cond_true, cond_false, ldA_n, stA_n, cpA_n, bnd_s, bindP_s, Option.bind_some, gN_sI, gN_sA, gI_sA, gA_sI, gI_eq, gA_eq, gI_ne, gA_ne, sA_sA, sI_sI, if_pos, if_neg, ite_true, ite_false, eq_self, not_true_eq_false, not_false_eq_true, Nat.add_zero, NF_ap]
  · rw [nI_xor (by omega) (by decide)]
    simp (disch := omega) only [c_lt, c_ge, c_gt, c_le, c_eq, c_ne, c_lt0, c_ge0, c_le0, c_gt0, c_eq0, c_ne0, c_eqm, c_nem, c_m0, c_meq, c_mne, c_mlt, nI_add, pk_mul, Bool.cond_decide, cond_true, cond_false, ldA_n, stA_n, cpA_n, bnd_s, bindP_s, Option.bind_some, gN_sI, gN_sA, gI_sA, gA_sI, gI_eq, gA_eq, gI_ne, gA_ne, sA_sA, sI_sI, if_pos, if_neg, ite_true, ite_false, eq_self, not_true_eq_false, not_false_eq_true, Nat.add_zero, NF_ap]
theorem b_tw {a : Nat} (h : a < 256) : F_X6_twice (nI a) = some (nI (tw a)) := by
  unfold F_X6_twice tw
  rw [pk_shlN (nI 1 &&& 31) 1 (by decide) (by omega), show a * 2 ^ 1 = 2 * a by omega]
  by_cases q : 2 * a ≤ 255
  · simp (disch := omega) only [c_lt, c_ge, c_gt, c_le, c_eq, c_ne, c_lt0, c_ge0, c_le0, c_gt0, c_eq0, c_ne0, c_eqm, c_nem, c_m0, c_meq, c_mne, c_mlt, nI_add, pk_mul, Bool.cond_decide, cond_true, cond_false, ldA_n, stA_n, cpA_n, bnd_s, bindP_s, Option.bind_some, gN_sI, gN_sA, gI_sA, gA_sI, gI_eq, gA_eq, gI_ne, gA_ne, sA_sA, sI_sI, if_pos, if_neg, ite_true, ite_false, eq_self, not_true_eq_false, not_false_eq_true, Nat.add_zero, NF_ap]
  · rw [nI_xor (by omega) (by decide)]
    simp (disch := omega) only [c_lt, c_ge, c_gt, c_le, c_eq, c_ne, c_lt0, c_ge0, c_le0, c_gt0, c_eq0, c_ne0, c_eqm, c_nem, c_m0, c_meq, c_mne, c_mlt, nI_add, pk_mul, Bool.cond_decide, cond_true, cond_false, ldA_n, stA_n, cpA_n, bnd_s, bindP_s, Option.bind_some, gN_sI, gN_sA, gI_sA, gA_sI, gI_eq, gA_eq, gI_ne, gA_ne, sA_sA, sI_sI, if_pos, if_neg, ite_true, ite_false, eq_self, not_true_eq_false, not_false_eq_true, Nat.add_zero, NF_ap]
theorem b_pr (hN : 100 ≤ N) {a b : Nat} (ha : a < 256) (hb : b < 256) : F_X6_product N (nI a) (nI b) = some (nI (pr a b)) := by
  have key : ∀ k q e v f, q < 2 ^ k → k ≤ 8 → e < 256 → v < 256 → k < f → F_X6_product_7 N f (nI q) (nI e) (nI v) = some (nI (prg k q e v)) := by
    intro k
    induction k with
    | zero =>
      intro q e v f h1 h2 h3 h4 h5
      obtain ⟨f, rfl⟩ : ∃ q, f = q + 1 := ⟨f - 1, by omega⟩
      obtain rfl : q = 0 := by omega
      rw [F_X6_product_7.eq_2]
      simp (disch := omega) only [c_lt, c_ge, c_gt, c_le, c_eq, c_ne, c_lt0, c_ge0, c_le0, c_gt0, c_eq0, c_ne0, c_eqm, c_nem, c_m0, c_meq, c_mne, c_mlt, nI_add, pk_mul, Bool.cond_decide, cond_true, cond_false, ldA_n, stA_n, cpA_n, bnd_s, bindP_s, Option.bind_some, gN_sI, gN_sA, gI_sA, gA_sI, gI_eq, gA_eq, gI_ne, gA_ne, sA_sA, sI_sI, if_pos, if_neg, ite_true, ite_false, eq_self, not_true_eq_false, not_false_eq_true, Nat.add_zero, NF_ap]
      rfl
    | succ k ih =>
      intro q e v f h1 h2 h3 h4 h5
      obtain ⟨f, rfl⟩ : ∃ q, f = q + 1 := ⟨f - 1, by omega⟩
      have hq : q < 2 ^ 8 := Nat.lt_of_lt_of_le h1 (Nat.pow_le_pow_right (by decide) h2)
      have hq2 : q / 2 < 2 ^ k := by rw [Nat.pow_succ] at h1; omega
      rw [F_X6_product_7.eq_2, pk_andN (by omega) 1 (by decide), pk_shrN (by omega) (nI 1 &&& 31) 1 (by decide), show q / 2 ^ 1 = q / 2 by omega, show q % 2 ^ 1 = q % 2 by omega, b_tw h3, Option.bind_some, Option.bind_some, nI_xor (by omega) (by omega)]
      show _ = some (nI (if q = 0 then v else prg k (q / 2) (tw e) (if q % 2 = 1 then v ^^^ e else v)))
      by_cases z : q = 0
      · simp (disch := omega) only [c_lt, c_ge, c_gt, c_le, c_eq, c_ne, c_lt0, c_ge0, c_le0, c_gt0, c_eq0, c_ne0, c_eqm, c_nem, c_m0, c_meq, c_mne, c_mlt, nI_add, pk_mul, Bool.cond_decide, cond_true, cond_false, ldA_n, stA_n, cpA_n, bnd_s, bindP_s, Option.bind_some, gN_sI, gN_sA, gI_sA, gA_sI, gI_eq, gA_eq, gI_ne, gA_ne, sA_sA, sI_sI, if_pos, if_neg, ite_true, ite_false, eq_self, not_true_eq_false, not_false_eq_true, Nat.add_zero, NF_ap]
      · by_cases z2 : q % 2 = 1
        · simp (disch := omega) only [c_lt, c_ge, c_gt, c_le, c_eq, c_ne, c_lt0, c_ge0, c_le0, c_gt0, c_eq0, c_ne0, c_eqm, c_nem, c_m0, c_meq, c_mne, c_mlt, nI_add, pk_mul, Bool.cond_decide, cond_true, cond_false, ldA_n, stA_n, cpA_n, bnd_s, bindP_s, Option.bind_some, gN_sI, gN_sA, gI_sA, gA_sI, gI_eq, gA_eq, gI_ne, gA_ne, sA_sA, sI_sI, if_pos, if_neg, ite_true, ite_false, eq_self, not_true_eq_false, not_false_eq_true, Nat.add_zero, NF_ap]
          exact ih (q / 2) (tw e) (v ^^^ e) f hq2 (by omega) (tw_lt h3) (xor_b h4 h3) (by omega)
        · simp (disch := omega) only [c_lt, c_ge, c_gt, c_le, c_eq, c_ne, c_lt0, c_ge0, c_le0, c_gt0, c_eq0, c_ne0, c_eqm, c_nem, c_m0, c_meq, c_mne, c_mlt, nI_add, pk_mul, Bool.cond_decide, cond_true, cond_false, ldA_n, stA_n, cpA_n, bnd_s, bindP_s, Option.bind_some, gN_sI, gN_sA, gI_sA, gA_sI, gI_eq, gA_eq, gI_ne, gA_ne, sA_sA, sI_sI, if_pos, if_neg, ite_true, ite_false, eq_self, not_true_eq_false, not_false_eq_true, Nat.add_zero, NF_ap]
          exact ih (q / 2) (tw e) v f hq2 (by omega) (tw_lt h3) h4 (by omega)
  exact key 8 b a 0 N hb (by omega) ha (by omega) (by omega)
def pI : Nat → Int32
  | 0 => -nI 1
  | k + 1 => nI k
theorem pI_m (k : Nat) : nI k + (-nI 1) = pI k := by
  cases k with
  | zero => exact nI_0m1
  | succ k => exact nI_m1 (by omega)
theorem pI_s (k : Nat) : nI k - nI 1 = pI k := by
  cases k with
  | zero => decide
  | succ k => exact pk_sub (by omega)
theorem a_tm (hN : 100 ≤ N) {a b : Nat} (ha : a < 256) (hb : b < 256) : F_X1_times N (nI a) (nI b) = some (nI (tm a b)) := by
  have key : ∀ k p f, k ≤ 8 → p < 256 → k < f → F_X1_times_5 N f (nI a) (nI b) (nI p) (pI k) = some (nI (tmg a b k p)) := by
    intro k
    induction k with
    | zero =>
      intro p f h1 h2 h3
      obtain ⟨f, rfl⟩ : ∃ q, f = q + 1 := ⟨f - 1, by omega⟩
      rw [F_X1_times_5.eq_2]
      unfold pI
      simp (disch := omega) only [c_lt, c_ge, c_gt, c_le, c_eq, c_ne, c_lt0, c_ge0, c_le0, c_gt0, c_eq0, c_ne0, c_eqm, c_nem, c_m0, c_meq, c_mne, c_mlt, nI_add, pk_mul, Bool.cond_decide, cond_true, cond_false, ldA_n, stA_n, cpA_n, bnd_s, bindP_s, Option.bind_some, gN_sI, gN_sA, gI_sA, gA_sI, gI_eq, gA_eq, gI_ne, gA_ne, sA_sA, sI_sI, if_pos, if_neg, ite_true, ite_false, eq_self, not_true_eq_false, not_false_eq_true, Nat.add_zero, NF_ap]
      rfl
    | succ k ih =>
      intro p f h1 h2 h3
      obtain ⟨f, rfl⟩ : ∃ q, f = q + 1 := ⟨f - 1, by omega⟩
      have hsh : ∀ j : Fin 8, ((nI (j : Nat) &&& 31).toBitVec.smod 32).toNat = (j : Nat) := by decide
      have hlt : b / 2 ^ k < 256 := Nat.lt_of_le_of_lt (Nat.div_le_self _ _) hb
      rw [F_X1_times_5.eq_2]
      show (bif mx_cnd .lt (nI k) 0 then _ else _) = some (nI (tmg a b k (tw p ^^^ (if b / 2 ^ k % 2 = 1 then a else 0))))
      rw [show pI (k + 1) = nI k from rfl, a_tw h2, Option.bind_some, pk_shrN (by omega) (nI k &&& 31) k (hsh ⟨k, by omega⟩), pk_andN (by omega) 1 (by decide), nI_xor (show tw p < 2 ^ 31 by have := tw_lt h2; omega) (by omega), nI_xor (show tw p < 2 ^ 31 by have := tw_lt h2; omega) (by omega), show b / 2 ^ k % 2 ^ 1 = b / 2 ^ k % 2 by omega, pI_m]
      by_cases z2 : b / 2 ^ k % 2 = 1
      · rw [if_pos z2]
        simp (disch := omega) only [c_lt, c_ge, c_gt, c_le, c_eq, c_ne, c_lt0, c_ge0, c_le0, c_gt0, c_eq0, c_ne0, c_eqm, c_nem, c_m0, c_meq, c_mne, c_mlt, nI_add, pk_mul, Bool.cond_decide, cond_true, cond_false, ldA_n, stA_n, cpA_n, bnd_s, bindP_s, Option.bind_some, gN_sI, gN_sA, gI_sA, gA_sI, gI_eq, gA_eq, gI_ne, gA_ne, sA_sA, sI_sI, if_pos, if_neg, ite_true, ite_false, eq_self, not_true_eq_false, not_false_eq_true, Nat.add_zero, NF_ap]
        exact ih _ f (by omega) (xor_b (tw_lt h2) ha) (by omega)
      · rw [if_neg z2]
        simp (disch := omega) only [c_lt, c_ge, c_gt, c_le, c_eq, c_ne, c_lt0, c_ge0, c_le0, c_gt0, c_eq0, c_ne0, c_eqm, c_nem, c_m0, c_meq, c_mne, c_mlt, nI_add, pk_mul, Bool.cond_decide, cond_true, cond_false, ldA_n, stA_n, cpA_n, bnd_s, bindP_s, Option.bind_some, gN_sI, gN_sA, gI_sA, gA_sI, gI_eq, gA_eq, gI_ne, gA_ne, sA_sA, sI_sI, if_pos, if_neg, ite_true, ite_false, eq_self, not_true_eq_false, not_false_eq_true, Nat.add_zero, NF_ap]
        exact ih _ f (by omega) (xor_b (tw_lt h2) (by omega)) (by omega)
  exact key 8 0 N (by omega) (by omega) (by omega)
/-- small factors -/
theorem tm_pr {a b : Nat} (ha : a < 256) (hb : b < 16) : tm a b = pr a b := (g_tp ⟨b, hb⟩ ⟨a, ha⟩).1
theorem tm_rp {a b : Nat} (ha : a < 256) (hb : b < 16) : tm b a = pr a b := (g_tp ⟨b, hb⟩ ⟨a, ha⟩).2.1
theorem pr_lt {a b : Nat} (ha : a < 256) (hb : b < 16) : pr a b < 256 := (g_tp ⟨b, hb⟩ ⟨a, ha⟩).2.2
theorem a_inv (hN : 300 ≤ N) {e : Nat} (he : e < 16) : F_X1_inverse N (nI e) = some (nI (iv e)) := by
  have hi := g_iv ⟨e, he⟩
  have hi2 := g_iv2 ⟨e, he⟩
  have key : ∀ k x f, x + k = 256 → 1 ≤ x → (x ≤ iv e ∨ iv e = 0) → k < f → F_X1_inverse_2 N f (nI e) (nI x) = some (nI (iv e)) := by
    intro k
    induction k with
    | zero =>
      intro x f h1 h2 h3 h4
      obtain ⟨f, rfl⟩ : ∃ q, f = q + 1 := ⟨f - 1, by omega⟩
      have h5 : iv e = 0 := by
        have := hi.1
        dsimp only at this
        omega
      rw [F_X1_inverse_2.eq_2, h5]
      simp (disch := omega) only [c_lt, c_ge, c_gt, c_le, c_eq, c_ne, c_lt0, c_ge0, c_le0, c_gt0, c_eq0, c_ne0, c_eqm, c_nem, c_m0, c_meq, c_mne, c_mlt, nI_add, pk_mul, Bool.cond_decide, cond_true, cond_false, ldA_n, stA_n, cpA_n, bnd_s, bindP_s, Option.bind_some, gN_sI, gN_sA, gI_sA, gA_sI, gI_eq, gA_eq, gI_ne, gA_ne, sA_sA, sI_sI, if_pos, if_neg, ite_true, ite_false, eq_self, not_true_eq_false, not_false_eq_true, Nat.add_zero, NF_ap]
    | succ k ih =>
      intro x f h1 h2 h3 h4
      obtain ⟨f, rfl⟩ : ∃ q, f = q + 1 := ⟨f - 1, by omega⟩
      have htm : tm e x < 256 := by rw [tm_rp (show x < 256 by omega) he]; exact pr_lt (by omega) he
      rw [F_X1_inverse_2.eq_2, a_tm (by omega) (by omega) (by omega)]
      by_cases z : x = iv e
      · have := (hi.2 (by dsimp only; intro z0; subst z0; have : iv 0 = 0 := by decide
                          omega)).2
        dsimp only at this
        rw [z, this]
        simp (disch := omega) only [c_lt, c_ge, c_gt, c_le, c_eq, c_ne, c_lt0, c_ge0, c_le0, c_gt0, c_eq0, c_ne0, c_eqm, c_nem, c_m0, c_meq, c_mne, c_mlt, nI_add, pk_mul, Bool.cond_decide, cond_true, cond_false, ldA_n, stA_n, cpA_n, bnd_s, bindP_s, Option.bind_some, gN_sI, gN_sA, gI_sA, gA_sI, gI_eq, gA_eq, gI_ne, gA_ne, sA_sA, sI_sI, if_pos, if_neg, ite_true, ite_false, eq_self, not_true_eq_false, not_false_eq_true, Nat.add_zero, NF_ap]
      · have := hi2 ⟨x, by omega⟩ (by dsimp only; omega)
        dsimp only at this
        simp (disch := omega) only [c_lt, c_ge, c_gt, c_le, c_eq, c_ne, c_lt0, c_ge0, c_le0, c_gt0, c_eq0, c_ne0, c_eqm, c_nem, c_m0, c_meq, c_mne, c_mlt, nI_add, pk_mul, Bool.cond_decide, cond_true, cond_false, ldA_n, stA_n, cpA_n, bnd_s, bindP_s, Option.bind_some, gN_sI, gN_sA, gI_sA, gA_sI, gI_eq, gA_eq, gI_ne, gA_ne, sA_sA, sI_sI, if_pos, if_neg, ite_true, ite_false, eq_self, not_true_eq_false, not_false_eq_true, Nat.add_zero, NF_ap]
        exact ih (x + 1) f (by omega) (by omega) (by omega) (by omega)
  exact key 255 1 N (by omega) (by omega) (by
    by_cases z : iv e = 0
    · exact Or.inr z
    · omega) (by omega)
theorem b_quo (hN : 300 ≤ N) {a e : Nat} (ha : a < 256) (he : e < 16) (h0 : e ≠ 0) : F_X6_quotient N (nI a) (nI e) = some (nI (tm a (iv e))) := by
  have hg := g_dv ⟨e, he⟩ h0
  have key : ∀ k v f, v + k = tm a (iv e) → k < f → F_X6_quotient_2 N f (nI a) (nI e) (nI v) = some (nI (tm a (iv e))) := by
    have hlt : tm a (iv e) < 256 := (hg ⟨a, ha⟩).1
    intro k
    induction k with
    | zero =>
      intro v f h1 h2
      obtain ⟨f, rfl⟩ : ∃ q, f = q + 1 := ⟨f - 1, by omega⟩
      obtain rfl : v = tm a (iv e) := by omega
      have h3 : pr (tm a (iv e)) e = a := (hg ⟨a, ha⟩).2.1
      rw [F_X6_quotient_2.eq_2, b_pr (by omega) hlt (by omega), h3]
      simp (disch := omega) only [c_lt, c_ge, c_gt, c_le, c_eq, c_ne, c_lt0, c_ge0, c_le0, c_gt0, c_eq0, c_ne0, c_eqm, c_nem, c_m0, c_meq, c_mne, c_mlt, nI_add, pk_mul, Bool.cond_decide, cond_true, cond_false, ldA_n, stA_n, cpA_n, bnd_s, bindP_s, Option.bind_some, gN_sI, gN_sA, gI_sA, gA_sI, gI_eq, gA_eq, gI_ne, gA_ne, sA_sA, sI_sI, if_pos, if_neg, ite_true, ite_false, eq_self, not_true_eq_false, not_false_eq_true, Nat.add_zero, NF_ap]
    | succ k ih =>
      intro v f h1 h2
      obtain ⟨f, rfl⟩ : ∃ q, f = q + 1 := ⟨f - 1, by omega⟩
      have h3 : tm (pr v e) (iv e) = v := (hg ⟨v, by omega⟩).2.2
      have h4 := pr_lt (show v < 256 by omega) he
      have h5 : pr v e ≠ a := by
        intro z
        rw [z] at h3
        omega
      rw [F_X6_quotient_2.eq_2, b_pr (by omega) (by omega) (by omega)]
      simp (disch := omega) only [c_lt, c_ge, c_gt, c_le, c_eq, c_ne, c_lt0, c_ge0, c_le0, c_gt0, c_eq0, c_ne0, c_eqm, c_nem, c_m0, c_meq, c_mne, c_mlt, nI_add, pk_mul, Bool.cond_decide, cond_true, cond_false, ldA_n, stA_n, cpA_n, bnd_s, bindP_s, Option.bind_some, gN_sI, gN_sA, gI_sA, gA_sI, gI_eq, gA_eq, gI_ne, gA_ne, sA_sA, sI_sI, if_pos, if_neg, ite_true, ite_false, eq_self, not_true_eq_false, not_false_eq_true, Nat.add_zero, NF_ap]
      exact ih (v + 1) f (by omega) (by omega)
  have hlt : tm a (iv e) < 256 := (hg ⟨a, ha⟩).1
  exact key (tm a (iv e)) 0 N (by omega) (by omega)
end GF
