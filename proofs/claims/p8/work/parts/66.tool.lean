/-! small numbers in the forms of the functions -/
theorem c_lt {a b : Nat} (ha : a < 2 ^ 31) (hb : b < 2 ^ 31) : mx_cnd .lt (nI a) (nI b) = decide (a < b) := decide_eq_decide.mpr (nI_ltI ha hb)
theorem c_ge {a b : Nat} (ha : a < 2 ^ 31) (hb : b < 2 ^ 31) : mx_cnd .ge (nI a) (nI b) = decide (b ≤ a) := decide_eq_decide.mpr (nI_leI hb ha)
theorem c_gt {a b : Nat} (ha : a < 2 ^ 31) (hb : b < 2 ^ 31) : mx_cnd .gt (nI a) (nI b) = decide (b < a) := decide_eq_decide.mpr (nI_ltI hb ha)
theorem c_le {a b : Nat} (ha : a < 2 ^ 31) (hb : b < 2 ^ 31) : mx_cnd .le (nI a) (nI b) = decide (a ≤ b) := decide_eq_decide.mpr (nI_leI ha hb)
theorem c_eq {a b : Nat} (ha : a < 2 ^ 31) (hb : b < 2 ^ 31) : mx_cnd .eq (nI a) (nI b) = decide (a = b) := decide_eq_decide.mpr (nI_eq ha hb)
theorem c_ne {a b : Nat} (ha : a < 2 ^ 31) (hb : b < 2 ^ 31) : mx_cnd .ne (nI a) (nI b) = decide (¬ a = b) := decide_eq_decide.mpr (not_congr (nI_eq ha hb))
theorem c_lt0 {a : Nat} (ha : a < 2 ^ 31) : mx_cnd .lt (nI a) 0 = false := decide_eq_false (nI_pos ha)
theorem c_ge0 {a : Nat} (ha : a < 2 ^ 31) : mx_cnd .ge (nI a) 0 = true := decide_eq_true (nI_pos' ha)
theorem c_eq0 {a : Nat} (ha : a < 2 ^ 31) : mx_cnd .eq (nI a) 0 = decide (a = 0) := by rw [← nI_0]; exact c_eq ha (by decide)
theorem c_ne0 {a : Nat} (ha : a < 2 ^ 31) : mx_cnd .ne (nI a) 0 = decide (¬ a = 0) := by rw [← nI_0]; exact c_ne ha (by decide)
theorem c_le0 {a : Nat} (ha : a < 2 ^ 31) : mx_cnd .le (nI a) 0 = decide (a ≤ 0) := by rw [← nI_0]; exact c_le ha (by decide)
theorem c_gt0 {a : Nat} (ha : a < 2 ^ 31) : mx_cnd .gt (nI a) 0 = decide (0 < a) := by rw [← nI_0]; exact c_gt ha (by decide)
theorem nI_nem {a : Nat} (ha : a < 2 ^ 31) : ¬ nI a = -nI 1 := by
  intro h
  have := congrArg Int32.toInt h
  rw [nI_toInt ha, show (-nI 1 : Int32).toInt = -1 from by decide] at this
  omega
theorem c_eqm {a : Nat} (ha : a < 2 ^ 31) : mx_cnd .eq (nI a) (-nI 1) = false := decide_eq_false (nI_nem ha)
theorem c_nem {a : Nat} (ha : a < 2 ^ 31) : mx_cnd .ne (nI a) (-nI 1) = true := decide_eq_true (nI_nem ha)
theorem c_m0 : mx_cnd .lt (-nI 1) 0 = true := by decide
theorem c_meq : mx_cnd .eq (-nI 1) (-nI 1) = true := by decide
theorem c_mne : mx_cnd .ne (-nI 1) (-nI 1) = false := by decide
theorem c_mlt {b : Nat} (hb : b < 2 ^ 31) : mx_cnd .lt (-nI 1) (nI b) = true := by
  refine decide_eq_true ?_
  rw [Int32.lt_iff_toInt_lt, nI_toInt hb, show (-nI 1 : Int32).toInt = -1 from by decide]
  omega
theorem c_eqx (x y : Int32) : mx_cnd .eq x y = decide (x = y) := rfl
theorem c_nex (x y : Int32) : mx_cnd .ne x y = decide (¬ x = y) := rfl
theorem nI_m1 {a : Nat} (h : 1 ≤ a) : nI a + (-nI 1) = nI (a - 1) := by
  rw [← pk_sub h]
  exact (Int32.sub_eq_add_neg _ _).symm
theorem nI_0m1 : nI 0 + (-nI 1) = -nI 1 := by decide
theorem ldA_n {α : Type} {f : Nat → Int32} {n a : Nat} {K : Int32 → Option α} (h : a < n) (hn : n < 2 ^ 31) : ldA f n (nI a) K = K (f a) := by
  unfold ldA
  rw [if_pos (nI_in h hn), nI_clamp (by omega)]
theorem stA_n {α : Type} {s : St} {k n a : Nat} {v : Int32} {K : St → Option α} (h : a < n) (hn : n < 2 ^ 31) : stA s k n (nI a) v K = K (sA s k (upd (gA s k) a v)) := by
  unfold stA
  rw [if_pos (nI_in h hn), nI_clamp (by omega)]
theorem cpA_n {α : Type} {s : St} {k0 n0 k1 n1 a b z : Nat} {K : St → Option α} (h0 : a + z ≤ n0) (h1 : b + z ≤ n1) (hn0 : n0 < 2 ^ 31) (hn1 : n1 < 2 ^ 31) : cpA s k0 n0 k1 n1 (nI a) (nI b) (nI z) K = K (sA s k1 (va_cpy (gA s k0) (gA s k1) a b z)) := by
  unfold cpA
  rw [nI_clamp (by omega), nI_clamp (by omega), nI_clamp (by omega), if_pos ⟨nI_pos (by omega), nI_pos (by omega), nI_pos (by omega), h0, h1⟩]
theorem bnd_s {α β : Type} (x : α) (K : α → Option β) : bnd x K = K x := rfl
theorem bindP_s {α β γ : Type} (v : α) (t : β) (K : α → β → Option γ) : bindP (some (v, t)) K = K v t := rfl
theorem rz_0 {α : Type} (x : Option α) : rz (nI 0) x = x := if_pos (Or.inl nI_0)
theorem rz_1 {α : Type} (x : Option α) : rz (nI 1) x = x := if_pos (Or.inr rfl)
/-! states -/
theorem gN_sI {s : St} {k : Nat} {v : Int32} : gN (sI s k v) = gN s := rfl
theorem gN_sA {s : St} {k : Nat} {v : Nat → Int32} : gN (sA s k v) = gN s := rfl
theorem gI_sA {s : St} {k : Nat} {v : Nat → Int32} : gI (sA s k v) = gI s := rfl
theorem gA_sI {s : St} {k : Nat} {v : Int32} : gA (sI s k v) = gA s := rfl
theorem gI_eq {s : St} {k : Nat} {v : Int32} : gI (sI s k v) k = v := pk_us
theorem gI_ne {s : St} {k j : Nat} {v : Int32} (h : j ≠ k) : gI (sI s k v) j = gI s j := pk_un h
theorem gA_eq {s : St} {k : Nat} {v : Nat → Int32} : gA (sA s k v) k = v := if_pos rfl
theorem gA_ne {s : St} {k j : Nat} {v : Nat → Int32} (h : j ≠ k) : gA (sA s k v) j = gA s j := if_neg h
theorem sA_sA {s : St} {k : Nat} {v w : Nat → Int32} : sA (sA s k v) k w = sA s k w := by
  unfold sA
  congr 2
  funext j
  by_cases h : j = k
  · rw [if_pos h, if_pos h]
  · rw [if_neg h, if_neg h]; exact if_neg h
theorem sI_sI {s : St} {k : Nat} {v w : Int32} : sI (sI s k v) k w = sI s k w := by
  unfold sI upd
  congr 2
  funext j
  by_cases h : j = k
  · rw [if_pos h, if_pos h]
  · rw [if_neg h, if_neg h]; exact if_neg h
theorem sA_id {s : St} {k : Nat} : sA s k (gA s k) = s := by
  unfold sA gA
  obtain ⟨n, f, g⟩ := s
  congr 2
  funext j
  by_cases h : j = k
  · subst h; rw [if_pos rfl]
  · rw [if_neg h]
theorem sA_cg {s : St} {k : Nat} {v w : Nat → Int32} (h : ∀ j, v j = w j) : sA s k v = sA s k w := by rw [funext h]
theorem sA_cm {s : St} {j k : Nat} {v w : Nat → Int32} (h : j ≠ k) : sA (sA s j v) k w = sA (sA s k w) j v := by
  unfold sA
  congr 2
  funext i
  by_cases h1 : i = j
  · by_cases h2 : i = k
    · omega
    · subst h1; simp [h2]
  · by_cases h2 : i = k
    · subst h2; simp [h1]
    · simp [h1, h2]
theorem sIA_cm {s : St} {j k : Nat} {v : Int32} {w : Nat → Int32} : sA (sI s j v) k w = sI (sA s k w) j v := rfl
/-- a number or a negative one -/
theorem sgn (x : Int32) : (x < 0) ∨ ∃ a : Nat, a < 2 ^ 31 ∧ x = nI a := by
  by_cases h : x < 0
  · exact Or.inl h
  · exact Or.inr (nI_of h)
theorem c_lt0n {x : Int32} (h : x < 0) : mx_cnd .lt x 0 = true := decide_eq_true h
theorem c_ge0n {x : Int32} (h : x < 0) : mx_cnd .ge x 0 = false := decide_eq_false (fun z => by
  rw [Int32.lt_iff_toInt_lt] at h; rw [Int32.le_iff_toInt_le] at z; omega)
theorem neg_lt {x : Int32} (h : x < 0) {b : Nat} (hb : b < 2 ^ 31) : x < nI b := by
  rw [Int32.lt_iff_toInt_lt] at h ⊢
  rw [nI_toInt hb]
  have : (0 : Int32).toInt = 0 := by decide
  omega
theorem c_ltn {x : Int32} (h : x < 0) {b : Nat} (hb : b < 2 ^ 31) : mx_cnd .lt x (nI b) = true := decide_eq_true (neg_lt h hb)
theorem c_gen {x : Int32} (h : x < 0) {b : Nat} (hb : b < 2 ^ 31) : mx_cnd .ge x (nI b) = false := decide_eq_false (fun z => by
  have h1 := neg_lt h hb
  rw [Int32.lt_iff_toInt_lt] at h1; rw [Int32.le_iff_toInt_le] at z; omega)
theorem c_nen {x : Int32} (h : x < 0) {b : Nat} (hb : b < 2 ^ 31) : mx_cnd .ne x (nI b) = true := decide_eq_true (fun z => by
  have h1 := neg_lt h hb
  rw [z, Int32.lt_iff_toInt_lt] at h1; omega)
/-- a filled array -/
theorem fl_lp {k n : Nat} {v : Int32} {G : Nat → St → Int32 → Int32 → Int32 → Option St} (hn : n < 2 ^ 31) (hG : ∀ f s x1 x2 x3, G (f + 1) s x1 x2 x3 = bif mx_cnd .ge x2 x3 then (some s) else (stA s k n x2 x1 fun s1 => G f s1 x1 (x2 + (nI 1)) x3)) : ∀ (m i f : Nat) (s : St), i + m = n → m < f → G f s v (nI i) (nI n) = some (sA s k (fun j => if i ≤ j ∧ j < n then v else gA s k j)) := by
  intro m
  induction m with
  | zero =>
    intro i f s h1 h2
    obtain ⟨f, rfl⟩ : ∃ q, f = q + 1 := ⟨f - 1, by omega⟩
    rw [hG]
    simp (disch := omega) only [c_lt, c_ge, c_gt, c_le, c_eq, c_ne, c_lt0, c_ge0, c_le0, c_gt0, c_eq0, c_ne0, c_eqm, c_nem, c_m0, c_meq, c_mne, c_mlt, nI_add, pk_mul, Bool.cond_decide, cond_true, cond_false, ldA_n, stA_n, cpA_n, bnd_s, bindP_s, Option.bind_some, gN_sI, gN_sA, gI_sA, gA_sI, gI_eq, gA_eq, gI_ne, gA_ne, sA_sA, sI_sI, if_pos, if_neg, ite_true, ite_false, eq_self, not_true_eq_false, not_false_eq_true, Nat.add_zero]
    exact congrArg some sA_id.symm
  | succ m ih =>
    intro i f s h1 h2
    obtain ⟨f, rfl⟩ : ∃ q, f = q + 1 := ⟨f - 1, by omega⟩
    rw [hG]
    simp (disch := omega) only [c_lt, c_ge, c_gt, c_le, c_eq, c_ne, c_lt0, c_ge0, c_le0, c_gt0, c_eq0, c_ne0, c_eqm, c_nem, c_m0, c_meq, c_mne, c_mlt, nI_add, pk_mul, Bool.cond_decide, cond_true, cond_false, ldA_n, stA_n, cpA_n, bnd_s, bindP_s, Option.bind_some, gN_sI, gN_sA, gI_sA, gA_sI, gI_eq, gA_eq, gI_ne, gA_ne, sA_sA, sI_sI, if_pos, if_neg, ite_true, ite_false, eq_self, not_true_eq_false, not_false_eq_true, Nat.add_zero]
    rw [ih (i + 1) f _ (by omega) (by omega)]
    simp (disch := omega) only [c_lt, c_ge, c_gt, c_le, c_eq, c_ne, c_lt0, c_ge0, c_le0, c_gt0, c_eq0, c_ne0, c_eqm, c_nem, c_m0, c_meq, c_mne, c_mlt, nI_add, pk_mul, Bool.cond_decide, cond_true, cond_false, ldA_n, stA_n, cpA_n, bnd_s, bindP_s, Option.bind_some, gN_sI, gN_sA, gI_sA, gA_sI, gI_eq, gA_eq, gI_ne, gA_ne, sA_sA, sI_sI, if_pos, if_neg, ite_true, ite_false, eq_self, not_true_eq_false, not_false_eq_true, Nat.add_zero]
    refine congrArg some (sA_cg fun j => ?_)
    unfold upd
    by_cases h3 : j = i
    · subst h3
      rw [if_neg (by omega), if_pos rfl, if_pos (by omega)]
    · by_cases h4 : i ≤ j ∧ j < n
      · rw [if_pos (by omega), if_pos h4]
      · rw [if_neg (by omega), if_neg h3, if_neg h4]
