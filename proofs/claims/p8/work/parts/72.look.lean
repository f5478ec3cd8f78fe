/-! looking things up: one function for both -/
def oI : Option Nat → Int32
  | none => -nI 1
  | some j => nI j
/-- the last of 2, .. that fits -/
def lst (P : Nat → Bool) : Nat → Option Nat
  | 0 => none
  | k + 1 => if P (k + 2) = true then some (k + 2) else lst P k
theorem lst_some {P : Nat → Bool} : ∀ {k j : Nat}, lst P k = some j → 2 ≤ j ∧ j < k + 2 ∧ P j = true := by
  intro k
  induction k with
  | zero => intro j h; cases h
  | succ k ih =>
    intro j h
    unfold lst at h
    by_cases hp : P (k + 2) = true
    · rw [if_pos hp] at h
      cases h
      exact ⟨by omega, by omega, hp⟩
    · rw [if_neg hp] at h
      have := ih h
      exact ⟨this.1, by omega, this.2.2⟩
theorem lst_y {P : Nat → Bool} {k : Nat} (h : P (k + 2) = true) : lst P (k + 1) = some (k + 2) := if_pos h
theorem lst_n {P : Nat → Bool} {k : Nat} (h : P (k + 2) = false) : lst P (k + 1) = lst P k := if_neg (by rw [h]; decide)
/-- the first that fits -/
def fnd (P : Nat → Bool) (j : Nat) : Nat → Option Nat
  | 0 => none
  | m + 1 => if P j = true then some j else fnd P (j + 1) m
theorem fnd_some {P : Nat → Bool} : ∀ {m i j : Nat}, fnd P i m = some j → i ≤ j ∧ j < i + m ∧ P j = true := by
  intro m
  induction m with
  | zero => intro i j h; cases h
  | succ k ih =>
    intro i j h
    unfold fnd at h
    by_cases hp : P i = true
    · rw [if_pos hp] at h
      cases h
      exact ⟨by omega, by omega, hp⟩
    · rw [if_neg hp] at h
      have := ih h
      exact ⟨by omega, by omega, this.2.2⟩
def isR (c l : Nat → Nat) (r j : Nat) : Bool := decide (so c l j = 3 ∧ c (32 * j + 2) = r ∧ c (32 * j + 3) ≤ 96)
def isS (c l : Nat → Nat) (r w j : Nat) : Bool := decide (so c l j = 4 ∧ c (32 * j + 1) = r ∧ c (32 * j + 2) = w)
theorem isR_y {c l : Nat → Nat} {r j : Nat} (h1 : so c l j = 3) (h2 : c (32 * j + 2) = r) (h3 : c (32 * j + 3) ≤ 96) : isR c l r j = true := decide_eq_true ⟨h1, h2, h3⟩
theorem isR_n {c l : Nat → Nat} {r j : Nat} (h : ¬ so c l j = 3 ∨ ¬ c (32 * j + 2) = r ∨ ¬ c (32 * j + 3) ≤ 96) : isR c l r j = false := decide_eq_false (fun z => by
  rcases h with h | h | h
  · exact h z.1
  · exact h z.2.1
  · exact h z.2.2)
theorem isS_y {c l : Nat → Nat} {r w j : Nat} (h1 : so c l j = 4) (h2 : c (32 * j + 1) = r) (h3 : c (32 * j + 2) = w) : isS c l r w j = true := decide_eq_true ⟨h1, h2, h3⟩
theorem isS_n {c l : Nat → Nat} {r w j : Nat} (h : ¬ so c l j = 4 ∨ ¬ c (32 * j + 1) = r ∨ ¬ c (32 * j + 2) = w) : isS c l r w j = false := decide_eq_false (fun z => by
  rcases h with h | h | h
  · exact h z.1
  · exact h z.2.1
  · exact h z.2.2)
/-- the blocks of a row of L bytes -/
def nbk (L : Nat) : Nat := if 4 < (L + 23) / 24 then 4 else (L + 23) / 24
theorem nbk_le (L : Nat) : nbk L ≤ 4 := by
  unfold nbk
  by_cases h : 4 < (L + 23) / 24
  · rw [if_pos h]; omega
  · rw [if_neg h]; omega
theorem nbk_96 {L : Nat} (h : L ≤ 96) : nbk L = (L + 23) / 24 := if_neg (by omega)
def cm (c l : Nat → Nat) (x j : Nat) : Nat → Nat
  | 0 => 0
  | k + 1 => cm c l x j k + (if bk c l x (c (32 * j + (4 + k))) = true then 0 else 1)
theorem cm_y {c l : Nat → Nat} {x j k : Nat} (h : bk c l x (c (32 * j + (4 + k))) = true) : cm c l x j (k + 1) = cm c l x j k := by
  show cm c l x j k + _ = _
  rw [if_pos h]
  rfl
theorem cm_n {c l : Nat → Nat} {x j k : Nat} (h : bk c l x (c (32 * j + (4 + k))) = false) : cm c l x j (k + 1) = cm c l x j k + 1 := by
  show cm c l x j k + _ = _
  rw [h, if_neg (by decide)]
theorem cm_le (c l : Nat → Nat) (x j : Nat) : ∀ k, cm c l x j k ≤ k := by
  intro k
  induction k with
  | zero => exact Nat.le_refl 0
  | succ k ih =>
    cases h : bk c l x (c (32 * j + (4 + k))) with
    | true => rw [cm_y h]; omega
    | false => rw [cm_n h]; omega
def eqf (u v : Nat → Nat) : Nat → Bool
  | 0 => true
  | k + 1 => eqf u v k && decide (u k = v k)
theorem eqf_iff {u v : Nat → Nat} : ∀ {m : Nat}, eqf u v m = true ↔ ∀ i, i < m → u i = v i := by
  intro m
  induction m with
  | zero => exact ⟨fun _ i hi => by omega, fun _ => rfl⟩
  | succ k ih =>
    unfold eqf
    rw [Bool.and_eq_true, decide_eq_true_eq, ih]
    constructor
    · intro h i hi
      by_cases q : i = k
      · rw [q]; exact h.2
      · exact h.1 i (by omega)
    · intro h
      exact ⟨fun i hi => h i (by omega), h k (by omega)⟩
theorem nbit (b : Bool) : b.toNat < 2 ^ 31 := by cases b <;> decide
section LK
variable {s : St} {n x N : Nat} {c l : Nat → Nat}
theorem a_findRow (h : CV s n c l x) (hN : 100 ≤ N) {r : Nat} (hr : r < 2 ^ 31) : F_X5_findRow N s (nI r) = some (oI (lst (isR c l r) (x - 2))) := by
  have hb := h.n60
  have key : ∀ k f, k + 2 ≤ n → k < f → F_X5_findRow_7 N f s (nI r) (nI (k + 1)) = some (oI (lst (isR c l r) k)) := by
    intro k
    induction k with
    | zero =>
      intro f e1 e2
      obtain ⟨f, rfl⟩ : ∃ q, f = q + 1 := ⟨f - 1, by omega⟩
      rw [F_X5_findRow_7.eq_2]
      simp (disch := omega) only [c_lt, c_ge, c_gt, c_le, c_eq, c_ne, c_lt0, c_ge0, c_le0, c_gt0, c_eq0, c_ne0, c_eqm, c_nem, c_m0, c_meq, c_mne, c_mlt, nI_add, pk_mul, Bool.cond_decide, cond_true, cond_false, ldA_n, stA_n, cpA_n, bnd_s, bindP_s, Option.bind_some, gN_sI, gN_sA, gI_sA, gA_sI, gI_eq, gA_eq, gI_ne, gA_ne, sA_sA, sI_sI, if_pos, if_neg, ite_true, ite_false, eq_self, not_true_eq_false, not_false_eq_true, Nat.add_zero, NF_ap]
      rfl
    | succ k ih =>
      intro f e1 e2
      obtain ⟨f, rfl⟩ : ∃ q, f = q + 1 := ⟨f - 1, by omega⟩
      have w1 := so_le c l (k + 2)
      have w2 := h.b (32 * (k + 2) + 2)
      have w3 := h.b (32 * (k + 2) + 3)
      rw [F_X5_findRow_7.eq_2]
      unfold F_X5_lengthOfRow
      simp only [show k + 1 + 1 = k + 2 from rfl]
      simp (disch := omega) only [c_lt, c_ge, c_gt, c_le, c_eq, c_ne, c_lt0, c_ge0, c_le0, c_gt0, c_eq0, c_ne0, c_eqm, c_nem, c_m0, c_meq, c_mne, c_mlt, nI_add, pk_mul, Bool.cond_decide, cond_true, cond_false, ldA_n, stA_n, cpA_n, bnd_s, bindP_s, Option.bind_some, gN_sI, gN_sA, gI_sA, gA_sI, gI_eq, gA_eq, gI_ne, gA_ne, sA_sA, sI_sI, if_pos, if_neg, ite_true, ite_false, eq_self, not_true_eq_false, not_false_eq_true, Nat.add_zero, NF_ap, a_ws h, a_cell h.w, nI_m1]
      rw [show k + 2 - 1 = k + 1 from rfl, ih f (by omega) (by omega)]
      by_cases q1 : so c l (k + 2) = 3
      · by_cases q2 : c (32 * (k + 2) + 2) = r
        · by_cases q3 : c (32 * (k + 2) + 3) ≤ 96
          · rw [if_neg (fun z => z q1), if_neg (fun z => z q2), if_neg (by omega), lst_y (isR_y q1 q2 q3)]
            rfl
          · rw [if_neg (fun z => z q1), if_neg (fun z => z q2), if_pos (by omega), lst_n (isR_n (Or.inr (Or.inr q3)))]
        · rw [if_neg (fun z => z q1), if_pos q2, lst_n (isR_n (Or.inr (Or.inl q2)))]
      · rw [if_pos q1, lst_n (isR_n (Or.inl q1))]
  unfold F_X5_findRow
  rw [h.xi, pk_sub (by omega)]
  have := key (x - 2) N (by omega) (by omega)
  rw [show x - 2 + 1 = x - 1 by omega] at this
  exact this
theorem a_findSym (h : CV s n c l x) (hN : 100 ≤ N) {r w : Nat} (hr : r < 2 ^ 31) (hw : w < 2 ^ 31) : F_X5_findSymbol N s (nI r) (nI w) = some (oI (lst (isS c l r w) (x - 2))) := by
  have hb := h.n60
  have key : ∀ k f, k + 2 ≤ n → k < f → F_X5_findSymbol_7 N f s (nI r) (nI w) (nI (k + 1)) = some (oI (lst (isS c l r w) k)) := by
    intro k
    induction k with
    | zero =>
      intro f e1 e2
      obtain ⟨f, rfl⟩ : ∃ q, f = q + 1 := ⟨f - 1, by omega⟩
      rw [F_X5_findSymbol_7.eq_2]
      simp (disch := omega) only [c_lt, c_ge, c_gt, c_le, c_eq, c_ne, c_lt0, c_ge0, c_le0, c_gt0, c_eq0, c_ne0, c_eqm, c_nem, c_m0, c_meq, c_mne, c_mlt, nI_add, pk_mul, Bool.cond_decide, cond_true, cond_false, ldA_n, stA_n, cpA_n, bnd_s, bindP_s, Option.bind_some, gN_sI, gN_sA, gI_sA, gA_sI, gI_eq, gA_eq, gI_ne, gA_ne, sA_sA, sI_sI, if_pos, if_neg, ite_true, ite_false, eq_self, not_true_eq_false, not_false_eq_true, Nat.add_zero, NF_ap]
      rfl
    | succ k ih =>
      intro f e1 e2
      obtain ⟨f, rfl⟩ : ∃ q, f = q + 1 := ⟨f - 1, by omega⟩
      have w1 := so_le c l (k + 2)
      have w2 := h.b (32 * (k + 2) + 1)
      have w3 := h.b (32 * (k + 2) + 2)
      rw [F_X5_findSymbol_7.eq_2]
      simp only [show k + 1 + 1 = k + 2 from rfl]
      simp (disch := omega) only [c_lt, c_ge, c_gt, c_le, c_eq, c_ne, c_lt0, c_ge0, c_le0, c_gt0, c_eq0, c_ne0, c_eqm, c_nem, c_m0, c_meq, c_mne, c_mlt, nI_add, pk_mul, Bool.cond_decide, cond_true, cond_false, ldA_n, stA_n, cpA_n, bnd_s, bindP_s, Option.bind_some, gN_sI, gN_sA, gI_sA, gA_sI, gI_eq, gA_eq, gI_ne, gA_ne, sA_sA, sI_sI, if_pos, if_neg, ite_true, ite_false, eq_self, not_true_eq_false, not_false_eq_true, Nat.add_zero, NF_ap, a_ws h, a_cell h.w, nI_m1]
      rw [show k + 2 - 1 = k + 1 from rfl, ih f (by omega) (by omega)]
      by_cases q1 : so c l (k + 2) = 4
      · by_cases q2 : c (32 * (k + 2) + 1) = r
        · by_cases q3 : c (32 * (k + 2) + 2) = w
          · rw [if_neg (fun z => z q1), if_neg (fun z => z q2), if_neg (fun z => z q3), lst_y (isS_y q1 q2 q3)]
            rfl
          · rw [if_neg (fun z => z q1), if_neg (fun z => z q2), if_pos q3, lst_n (isS_n (Or.inr (Or.inr q3)))]
        · rw [if_neg (fun z => z q1), if_pos q2, lst_n (isS_n (Or.inr (Or.inl q2)))]
      · rw [if_pos q1, lst_n (isS_n (Or.inl q1))]
  unfold F_X5_findSymbol
  rw [h.xi, pk_sub (by omega)]
  have := key (x - 2) N (by omega) (by omega)
  rw [show x - 2 + 1 = x - 1 by omega] at this
  exact this
theorem b_secOf (h : MV s n c l x) (hN : 100 ≤ N) {r : Nat} (hr : r < 2 ^ 31) : F_X6_sectorOf N s (nI r) = some (oI (lst (isR c l r) (x - 2))) := by
  have hb := h.n60
  have h4 := h.1.2.2.2.1
  have key : ∀ m k f, k + m = x - 2 → m < f → F_X6_sectorOf_4 N f s (nI r) (oI (lst (isR c l r) k)) (nI (k + 2)) = some (oI (lst (isR c l r) (x - 2))) := by
    intro m
    induction m with
    | zero =>
      intro k f e1 e2
      obtain ⟨f, rfl⟩ : ∃ q, f = q + 1 := ⟨f - 1, by omega⟩
      obtain rfl : k = x - 2 := by omega
      rw [F_X6_sectorOf_4.eq_2, h.xi]
      simp (disch := omega) only [c_lt, c_ge, c_gt, c_le, c_eq, c_ne, c_lt0, c_ge0, c_le0, c_gt0, c_eq0, c_ne0, c_eqm, c_nem, c_m0, c_meq, c_mne, c_mlt, nI_add, pk_mul, Bool.cond_decide, cond_true, cond_false, ldA_n, stA_n, cpA_n, bnd_s, bindP_s, Option.bind_some, gN_sI, gN_sA, gI_sA, gA_sI, gI_eq, gA_eq, gI_ne, gA_ne, sA_sA, sI_sI, if_pos, if_neg, ite_true, ite_false, eq_self, not_true_eq_false, not_false_eq_true, Nat.add_zero, NF_ap]
    | succ m ih =>
      intro k f e1 e2
      obtain ⟨f, rfl⟩ : ∃ q, f = q + 1 := ⟨f - 1, by omega⟩
      have w1 := so_le c l (k + 2)
      have w2 := h.1.2.2.2.2.2.1 (32 * (k + 2) + 2)
      have w3 := h.1.2.2.2.2.2.1 (32 * (k + 2) + 3)
      have ih := ih (k + 1) f (by omega) (by omega)
      rw [F_X6_sectorOf_4.eq_2, h.xi]
      simp (disch := omega) only [c_lt, c_ge, c_gt, c_le, c_eq, c_ne, c_lt0, c_ge0, c_le0, c_gt0, c_eq0, c_ne0, c_eqm, c_nem, c_m0, c_meq, c_mne, c_mlt, nI_add, pk_mul, Bool.cond_decide, cond_true, cond_false, ldA_n, stA_n, cpA_n, bnd_s, bindP_s, Option.bind_some, gN_sI, gN_sA, gI_sA, gA_sI, gI_eq, gA_eq, gI_ne, gA_ne, sA_sA, sI_sI, if_pos, if_neg, ite_true, ite_false, eq_self, not_true_eq_false, not_false_eq_true, Nat.add_zero, NF_ap, b_so h.1, h4]
      rw [show k + 1 + 2 = k + 2 + 1 from rfl] at ih
      by_cases q1 : so c l (k + 2) = 3
      · by_cases q2 : c (32 * (k + 2) + 2) = r
        · by_cases q3 : c (32 * (k + 2) + 3) ≤ 96
          · rw [if_neg (fun z => z q1), if_neg (fun z => z q2), if_neg (by omega)]
            rw [lst_y (isR_y q1 q2 q3)] at ih
            exact ih
          · rw [if_neg (fun z => z q1), if_neg (fun z => z q2), if_pos (by omega)]
            rw [lst_n (isR_n (Or.inr (Or.inr q3)))] at ih
            exact ih
        · rw [if_neg (fun z => z q1), if_pos q2]
          rw [lst_n (isR_n (Or.inr (Or.inl q2)))] at ih
          exact ih
      · rw [if_pos q1]
        rw [lst_n (isR_n (Or.inl q1))] at ih
        exact ih
  unfold F_X6_sectorOf
  exact key (x - 2) 0 N (by omega) (by omega)
theorem b_symOf (h : MV s n c l x) (hN : 100 ≤ N) {r w : Nat} (hr : r < 2 ^ 31) (hw : w < 2 ^ 31) : F_X6_symbolOf N s (nI r) (nI w) = some (oI (lst (isS c l r w) (x - 2))) := by
  have hb := h.n60
  have h4 := h.1.2.2.2.1
  have key : ∀ m k f, k + m = x - 2 → m < f → F_X6_symbolOf_5 N f s (nI r) (nI w) (oI (lst (isS c l r w) k)) (nI (k + 2)) = some (oI (lst (isS c l r w) (x - 2))) := by
    intro m
    induction m with
    | zero =>
      intro k f e1 e2
      obtain ⟨f, rfl⟩ : ∃ q, f = q + 1 := ⟨f - 1, by omega⟩
      obtain rfl : k = x - 2 := by omega
      rw [F_X6_symbolOf_5.eq_2, h.xi]
      simp (disch := omega) only [c_lt, c_ge, c_gt, c_le, c_eq, c_ne, c_lt0, c_ge0, c_le0, c_gt0, c_eq0, c_ne0, c_eqm, c_nem, c_m0, c_meq, c_mne, c_mlt, nI_add, pk_mul, Bool.cond_decide, cond_true, cond_false, ldA_n, stA_n, cpA_n, bnd_s, bindP_s, Option.bind_some, gN_sI, gN_sA, gI_sA, gA_sI, gI_eq, gA_eq, gI_ne, gA_ne, sA_sA, sI_sI, if_pos, if_neg, ite_true, ite_false, eq_self, not_true_eq_false, not_false_eq_true, Nat.add_zero, NF_ap]
    | succ m ih =>
      intro k f e1 e2
      obtain ⟨f, rfl⟩ : ∃ q, f = q + 1 := ⟨f - 1, by omega⟩
      have w1 := so_le c l (k + 2)
      have w2 := h.1.2.2.2.2.2.1 (32 * (k + 2) + 1)
      have w3 := h.1.2.2.2.2.2.1 (32 * (k + 2) + 2)
      have ih := ih (k + 1) f (by omega) (by omega)
      rw [F_X6_symbolOf_5.eq_2, h.xi]
      simp (disch := omega) only [c_lt, c_ge, c_gt, c_le, c_eq, c_ne, c_lt0, c_ge0, c_le0, c_gt0, c_eq0, c_ne0, c_eqm, c_nem, c_m0, c_meq, c_mne, c_mlt, nI_add, pk_mul, Bool.cond_decide, cond_true, cond_false, ldA_n, stA_n, cpA_n, bnd_s, bindP_s, Option.bind_some, gN_sI, gN_sA, gI_sA, gA_sI, gI_eq, gA_eq, gI_ne, gA_ne, sA_sA, sI_sI, if_pos, if_neg, ite_true, ite_false, eq_self, not_true_eq_false, not_false_eq_true, Nat.add_zero, NF_ap, b_so h.1, h4]
      rw [show k + 1 + 2 = k + 2 + 1 from rfl] at ih
      by_cases q1 : so c l (k + 2) = 4
      · by_cases q2 : c (32 * (k + 2) + 1) = r
        · by_cases q3 : c (32 * (k + 2) + 2) = w
          · rw [if_neg (fun z => z q1), if_neg (fun z => z q2), if_neg (fun z => z q3)]
            rw [lst_y (isS_y q1 q2 q3)] at ih
            exact ih
          · rw [if_neg (fun z => z q1), if_neg (fun z => z q2), if_pos q3]
            rw [lst_n (isS_n (Or.inr (Or.inr q3)))] at ih
            exact ih
        · rw [if_neg (fun z => z q1), if_pos q2]
          rw [lst_n (isS_n (Or.inr (Or.inl q2)))] at ih
          exact ih
      · rw [if_pos q1]
        rw [lst_n (isS_n (Or.inl q1))] at ih
        exact ih
  unfold F_X6_symbolOf
  exact key (x - 2) 0 N (by omega) (by omega)
theorem a_bfl {L : Nat} (hL : L < 2 ^ 30) : F_X5_blocksForLength (nI L) = some (nI (nbk L)) := by
  unfold F_X5_blocksForLength nbk
  rw [nI_add, pk_sub (by omega), pk_div (by omega) (by omega) (by omega), show L + 24 - 1 = L + 23 by omega]
  by_cases h : 4 < (L + 23) / 24
  · rw [if_pos (nlt (by omega) (by omega) h), if_pos h]
  · rw [if_neg (nnlt (by omega) (by omega) (by omega)), if_neg h]
theorem a_len (h : CW s n c l) {j : Nat} (hj : j < n) : F_X5_lengthOfRow s (nI j) = some (nI (c (32 * j + 3))) := by
  unfold F_X5_lengthOfRow
  simp (disch := omega) only [c_lt, c_ge, c_gt, c_le, c_eq, c_ne, c_lt0, c_ge0, c_le0, c_gt0, c_eq0, c_ne0, c_eqm, c_nem, c_m0, c_meq, c_mne, c_mlt, nI_add, pk_mul, Bool.cond_decide, cond_true, cond_false, ldA_n, stA_n, cpA_n, bnd_s, bindP_s, Option.bind_some, gN_sI, gN_sA, gI_sA, gA_sI, gI_eq, gA_eq, gI_ne, gA_ne, sA_sA, sI_sI, if_pos, if_neg, ite_true, ite_false, eq_self, not_true_eq_false, not_false_eq_true, Nat.add_zero, NF_ap, a_cell h]
theorem a_bor (h : CW s n c l) {j : Nat} (hj : j < n) : F_X5_blocksOfRow s (nI j) = some (nI (nbk (c (32 * j + 3)))) := by
  have := h.2.2.2.2.2.1 (32 * j + 3)
  unfold F_X5_blocksOfRow
  simp (disch := omega) only [c_lt, c_ge, c_gt, c_le, c_eq, c_ne, c_lt0, c_ge0, c_le0, c_gt0, c_eq0, c_ne0, c_eqm, c_nem, c_m0, c_meq, c_mne, c_mlt, nI_add, pk_mul, Bool.cond_decide, cond_true, cond_false, ldA_n, stA_n, cpA_n, bnd_s, bindP_s, Option.bind_some, gN_sI, gN_sA, gI_sA, gA_sI, gI_eq, gA_eq, gI_ne, gA_ne, sA_sA, sI_sI, if_pos, if_neg, ite_true, ite_false, eq_self, not_true_eq_false, not_false_eq_true, Nat.add_zero, NF_ap, a_len h, a_bfl]
theorem b_len (h : CW s n c l) {j : Nat} (hj : j < n) : F_X6_sizeAt s (nI j) = some (nI (c (32 * j + 3))) := by
  have h2 := h.2.1
  have h4 := h.2.2.2.1
  unfold F_X6_sizeAt
  simp (disch := omega) only [c_lt, c_ge, c_gt, c_le, c_eq, c_ne, c_lt0, c_ge0, c_le0, c_gt0, c_eq0, c_ne0, c_eqm, c_nem, c_m0, c_meq, c_mne, c_mlt, nI_add, pk_mul, Bool.cond_decide, cond_true, cond_false, ldA_n, stA_n, cpA_n, bnd_s, bindP_s, Option.bind_some, gN_sI, gN_sA, gI_sA, gA_sI, gI_eq, gA_eq, gI_ne, gA_ne, sA_sA, sI_sI, if_pos, if_neg, ite_true, ite_false, eq_self, not_true_eq_false, not_false_eq_true, Nat.add_zero, NF_ap, h4]
theorem b_bat (h : CW s n c l) {j : Nat} (hj : j < n) : F_X6_blocksAt s (nI j) = some (nI ((c (32 * j + 3) + 23) / 24)) := by
  have := h.2.2.2.2.2.1 (32 * j + 3)
  unfold F_X6_blocksAt
  rw [b_len h hj, Option.bind_some, nI_add, pk_sub (by omega), pk_div (by omega) (by omega) (by omega), show c (32 * j + 3) + 24 - 1 = c (32 * j + 3) + 23 by omega]
theorem b_blk (h : CW s n c l) {j k : Nat} (hj : j < n) (hk : k < 28) : F_X6_blockAt s (nI j) (nI k) = some (nI (c (32 * j + (4 + k)))) := by
  have h2 := h.2.1
  have h4 := h.2.2.2.1
  unfold F_X6_blockAt
  simp (disch := omega) only [c_lt, c_ge, c_gt, c_le, c_eq, c_ne, c_lt0, c_ge0, c_le0, c_gt0, c_eq0, c_ne0, c_eqm, c_nem, c_m0, c_meq, c_mne, c_mlt, nI_add, pk_mul, Bool.cond_decide, cond_true, cond_false, ldA_n, stA_n, cpA_n, bnd_s, bindP_s, Option.bind_some, gN_sI, gN_sA, gI_sA, gA_sI, gI_eq, gA_eq, gI_ne, gA_ne, sA_sA, sI_sI, if_pos, if_neg, ite_true, ite_false, eq_self, not_true_eq_false, not_false_eq_true, Nat.add_zero, NF_ap, h4]
  rw [Nat.add_assoc]
theorem a_cm (h : CV s n c l x) (hN : 100 ≤ N) {j : Nat} (hj : j < n) : F_X5_countMissing N s (nI j) = some (nI (cm c l x j (nbk (c (32 * j + 3))))) := by
  have hb := h.n60
  have hk := nbk_le (c (32 * j + 3))
  unfold F_X5_countMissing
  rw [a_bor h.w hj, Option.bind_some]
  have key : ∀ m k f, k + m = nbk (c (32 * j + 3)) → m < f → F_X5_countMissing_11 N f s (nI j) (nI (cm c l x j k)) (nI (nbk (c (32 * j + 3)))) (nI k) = some (nI (cm c l x j (nbk (c (32 * j + 3))))) := by
    intro m
    induction m with
    | zero =>
      intro k f e1 e2
      obtain ⟨f, rfl⟩ : ∃ q, f = q + 1 := ⟨f - 1, by omega⟩
      rw [F_X5_countMissing_11.eq_2]
      simp (disch := omega) only [c_lt, c_ge, c_gt, c_le, c_eq, c_ne, c_lt0, c_ge0, c_le0, c_gt0, c_eq0, c_ne0, c_eqm, c_nem, c_m0, c_meq, c_mne, c_mlt, nI_add, pk_mul, Bool.cond_decide, cond_true, cond_false, ldA_n, stA_n, cpA_n, bnd_s, bindP_s, Option.bind_some, gN_sI, gN_sA, gI_sA, gA_sI, gI_eq, gA_eq, gI_ne, gA_ne, sA_sA, sI_sI, if_pos, if_neg, ite_true, ite_false, eq_self, not_true_eq_false, not_false_eq_true, Nat.add_zero, NF_ap]
      rw [show k = nbk (c (32 * j + 3)) by omega]
    | succ m ih =>
      intro k f e1 e2
      obtain ⟨f, rfl⟩ : ∃ q, f = q + 1 := ⟨f - 1, by omega⟩
      have w2 := h.b (32 * j + (4 + k))
      have ih := ih (k + 1) f (by omega) (by omega)
      rw [F_X5_countMissing_11.eq_2]
      cases hq : bk c l x (c (32 * j + (4 + k))) with
      | true =>
        rw [cm_y hq] at ih
        simp (disch := omega) only [c_lt, c_ge, c_gt, c_le, c_eq, c_ne, c_lt0, c_ge0, c_le0, c_gt0, c_eq0, c_ne0, c_eqm, c_nem, c_m0, c_meq, c_mne, c_mlt, nI_add, pk_mul, Bool.cond_decide, cond_true, cond_false, ldA_n, stA_n, cpA_n, bnd_s, bindP_s, Option.bind_some, gN_sI, gN_sA, gI_sA, gA_sI, gI_eq, gA_eq, gI_ne, gA_ne, sA_sA, sI_sI, if_pos, if_neg, ite_true, ite_false, eq_self, not_true_eq_false, not_false_eq_true, Nat.add_zero, NF_ap, a_content h.w, a_isBlock h, hq, Bool.toNat_true]
        exact ih
      | false =>
        rw [cm_n hq] at ih
        simp (disch := omega) only [c_lt, c_ge, c_gt, c_le, c_eq, c_ne, c_lt0, c_ge0, c_le0, c_gt0, c_eq0, c_ne0, c_eqm, c_nem, c_m0, c_meq, c_mne, c_mlt, nI_add, pk_mul, Bool.cond_decide, cond_true, cond_false, ldA_n, stA_n, cpA_n, bnd_s, bindP_s, Option.bind_some, gN_sI, gN_sA, gI_sA, gA_sI, gI_eq, gA_eq, gI_ne, gA_ne, sA_sA, sI_sI, if_pos, if_neg, ite_true, ite_false, eq_self, not_true_eq_false, not_false_eq_true, Nat.add_zero, NF_ap, a_content h.w, a_isBlock h, hq, Bool.toNat_false]
        exact ih
  exact key (nbk (c (32 * j + 3))) 0 N (by omega) (by omega)
theorem b_cm (h : MV s n c l x) (hN : 100 ≤ N) {j : Nat} (hj : j < n) (h96 : c (32 * j + 3) ≤ 96) : F_X6_missingAt N s (nI j) = some (nI (cm c l x j (nbk (c (32 * j + 3))))) := by
  have hb := h.n60
  have hk := nbk_le (c (32 * j + 3))
  have hbat := b_bat h.1 hj
  rw [← nbk_96 h96] at hbat
  unfold F_X6_missingAt
  have key : ∀ m k f, k + m = nbk (c (32 * j + 3)) → m < f → F_X6_missingAt_4 N f s (nI j) (nI (cm c l x j k)) (nI k) = some (nI (cm c l x j (nbk (c (32 * j + 3))))) := by
    intro m
    induction m with
    | zero =>
      intro k f e1 e2
      obtain ⟨f, rfl⟩ : ∃ q, f = q + 1 := ⟨f - 1, by omega⟩
      rw [F_X6_missingAt_4.eq_2, hbat]
      simp (disch := omega) only [c_lt, c_ge, c_gt, c_le, c_eq, c_ne, c_lt0, c_ge0, c_le0, c_gt0, c_eq0, c_ne0, c_eqm, c_nem, c_m0, c_meq, c_mne, c_mlt, nI_add, pk_mul, Bool.cond_decide, cond_true, cond_false, ldA_n, stA_n, cpA_n, bnd_s, bindP_s, Option.bind_some, gN_sI, gN_sA, gI_sA, gA_sI, gI_eq, gA_eq, gI_ne, gA_ne, sA_sA, sI_sI, if_pos, if_neg, ite_true, ite_false, eq_self, not_true_eq_false, not_false_eq_true, Nat.add_zero, NF_ap]
      rw [show k = nbk (c (32 * j + 3)) by omega]
    | succ m ih =>
      intro k f e1 e2
      obtain ⟨f, rfl⟩ : ∃ q, f = q + 1 := ⟨f - 1, by omega⟩
      have w2 := h.1.2.2.2.2.2.1 (32 * j + (4 + k))
      have ih := ih (k + 1) f (by omega) (by omega)
      rw [F_X6_missingAt_4.eq_2, hbat]
      cases hq : bk c l x (c (32 * j + (4 + k))) with
      | true =>
        rw [cm_y hq] at ih
        simp (disch := omega) only [c_lt, c_ge, c_gt, c_le, c_eq, c_ne, c_lt0, c_ge0, c_le0, c_gt0, c_eq0, c_ne0, c_eqm, c_nem, c_m0, c_meq, c_mne, c_mlt, nI_add, pk_mul, Bool.cond_decide, cond_true, cond_false, ldA_n, stA_n, cpA_n, bnd_s, bindP_s, Option.bind_some, gN_sI, gN_sA, gI_sA, gA_sI, gI_eq, gA_eq, gI_ne, gA_ne, sA_sA, sI_sI, if_pos, if_neg, ite_true, ite_false, eq_self, not_true_eq_false, not_false_eq_true, Nat.add_zero, NF_ap, b_blk h.1, b_isBlock h, hq, Bool.toNat_true]
        exact ih
      | false =>
        rw [cm_n hq] at ih
        simp (disch := omega) only [c_lt, c_ge, c_gt, c_le, c_eq, c_ne, c_lt0, c_ge0, c_le0, c_gt0, c_eq0, c_ne0, c_eqm, c_nem, c_m0, c_meq, c_mne, c_mlt, nI_add, pk_mul, Bool.cond_decide, cond_true, cond_false, ldA_n, stA_n, cpA_n, bnd_s, bindP_s, Option.bind_some, gN_sI, gN_sA, gI_sA, gA_sI, gI_eq, gA_eq, gI_ne, gA_ne, sA_sA, sI_sI, if_pos, if_neg, ite_true, ite_false, eq_self, not_true_eq_false, not_false_eq_true, Nat.add_zero, NF_ap, b_blk h.1, b_isBlock h, hq, Bool.toNat_false]
        exact ih
  exact key (nbk (c (32 * j + 3))) 0 N (by omega) (by omega)
end LK
