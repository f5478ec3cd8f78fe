/-! start: what a row misses -/
def FD (d d' : St) : Prop := gN d' = gN d ∧ (∀ q, q ≠ 9 → q ≠ 10 → gI d' q = gI d q) ∧ (∀ q, q < 7 → gA d' q = gA d q)
def FM (m m' : St) : Prop := gN m' = gN m ∧ (∀ q, q ≠ 10 → gI m' q = gI m q) ∧ (∀ q, q < 8 → gA m' q = gA m q)
theorem FD.r (d : St) : FD d d := ⟨rfl, fun _ _ _ => rfl, fun _ _ => rfl⟩
theorem FM.r (m : St) : FM m m := ⟨rfl, fun _ _ => rfl, fun _ _ => rfl⟩
theorem FD.t {d d' e : St} (h : FD d d') (h' : FD d' e) : FD d e := ⟨h'.1.trans h.1, fun q a b => (h'.2.1 q a b).trans (h.2.1 q a b), fun q a => (h'.2.2 q a).trans (h.2.2 q a)⟩
theorem FM.t {d d' e : St} (h : FM d d') (h' : FM d' e) : FM d e := ⟨h'.1.trans h.1, fun q a => (h'.2.1 q a).trans (h.2.1 q a), fun q a => (h'.2.2 q a).trans (h.2.2 q a)⟩
theorem FD.cv {d d' : St} {n x : Nat} {c l : Nat → Nat} (h : FD d d') (hc : CV d n c l x) : CV d' n c l x := by
  unfold CV at *
  rw [h.1, h.2.2 0 (by decide), h.2.2 1 (by decide), h.2.2 2 (by decide), h.2.1 1 (by decide) (by decide)]
  exact hc
theorem FM.mv {m m' : St} {n x : Nat} {c l : Nat → Nat} (h : FM m m') (hm : MV m n c l x) : MV m' n c l x := by
  unfold MV CW at *
  rw [h.1, h.2.2 0 (by decide), h.2.2 1 (by decide), h.2.1 2 (by decide)]
  exact hm
/-- the unknowns of a row, alike on both sides -/
def GI (d m : St) (c l : Nat → Nat) (x s : Nat) (un P Q : Nat → Nat) : Prop := gI d 9 = nI s ∧ gI m 10 = nI s ∧ s ≤ 4 ∧ (∀ g, g < s → gA d 7 g = nI (un g) ∧ gA m 8 g = nI (un g) ∧ 2 ≤ un g ∧ un g < x ∧ so c l (un g) ≠ 2) ∧ (∀ g, g < 4 → gA d 8 g = nI (P g) ∧ gA d 9 g = nI (Q g)) ∧ (∀ g, g < s → gA m 9 g = nI (P g) ∧ gA m 10 g = nI (Q g)) ∧ (∀ g, P g ≤ 1 ∧ Q g < 16) ∧ (∀ g, s ≤ g → P g = 0 ∧ Q g = 0) ∧ (∀ g g', g < s → g' < s → un g = un g' → g = g')
theorem p2k {k : Nat} (h : k < 4) : 2 ^ k < 16 ∧ tw (2 ^ k) = 2 ^ (k + 1) := by
  have : k = 0 ∨ k = 1 ∨ k = 2 ∨ k = 3 := by omega
  rcases this with rfl | rfl | rfl | rfl <;> decide
theorem b_w1 {k : Nat} (h : k < 4) : F_X6_weight (nI 1) (nI k) = some (nI (2 ^ k)) := by
  rw [b_wt (by decide) h, if_pos rfl]
section GA
variable {d m : St} {n x N : Nat} {c l : Nat → Nat}
/-- the reference alone -/
theorem m_note (hN : 100 ≤ N) {s k : Nat} (hs : gI m 10 = nI s) (hk : k < 4) (hsk : s ≤ k) (b : Int32) : ∃ m' s', (∀ (K : St → Int32 → Int32 → Int32 → Option (Int32 × St)) (x1 x2 : Int32), F_X6_findUnknown_60 N K N m x1 x2 (nI k) b (nI 0) = K m' x1 x2 (nI (k + 1))) ∧ gI m' 10 = nI s' ∧ s' ≤ s + 1 ∧ FM m m' := by
  have ex : ∀ g, g < 4 → ∃ m', m' = sA (sA m 9 (upd (gA m 9) g (gA m 9 g ^^^ nI 1))) 10 (upd (gA m 10) g (gA m 10 g ^^^ nI (2 ^ k))) ∧ FM m m' ∧ gI m' 10 = nI s := by
    intro g hg
    refine ⟨_, rfl, ⟨rfl, fun _ _ => rfl, fun q hq => ?_⟩, hs⟩
    simp (disch := omega) only [c_lt, c_ge, c_gt, c_le, c_eq, c_ne, c_lt0, c_ge0, c_le0, c_gt0, c_eq0, c_ne0, c_eqm, c_nem, c_m0, c_meq, c_mne, c_mlt, nI_add, pk_mul, Bool.cond_decide, cond_true, cond_false, ldA_n, stA_n, cpA_n, bnd_s, bindP_s, Option.bind_some, gN_sI, gN_sA, gI_sA, gA_sI, gI_eq, gA_eq, gI_ne, gA_ne, sA_sA, sI_sI, if_pos, if_neg, ite_true, ite_false, eq_self, not_true_eq_false, not_false_eq_true, Nat.add_zero, NF_ap]
  obtain ⟨mn, hmn⟩ : ∃ q, q = sI (sA (sA (sA m 8 (upd (gA m 8) s b)) 9 (upd (upd (gA m 9) s (nI 0)) s (nI 0 ^^^ nI 1))) 10 (upd (upd (gA m 10) s (nI 0)) s (nI 0 ^^^ nI (2 ^ k)))) 10 (nI (s + 1)) := ⟨_, rfl⟩
  have key : ∀ a g, g + a = s → (∃ m' s', (∀ f, a < f → ∀ (K : St → Int32 → Int32 → Int32 → Option (Int32 × St)) (x1 x2 : Int32), F_X6_findUnknown_60 N K f m x1 x2 (nI k) b (nI g) = K m' x1 x2 (nI (k + 1))) ∧ gI m' 10 = nI s' ∧ s' ≤ s + 1 ∧ FM m m') := by
    intro a
    induction a with
    | zero =>
      intro g e1
      obtain rfl : g = s := by omega
      refine ⟨mn, g + 1, ?_, ?_, by omega, ?_⟩
      · intro f hf K x1 x2
        obtain ⟨f, rfl⟩ : ∃ q, f = q + 1 := ⟨f - 1, by omega⟩
        rw [F_X6_findUnknown_60.eq_2, hs, b_w1 hk]
        simp (disch := omega) only [c_lt, c_ge, c_gt, c_le, c_eq, c_ne, c_lt0, c_ge0, c_le0, c_gt0, c_eq0, c_ne0, c_eqm, c_nem, c_m0, c_meq, c_mne, c_mlt, nI_add, pk_mul, Bool.cond_decide, cond_true, cond_false, ldA_n, stA_n, cpA_n, bnd_s, bindP_s, Option.bind_some, gN_sI, gN_sA, gI_sA, gA_sI, gI_eq, gA_eq, gI_ne, gA_ne, sA_sA, sI_sI, if_pos, if_neg, ite_true, ite_false, eq_self, not_true_eq_false, not_false_eq_true, Nat.add_zero, NF_ap, hs, pk_us]
        rw [hmn]
        refine congrArg (fun q => K q x1 x2 (nI (k + 1))) ?_
        simp (disch := omega) only [c_lt, c_ge, c_gt, c_le, c_eq, c_ne, c_lt0, c_ge0, c_le0, c_gt0, c_eq0, c_ne0, c_eqm, c_nem, c_m0, c_meq, c_mne, c_mlt, nI_add, pk_mul, Bool.cond_decide, cond_true, cond_false, ldA_n, stA_n, cpA_n, bnd_s, bindP_s, Option.bind_some, gN_sI, gN_sA, gI_sA, gA_sI, gI_eq, gA_eq, gI_ne, gA_ne, sA_sA, sI_sI, if_pos, if_neg, ite_true, ite_false, eq_self, not_true_eq_false, not_false_eq_true, Nat.add_zero, NF_ap, sIA_cm]
        rw [sA_cm (j := 10) (k := 9) (by decide)]
        simp (disch := omega) only [c_lt, c_ge, c_gt, c_le, c_eq, c_ne, c_lt0, c_ge0, c_le0, c_gt0, c_eq0, c_ne0, c_eqm, c_nem, c_m0, c_meq, c_mne, c_mlt, nI_add, pk_mul, Bool.cond_decide, cond_true, cond_false, ldA_n, stA_n, cpA_n, bnd_s, bindP_s, Option.bind_some, gN_sI, gN_sA, gI_sA, gA_sI, gI_eq, gA_eq, gI_ne, gA_ne, sA_sA, sI_sI, if_pos, if_neg, ite_true, ite_false, eq_self, not_true_eq_false, not_false_eq_true, Nat.add_zero, NF_ap]
      · rw [hmn]; exact gI_eq
      · rw [hmn]
        refine ⟨rfl, fun q hq => ?_, fun q hq => ?_⟩
        · rw [gI_ne hq]; rfl
        · rw [gA_sI]; simp (disch := omega) only [c_lt, c_ge, c_gt, c_le, c_eq, c_ne, c_lt0, c_ge0, c_le0, c_gt0, c_eq0, c_ne0, c_eqm, c_nem, c_m0, c_meq, c_mne, c_mlt, nI_add, pk_mul, Bool.cond_decide, cond_true, cond_false, ldA_n, stA_n, cpA_n, bnd_s, bindP_s, Option.bind_some, gN_sI, gN_sA, gI_sA, gA_sI, gI_eq, gA_eq, gI_ne, gA_ne, sA_sA, sI_sI, if_pos, if_neg, ite_true, ite_false, eq_self, not_true_eq_false, not_false_eq_true, Nat.add_zero, NF_ap]
    | succ a ih =>
      intro g e1
      cases hq : mx_cnd .eq (gA m 8 g) b with
      | true =>
        obtain ⟨m', em, fm, i10⟩ := ex g (by omega)
        refine ⟨m', s, ?_, i10, by omega, fm⟩
        intro f hf K x1 x2
        obtain ⟨f, rfl⟩ : ∃ q, f = q + 1 := ⟨f - 1, by omega⟩
        rw [F_X6_findUnknown_60.eq_2, hs, b_w1 hk]
        simp (disch := omega) only [c_lt, c_ge, c_gt, c_le, c_eq, c_ne, c_lt0, c_ge0, c_le0, c_gt0, c_eq0, c_ne0, c_eqm, c_nem, c_m0, c_meq, c_mne, c_mlt, nI_add, pk_mul, Bool.cond_decide, cond_true, cond_false, ldA_n, stA_n, cpA_n, bnd_s, bindP_s, Option.bind_some, gN_sI, gN_sA, gI_sA, gA_sI, gI_eq, gA_eq, gI_ne, gA_ne, sA_sA, sI_sI, if_pos, if_neg, ite_true, ite_false, eq_self, not_true_eq_false, not_false_eq_true, Nat.add_zero, NF_ap, hq]
        rw [em]
      | false =>
        obtain ⟨m', s', k1, k2, k3, k4⟩ := ih (g + 1) (by omega)
        refine ⟨m', s', ?_, k2, k3, k4⟩
        intro f hf K x1 x2
        obtain ⟨f, rfl⟩ : ∃ q, f = q + 1 := ⟨f - 1, by omega⟩
        rw [F_X6_findUnknown_60.eq_2, hs]
        rw [c_ge (by omega) (by omega), decide_eq_false (by omega), cond_false, ldA_n (by omega) (by decide), hq, cond_false, nI_add]
        exact k1 f (by omega) K x1 x2
  obtain ⟨m', s', k1, k2, k3, k4⟩ := key s 0 (by omega)
  exact ⟨m', s', fun K x1 x2 => k1 N (by omega) K x1 x2, k2, k3, k4⟩
end GA
