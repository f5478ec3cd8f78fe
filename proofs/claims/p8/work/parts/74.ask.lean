/-! the calls that ask, and poke -/
theorem nI_xor {a b : Nat} (ha : a < 2 ^ 31) (hb : b < 2 ^ 31) : nI a ^^^ nI b = nI (a ^^^ b) := by
  have hx : a ^^^ b < 2 ^ 31 := Nat.xor_lt_two_pow ha hb
  apply Int32.toBitVec_inj.mp
  apply BitVec.eq_of_toNat_eq
  rw [Int32.toBitVec_xor, BitVec.toNat_xor, pk_tn (by omega), pk_tn (by omega), pk_tn (by omega)]
theorem xor_b {a b : Nat} (ha : a < 256) (hb : b < 256) : a ^^^ b < 256 := Nat.xor_lt_two_pow (n := 8) ha hb
theorem c_gtm {a : Nat} (ha : a < 2 ^ 31) : mx_cnd .gt (nI a) (-nI 1) = true := by
  refine decide_eq_true ?_
  rw [Int32.lt_iff_toInt_lt, nI_toInt ha, show (-nI 1 : Int32).toInt = -1 from by decide]
  omega
theorem lst_R {c l : Nat → Nat} {r k j : Nat} (h : lst (isR c l r) k = some j) : 2 ≤ j ∧ j < k + 2 ∧ so c l j = 3 ∧ c (32 * j + 3) ≤ 96 := by
  obtain ⟨h1, h2, h3⟩ := lst_some h
  have := of_decide_eq_true h3
  exact ⟨h1, h2, this.1, this.2.2⟩
theorem ex_if {α : Type} {A B : Option α} {q : Prop} [Decidable q] (h1 : ∃ v, A = some v) (h2 : ∃ v, B = some v) : ∃ v, (if q then A else B) = some v := by
  by_cases h : q
  · rw [if_pos h]; exact h1
  · rw [if_neg h]; exact h2
theorem ex_if2 {α β : Type} {t : β} {A B : Option (α × β)} {q : Prop} [Decidable q] (h1 : ∃ v, A = some (v, t)) (h2 : ∃ v, B = some (v, t)) : ∃ v, (if q then A else B) = some (v, t) := by
  by_cases h : q
  · rw [if_pos h]; exact h1
  · rw [if_neg h]; exact h2
section AS
variable {d m : St} {n x p N : Nat} {c l : Nat → Nat}
theorem CV_cell (h : CV d n c l x) {j : Nat} {c' : Nat → Nat} (hc : ∀ q, ¬ (32 * j ≤ q ∧ q < 32 * j + 32) → c' q = c q) (hb : ∀ i, c' i < 256) : CV (sA (sA d 0 (NF c')) 2 (upd (gA d 2) j (nI (so c' l j)))) n c' l x := by
  obtain ⟨h1, h2, h3, h4, h5, h6, h7, h8, h9, h10, h11⟩ := h
  unfold CV
  simp (disch := omega) only [c_lt, c_ge, c_gt, c_le, c_eq, c_ne, c_lt0, c_ge0, c_le0, c_gt0, c_eq0, c_ne0, c_eqm, c_nem, c_m0, c_meq, c_mne, c_mlt, nI_add, pk_mul, Bool.cond_decide, cond_true, cond_false, ldA_n, stA_n, cpA_n, bnd_s, bindP_s, Option.bind_some, gN_sI, gN_sA, gI_sA, gA_sI, gI_eq, gA_eq, gI_ne, gA_ne, sA_sA, sI_sI, if_pos, if_neg, ite_true, ite_false, eq_self, not_true_eq_false, not_false_eq_true, Nat.add_zero, NF_ap]
  refine ⟨h1, h2, h3, trivial, h5, ?_, h7, h8, h9, hb, h11⟩
  intro k hk
  by_cases q : k = j
  · subst q; exact pk_us
  · rw [pk_un q, h6 k hk]
    exact congrArg nI (so_cg (fun i hi => (hc _ (by omega)).symm) rfl)
theorem u_poke (h : Rel d m n c l x p) (hN : 100 ≤ N) (y z u : Int32) : ∃ v d' m', F_X5_poke N d y z u = some (v, d') ∧ F_X6_poke m y z u = some (v, m') ∧ RR n d' m' := by
  have hc := h.1
  have hm := MV_sI h.2.1 (k := 0) (by decide) (nI 0)
  have h2 := hc.n60
  have h4 := hm.1.2.2.2.1
  have h4d := hc.2.2.2.1
  have hn := hc.1
  have bad : ∀ {A : Option (Int32 × St)} {B : Option (Int32 × St)}, A = some (-nI 2, d) → B = some (-nI 2, sI m 0 (nI 0)) → ∃ v d' m', A = some (v, d') ∧ B = some (v, m') ∧ RR n d' m' := fun e1 e2 => ⟨-nI 2, d, _, e1, e2, ⟨c, l, x, p, Rel_0 h _⟩⟩
  unfold F_X5_poke F_X6_poke
  rw [bnd_s]
  rcases sgn y with hy | ⟨a, ha, rfl⟩
  · refine bad ?_ ?_
    · rw [a_hasCellN (Or.inl hy)]; rfl
    · rw [b_isSecN hm.1 hy]; rfl
  rcases sgn z with hz | ⟨b, hb, rfl⟩
  · refine bad ?_ ?_
    · rw [a_hasCellN (Or.inr hz)]; rfl
    · rw [b_isSec hm.1 ha, b_inN hz (by decide)]
      by_cases q1 : a < n
      · simp (disch := omega) only [c_lt, c_ge, c_gt, c_le, c_eq, c_ne, c_lt0, c_ge0, c_le0, c_gt0, c_eq0, c_ne0, c_eqm, c_nem, c_m0, c_meq, c_mne, c_mlt, nI_add, pk_mul, Bool.cond_decide, cond_true, cond_false, ldA_n, stA_n, cpA_n, bnd_s, bindP_s, Option.bind_some, gN_sI, gN_sA, gI_sA, gA_sI, gI_eq, gA_eq, gI_ne, gA_ne, sA_sA, sI_sI, if_pos, if_neg, ite_true, ite_false, eq_self, not_true_eq_false, not_false_eq_true, Nat.add_zero, NF_ap]
      · simp (disch := omega) only [c_lt, c_ge, c_gt, c_le, c_eq, c_ne, c_lt0, c_ge0, c_le0, c_gt0, c_eq0, c_ne0, c_eqm, c_nem, c_m0, c_meq, c_mne, c_mlt, nI_add, pk_mul, Bool.cond_decide, cond_true, cond_false, ldA_n, stA_n, cpA_n, bnd_s, bindP_s, Option.bind_some, gN_sI, gN_sA, gI_sA, gA_sI, gI_eq, gA_eq, gI_ne, gA_ne, sA_sA, sI_sI, if_pos, if_neg, ite_true, ite_false, eq_self, not_true_eq_false, not_false_eq_true, Nat.add_zero, NF_ap]
  rw [a_hasCell hc.w ha hb, b_isSec hm.1 ha, b_in hb (by decide) (by decide)]
  by_cases q1 : a < n
  rotate_left
  · refine bad ?_ ?_
    · simp (disch := omega) only [c_lt, c_ge, c_gt, c_le, c_eq, c_ne, c_lt0, c_ge0, c_le0, c_gt0, c_eq0, c_ne0, c_eqm, c_nem, c_m0, c_meq, c_mne, c_mlt, nI_add, pk_mul, Bool.cond_decide, cond_true, cond_false, ldA_n, stA_n, cpA_n, bnd_s, bindP_s, Option.bind_some, gN_sI, gN_sA, gI_sA, gA_sI, gI_eq, gA_eq, gI_ne, gA_ne, sA_sA, sI_sI, if_pos, if_neg, ite_true, ite_false, eq_self, not_true_eq_false, not_false_eq_true, Nat.add_zero, NF_ap]
    · simp (disch := omega) only [c_lt, c_ge, c_gt, c_le, c_eq, c_ne, c_lt0, c_ge0, c_le0, c_gt0, c_eq0, c_ne0, c_eqm, c_nem, c_m0, c_meq, c_mne, c_mlt, nI_add, pk_mul, Bool.cond_decide, cond_true, cond_false, ldA_n, stA_n, cpA_n, bnd_s, bindP_s, Option.bind_some, gN_sI, gN_sA, gI_sA, gA_sI, gI_eq, gA_eq, gI_ne, gA_ne, sA_sA, sI_sI, if_pos, if_neg, ite_true, ite_false, eq_self, not_true_eq_false, not_false_eq_true, Nat.add_zero, NF_ap]
  by_cases q2 : b < 32
  rotate_left
  · refine bad ?_ ?_
    · simp (disch := omega) only [c_lt, c_ge, c_gt, c_le, c_eq, c_ne, c_lt0, c_ge0, c_le0, c_gt0, c_eq0, c_ne0, c_eqm, c_nem, c_m0, c_meq, c_mne, c_mlt, nI_add, pk_mul, Bool.cond_decide, cond_true, cond_false, ldA_n, stA_n, cpA_n, bnd_s, bindP_s, Option.bind_some, gN_sI, gN_sA, gI_sA, gA_sI, gI_eq, gA_eq, gI_ne, gA_ne, sA_sA, sI_sI, if_pos, if_neg, ite_true, ite_false, eq_self, not_true_eq_false, not_false_eq_true, Nat.add_zero, NF_ap]
    · simp (disch := omega) only [c_lt, c_ge, c_gt, c_le, c_eq, c_ne, c_lt0, c_ge0, c_le0, c_gt0, c_eq0, c_ne0, c_eqm, c_nem, c_m0, c_meq, c_mne, c_mlt, nI_add, pk_mul, Bool.cond_decide, cond_true, cond_false, ldA_n, stA_n, cpA_n, bnd_s, bindP_s, Option.bind_some, gN_sI, gN_sA, gI_sA, gA_sI, gI_eq, gA_eq, gI_ne, gA_ne, sA_sA, sI_sI, if_pos, if_neg, ite_true, ite_false, eq_self, not_true_eq_false, not_false_eq_true, Nat.add_zero, NF_ap]
  rcases sgn u with hu | ⟨e, he, rfl⟩
  · refine bad ?_ ?_
    · simp (disch := omega) only [c_lt, c_ge, c_gt, c_le, c_eq, c_ne, c_lt0, c_ge0, c_le0, c_gt0, c_eq0, c_ne0, c_eqm, c_nem, c_m0, c_meq, c_mne, c_mlt, nI_add, pk_mul, Bool.cond_decide, cond_true, cond_false, ldA_n, stA_n, cpA_n, bnd_s, bindP_s, Option.bind_some, gN_sI, gN_sA, gI_sA, gA_sI, gI_eq, gA_eq, gI_ne, gA_ne, sA_sA, sI_sI, if_pos, if_neg, ite_true, ite_false, eq_self, not_true_eq_false, not_false_eq_true, Nat.add_zero, NF_ap, c_lt0n hu]
    · rw [b_inN hu (by decide)]
      simp (disch := omega) only [c_lt, c_ge, c_gt, c_le, c_eq, c_ne, c_lt0, c_ge0, c_le0, c_gt0, c_eq0, c_ne0, c_eqm, c_nem, c_m0, c_meq, c_mne, c_mlt, nI_add, pk_mul, Bool.cond_decide, cond_true, cond_false, ldA_n, stA_n, cpA_n, bnd_s, bindP_s, Option.bind_some, gN_sI, gN_sA, gI_sA, gA_sI, gI_eq, gA_eq, gI_ne, gA_ne, sA_sA, sI_sI, if_pos, if_neg, ite_true, ite_false, eq_self, not_true_eq_false, not_false_eq_true, Nat.add_zero, NF_ap]
  rw [b_in he (by decide) (by decide)]
  by_cases q3 : e ≤ 255
  rotate_left
  · refine bad ?_ ?_
    · simp (disch := omega) only [c_lt, c_ge, c_gt, c_le, c_eq, c_ne, c_lt0, c_ge0, c_le0, c_gt0, c_eq0, c_ne0, c_eqm, c_nem, c_m0, c_meq, c_mne, c_mlt, nI_add, pk_mul, Bool.cond_decide, cond_true, cond_false, ldA_n, stA_n, cpA_n, bnd_s, bindP_s, Option.bind_some, gN_sI, gN_sA, gI_sA, gA_sI, gI_eq, gA_eq, gI_ne, gA_ne, sA_sA, sI_sI, if_pos, if_neg, ite_true, ite_false, eq_self, not_true_eq_false, not_false_eq_true, Nat.add_zero, NF_ap]
    · simp (disch := omega) only [c_lt, c_ge, c_gt, c_le, c_eq, c_ne, c_lt0, c_ge0, c_le0, c_gt0, c_eq0, c_ne0, c_eqm, c_nem, c_m0, c_meq, c_mne, c_mlt, nI_add, pk_mul, Bool.cond_decide, cond_true, cond_false, ldA_n, stA_n, cpA_n, bnd_s, bindP_s, Option.bind_some, gN_sI, gN_sA, gI_sA, gA_sI, gI_eq, gA_eq, gI_ne, gA_ne, sA_sA, sI_sI, if_pos, if_neg, ite_true, ite_false, eq_self, not_true_eq_false, not_false_eq_true, Nat.add_zero, NF_ap]
  have hcb := hc.b (32 * a + b)
  have hxb := xor_b hcb (show e < 256 by omega)
  obtain ⟨c', hc'⟩ : ∃ c', c' = uN c (32 * a + b) (c (32 * a + b) ^^^ e) := ⟨_, rfl⟩
  have hcb' : ∀ i, c' i < 256 := by
    intro i
    rw [hc']
    unfold uN
    by_cases q : i = 32 * a + b
    · rw [if_pos q]; exact hxb
    · rw [if_neg q]; exact hc.b i
  have hout : ∀ q, ¬ (32 * a ≤ q ∧ q < 32 * a + 32) → c' q = c q := by
    intro q hq
    rw [hc']
    exact if_neg (by omega)
  have hW : CW (sA d 0 (NF c')) n c' l := by
    obtain ⟨g1, g2, g3, g4, g5, g6, g7⟩ := hc.w
    unfold CW
    simp (disch := omega) only [c_lt, c_ge, c_gt, c_le, c_eq, c_ne, c_lt0, c_ge0, c_le0, c_gt0, c_eq0, c_ne0, c_eqm, c_nem, c_m0, c_meq, c_mne, c_mlt, nI_add, pk_mul, Bool.cond_decide, cond_true, cond_false, ldA_n, stA_n, cpA_n, bnd_s, bindP_s, Option.bind_some, gN_sI, gN_sA, gI_sA, gA_sI, gI_eq, gA_eq, gI_ne, gA_ne, sA_sA, sI_sI, if_pos, if_neg, ite_true, ite_false, eq_self, not_true_eq_false, not_false_eq_true, Nat.add_zero, NF_ap]
    exact ⟨g1, g2, g3, trivial, g5, hcb', g7⟩
  have hV := CV_cell hc hout hcb'
  refine ⟨nI (c' (32 * a + b)), sA (sA d 0 (NF c')) 2 (upd (gA d 2) a (nI (so c' l a))), sA (sI m 0 (nI 0)) 0 (NF c'), ?_, ?_, ⟨c', l, x, p, Rel_f h hV ?_ ?_ ?_⟩⟩
  · simp (disch := omega) only [c_lt, c_ge, c_gt, c_le, c_eq, c_ne, c_lt0, c_ge0, c_le0, c_gt0, c_eq0, c_ne0, c_eqm, c_nem, c_m0, c_meq, c_mne, c_mlt, nI_add, pk_mul, Bool.cond_decide, cond_true, cond_false, ldA_n, stA_n, cpA_n, bnd_s, bindP_s, Option.bind_some, gN_sI, gN_sA, gI_sA, gA_sI, gI_eq, gA_eq, gI_ne, gA_ne, sA_sA, sI_sI, if_pos, if_neg, ite_true, ite_false, eq_self, not_true_eq_false, not_false_eq_true, Nat.add_zero, NF_ap]
    unfold F_X4_flip
    rw [a_hasCell hc.w ha hb, hn, h4d, byt_8 (by omega)]
    simp (disch := omega) only [c_lt, c_ge, c_gt, c_le, c_eq, c_ne, c_lt0, c_ge0, c_le0, c_gt0, c_eq0, c_ne0, c_eqm, c_nem, c_m0, c_meq, c_mne, c_mlt, nI_add, pk_mul, Bool.cond_decide, cond_true, cond_false, ldA_n, stA_n, cpA_n, bnd_s, bindP_s, Option.bind_some, gN_sI, gN_sA, gI_sA, gA_sI, gI_eq, gA_eq, gI_ne, gA_ne, sA_sA, sI_sI, if_pos, if_neg, ite_true, ite_false, eq_self, not_true_eq_false, not_false_eq_true, Nat.add_zero, NF_ap]
    rw [Nat.mul_comm a 32, h4d, nI_xor (by omega) (by omega), upd_NF, ← hc', a_judge hW (by omega) q1]
    simp (disch := omega) only [c_lt, c_ge, c_gt, c_le, c_eq, c_ne, c_lt0, c_ge0, c_le0, c_gt0, c_eq0, c_ne0, c_eqm, c_nem, c_m0, c_meq, c_mne, c_mlt, nI_add, pk_mul, Bool.cond_decide, cond_true, cond_false, ldA_n, stA_n, cpA_n, bnd_s, bindP_s, Option.bind_some, gN_sI, gN_sA, gI_sA, gA_sI, gI_eq, gA_eq, gI_ne, gA_ne, sA_sA, sI_sI, if_pos, if_neg, ite_true, ite_false, eq_self, not_true_eq_false, not_false_eq_true, Nat.add_zero, NF_ap]
    rw [a_cell hV.w q1 q2]
    simp (disch := omega) only [c_lt, c_ge, c_gt, c_le, c_eq, c_ne, c_lt0, c_ge0, c_le0, c_gt0, c_eq0, c_ne0, c_eqm, c_nem, c_m0, c_meq, c_mne, c_mlt, nI_add, pk_mul, Bool.cond_decide, cond_true, cond_false, ldA_n, stA_n, cpA_n, bnd_s, bindP_s, Option.bind_some, gN_sI, gN_sA, gI_sA, gA_sI, gI_eq, gA_eq, gI_ne, gA_ne, sA_sA, sI_sI, if_pos, if_neg, ite_true, ite_false, eq_self, not_true_eq_false, not_false_eq_true, Nat.add_zero, NF_ap]
  · simp (disch := omega) only [c_lt, c_ge, c_gt, c_le, c_eq, c_ne, c_lt0, c_ge0, c_le0, c_gt0, c_eq0, c_ne0, c_eqm, c_nem, c_m0, c_meq, c_mne, c_mlt, nI_add, pk_mul, Bool.cond_decide, cond_true, cond_false, ldA_n, stA_n, cpA_n, bnd_s, bindP_s, Option.bind_some, gN_sI, gN_sA, gI_sA, gA_sI, gI_eq, gA_eq, gI_ne, gA_ne, sA_sA, sI_sI, if_pos, if_neg, ite_true, ite_false, eq_self, not_true_eq_false, not_false_eq_true, Nat.add_zero, NF_ap, h4, nI_xor, upd_NF]
    rw [← hc']
  · obtain ⟨⟨g1, g2, g3, g4, g5, g6, g7⟩, g8⟩ := hm
    refine ⟨?_, g8⟩
    unfold CW
    rw [gN_sA, gA_eq, gA_ne (by decide)]
    exact ⟨g1, g2, g3, rfl, g5, hcb', g7⟩
  · unfold sD
    simp (disch := omega) only [c_lt, c_ge, c_gt, c_le, c_eq, c_ne, c_lt0, c_ge0, c_le0, c_gt0, c_eq0, c_ne0, c_eqm, c_nem, c_m0, c_meq, c_mne, c_mlt, nI_add, pk_mul, Bool.cond_decide, cond_true, cond_false, ldA_n, stA_n, cpA_n, bnd_s, bindP_s, Option.bind_some, gN_sI, gN_sA, gI_sA, gA_sI, gI_eq, gA_eq, gI_ne, gA_ne, sA_sA, sI_sI, if_pos, if_neg, ite_true, ite_false, eq_self, not_true_eq_false, not_false_eq_true, Nat.add_zero, NF_ap]
    exact ⟨fun k hk => trivial, trivial, trivial, trivial, trivial⟩
  · refine ⟨fun k h0 _ => ?_, ?_, ?_, ?_, ?_⟩
    · rw [gI_sA]; exact gI_ne h0
    · rw [gA_ne (by decide)]; rfl
    · rw [gA_ne (by decide)]; rfl
    · rw [gA_ne (by decide)]; rfl
    · rw [gA_ne (by decide)]; rfl
theorem u_told (h : Rel d m n c l x p) (hN : 100 ≤ N) (y : Int32) : (∃ v, F_X5_told N d y = some v) ∧ ∃ v, F_X6_told N m y = some (v, sI m 0 (nI 0)) := by
  have hc := h.1
  have hm := MV_sI h.2.1 (k := 0) (by decide) (nI 0)
  have h2 := hc.n60
  have hn := hc.1
  have hl := hc.2.2.2.2.1
  have k1 : ∀ q i f (a : Int32), i + q = n → q < f → ∃ v, F_X4_countLost_4 N f d a (nI i) = some v := by
    intro q
    induction q with
    | zero =>
      intro i f a e1 e2
      obtain ⟨f, rfl⟩ : ∃ q, f = q + 1 := ⟨f - 1, by omega⟩
      rw [F_X4_countLost_4.eq_2, hn]
      simp (disch := omega) only [c_lt, c_ge, c_gt, c_le, c_eq, c_ne, c_lt0, c_ge0, c_le0, c_gt0, c_eq0, c_ne0, c_eqm, c_nem, c_m0, c_meq, c_mne, c_mlt, nI_add, pk_mul, Bool.cond_decide, cond_true, cond_false, ldA_n, stA_n, cpA_n, bnd_s, bindP_s, Option.bind_some, gN_sI, gN_sA, gI_sA, gA_sI, gI_eq, gA_eq, gI_ne, gA_ne, sA_sA, sI_sI, if_pos, if_neg, ite_true, ite_false, eq_self, not_true_eq_false, not_false_eq_true, Nat.add_zero, NF_ap]
      exact ⟨_, rfl⟩
    | succ q ih =>
      intro i f a e1 e2
      obtain ⟨f, rfl⟩ : ∃ q, f = q + 1 := ⟨f - 1, by omega⟩
      rw [F_X4_countLost_4.eq_2, hn]
      have := hc.w.2.2.2.2.2.2 i
      simp (disch := omega) only [c_lt, c_ge, c_gt, c_le, c_eq, c_ne, c_lt0, c_ge0, c_le0, c_gt0, c_eq0, c_ne0, c_eqm, c_nem, c_m0, c_meq, c_mne, c_mlt, nI_add, pk_mul, Bool.cond_decide, cond_true, cond_false, ldA_n, stA_n, cpA_n, bnd_s, bindP_s, Option.bind_some, gN_sI, gN_sA, gI_sA, gA_sI, gI_eq, gA_eq, gI_ne, gA_ne, sA_sA, sI_sI, if_pos, if_neg, ite_true, ite_false, eq_self, not_true_eq_false, not_false_eq_true, Nat.add_zero, NF_ap, hl]
      exact ex_if (ih _ _ _ (by omega) (by omega)) (ih _ _ _ (by omega) (by omega))
  have k2 : ∀ q i f (a : Int32), i + q = n → q < f → ∃ v, F_X6_told_124 N f (sI m 0 (nI 0)) a (nI i) = some (v, sI m 0 (nI 0)) := by
    have hn := hm.1.1
    have hl := hm.1.2.2.2.2.1
    intro q
    induction q with
    | zero =>
      intro i f a e1 e2
      obtain ⟨f, rfl⟩ : ∃ q, f = q + 1 := ⟨f - 1, by omega⟩
      rw [F_X6_told_124.eq_2, hn]
      simp (disch := omega) only [c_lt, c_ge, c_gt, c_le, c_eq, c_ne, c_lt0, c_ge0, c_le0, c_gt0, c_eq0, c_ne0, c_eqm, c_nem, c_m0, c_meq, c_mne, c_mlt, nI_add, pk_mul, Bool.cond_decide, cond_true, cond_false, ldA_n, stA_n, cpA_n, bnd_s, bindP_s, Option.bind_some, gN_sI, gN_sA, gI_sA, gA_sI, gI_eq, gA_eq, gI_ne, gA_ne, sA_sA, sI_sI, if_pos, if_neg, ite_true, ite_false, eq_self, not_true_eq_false, not_false_eq_true, Nat.add_zero, NF_ap]
      exact ⟨_, rfl⟩
    | succ q ih =>
      intro i f a e1 e2
      obtain ⟨f, rfl⟩ : ∃ q, f = q + 1 := ⟨f - 1, by omega⟩
      rw [F_X6_told_124.eq_2, hn, hl]
      have := hm.1.2.2.2.2.2.2 i
      simp (disch := omega) only [c_lt, c_ge, c_gt, c_le, c_eq, c_ne, c_lt0, c_ge0, c_le0, c_gt0, c_eq0, c_ne0, c_eqm, c_nem, c_m0, c_meq, c_mne, c_mlt, nI_add, pk_mul, Bool.cond_decide, cond_true, cond_false, ldA_n, stA_n, cpA_n, bnd_s, bindP_s, Option.bind_some, gN_sI, gN_sA, gI_sA, gA_sI, gI_eq, gA_eq, gI_ne, gA_ne, sA_sA, sI_sI, if_pos, if_neg, ite_true, ite_false, eq_self, not_true_eq_false, not_false_eq_true, Nat.add_zero, NF_ap]
      exact ex_if2 (ih _ _ _ (by omega) (by omega)) (ih _ _ _ (by omega) (by omega))
  constructor
  · obtain ⟨v, hv⟩ := k1 n 0 N (nI 0) (by omega) (by omega)
    unfold F_X5_told F_X4_countLost F_X3_size F_X4_count
    rw [hv]
    simp only [Bool.cond_decide, Option.bind_some, c_eqx]
    repeat' apply ex_if
    all_goals exact ⟨_, rfl⟩
  · obtain ⟨v, hv⟩ := k2 n 0 N (nI 0) (by omega) (by omega)
    unfold F_X6_told
    rw [bnd_s, hv]
    simp only [Bool.cond_decide, c_eqx, c_nex]
    repeat' apply ex_if2
    all_goals exact ⟨_, rfl⟩
theorem a_isRow (h : GG d m p) {r : Nat} (hr : r < 2 ^ 31) : F_X5_isRowNumber d (nI r) = some (nI (if r < p then 1 else 0)) := by
  obtain ⟨h1, h2, h3, -⟩ := h
  unfold F_X5_isRowNumber
  rw [h1]
  by_cases q : r < p
  · simp (disch := omega) only [c_lt, c_ge, c_gt, c_le, c_eq, c_ne, c_lt0, c_ge0, c_le0, c_gt0, c_eq0, c_ne0, c_eqm, c_nem, c_m0, c_meq, c_mne, c_mlt, nI_add, pk_mul, Bool.cond_decide, cond_true, cond_false, ldA_n, stA_n, cpA_n, bnd_s, bindP_s, Option.bind_some, gN_sI, gN_sA, gI_sA, gA_sI, gI_eq, gA_eq, gI_ne, gA_ne, sA_sA, sI_sI, if_pos, if_neg, ite_true, ite_false, eq_self, not_true_eq_false, not_false_eq_true, Nat.add_zero, NF_ap]
  · simp (disch := omega) only [c_lt, c_ge, c_gt, c_le, c_eq, c_ne, c_lt0, c_ge0, c_le0, c_gt0, c_eq0, c_ne0, c_eqm, c_nem, c_m0, c_meq, c_mne, c_mlt, nI_add, pk_mul, Bool.cond_decide, cond_true, cond_false, ldA_n, stA_n, cpA_n, bnd_s, bindP_s, Option.bind_some, gN_sI, gN_sA, gI_sA, gA_sI, gI_eq, gA_eq, gI_ne, gA_ne, sA_sA, sI_sI, if_pos, if_neg, ite_true, ite_false, eq_self, not_true_eq_false, not_false_eq_true, Nat.add_zero, NF_ap]
theorem a_isRowN {y : Int32} (hy : y < 0) : F_X5_isRowNumber d y = some (nI 0) := by
  unfold F_X5_isRowNumber
  rw [c_lt0n hy]
  rfl
theorem b_isRow (h : GG d m p) {r : Nat} (hr : r < 2 ^ 31) : F_X6_isRow m (nI r) = some (nI (if r < p then 1 else 0)) := by
  obtain ⟨h1, h2, h3, -⟩ := h
  unfold F_X6_isRow
  rw [h2]
  by_cases q0 : p = 0
  · subst q0
    rw [show nI 0 - nI 1 = -nI 1 from by decide]
    unfold F_X6_in
    simp (disch := omega) only [c_lt, c_ge, c_gt, c_le, c_eq, c_ne, c_lt0, c_ge0, c_le0, c_gt0, c_eq0, c_ne0, c_eqm, c_nem, c_m0, c_meq, c_mne, c_mlt, nI_add, pk_mul, Bool.cond_decide, cond_true, cond_false, ldA_n, stA_n, cpA_n, bnd_s, bindP_s, Option.bind_some, gN_sI, gN_sA, gI_sA, gA_sI, gI_eq, gA_eq, gI_ne, gA_ne, sA_sA, sI_sI, if_pos, if_neg, ite_true, ite_false, eq_self, not_true_eq_false, not_false_eq_true, Nat.add_zero, NF_ap, c_gtm]
    rw [rz_0]
  · rw [pk_sub (by omega), b_in hr (by omega) (by omega), Option.bind_some, rz_b ite01]
    by_cases q : r < p
    · simp (disch := omega) only [c_lt, c_ge, c_gt, c_le, c_eq, c_ne, c_lt0, c_ge0, c_le0, c_gt0, c_eq0, c_ne0, c_eqm, c_nem, c_m0, c_meq, c_mne, c_mlt, nI_add, pk_mul, Bool.cond_decide, cond_true, cond_false, ldA_n, stA_n, cpA_n, bnd_s, bindP_s, Option.bind_some, gN_sI, gN_sA, gI_sA, gA_sI, gI_eq, gA_eq, gI_ne, gA_ne, sA_sA, sI_sI, if_pos, if_neg, ite_true, ite_false, eq_self, not_true_eq_false, not_false_eq_true, Nat.add_zero, NF_ap]
    · simp (disch := omega) only [c_lt, c_ge, c_gt, c_le, c_eq, c_ne, c_lt0, c_ge0, c_le0, c_gt0, c_eq0, c_ne0, c_eqm, c_nem, c_m0, c_meq, c_mne, c_mlt, nI_add, pk_mul, Bool.cond_decide, cond_true, cond_false, ldA_n, stA_n, cpA_n, bnd_s, bindP_s, Option.bind_some, gN_sI, gN_sA, gI_sA, gA_sI, gI_eq, gA_eq, gI_ne, gA_ne, sA_sA, sI_sI, if_pos, if_neg, ite_true, ite_false, eq_self, not_true_eq_false, not_false_eq_true, Nat.add_zero, NF_ap]
theorem b_isRowN {y : Int32} (hy : y < 0) : F_X6_isRow m y = some (nI 0) := by
  unfold F_X6_isRow
  rw [b_inN hy (by decide), Option.bind_some, rz_0]
theorem GG_0 (h : GG d m p) (v : Int32) : GG d (sI m 0 v) p := GG_f h (sD_r d) (sM_0 m v)
/-- the power, at its two words -/
theorem PW_c (h : PW d m n x p) : (gI d 0 = nI 1 ∧ gI m 1 = nI 1) ∨ (gI d 0 = nI 0 ∧ gI m 1 = nI 0) := by
  rcases h with h | h
  · exact Or.inl ⟨h.1, h.2.1⟩
  · exact Or.inr ⟨h.1, h.2.1⟩
theorem u_listed (h : Rel d m n c l x p) (hN : 100 ≤ N) (y : Int32) : ∃ v, F_X5_listed N d y = some v ∧ F_X6_listed N m y = some (v, sI m 0 (nI 0)) := by
  have h' := Rel_0 h (nI 0)
  obtain ⟨m', hm'⟩ : ∃ q, q = sI m 0 (nI 0) := ⟨_, rfl⟩
  rw [← hm'] at h'
  obtain ⟨hc, hm, hg, hp⟩ := h'
  have h2 := hc.n60
  have hp60 := hg.2.2.1
  have hu1 := hg.1
  have hu2 := hg.2.1
  unfold F_X5_listed F_X6_listed
  rw [bnd_s, ← hm']
  rcases PW_c hp with ⟨o1, o2⟩ | ⟨o1, o2⟩
  rotate_left
  · refine ⟨-nI 1, ?_, ?_⟩
    · rw [o1]
      simp (disch := omega) only [c_lt, c_ge, c_gt, c_le, c_eq, c_ne, c_lt0, c_ge0, c_le0, c_gt0, c_eq0, c_ne0, c_eqm, c_nem, c_m0, c_meq, c_mne, c_mlt, nI_add, pk_mul, Bool.cond_decide, cond_true, cond_false, ldA_n, stA_n, cpA_n, bnd_s, bindP_s, Option.bind_some, gN_sI, gN_sA, gI_sA, gA_sI, gI_eq, gA_eq, gI_ne, gA_ne, sA_sA, sI_sI, if_pos, if_neg, ite_true, ite_false, eq_self, not_true_eq_false, not_false_eq_true, Nat.add_zero, NF_ap]
    · obtain ⟨f, hf⟩ : ∃ q, N = q + 1 := ⟨N - 1, by omega⟩
      have : ∀ f, F_X6_listed_9 N (f + 1) m' y (nI 0) (nI 0) = some (-nI 1, m') := by
        intro f
        rw [F_X6_listed_9.eq_2, hu2, o2]
        simp (disch := omega) only [c_lt, c_ge, c_gt, c_le, c_eq, c_ne, c_lt0, c_ge0, c_le0, c_gt0, c_eq0, c_ne0, c_eqm, c_nem, c_m0, c_meq, c_mne, c_mlt, nI_add, pk_mul, Bool.cond_decide, cond_true, cond_false, ldA_n, stA_n, cpA_n, bnd_s, bindP_s, Option.bind_some, gN_sI, gN_sA, gI_sA, gA_sI, gI_eq, gA_eq, gI_ne, gA_ne, sA_sA, sI_sI, if_pos, if_neg, ite_true, ite_false, eq_self, not_true_eq_false, not_false_eq_true, Nat.add_zero, NF_ap]
        by_cases q : p ≤ 0
        · simp (disch := omega) only [c_lt, c_ge, c_gt, c_le, c_eq, c_ne, c_lt0, c_ge0, c_le0, c_gt0, c_eq0, c_ne0, c_eqm, c_nem, c_m0, c_meq, c_mne, c_mlt, nI_add, pk_mul, Bool.cond_decide, cond_true, cond_false, ldA_n, stA_n, cpA_n, bnd_s, bindP_s, Option.bind_some, gN_sI, gN_sA, gI_sA, gA_sI, gI_eq, gA_eq, gI_ne, gA_ne, sA_sA, sI_sI, if_pos, if_neg, ite_true, ite_false, eq_self, not_true_eq_false, not_false_eq_true, Nat.add_zero, NF_ap]
        · simp (disch := omega) only [c_lt, c_ge, c_gt, c_le, c_eq, c_ne, c_lt0, c_ge0, c_le0, c_gt0, c_eq0, c_ne0, c_eqm, c_nem, c_m0, c_meq, c_mne, c_mlt, nI_add, pk_mul, Bool.cond_decide, cond_true, cond_false, ldA_n, stA_n, cpA_n, bnd_s, bindP_s, Option.bind_some, gN_sI, gN_sA, gI_sA, gA_sI, gI_eq, gA_eq, gI_ne, gA_ne, sA_sA, sI_sI, if_pos, if_neg, ite_true, ite_false, eq_self, not_true_eq_false, not_false_eq_true, Nat.add_zero, NF_ap]
      have := this f
      rw [← hf] at this
      exact this
  have key : ∀ q r f f' k, r + q = p → k ≤ r → q < f → q < f' → ∃ v, F_X5_listed_17 N f d y (nI k) (nI r) = some v ∧ F_X6_listed_9 N f' m' y (nI k) (nI r) = some (v, m') ∧ (y < 0 → v = -nI 1) := by
    intro q
    induction q with
    | zero =>
      intro r f f' k e1 e4 e2 e3
      obtain ⟨f, rfl⟩ : ∃ q, f = q + 1 := ⟨f - 1, by omega⟩
      obtain ⟨f', rfl⟩ : ∃ q, f' = q + 1 := ⟨f' - 1, by omega⟩
      rw [F_X5_listed_17.eq_2, F_X6_listed_9.eq_2, hu1, hu2]
      simp (disch := omega) only [c_lt, c_ge, c_gt, c_le, c_eq, c_ne, c_lt0, c_ge0, c_le0, c_gt0, c_eq0, c_ne0, c_eqm, c_nem, c_m0, c_meq, c_mne, c_mlt, nI_add, pk_mul, Bool.cond_decide, cond_true, cond_false, ldA_n, stA_n, cpA_n, bnd_s, bindP_s, Option.bind_some, gN_sI, gN_sA, gI_sA, gA_sI, gI_eq, gA_eq, gI_ne, gA_ne, sA_sA, sI_sI, if_pos, if_neg, ite_true, ite_false, eq_self, not_true_eq_false, not_false_eq_true, Nat.add_zero, NF_ap]
      exact ⟨-nI 1, rfl, rfl, fun _ => rfl⟩
    | succ q ih =>
      intro r f f' k e1 e4 e2 e3
      obtain ⟨f, rfl⟩ : ∃ q, f = q + 1 := ⟨f - 1, by omega⟩
      obtain ⟨f', rfl⟩ : ∃ q, f' = q + 1 := ⟨f' - 1, by omega⟩
      rw [F_X5_listed_17.eq_2, F_X6_listed_9.eq_2, hu1, hu2, o2]
      unfold F_X5_isHurt
      rw [a_findRow hc hN (by omega), b_secOf hm hN (by omega)]
      have last : ∃ v, (bif mx_cnd .ne (nI k) y then F_X5_listed_17 N f d y (nI (k + 1)) (nI (r + 1)) else some (nI r)) = some v ∧ (bif mx_cnd .ne (nI k) y then F_X6_listed_9 N f' m' y (nI (k + 1)) (nI (r + 1)) else some (nI r, m')) = some (v, m') ∧ (y < 0 → v = -nI 1) := by
        cases hq : mx_cnd .ne (nI k) y with
        | true => exact ih (r + 1) f f' (k + 1) (by omega) (by omega) (by omega) (by omega)
        | false =>
          refine ⟨nI r, rfl, rfl, fun hy => ?_⟩
          have e := Decidable.not_not.mp (of_decide_eq_false hq)
          have h1 := neg_lt hy (b := k) (by omega)
          rw [← e, Int32.lt_iff_toInt_lt] at h1
          omega
      cases hq : lst (isR c l r) (x - 2) with
      | none =>
        show ∃ v, _
        unfold oI
        simp (disch := omega) only [c_lt, c_ge, c_gt, c_le, c_eq, c_ne, c_lt0, c_ge0, c_le0, c_gt0, c_eq0, c_ne0, c_eqm, c_nem, c_m0, c_meq, c_mne, c_mlt, nI_add, pk_mul, Bool.cond_decide, cond_true, cond_false, ldA_n, stA_n, cpA_n, bnd_s, bindP_s, Option.bind_some, gN_sI, gN_sA, gI_sA, gA_sI, gI_eq, gA_eq, gI_ne, gA_ne, sA_sA, sI_sI, if_pos, if_neg, ite_true, ite_false, eq_self, not_true_eq_false, not_false_eq_true, Nat.add_zero, NF_ap]
        exact last
      | some j =>
        obtain ⟨j1, j2, -, j4⟩ := lst_R hq
        unfold oI
        have w1 := cm_le c l x j (nbk (c (32 * j + 3)))
        have w2 := nbk_le (c (32 * j + 3))
        rw [Option.bind_some, Option.bind_some, c_eqm (by omega), a_cm hc hN (by omega), b_cm hm hN (by omega) j4]
        by_cases q5 : cm c l x j (nbk (c (32 * j + 3))) = 0
        · rw [q5]
          simp (disch := omega) only [c_lt, c_ge, c_gt, c_le, c_eq, c_ne, c_lt0, c_ge0, c_le0, c_gt0, c_eq0, c_ne0, c_eqm, c_nem, c_m0, c_meq, c_mne, c_mlt, nI_add, pk_mul, Bool.cond_decide, cond_true, cond_false, ldA_n, stA_n, cpA_n, bnd_s, bindP_s, Option.bind_some, gN_sI, gN_sA, gI_sA, gA_sI, gI_eq, gA_eq, gI_ne, gA_ne, sA_sA, sI_sI, if_pos, if_neg, ite_true, ite_false, eq_self, not_true_eq_false, not_false_eq_true, Nat.add_zero, NF_ap]
          exact ih (r + 1) f f' k (by omega) (by omega) (by omega) (by omega)
        · simp (disch := omega) only [c_lt, c_ge, c_gt, c_le, c_eq, c_ne, c_lt0, c_ge0, c_le0, c_gt0, c_eq0, c_ne0, c_eqm, c_nem, c_m0, c_meq, c_mne, c_mlt, nI_add, pk_mul, Bool.cond_decide, cond_true, cond_false, ldA_n, stA_n, cpA_n, bnd_s, bindP_s, Option.bind_some, gN_sI, gN_sA, gI_sA, gA_sI, gI_eq, gA_eq, gI_ne, gA_ne, sA_sA, sI_sI, if_pos, if_neg, ite_true, ite_false, eq_self, not_true_eq_false, not_false_eq_true, Nat.add_zero, NF_ap]
          exact last
  obtain ⟨v, k1, k2, k3⟩ := key p 0 N N 0 (by omega) (by omega) (by omega) (by omega)
  refine ⟨v, ?_, k2⟩
  rw [o1]
  rcases sgn y with hy | ⟨a, ha, rfl⟩
  · rw [c_ge0n hy, k3 hy]
    simp (disch := omega) only [c_lt, c_ge, c_gt, c_le, c_eq, c_ne, c_lt0, c_ge0, c_le0, c_gt0, c_eq0, c_ne0, c_eqm, c_nem, c_m0, c_meq, c_mne, c_mlt, nI_add, pk_mul, Bool.cond_decide, cond_true, cond_false, ldA_n, stA_n, cpA_n, bnd_s, bindP_s, Option.bind_some, gN_sI, gN_sA, gI_sA, gA_sI, gI_eq, gA_eq, gI_ne, gA_ne, sA_sA, sI_sI, if_pos, if_neg, ite_true, ite_false, eq_self, not_true_eq_false, not_false_eq_true, Nat.add_zero, NF_ap]
  · simp (disch := omega) only [c_lt, c_ge, c_gt, c_le, c_eq, c_ne, c_lt0, c_ge0, c_le0, c_gt0, c_eq0, c_ne0, c_eqm, c_nem, c_m0, c_meq, c_mne, c_mlt, nI_add, pk_mul, Bool.cond_decide, cond_true, cond_false, ldA_n, stA_n, cpA_n, bnd_s, bindP_s, Option.bind_some, gN_sI, gN_sA, gI_sA, gA_sI, gI_eq, gA_eq, gI_ne, gA_ne, sA_sA, sI_sI, if_pos, if_neg, ite_true, ite_false, eq_self, not_true_eq_false, not_false_eq_true, Nat.add_zero, NF_ap]
    exact k1
end AS
