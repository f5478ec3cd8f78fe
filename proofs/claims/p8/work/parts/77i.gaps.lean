/-! start: the unknowns, on both sides -/
section GB
variable {d m : St} {n x N : Nat} {c l : Nat → Nat}
theorem x01 {a : Nat} (h : a ≤ 1) : a ^^^ 1 ≤ 1 := by
  have : a = 0 ∨ a = 1 := by omega
  rcases this with rfl | rfl <;> decide
theorem x16 {a b : Nat} (ha : a < 16) (hb : b < 16) : a ^^^ b < 16 := Nat.xor_lt_two_pow (n := 4) ha hb
theorem u_note (hN : 100 ≤ N) {s k b : Nat} {un P Q : Nat → Nat} (h : GI d m c l x s un P Q) (hk : k < 4) (hsk : s ≤ k) (hb : 2 ≤ b) (hbx : b < x) (hx : x ≤ 60) (hnb : so c l b ≠ 2) : ∃ d' m' s' un' P' Q', F_X2_note N d (nI b) (nI (2 ^ k)) = some d' ∧ (∀ (K : St → Int32 → Int32 → Int32 → Option (Int32 × St)) (x1 x2 : Int32), F_X6_findUnknown_60 N K N m x1 x2 (nI k) (nI b) (nI 0) = K m' x1 x2 (nI (k + 1))) ∧ GI d' m' c l x s' un' P' Q' ∧ s' ≤ s + 1 ∧ 1 ≤ s' ∧ FD d d' ∧ FM m m' := by
  obtain ⟨h1, h2, h3, h4, h5, h6, h7, h8, h9⟩ := h
  have pk := p2k hk
  have key : ∀ a g, g + a = s → (∀ g', g' < g → un g' ≠ b) → ∃ d' m' s' un' P' Q', (∀ f, a < f → F_X2_note_2 N f d (nI b) (nI (2 ^ k)) (nI g) = some d') ∧ (∀ f, a < f → ∀ (K : St → Int32 → Int32 → Int32 → Option (Int32 × St)) (x1 x2 : Int32), F_X6_findUnknown_60 N K f m x1 x2 (nI k) (nI b) (nI g) = K m' x1 x2 (nI (k + 1))) ∧ GI d' m' c l x s' un' P' Q' ∧ s' ≤ s + 1 ∧ 1 ≤ s' ∧ FD d d' ∧ FM m m' := by
    intro a
    induction a with
    | zero =>
      intro g e1 hu
      obtain rfl : g = s := by omega
      have hP := (h8 g (Nat.le_refl g)).1
      have hQ := (h8 g (Nat.le_refl g)).2
      have dP := (h5 g (by omega)).1
      have dQ := (h5 g (by omega)).2
      rw [hP] at dP
      rw [hQ] at dQ
      refine ⟨sI (sA (sA (sA d 7 (upd (gA d 7) g (nI b))) 8 (upd (gA d 8) g (nI 1))) 9 (upd (gA d 9) g (nI (2 ^ k)))) 9 (nI (g + 1)), sI (sA (sA (sA m 8 (upd (gA m 8) g (nI b))) 9 (upd (upd (gA m 9) g (nI 0)) g (nI 1))) 10 (upd (upd (gA m 10) g (nI 0)) g (nI (2 ^ k)))) 10 (nI (g + 1)), g + 1, uN un g b, uN P g 1, uN Q g (2 ^ k), ?_, ?_, ?_, by omega, by omega, ?_, ?_⟩
      · intro f hf
        obtain ⟨f, rfl⟩ : ∃ q, f = q + 1 := ⟨f - 1, by omega⟩
        rw [F_X2_note_2.eq_2, h1]
        unfold F_X2_note_31 F_X2_note_62
        simp (disch := omega) only [c_lt, c_ge, c_gt, c_le, c_eq, c_ne, c_lt0, c_ge0, c_le0, c_gt0, c_eq0, c_ne0, c_eqm, c_nem, c_m0, c_meq, c_mne, c_mlt, nI_add, pk_mul, Bool.cond_decide, cond_true, cond_false, ldA_n, stA_n, cpA_n, bnd_s, bindP_s, Option.bind_some, gN_sI, gN_sA, gI_sA, gA_sI, gI_eq, gA_eq, gI_ne, gA_ne, sA_sA, sI_sI, if_pos, if_neg, ite_true, ite_false, eq_self, not_true_eq_false, not_false_eq_true, Nat.add_zero, NF_ap, h1, dP, dQ]
        rw [nI_xor (by decide) (by decide), nI_xor (by decide) (by omega), Nat.zero_xor, Nat.zero_xor]
        rfl
      · intro f hf K x1 x2
        obtain ⟨f, rfl⟩ : ∃ q, f = q + 1 := ⟨f - 1, by omega⟩
        rw [F_X6_findUnknown_60.eq_2, h2, b_w1 hk]
        simp (disch := omega) only [c_lt, c_ge, c_gt, c_le, c_eq, c_ne, c_lt0, c_ge0, c_le0, c_gt0, c_eq0, c_ne0, c_eqm, c_nem, c_m0, c_meq, c_mne, c_mlt, nI_add, pk_mul, Bool.cond_decide, cond_true, cond_false, ldA_n, stA_n, cpA_n, bnd_s, bindP_s, Option.bind_some, gN_sI, gN_sA, gI_sA, gA_sI, gI_eq, gA_eq, gI_ne, gA_ne, sA_sA, sI_sI, if_pos, if_neg, ite_true, ite_false, eq_self, not_true_eq_false, not_false_eq_true, Nat.add_zero, NF_ap, h2, pk_us]
        refine congrArg (fun q => K q x1 x2 (nI (k + 1))) ?_
        simp (disch := omega) only [c_lt, c_ge, c_gt, c_le, c_eq, c_ne, c_lt0, c_ge0, c_le0, c_gt0, c_eq0, c_ne0, c_eqm, c_nem, c_m0, c_meq, c_mne, c_mlt, nI_add, pk_mul, Bool.cond_decide, cond_true, cond_false, ldA_n, stA_n, cpA_n, bnd_s, bindP_s, Option.bind_some, gN_sI, gN_sA, gI_sA, gA_sI, gI_eq, gA_eq, gI_ne, gA_ne, sA_sA, sI_sI, if_pos, if_neg, ite_true, ite_false, eq_self, not_true_eq_false, not_false_eq_true, Nat.add_zero, NF_ap, sIA_cm]
        rw [sA_cm (j := 10) (k := 9) (by decide)]
        simp (disch := omega) only [c_lt, c_ge, c_gt, c_le, c_eq, c_ne, c_lt0, c_ge0, c_le0, c_gt0, c_eq0, c_ne0, c_eqm, c_nem, c_m0, c_meq, c_mne, c_mlt, nI_add, pk_mul, Bool.cond_decide, cond_true, cond_false, ldA_n, stA_n, cpA_n, bnd_s, bindP_s, Option.bind_some, gN_sI, gN_sA, gI_sA, gA_sI, gI_eq, gA_eq, gI_ne, gA_ne, sA_sA, sI_sI, if_pos, if_neg, ite_true, ite_false, eq_self, not_true_eq_false, not_false_eq_true, Nat.add_zero, NF_ap]
        rw [nI_xor (by decide) (by decide), nI_xor (by decide) (by omega), Nat.zero_xor, Nat.zero_xor]
      · refine ⟨gI_eq, gI_eq, by omega, ?_, ?_, ?_, ?_, ?_, ?_⟩
        · intro g' hg'
          rw [gA_sI, gA_sI, gA_ne (by decide), gA_ne (by decide), gA_eq, gA_ne (by decide), gA_ne (by decide), gA_eq]
          unfold upd uN
          by_cases q : g' = g
          · rw [if_pos q, if_pos q, if_pos q]; exact ⟨rfl, rfl, hb, hbx, hnb⟩
          · rw [if_neg q, if_neg q, if_neg q]; exact h4 g' (by omega)
        · intro g' hg'
          rw [gA_sI, gA_ne (by decide), gA_eq, gA_eq]
          unfold upd uN
          by_cases q : g' = g
          · rw [if_pos q, if_pos q, if_pos q, if_pos q]; exact ⟨rfl, rfl⟩
          · rw [if_neg q, if_neg q, if_neg q, if_neg q]; exact h5 g' hg'
        · intro g' hg'
          rw [gA_sI, gA_ne (by decide), gA_eq, gA_eq]
          unfold upd uN
          by_cases q : g' = g
          · rw [if_pos q, if_pos q, if_pos q, if_pos q]; exact ⟨rfl, rfl⟩
          · rw [if_neg q, if_neg q, if_neg q, if_neg q, if_neg q, if_neg q]; exact h6 g' (by omega)
        · intro g'
          unfold uN
          by_cases q : g' = g
          · rw [if_pos q, if_pos q]; exact ⟨by omega, pk.1⟩
          · rw [if_neg q, if_neg q]; exact h7 g'
        · intro g' hg'
          unfold uN
          rw [if_neg (by omega), if_neg (by omega)]
          exact h8 g' (by omega)
        · intro g1 g2 k1 k2
          unfold uN
          by_cases q1 : g1 = g
          · by_cases q2 : g2 = g
            · intro _; omega
            · rw [if_pos q1, if_neg q2]
              intro e
              exact absurd e.symm (hu g2 (by omega))
          · by_cases q2 : g2 = g
            · rw [if_neg q1, if_pos q2]
              intro e
              exact absurd e (hu g1 (by omega))
            · rw [if_neg q1, if_neg q2]
              exact h9 g1 g2 (by omega) (by omega)
      · refine ⟨rfl, fun q a b => ?_, fun q hq => ?_⟩
        · rw [gI_ne a]; rfl
        · rw [gA_sI]; simp (disch := omega) only [c_lt, c_ge, c_gt, c_le, c_eq, c_ne, c_lt0, c_ge0, c_le0, c_gt0, c_eq0, c_ne0, c_eqm, c_nem, c_m0, c_meq, c_mne, c_mlt, nI_add, pk_mul, Bool.cond_decide, cond_true, cond_false, ldA_n, stA_n, cpA_n, bnd_s, bindP_s, Option.bind_some, gN_sI, gN_sA, gI_sA, gA_sI, gI_eq, gA_eq, gI_ne, gA_ne, sA_sA, sI_sI, if_pos, if_neg, ite_true, ite_false, eq_self, not_true_eq_false, not_false_eq_true, Nat.add_zero, NF_ap]
      · refine ⟨rfl, fun q a => ?_, fun q hq => ?_⟩
        · rw [gI_ne a]; rfl
        · rw [gA_sI]; simp (disch := omega) only [c_lt, c_ge, c_gt, c_le, c_eq, c_ne, c_lt0, c_ge0, c_le0, c_gt0, c_eq0, c_ne0, c_eqm, c_nem, c_m0, c_meq, c_mne, c_mlt, nI_add, pk_mul, Bool.cond_decide, cond_true, cond_false, ldA_n, stA_n, cpA_n, bnd_s, bindP_s, Option.bind_some, gN_sI, gN_sA, gI_sA, gA_sI, gI_eq, gA_eq, gI_ne, gA_ne, sA_sA, sI_sI, if_pos, if_neg, ite_true, ite_false, eq_self, not_true_eq_false, not_false_eq_true, Nat.add_zero, NF_ap]
    | succ a ih =>
      intro g e1 hu
      have ug := h4 g (by omega)
      have w1 := h7 g
      have mP := h6 g (by omega)
      have dP := h5 g (by omega)
      by_cases z : un g = b
      · refine ⟨sA (sA d 8 (upd (gA d 8) g (nI (P g ^^^ 1)))) 9 (upd (gA d 9) g (nI (Q g ^^^ 2 ^ k))), sA (sA m 9 (upd (gA m 9) g (nI (P g ^^^ 1)))) 10 (upd (gA m 10) g (nI (Q g ^^^ 2 ^ k))), s, un, uN P g (P g ^^^ 1), uN Q g (Q g ^^^ 2 ^ k), ?_, ?_, ?_, by omega, by omega, ?_, ?_⟩
        · intro f hf
          obtain ⟨f, rfl⟩ : ∃ q, f = q + 1 := ⟨f - 1, by omega⟩
          rw [F_X2_note_2.eq_2, h1]
          unfold F_X2_note_31 F_X2_note_62
          simp (disch := omega) only [c_lt, c_ge, c_gt, c_le, c_eq, c_ne, c_lt0, c_ge0, c_le0, c_gt0, c_eq0, c_ne0, c_eqm, c_nem, c_m0, c_meq, c_mne, c_mlt, nI_add, pk_mul, Bool.cond_decide, cond_true, cond_false, ldA_n, stA_n, cpA_n, bnd_s, bindP_s, Option.bind_some, gN_sI, gN_sA, gI_sA, gA_sI, gI_eq, gA_eq, gI_ne, gA_ne, sA_sA, sI_sI, if_pos, if_neg, ite_true, ite_false, eq_self, not_true_eq_false, not_false_eq_true, Nat.add_zero, NF_ap, h1, ug.1, dP.1, dP.2]
          rw [nI_xor (by omega) (by decide), nI_xor (by omega) (by omega)]
        · intro f hf K x1 x2
          obtain ⟨f, rfl⟩ : ∃ q, f = q + 1 := ⟨f - 1, by omega⟩
          rw [F_X6_findUnknown_60.eq_2, h2, b_w1 hk]
          simp (disch := omega) only [c_lt, c_ge, c_gt, c_le, c_eq, c_ne, c_lt0, c_ge0, c_le0, c_gt0, c_eq0, c_ne0, c_eqm, c_nem, c_m0, c_meq, c_mne, c_mlt, nI_add, pk_mul, Bool.cond_decide, cond_true, cond_false, ldA_n, stA_n, cpA_n, bnd_s, bindP_s, Option.bind_some, gN_sI, gN_sA, gI_sA, gA_sI, gI_eq, gA_eq, gI_ne, gA_ne, sA_sA, sI_sI, if_pos, if_neg, ite_true, ite_false, eq_self, not_true_eq_false, not_false_eq_true, Nat.add_zero, NF_ap, h2, ug.2.1, mP.1, mP.2]
          rw [nI_xor (by omega) (by decide), nI_xor (by omega) (by omega)]
        · refine ⟨h1, h2, h3, ?_, ?_, ?_, ?_, ?_, h9⟩
          · intro g' hg'
            rw [gA_ne (by decide), gA_ne (by decide), gA_ne (by decide), gA_ne (by decide)]
            exact h4 g' hg'
          · intro g' hg'
            rw [gA_ne (by decide), gA_eq, gA_eq]
            unfold upd uN
            by_cases q : g' = g
            · rw [if_pos q, if_pos q, if_pos q, if_pos q]; exact ⟨rfl, rfl⟩
            · rw [if_neg q, if_neg q, if_neg q, if_neg q]; exact h5 g' hg'
          · intro g' hg'
            rw [gA_ne (by decide), gA_eq, gA_eq]
            unfold upd uN
            by_cases q : g' = g
            · rw [if_pos q, if_pos q, if_pos q, if_pos q]; exact ⟨rfl, rfl⟩
            · rw [if_neg q, if_neg q, if_neg q, if_neg q]; exact h6 g' hg'
          · intro g'
            unfold uN
            by_cases q : g' = g
            · rw [if_pos q, if_pos q]; exact ⟨x01 w1.1, x16 w1.2 pk.1⟩
            · rw [if_neg q, if_neg q]; exact h7 g'
          · intro g' hg'
            unfold uN
            rw [if_neg (by omega), if_neg (by omega)]
            exact h8 g' hg'
        · refine ⟨rfl, fun q a b => rfl, fun q hq => ?_⟩
          simp (disch := omega) only [c_lt, c_ge, c_gt, c_le, c_eq, c_ne, c_lt0, c_ge0, c_le0, c_gt0, c_eq0, c_ne0, c_eqm, c_nem, c_m0, c_meq, c_mne, c_mlt, nI_add, pk_mul, Bool.cond_decide, cond_true, cond_false, ldA_n, stA_n, cpA_n, bnd_s, bindP_s, Option.bind_some, gN_sI, gN_sA, gI_sA, gA_sI, gI_eq, gA_eq, gI_ne, gA_ne, sA_sA, sI_sI, if_pos, if_neg, ite_true, ite_false, eq_self, not_true_eq_false, not_false_eq_true, Nat.add_zero, NF_ap]
        · refine ⟨rfl, fun q a => rfl, fun q hq => ?_⟩
          simp (disch := omega) only [c_lt, c_ge, c_gt, c_le, c_eq, c_ne, c_lt0, c_ge0, c_le0, c_gt0, c_eq0, c_ne0, c_eqm, c_nem, c_m0, c_meq, c_mne, c_mlt, nI_add, pk_mul, Bool.cond_decide, cond_true, cond_false, ldA_n, stA_n, cpA_n, bnd_s, bindP_s, Option.bind_some, gN_sI, gN_sA, gI_sA, gA_sI, gI_eq, gA_eq, gI_ne, gA_ne, sA_sA, sI_sI, if_pos, if_neg, ite_true, ite_false, eq_self, not_true_eq_false, not_false_eq_true, Nat.add_zero, NF_ap]
      · obtain ⟨d', m', s', un', P', Q', k1, k2, k3⟩ := ih (g + 1) (by omega) (fun g' hg' => by
          by_cases q : g' = g
          · rw [q]; exact z
          · exact hu g' (by omega))
        refine ⟨d', m', s', un', P', Q', ?_, ?_, k3⟩
        · intro f hf
          obtain ⟨f, rfl⟩ : ∃ q, f = q + 1 := ⟨f - 1, by omega⟩
          rw [F_X2_note_2.eq_2, h1, c_ge (by omega) (by omega), decide_eq_false (by omega), cond_false, c_ge (by omega) (by decide), decide_eq_false (by omega), cond_false, ldA_n (by omega) (by decide), ug.1, c_eq (by omega) (by omega), decide_eq_false z, cond_false, nI_add]
          exact k1 f (by omega)
        · intro f hf K x1 x2
          obtain ⟨f, rfl⟩ : ∃ q, f = q + 1 := ⟨f - 1, by omega⟩
          rw [F_X6_findUnknown_60.eq_2, h2, c_ge (by omega) (by omega), decide_eq_false (by omega), cond_false, ldA_n (by omega) (by decide), ug.2.1, c_eq (by omega) (by omega), decide_eq_false z, cond_false, nI_add]
          exact k2 f (by omega) K x1 x2
  obtain ⟨d', m', s', un', P', Q', k1, k2, k3⟩ := key s 0 (by omega) (fun g' hg' => by omega)
  exact ⟨d', m', s', un', P', Q', k1 N (by omega), fun K x1 x2 => k2 N (by omega) K x1 x2, k3⟩
/-- the reference goes on where a block is out of the log -/
theorem m_are0 (hN : 100 ≤ N) {j : Nat} (hj : j < n) (h96 : c (32 * j + 3) ≤ 96) : ∀ a k f m s, k + a = nbk (c (32 * j + 3)) → a < f → MV m n c l x → gI m 10 = nI s → s ≤ k → ∃ m', F_X6_findUnknown_9 N f m (nI j) (nI 0) (nI k) = some (nI 0, m') ∧ FM m m' := by
  have hB := nbk_le (c (32 * j + 3))
  intro a
  induction a with
  | zero =>
    intro k f m s e1 e2 hm hs hsk
    obtain ⟨f, rfl⟩ : ∃ q, f = q + 1 := ⟨f - 1, by omega⟩
    have hbat := b_bat hm.1 hj
    rw [← nbk_96 h96] at hbat
    refine ⟨m, ?_, FM.r m⟩
    rw [F_X6_findUnknown_9.eq_2, hbat, Option.bind_some, c_ge (by omega) (by omega), decide_eq_true (by omega), cond_true, rz_0]
  | succ a ih =>
    intro k f m s e1 e2 hm hs hsk
    obtain ⟨f, rfl⟩ : ∃ q, f = q + 1 := ⟨f - 1, by omega⟩
    have hbat := b_bat hm.1 hj
    rw [← nbk_96 h96] at hbat
    have w1 := hm.1.2.2.2.2.2.1 (32 * j + (4 + k))
    rw [F_X6_findUnknown_9.eq_2, hbat, Option.bind_some, c_ge (by omega) (by omega), decide_eq_false (by omega), cond_false, b_blk hm.1 hj (by omega), Option.bind_some, b_isBlock hm (by omega) (by omega), Option.bind_some]
    cases hq : bk c l x (c (32 * j + (4 + k))) with
    | true =>
      rw [Bool.toNat_true, c_eq0 (by decide), show decide (1 = 0) = false from rfl, cond_false, nI_add]
      exact ih (k + 1) f m s (by omega) (by omega) hm hs (by omega)
    | false =>
      rw [Bool.toNat_false, c_eq0 (by decide), show decide (0 = 0) = true from rfl, cond_true, cond_true]
      obtain ⟨m1, s1, k1, k2, k3, k4⟩ := m_note hN hs (show k < 4 by omega) hsk (nI (c (32 * j + (4 + k))))
      rw [k1]
      obtain ⟨m2, y1, y2⟩ := ih (k + 1) f m1 s1 (by omega) (by omega) (k4.mv hm) k2 (by omega)
      exact ⟨m2, y1, k4.t y2⟩
theorem u_col (hN : 100 ≤ N) {j : Nat} (hj : j < n) (h96 : c (32 * j + 3) ≤ 96) : ∀ a k f f' d m s un P Q, k + a = nbk (c (32 * j + 3)) → a < f → a < f' → CV d n c l x → MV m n c l x → GI d m c l x s un P Q → s ≤ k → (∃ d' m' b, F_X5_collectGaps_18 N f d (nI j) (nI (2 ^ k)) (nI (nbk (c (32 * j + 3)))) (nI k) = some (nI 0, d') ∧ F_X6_findUnknown_9 N f' m (nI j) (nI 1) (nI k) = some (nI b, m') ∧ b ≤ 1 ∧ (b = 0 ∨ gI m' 10 = nI 0) ∧ FD d d' ∧ FM m m') ∨ (∃ d' m' s' un' P' Q', F_X5_collectGaps_18 N f d (nI j) (nI (2 ^ k)) (nI (nbk (c (32 * j + 3)))) (nI k) = some (nI 1, d') ∧ F_X6_findUnknown_9 N f' m (nI j) (nI 1) (nI k) = some (nI 1, m') ∧ GI d' m' c l x s' un' P' Q' ∧ 1 ≤ s' ∧ FD d d' ∧ FM m m') := by
  have hB := nbk_le (c (32 * j + 3))
  intro a
  induction a with
  | zero =>
    intro k f f' d m s un P Q e1 e2 e3 hc hm hg hsk
    obtain ⟨f, rfl⟩ : ∃ q, f = q + 1 := ⟨f - 1, by omega⟩
    obtain ⟨f', rfl⟩ : ∃ q, f' = q + 1 := ⟨f' - 1, by omega⟩
    have hbat := b_bat hm.1 hj
    rw [← nbk_96 h96] at hbat
    have em : F_X6_findUnknown_9 N (f' + 1) m (nI j) (nI 1) (nI k) = some (nI 1, m) := by
      rw [F_X6_findUnknown_9.eq_2, hbat, Option.bind_some, c_ge (by omega) (by omega), decide_eq_true (by omega), cond_true, rz_1]
    rw [em, F_X5_collectGaps_18.eq_2, c_ge (by omega) (by omega), decide_eq_true (by omega), cond_true]
    unfold F_X2_size
    rw [Option.bind_some, hg.1, c_le0 (by omega)]
    by_cases q : s = 0
    · refine Or.inl ⟨d, m, 1, ?_, rfl, by omega, Or.inr ?_, FD.r d, FM.r m⟩
      · rw [decide_eq_true (by omega)]; rfl
      · rw [hg.2.1, q]
    · refine Or.inr ⟨d, m, s, un, P, Q, ?_, rfl, hg, by omega, FD.r d, FM.r m⟩
      rw [decide_eq_false (by omega)]; rfl
  | succ a ih =>
    intro k f f' d m s un P Q e1 e2 e3 hc hm hg hsk
    obtain ⟨f, rfl⟩ : ∃ q, f = q + 1 := ⟨f - 1, by omega⟩
    obtain ⟨f', rfl⟩ : ∃ q, f' = q + 1 := ⟨f' - 1, by omega⟩
    have hn := hc.n60
    have hbat := b_bat hm.1 hj
    rw [← nbk_96 h96] at hbat
    have w1 := hm.1.2.2.2.2.2.1 (32 * j + (4 + k))
    have pk := p2k (show k < 4 by omega)
    rw [F_X6_findUnknown_9.eq_2, hbat, Option.bind_some, c_ge (by omega) (by omega), decide_eq_false (by omega), cond_false, b_blk hm.1 hj (by omega), Option.bind_some, b_isBlock hm (by omega) (by omega), Option.bind_some]
    rw [F_X5_collectGaps_18.eq_2, c_ge (by omega) (by omega), decide_eq_false (by omega), cond_false, a_content hc.w hj (by omega), Option.bind_some, a_inLog hc (by omega), Option.bind_some, a_isBlock hc (by omega), a_tw (by omega), pk.2, nI_add]
    simp only [Option.bind_some]
    cases hq : bk c l x (c (32 * j + (4 + k))) with
    | true =>
      have hb := of_decide_eq_true hq
      rw [Bool.toNat_true, if_pos ⟨hb.1, hb.2.1⟩, c_eq0 (by decide), show decide (1 = 0) = false from rfl, cond_false, c_ne0 (by decide), show decide (¬ 1 = 0) = true from rfl, cond_true, cond_true]
      exact ih (k + 1) f f' d m s un P Q (by omega) (by omega) (by omega) hc hm hg (by omega)
    | false =>
      rw [Bool.toNat_false, c_eq0 (by decide), show decide (0 = 0) = true from rfl, cond_true, c_eq0 (by decide), show decide (1 = 0) = false from rfl, cond_false, b_inLog hm (by omega), Option.bind_some, c_ne0 (show (0 : Nat) < 2 ^ 31 by decide), show decide (¬ 0 = 0) = false from rfl, cond_false]
      by_cases q5 : 2 ≤ c (32 * j + (4 + k)) ∧ c (32 * j + (4 + k)) < x
      · have hnb : so c l (c (32 * j + (4 + k))) ≠ 2 := fun z => by
          have := of_decide_eq_false hq
          exact this ⟨q5.1, q5.2, z⟩
        obtain ⟨d1, m1, s1, un1, P1, Q1, k1, k2, k3, k4, k5, k6, k7⟩ := u_note hN hg (show k < 4 by omega) hsk q5.1 q5.2 (by omega) hnb
        rw [if_pos q5, c_ne0 (by decide), show decide (¬ 1 = 0) = true from rfl, cond_true, k1, c_eq0 (by decide), show decide (1 = 0) = false from rfl, cond_false, k2]
        simp only [Option.bind_some]
        rcases ih (k + 1) f f' d1 m1 s1 un1 P1 Q1 (by omega) (by omega) (by omega) (k6.cv hc) (k7.mv hm) k3 (by omega) with ⟨d2, m2, b, y1, y2, y3, y4, y5, y6⟩ | ⟨d2, m2, s2, un2, P2, Q2, y1, y2, y3, y4, y5, y6⟩
        · exact Or.inl ⟨d2, m2, b, y1, y2, y3, y4, k6.t y5, k7.t y6⟩
        · exact Or.inr ⟨d2, m2, s2, un2, P2, Q2, y1, y2, y3, y4, k6.t y5, k7.t y6⟩
      · rw [if_neg q5, c_ne0 (by decide), show decide (¬ 0 = 0) = false from rfl, cond_false, c_eq0 (by decide), show decide (0 = 0) = true from rfl, cond_true]
        obtain ⟨m1, s1, k1, k2, k3, k4⟩ := m_note hN hg.2.1 (show k < 4 by omega) hsk (nI (c (32 * j + (4 + k))))
        rw [k1]
        obtain ⟨m2, y1, y2⟩ := m_are0 (x := x) (l := l) hN hj h96 a (k + 1) f' m1 s1 (by omega) (by omega) (k4.mv hm) k2 (by omega)
        exact Or.inl ⟨d, m2, 0, rfl, y1, by omega, Or.inl rfl, FD.r d, k4.t y2⟩
end GB
