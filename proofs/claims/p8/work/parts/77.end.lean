/-! end -/
def ct (o : Nat → Nat) (b i : Nat) : Nat → Nat := fun q => if q < i then o (b + q) else 0
theorem ct_0 (o : Nat → Nat) (b : Nat) : ct o b 0 = fun _ => 0 := by
  funext q
  exact if_neg (by omega)
theorem ct_s (o : Nat → Nat) (b i : Nat) : uN (ct o b i) i (o (b + i)) = ct o b (i + 1) := by
  funext q
  unfold uN ct
  by_cases h : q = i
  · rw [if_pos h, if_pos (by omega), h]
  · rw [if_neg h]
    by_cases h1 : q < i
    · rw [if_pos h1, if_pos (by omega)]
    · rw [if_neg h1, if_neg (by omega)]
theorem ct_lt {o : Nat → Nat} (ho : ∀ i, o i < 256) (b i q : Nat) : ct o b i q < 256 := by
  unfold ct
  by_cases h : q < i
  · rw [if_pos h]; exact ho _
  · rw [if_neg h]; omega
theorem dN_c {a b c d : Nat} {h : Nat → Nat} {i : Nat} (hi : i < 24) : dN a b c d h (4 + i) = h i := by
  unfold dN
  rw [if_neg (by omega), if_neg (by omega), if_neg (by omega), if_neg (by omega), if_pos (by omega), show 4 + i - 4 = i by omega]
theorem JR_w {s t : St} {n w x : Nat} {wa : Nat → Nat} {wt : Nat → Nat → Nat} {wl c l : Nat → Nat} (h : JR s n w wa wt wl) (h3 : gA t 3 = upd (gA s 3) w (nI x)) (h4 : gA t 4 = va_cpy (NF c) (gA s 4) (32 * x) (32 * w) 32) (h5 : gA t 5 = upd (gA s 5) w (nI (l x))) (hx : x < n) (hc : ∀ i, c i < 256) (hl : ∀ i, l i ≤ 1) : JR t n (w + 1) (uN wa w x) (fun k i => if k = w then c (32 * x + i) else wt k i) (uN wl w (l x)) := by
  intro k hk
  rw [h3, h4, h5]
  unfold uN
  by_cases q : k = w
  · subst q
    rw [pk_us, pk_us, if_pos rfl, if_pos rfl]
    refine ⟨rfl, hx, rfl, hl x, fun i hi => ?_⟩
    dsimp only
    rw [if_pos rfl, pk_cpy_in (by omega) (by omega), show 32 * k + i - 32 * k = i by omega]
    exact ⟨rfl, hc _⟩
  · obtain ⟨g1, g2, g3, g4, g5⟩ := h k (by omega)
    rw [pk_un q, pk_un q, if_neg q, if_neg q]
    refine ⟨g1, g2, g3, g4, fun i hi => ?_⟩
    dsimp only
    rw [if_neg q, pk_cpy_out (by omega)]
    exact g5 i hi
section EN
variable {d m : St} {n x p N : Nat} {c l : Nat → Nat}
/-- a write on both sides -/
theorem u_wr (hc : CV d n c l x) (hm : MV m n c l x) (jj : JJ d m n x) (hN : 100 ≤ N) (hx : x < n) {g g' : Nat → Int32} {a b e q : Nat} {hh : Nat → Nat} (hd : gA d 6 = dF g a b e q hh) (hd' : gA m 6 = dF g' a b e q hh) (ha : a < 256) (hb : b < 256) (he : e < 256) (hq : q < 256) (hB : ∀ i, i < 24 → hh i < 256) : ∃ d' m' c' l', F_X5_writeNext N d = some (nI x, d') ∧ F_X6_append N m = some (nI x, m') ∧ CV d' n c' l' (x + 1) ∧ MV m' n c' l' (x + 1) ∧ JJ d' m' n (x + 1) ∧ (∀ k, k ≠ 1 → k ≠ 8 → gI d' k = gI d k) ∧ (∀ k, k ≠ 2 → k ≠ 9 → gI m' k = gI m k) ∧ (∀ k, 7 ≤ k → gA d' k = gA d k) ∧ (∀ k, k = 2 ∨ 7 ≤ k → gA m' k = gA m k) ∧ c' = stN c (sec a b e q hh) x 32 ∧ l' = uN l x 0 := by
  obtain ⟨w, wa, wt, wl, h1, h2, h3, h4, h5⟩ := jj
  have hn := hc.n60
  obtain ⟨d', e1, v1, i1, f1, t3, t4, t5, g1⟩ := e_wn (N := N) hc (show 40 ≤ N by omega) hx (w := w) (by omega) h1 hd ha hb he hq hB
  obtain ⟨m', e2, v2, i2, f2, u3, u4, u5, g2⟩ := e_app (N := N) hm (show 40 ≤ N by omega) hx (w := w) (by omega) h2 hd' ha hb he hq hB
  exact ⟨d', m', _, _, e1, e2, v1, v2, ⟨w + 1, _, _, _, i1, i2, by omega, JR_w h4 t3 t4 t5 hx hc.b hc.w.2.2.2.2.2.2, JR_w h5 u3 u4 u5 hx hc.b hc.w.2.2.2.2.2.2⟩, f1, f2, g1, g2, rfl, rfl⟩
def likeB (c l hh : Nat → Nat) (j : Nat) : Bool := decide (so c l j = 2) && eqf (fun i => c (32 * j + (4 + i))) hh 24
theorem a_dcell {g : Nat → Int32} {a b e q : Nat} {hh : Nat → Nat} (hd : gA d 6 = dF g a b e q hh) {i : Nat} (hi : i < 24) : F_X0_cell d (nI (4 + i)) = some (nI (hh i)) := by
  unfold F_X0_cell
  simp (disch := omega) only [c_lt, c_ge, c_gt, c_le, c_eq, c_ne, c_lt0, c_ge0, c_le0, c_gt0, c_eq0, c_ne0, c_eqm, c_nem, c_m0, c_meq, c_mne, c_mlt, nI_add, pk_mul, Bool.cond_decide, cond_true, cond_false, ldA_n, stA_n, cpA_n, bnd_s, bindP_s, Option.bind_some, gN_sI, gN_sA, gI_sA, gA_sI, gI_eq, gA_eq, gI_ne, gA_ne, sA_sA, sI_sI, if_pos, if_neg, ite_true, ite_false, eq_self, not_true_eq_false, not_false_eq_true, Nat.add_zero, NF_ap, hd]
  rw [dF_lo (by omega), dN_c hi]
theorem a_hco (hc : CV d n c l x) (hN : 100 ≤ N) {g : Nat → Int32} {a b e q : Nat} {hh : Nat → Nat} (hd : gA d 6 = dF g a b e q hh) (hB : ∀ i, i < 24 → hh i < 256) {j : Nat} (hj : j < n) : F_X4_hasContentOf N d (nI j) = some (nI (eqf (fun i => c (32 * j + (4 + i))) hh 24).toNat) := by
  have key : ∀ k i f, i + k = 24 → k < f → eqf (fun i => c (32 * j + (4 + i))) hh i = true → F_X4_hasContentOf_2 N f d (nI j) (nI (4 + i)) = some (nI (eqf (fun i => c (32 * j + (4 + i))) hh 24).toNat) := by
    intro k
    induction k with
    | zero =>
      intro i f e1 e2 e3
      obtain ⟨f, rfl⟩ : ∃ q, f = q + 1 := ⟨f - 1, by omega⟩
      obtain rfl : i = 24 := by omega
      rw [F_X4_hasContentOf_2.eq_2, e3]
      simp (disch := omega) only [c_lt, c_ge, c_gt, c_le, c_eq, c_ne, c_lt0, c_ge0, c_le0, c_gt0, c_eq0, c_ne0, c_eqm, c_nem, c_m0, c_meq, c_mne, c_mlt, nI_add, pk_mul, Bool.cond_decide, cond_true, cond_false, ldA_n, stA_n, cpA_n, bnd_s, bindP_s, Option.bind_some, gN_sI, gN_sA, gI_sA, gA_sI, gI_eq, gA_eq, gI_ne, gA_ne, sA_sA, sI_sI, if_pos, if_neg, ite_true, ite_false, eq_self, not_true_eq_false, not_false_eq_true, Nat.add_zero, NF_ap]
      rfl
    | succ k ih =>
      intro i f e1 e2 e3
      obtain ⟨f, rfl⟩ : ∃ q, f = q + 1 := ⟨f - 1, by omega⟩
      have w1 := hc.b (32 * j + (4 + i))
      have w2 := hB i (by omega)
      rw [F_X4_hasContentOf_2.eq_2, a_cell hc.w hj (by omega), a_dcell hd (by omega)]
      by_cases q5 : c (32 * j + (4 + i)) = hh i
      · simp (disch := omega) only [c_lt, c_ge, c_gt, c_le, c_eq, c_ne, c_lt0, c_ge0, c_le0, c_gt0, c_eq0, c_ne0, c_eqm, c_nem, c_m0, c_meq, c_mne, c_mlt, nI_add, pk_mul, Bool.cond_decide, cond_true, cond_false, ldA_n, stA_n, cpA_n, bnd_s, bindP_s, Option.bind_some, gN_sI, gN_sA, gI_sA, gA_sI, gI_eq, gA_eq, gI_ne, gA_ne, sA_sA, sI_sI, if_pos, if_neg, ite_true, ite_false, eq_self, not_true_eq_false, not_false_eq_true, Nat.add_zero, NF_ap]
        exact ih (i + 1) f (by omega) (by omega) (by
          show (eqf _ hh i && decide _) = true
          rw [e3, decide_eq_true q5]; rfl)
      · simp (disch := omega) only [c_lt, c_ge, c_gt, c_le, c_eq, c_ne, c_lt0, c_ge0, c_le0, c_gt0, c_eq0, c_ne0, c_eqm, c_nem, c_m0, c_meq, c_mne, c_mlt, nI_add, pk_mul, Bool.cond_decide, cond_true, cond_false, ldA_n, stA_n, cpA_n, bnd_s, bindP_s, Option.bind_some, gN_sI, gN_sA, gI_sA, gA_sI, gI_eq, gA_eq, gI_ne, gA_ne, sA_sA, sI_sI, if_pos, if_neg, ite_true, ite_false, eq_self, not_true_eq_false, not_false_eq_true, Nat.add_zero, NF_ap]
        cases hq : eqf (fun i => c (32 * j + (4 + i))) hh 24 with
        | true => exact absurd (eqf_iff.mp hq i (by omega)) q5
        | false => rfl
  exact key 24 0 N (by omega) (by omega) rfl
theorem a_fdb (hc : CV d n c l x) (hN : 100 ≤ N) {g : Nat → Int32} {a b e q : Nat} {hh : Nat → Nat} (hd : gA d 6 = dF g a b e q hh) (hB : ∀ i, i < 24 → hh i < 256) : F_X5_findDraftedBlock N d = some (oI (fnd (likeB c l hh) 2 (x - 2))) := by
  have hn := hc.n60
  have hxi := hc.xi
  have key : ∀ k j f, j + k = x → 2 ≤ j → k < f → F_X5_findDraftedBlock_2 N f d (nI j) = some (oI (fnd (likeB c l hh) j k)) := by
    intro k
    induction k with
    | zero =>
      intro j f e1 e3 e2
      obtain ⟨f, rfl⟩ : ∃ q, f = q + 1 := ⟨f - 1, by omega⟩
      rw [F_X5_findDraftedBlock_2.eq_2, hxi]
      simp (disch := omega) only [c_lt, c_ge, c_gt, c_le, c_eq, c_ne, c_lt0, c_ge0, c_le0, c_gt0, c_eq0, c_ne0, c_eqm, c_nem, c_m0, c_meq, c_mne, c_mlt, nI_add, pk_mul, Bool.cond_decide, cond_true, cond_false, ldA_n, stA_n, cpA_n, bnd_s, bindP_s, Option.bind_some, gN_sI, gN_sA, gI_sA, gA_sI, gI_eq, gA_eq, gI_ne, gA_ne, sA_sA, sI_sI, if_pos, if_neg, ite_true, ite_false, eq_self, not_true_eq_false, not_false_eq_true, Nat.add_zero, NF_ap]
      rfl
    | succ k ih =>
      intro j f e1 e3 e2
      obtain ⟨f, rfl⟩ : ∃ q, f = q + 1 := ⟨f - 1, by omega⟩
      rw [F_X5_findDraftedBlock_2.eq_2, hxi, a_isBlock hc (by omega), a_hco hc hN hd hB (by omega)]
      have ih := ih (j + 1) f (by omega) (by omega) (by omega)
      have hbk : bk c l x j = decide (so c l j = 2) := by
        unfold bk
        by_cases q6 : so c l j = 2
        · rw [decide_eq_true ⟨e3, by omega, q6⟩, decide_eq_true q6]
        · rw [decide_eq_false (fun z => q6 z.2.2), decide_eq_false q6]
      rw [hbk]
      show _ = some (oI (if likeB c l hh j = true then some j else fnd (likeB c l hh) (j + 1) k))
      unfold likeB
      cases q6 : decide (so c l j = 2) with
      | false =>
        rw [Bool.toNat_false, Bool.false_and, if_neg (by decide)]
        simp (disch := omega) only [c_lt, c_ge, c_gt, c_le, c_eq, c_ne, c_lt0, c_ge0, c_le0, c_gt0, c_eq0, c_ne0, c_eqm, c_nem, c_m0, c_meq, c_mne, c_mlt, nI_add, pk_mul, Bool.cond_decide, cond_true, cond_false, ldA_n, stA_n, cpA_n, bnd_s, bindP_s, Option.bind_some, gN_sI, gN_sA, gI_sA, gA_sI, gI_eq, gA_eq, gI_ne, gA_ne, sA_sA, sI_sI, if_pos, if_neg, ite_true, ite_false, eq_self, not_true_eq_false, not_false_eq_true, Nat.add_zero, NF_ap]
        exact ih
      | true =>
        rw [Bool.toNat_true, Bool.true_and]
        cases q7 : eqf (fun i => c (32 * j + (4 + i))) hh 24 with
        | false =>
          rw [Bool.toNat_false, if_neg (by decide)]
          simp (disch := omega) only [c_lt, c_ge, c_gt, c_le, c_eq, c_ne, c_lt0, c_ge0, c_le0, c_gt0, c_eq0, c_ne0, c_eqm, c_nem, c_m0, c_meq, c_mne, c_mlt, nI_add, pk_mul, Bool.cond_decide, cond_true, cond_false, ldA_n, stA_n, cpA_n, bnd_s, bindP_s, Option.bind_some, gN_sI, gN_sA, gI_sA, gA_sI, gI_eq, gA_eq, gI_ne, gA_ne, sA_sA, sI_sI, if_pos, if_neg, ite_true, ite_false, eq_self, not_true_eq_false, not_false_eq_true, Nat.add_zero, NF_ap]
          exact ih
        | true =>
          rw [Bool.toNat_true, if_pos rfl]
          simp (disch := omega) only [c_lt, c_ge, c_gt, c_le, c_eq, c_ne, c_lt0, c_ge0, c_le0, c_gt0, c_eq0, c_ne0, c_eqm, c_nem, c_m0, c_meq, c_mne, c_mlt, nI_add, pk_mul, Bool.cond_decide, cond_true, cond_false, ldA_n, stA_n, cpA_n, bnd_s, bindP_s, Option.bind_some, gN_sI, gN_sA, gI_sA, gA_sI, gI_eq, gA_eq, gI_ne, gA_ne, sA_sA, sI_sI, if_pos, if_neg, ite_true, ite_false, eq_self, not_true_eq_false, not_false_eq_true, Nat.add_zero, NF_ap]
          rfl
  exact key (x - 2) 2 N (by omega) (by omega) (by omega)
theorem b_bf (hm : MV m n c l x) (hN : 100 ≤ N) {g : Nat → Int32} {a b e q : Nat} {hh : Nat → Nat} (hd : gA m 6 = dF g a b e q hh) (hB : ∀ i, i < 24 → hh i < 256) : F_X6_blockFor_54 N N m (nI 2) = match fnd (likeB c l hh) 2 (x - 2) with
    | some j => some (nI j, sI m 6 (gI m 6 + nI 1))
    | none => F_X6_append N m := by
  have hn := hm.n60
  have hxi := hm.xi
  have h4 := hm.1.2.2.2.1
  have inn : ∀ (K : St → Int32 → Option (Int32 × St)) (j : Nat), j < n → ∀ k i f, i + k = 24 → k < f → eqf (fun i => c (32 * j + (4 + i))) hh i = true → F_X6_blockFor_80 N K (f + 1) m (nI j) (nI 1) (nI i) = (if eqf (fun i => c (32 * j + (4 + i))) hh 24 = true then some (nI j, sI m 6 (gI m 6 + nI 1)) else K m (nI (j + 1))) := by
    intro K j hj k
    induction k with
    | zero =>
      intro i f e1 e2 e3
      obtain ⟨f, rfl⟩ : ∃ q, f = q + 1 := ⟨f - 1, by omega⟩
      obtain rfl : i = 24 := by omega
      rw [F_X6_blockFor_80.eq_2, if_pos e3]
      simp (disch := omega) only [c_lt, c_ge, c_gt, c_le, c_eq, c_ne, c_lt0, c_ge0, c_le0, c_gt0, c_eq0, c_ne0, c_eqm, c_nem, c_m0, c_meq, c_mne, c_mlt, nI_add, pk_mul, Bool.cond_decide, cond_true, cond_false, ldA_n, stA_n, cpA_n, bnd_s, bindP_s, Option.bind_some, gN_sI, gN_sA, gI_sA, gA_sI, gI_eq, gA_eq, gI_ne, gA_ne, sA_sA, sI_sI, if_pos, if_neg, ite_true, ite_false, eq_self, not_true_eq_false, not_false_eq_true, Nat.add_zero, NF_ap]
    | succ k ih =>
      intro i f e1 e2 e3
      obtain ⟨f, rfl⟩ : ∃ q, f = q + 1 := ⟨f - 1, by omega⟩
      have w1 := hm.1.2.2.2.2.2.1 (32 * j + (4 + i))
      have w2 := hB i (by omega)
      rw [F_X6_blockFor_80.eq_2]
      simp (disch := omega) only [c_lt, c_ge, c_gt, c_le, c_eq, c_ne, c_lt0, c_ge0, c_le0, c_gt0, c_eq0, c_ne0, c_eqm, c_nem, c_m0, c_meq, c_mne, c_mlt, nI_add, pk_mul, Bool.cond_decide, cond_true, cond_false, ldA_n, stA_n, cpA_n, bnd_s, bindP_s, Option.bind_some, gN_sI, gN_sA, gI_sA, gA_sI, gI_eq, gA_eq, gI_ne, gA_ne, sA_sA, sI_sI, if_pos, if_neg, ite_true, ite_false, eq_self, not_true_eq_false, not_false_eq_true, Nat.add_zero, NF_ap, h4, hd, Nat.add_assoc]
      rw [dF_lo (by omega), dN_c (by omega), c_ne (by omega) (by omega), Bool.cond_decide]
      by_cases q5 : c (32 * j + (4 + i)) = hh i
      · rw [if_neg (fun z => z q5)]
        exact ih (i + 1) f (by omega) (by omega) (by
          show (eqf _ hh i && decide _) = true
          rw [e3, decide_eq_true q5]; rfl)
      · rw [if_pos q5, F_X6_blockFor_80.eq_2]
        have hf : eqf (fun i => c (32 * j + (4 + i))) hh 24 = false := by
          cases hq : eqf (fun i => c (32 * j + (4 + i))) hh 24 with
          | true => exact absurd (eqf_iff.mp hq i (by omega)) q5
          | false => rfl
        rw [hf, if_neg (by decide)]
        by_cases q6 : 24 ≤ i + 1
        · simp (disch := omega) only [c_lt, c_ge, c_gt, c_le, c_eq, c_ne, c_lt0, c_ge0, c_le0, c_gt0, c_eq0, c_ne0, c_eqm, c_nem, c_m0, c_meq, c_mne, c_mlt, nI_add, pk_mul, Bool.cond_decide, cond_true, cond_false, ldA_n, stA_n, cpA_n, bnd_s, bindP_s, Option.bind_some, gN_sI, gN_sA, gI_sA, gA_sI, gI_eq, gA_eq, gI_ne, gA_ne, sA_sA, sI_sI, if_pos, if_neg, ite_true, ite_false, eq_self, not_true_eq_false, not_false_eq_true, Nat.add_zero, NF_ap]
        · simp (disch := omega) only [c_lt, c_ge, c_gt, c_le, c_eq, c_ne, c_lt0, c_ge0, c_le0, c_gt0, c_eq0, c_ne0, c_eqm, c_nem, c_m0, c_meq, c_mne, c_mlt, nI_add, pk_mul, Bool.cond_decide, cond_true, cond_false, ldA_n, stA_n, cpA_n, bnd_s, bindP_s, Option.bind_some, gN_sI, gN_sA, gI_sA, gA_sI, gI_eq, gA_eq, gI_ne, gA_ne, sA_sA, sI_sI, if_pos, if_neg, ite_true, ite_false, eq_self, not_true_eq_false, not_false_eq_true, Nat.add_zero, NF_ap]
  have key : ∀ k j f, j + k = x → 2 ≤ j → k < f → F_X6_blockFor_54 N f m (nI j) = match fnd (likeB c l hh) j k with
      | some j => some (nI j, sI m 6 (gI m 6 + nI 1))
      | none => F_X6_append N m := by
    intro k
    induction k with
    | zero =>
      intro j f e1 e3 e2
      obtain ⟨f, rfl⟩ : ∃ q, f = q + 1 := ⟨f - 1, by omega⟩
      rw [F_X6_blockFor_54.eq_2, hxi]
      simp (disch := omega) only [c_lt, c_ge, c_gt, c_le, c_eq, c_ne, c_lt0, c_ge0, c_le0, c_gt0, c_eq0, c_ne0, c_eqm, c_nem, c_m0, c_meq, c_mne, c_mlt, nI_add, pk_mul, Bool.cond_decide, cond_true, cond_false, ldA_n, stA_n, cpA_n, bnd_s, bindP_s, Option.bind_some, gN_sI, gN_sA, gI_sA, gA_sI, gI_eq, gA_eq, gI_ne, gA_ne, sA_sA, sI_sI, if_pos, if_neg, ite_true, ite_false, eq_self, not_true_eq_false, not_false_eq_true, Nat.add_zero, NF_ap]
      show _ = F_X6_append N m
      cases F_X6_append N m with
      | none => rfl
      | some q => rfl
    | succ k ih =>
      intro j f e1 e3 e2
      obtain ⟨f, rfl⟩ : ∃ q, f = q + 1 := ⟨f - 1, by omega⟩
      have ih := ih (j + 1) f (by omega) (by omega) (by omega)
      obtain ⟨M, hM⟩ : ∃ q, N = q + 2 := ⟨N - 2, by omega⟩
      have w1 := so_le c l j
      rw [F_X6_blockFor_54.eq_2, hxi, b_so hm.1 (by omega) (by omega)]
      simp (disch := omega) only [c_lt, c_ge, c_gt, c_le, c_eq, c_ne, c_lt0, c_ge0, c_le0, c_gt0, c_eq0, c_ne0, c_eqm, c_nem, c_m0, c_meq, c_mne, c_mlt, nI_add, pk_mul, Bool.cond_decide, cond_true, cond_false, ldA_n, stA_n, cpA_n, bnd_s, bindP_s, Option.bind_some, gN_sI, gN_sA, gI_sA, gA_sI, gI_eq, gA_eq, gI_ne, gA_ne, sA_sA, sI_sI, if_pos, if_neg, ite_true, ite_false, eq_self, not_true_eq_false, not_false_eq_true, Nat.add_zero, NF_ap]
      show _ = match (if likeB c l hh j = true then some j else fnd (likeB c l hh) (j + 1) k) with
      | some j => some (nI j, sI m 6 (gI m 6 + nI 1))
      | none => F_X6_append N m
      by_cases q6 : so c l j = 2
      · have hin := inn (F_X6_blockFor_54 N f) j (by omega) 24 0 (M + 1) (by omega) (by omega) rfl
        rw [show M + 1 + 1 = N by omega] at hin
        rw [if_neg (fun z => z q6), hin]
        unfold likeB
        rw [decide_eq_true q6, Bool.true_and]
        cases q7 : eqf (fun i => c (32 * j + (4 + i))) hh 24 with
        | false =>
          rw [if_neg (by decide), if_neg (by decide)]
          exact ih
        | true =>
          rw [if_pos rfl, if_pos rfl]
      · have hz : ∀ K : St → Int32 → Option (Int32 × St), F_X6_blockFor_80 N K (M + 2) m (nI j) (nI 0) (nI 0) = K m (nI (j + 1)) := by
          intro K
          rw [F_X6_blockFor_80.eq_2]
          simp (disch := omega) only [c_lt, c_ge, c_gt, c_le, c_eq, c_ne, c_lt0, c_ge0, c_le0, c_gt0, c_eq0, c_ne0, c_eqm, c_nem, c_m0, c_meq, c_mne, c_mlt, nI_add, pk_mul, Bool.cond_decide, cond_true, cond_false, ldA_n, stA_n, cpA_n, bnd_s, bindP_s, Option.bind_some, gN_sI, gN_sA, gI_sA, gA_sI, gI_eq, gA_eq, gI_ne, gA_ne, sA_sA, sI_sI, if_pos, if_neg, ite_true, ite_false, eq_self, not_true_eq_false, not_false_eq_true, Nat.add_zero, NF_ap]
        have hz := hz (F_X6_blockFor_54 N f)
        rw [← hM] at hz
        rw [if_pos q6, hz]
        unfold likeB
        rw [decide_eq_false q6, Bool.false_and, if_neg (by decide)]
        exact ih
  exact key (x - 2) 2 N (by omega) (by omega) (by omega)
/-- in the midst of end -/
def MR (d m : St) (n : Nat) (c l : Nat → Nat) (x p kp len : Nat) (o : Nat → Nat) : Prop := CV d n c l x ∧ MV m n c l x ∧ GG d m p ∧ gI d 0 = nI 1 ∧ gI m 1 = nI 1 ∧ JJ d m n x ∧ OR d m kp len o
theorem OR_g {d' m' : St} {kp len : Nat} {o : Nat → Nat} (h : OR d m kp len o) (d4 : gI d' 4 = gI d 4) (d5 : gI d' 5 = gI d 5) (m7 : gI m' 7 = gI m 7) (m8 : gI m' 8 = gI m 8) (a11 : gA d' 11 = gA d 11) (b2 : gA m' 2 = gA m 2) : OR d' m' kp len o := by
  unfold OR at *
  rw [d4, d5, m7, m8, a11, b2]
  exact h
theorem u_place {kp len : Nat} {o : Nat → Nat} (h : MR d m n c l x p kp len o) (hN : 100 ≤ N) {k : Nat} (hk : k < 4) (hx : x < n) : ∃ v d' m' c' l' x', F_X5_placeOpenBlock N d (nI k) = some (nI v, d') ∧ F_X6_blockFor N m (nI (24 * k)) = some (nI v, m') ∧ v < n ∧ MR d' m' n c' l' x' p kp len o ∧ x' ≤ x + 1 ∧ gA d' 12 = gA d 12 ∧ gA m' 7 = gA m 7 := by
  obtain ⟨hc, hm, hg, o1, o2, jj, hr⟩ := h
  have hn := hc.n60
  have hr0 := hr
  obtain ⟨r1, r2, r3, r4, r5, r6, r7, r8, r9, r10⟩ := hr
  have hh8 : ∀ i, i < 24 → ct o (24 * k) 24 i < 256 := fun i _ => ct_lt r8 _ _ _
  obtain ⟨d1, hd1⟩ : ∃ q, q = sA d 6 (dF (gA d 6) 2 0 0 0 (ct o (24 * k) 24)) := ⟨_, rfl⟩
  obtain ⟨m1, hm1⟩ : ∃ q, q = sA m 6 (dF (gA m 6) 2 0 0 0 (ct o (24 * k) 24)) := ⟨_, rfl⟩
  have cd1 : CV d1 n c l x := by rw [hd1]; exact CV_sA hc (by decide) _
  have cm1 : MV m1 n c l x := by rw [hm1]; exact MV_sA hm (by decide) _
  have ad6 : gA d1 6 = dF (gA d 6) 2 0 0 0 (ct o (24 * k) 24) := by rw [hd1]; exact gA_eq
  have am6 : gA m1 6 = dF (gA m 6) 2 0 0 0 (ct o (24 * k) 24) := by rw [hm1]; exact gA_eq
  have id1 : gI d1 = gI d := by rw [hd1]; rfl
  have im1 : gI m1 = gI m := by rw [hm1]; rfl
  have xd1 : ∀ k, k ≠ 6 → gA d1 k = gA d k := by intro k hk; rw [hd1]; exact gA_ne hk
  have xm1 : ∀ k, k ≠ 6 → gA m1 k = gA m k := by intro k hk; rw [hm1]; exact gA_ne hk
  -- the class
  have k1 : ∀ a i f, i + a = 24 → a < f → F_X5_placeOpenBlock_13 N f (sA d 6 (dF (gA d 6) 2 0 0 0 (ct o (24 * k) i))) (nI k) (nI i) = (F_X5_findDraftedBlock N d1).bind fun v1 => bif mx_cnd .ne v1 (-nI 1) then (bnd (sI d1 7 ((gI d1 7) + (nI 1))) fun s3 => some (v1, s3)) else (bindP (F_X5_writeNext N d1) fun v4 s5 => some (v4, s5)) := by
    intro a
    induction a with
    | zero =>
      intro i f e1 e2
      obtain ⟨f, rfl⟩ : ∃ q, f = q + 1 := ⟨f - 1, by omega⟩
      obtain rfl : i = 24 := by omega
      rw [F_X5_placeOpenBlock_13.eq_2, ← hd1]
      simp (disch := omega) only [c_lt, c_ge, c_gt, c_le, c_eq, c_ne, c_lt0, c_ge0, c_le0, c_gt0, c_eq0, c_ne0, c_eqm, c_nem, c_m0, c_meq, c_mne, c_mlt, nI_add, pk_mul, Bool.cond_decide, cond_true, cond_false, ldA_n, stA_n, cpA_n, bnd_s, bindP_s, Option.bind_some, gN_sI, gN_sA, gI_sA, gA_sI, gI_eq, gA_eq, gI_ne, gA_ne, sA_sA, sI_sI, if_pos, if_neg, ite_true, ite_false, eq_self, not_true_eq_false, not_false_eq_true, Nat.add_zero, NF_ap]
    | succ a ih =>
      intro i f e1 e2
      obtain ⟨f, rfl⟩ : ∃ q, f = q + 1 := ⟨f - 1, by omega⟩
      rw [F_X5_placeOpenBlock_13.eq_2]
      simp (disch := omega) only [c_lt, c_ge, c_gt, c_le, c_eq, c_ne, c_lt0, c_ge0, c_le0, c_gt0, c_eq0, c_ne0, c_eqm, c_nem, c_m0, c_meq, c_mne, c_mlt, nI_add, pk_mul, Bool.cond_decide, cond_true, cond_false, ldA_n, stA_n, cpA_n, bnd_s, bindP_s, Option.bind_some, gN_sI, gN_sA, gI_sA, gA_sI, gI_eq, gA_eq, gI_ne, gA_ne, sA_sA, sI_sI, if_pos, if_neg, ite_true, ite_false, eq_self, not_true_eq_false, not_false_eq_true, Nat.add_zero, NF_ap]
      rw [Nat.mul_comm k 24, r7 _ (by omega), a_setC (by omega) (r8 _), Option.bind_some, ct_s]
      exact ih (i + 1) f (by omega) (by omega)
  have e1 : F_X5_placeOpenBlock N d (nI k) = (F_X5_findDraftedBlock N d1).bind fun v1 => bif mx_cnd .ne v1 (-nI 1) then (bnd (sI d1 7 ((gI d1 7) + (nI 1))) fun s3 => some (v1, s3)) else (bindP (F_X5_writeNext N d1) fun v4 s5 => some (v4, s5)) := by
    unfold F_X5_placeOpenBlock
    rw [a_begin (by omega), Option.bind_some, ← ct_0 o (24 * k)]
    exact k1 24 0 N (by omega) (by omega)
  -- the reference
  have k2 : ∀ a i f, i + a = 24 → a < f → F_X6_blockFor_10 N f (sA m 6 (dF (gA m 6) 2 0 0 0 (ct o (24 * k) i))) (nI (24 * k)) (nI i) = F_X6_blockFor_54 N N m1 (nI 2) := by
    intro a
    induction a with
    | zero =>
      intro i f e1 e2
      obtain ⟨f, rfl⟩ : ∃ q, f = q + 1 := ⟨f - 1, by omega⟩
      obtain rfl : i = 24 := by omega
      rw [F_X6_blockFor_10.eq_2, ← hm1]
      simp (disch := omega) only [c_lt, c_ge, c_gt, c_le, c_eq, c_ne, c_lt0, c_ge0, c_le0, c_gt0, c_eq0, c_ne0, c_eqm, c_nem, c_m0, c_meq, c_mne, c_mlt, nI_add, pk_mul, Bool.cond_decide, cond_true, cond_false, ldA_n, stA_n, cpA_n, bnd_s, bindP_s, Option.bind_some, gN_sI, gN_sA, gI_sA, gA_sI, gI_eq, gA_eq, gI_ne, gA_ne, sA_sA, sI_sI, if_pos, if_neg, ite_true, ite_false, eq_self, not_true_eq_false, not_false_eq_true, Nat.add_zero, NF_ap]
    | succ a ih =>
      intro i f e1 e2
      obtain ⟨f, rfl⟩ : ∃ q, f = q + 1 := ⟨f - 1, by omega⟩
      have ih := ih (i + 1) f (by omega) (by omega)
      rw [F_X6_blockFor_10.eq_2]
      simp (disch := omega) only [c_lt, c_ge, c_gt, c_le, c_eq, c_ne, c_lt0, c_ge0, c_le0, c_gt0, c_eq0, c_ne0, c_eqm, c_nem, c_m0, c_meq, c_mne, c_mlt, nI_add, pk_mul, Bool.cond_decide, cond_true, cond_false, ldA_n, stA_n, cpA_n, bnd_s, bindP_s, Option.bind_some, gN_sI, gN_sA, gI_sA, gA_sI, gI_eq, gA_eq, gI_ne, gA_ne, sA_sA, sI_sI, if_pos, if_neg, ite_true, ite_false, eq_self, not_true_eq_false, not_false_eq_true, Nat.add_zero, NF_ap, r6]
      by_cases q5 : len ≤ 24 * k + i
      · rw [if_pos q5]
        rw [← ct_s, r9 _ q5 (by omega), ← dF_set (by omega)] at ih
        exact ih
      · rw [if_neg q5, r10 _ (by omega), dF_set (by omega), ct_s]
        exact ih
  have e2 : F_X6_blockFor N m (nI (24 * k)) = F_X6_blockFor_54 N N m1 (nI 2) := by
    unfold F_X6_blockFor
    rw [b_begin (by omega), Option.bind_some, ← ct_0 o (24 * k)]
    exact k2 24 0 N (by omega) (by omega)
  rw [e1, e2, a_fdb cd1 hN ad6 hh8, b_bf cm1 hN am6 hh8]
  have jj1 : JJ d1 m1 n x := JJ_g jj (Nat.le_refl x) (by rw [id1]) (by rw [im1]) (xd1 3 (by decide)) (xd1 4 (by decide)) (xd1 5 (by decide)) (xm1 3 (by decide)) (xm1 4 (by decide)) (xm1 5 (by decide))
  cases hf : fnd (likeB c l (ct o (24 * k) 24)) 2 (x - 2) with
  | some j =>
    obtain ⟨f1, f2, -⟩ := fnd_some hf
    refine ⟨j, sI d1 7 (gI d1 7 + nI 1), sI m1 6 (gI m1 6 + nI 1), c, l, x, ?_, rfl, by omega, ⟨CV_sI cd1 (by decide) _, MV_sI cm1 (by decide) _, ?_, ?_, ?_, ?_, ?_⟩, by omega, ?_, ?_⟩
    · unfold oI
      simp (disch := omega) only [c_lt, c_ge, c_gt, c_le, c_eq, c_ne, c_lt0, c_ge0, c_le0, c_gt0, c_eq0, c_ne0, c_eqm, c_nem, c_m0, c_meq, c_mne, c_mlt, nI_add, pk_mul, Bool.cond_decide, cond_true, cond_false, ldA_n, stA_n, cpA_n, bnd_s, bindP_s, Option.bind_some, gN_sI, gN_sA, gI_sA, gA_sI, gI_eq, gA_eq, gI_ne, gA_ne, sA_sA, sI_sI, if_pos, if_neg, ite_true, ite_false, eq_self, not_true_eq_false, not_false_eq_true, Nat.add_zero, NF_ap]
    · obtain ⟨g1, g2, g3, g4, g5, g6⟩ := hg
      unfold GG
      simp (disch := omega) only [c_lt, c_ge, c_gt, c_le, c_eq, c_ne, c_lt0, c_ge0, c_le0, c_gt0, c_eq0, c_ne0, c_eqm, c_nem, c_m0, c_meq, c_mne, c_mlt, nI_add, pk_mul, Bool.cond_decide, cond_true, cond_false, ldA_n, stA_n, cpA_n, bnd_s, bindP_s, Option.bind_some, gN_sI, gN_sA, gI_sA, gA_sI, gI_eq, gA_eq, gI_ne, gA_ne, sA_sA, sI_sI, if_pos, if_neg, ite_true, ite_false, eq_self, not_true_eq_false, not_false_eq_true, Nat.add_zero, NF_ap, id1, im1]
      exact ⟨g1, g2, g3, g4, g5, by rw [g6]⟩
    · simp (disch := omega) only [c_lt, c_ge, c_gt, c_le, c_eq, c_ne, c_lt0, c_ge0, c_le0, c_gt0, c_eq0, c_ne0, c_eqm, c_nem, c_m0, c_meq, c_mne, c_mlt, nI_add, pk_mul, Bool.cond_decide, cond_true, cond_false, ldA_n, stA_n, cpA_n, bnd_s, bindP_s, Option.bind_some, gN_sI, gN_sA, gI_sA, gA_sI, gI_eq, gA_eq, gI_ne, gA_ne, sA_sA, sI_sI, if_pos, if_neg, ite_true, ite_false, eq_self, not_true_eq_false, not_false_eq_true, Nat.add_zero, NF_ap, id1]
      exact o1
    · simp (disch := omega) only [c_lt, c_ge, c_gt, c_le, c_eq, c_ne, c_lt0, c_ge0, c_le0, c_gt0, c_eq0, c_ne0, c_eqm, c_nem, c_m0, c_meq, c_mne, c_mlt, nI_add, pk_mul, Bool.cond_decide, cond_true, cond_false, ldA_n, stA_n, cpA_n, bnd_s, bindP_s, Option.bind_some, gN_sI, gN_sA, gI_sA, gA_sI, gI_eq, gA_eq, gI_ne, gA_ne, sA_sA, sI_sI, if_pos, if_neg, ite_true, ite_false, eq_self, not_true_eq_false, not_false_eq_true, Nat.add_zero, NF_ap, im1]
      exact o2
    · exact JJ_g jj1 (Nat.le_refl x) (by simp (disch := omega) only [c_lt, c_ge, c_gt, c_le, c_eq, c_ne, c_lt0, c_ge0, c_le0, c_gt0, c_eq0, c_ne0, c_eqm, c_nem, c_m0, c_meq, c_mne, c_mlt, nI_add, pk_mul, Bool.cond_decide, cond_true, cond_false, ldA_n, stA_n, cpA_n, bnd_s, bindP_s, Option.bind_some, gN_sI, gN_sA, gI_sA, gA_sI, gI_eq, gA_eq, gI_ne, gA_ne, sA_sA, sI_sI, if_pos, if_neg, ite_true, ite_false, eq_self, not_true_eq_false, not_false_eq_true, Nat.add_zero, NF_ap]) (by simp (disch := omega) only [c_lt, c_ge, c_gt, c_le, c_eq, c_ne, c_lt0, c_ge0, c_le0, c_gt0, c_eq0, c_ne0, c_eqm, c_nem, c_m0, c_meq, c_mne, c_mlt, nI_add, pk_mul, Bool.cond_decide, cond_true, cond_false, ldA_n, stA_n, cpA_n, bnd_s, bindP_s, Option.bind_some, gN_sI, gN_sA, gI_sA, gA_sI, gI_eq, gA_eq, gI_ne, gA_ne, sA_sA, sI_sI, if_pos, if_neg, ite_true, ite_false, eq_self, not_true_eq_false, not_false_eq_true, Nat.add_zero, NF_ap]) rfl rfl rfl rfl rfl rfl
    · refine OR_g hr0 ?_ ?_ ?_ ?_ ?_ ?_
      · simp (disch := omega) only [c_lt, c_ge, c_gt, c_le, c_eq, c_ne, c_lt0, c_ge0, c_le0, c_gt0, c_eq0, c_ne0, c_eqm, c_nem, c_m0, c_meq, c_mne, c_mlt, nI_add, pk_mul, Bool.cond_decide, cond_true, cond_false, ldA_n, stA_n, cpA_n, bnd_s, bindP_s, Option.bind_some, gN_sI, gN_sA, gI_sA, gA_sI, gI_eq, gA_eq, gI_ne, gA_ne, sA_sA, sI_sI, if_pos, if_neg, ite_true, ite_false, eq_self, not_true_eq_false, not_false_eq_true, Nat.add_zero, NF_ap, id1]
      · simp (disch := omega) only [c_lt, c_ge, c_gt, c_le, c_eq, c_ne, c_lt0, c_ge0, c_le0, c_gt0, c_eq0, c_ne0, c_eqm, c_nem, c_m0, c_meq, c_mne, c_mlt, nI_add, pk_mul, Bool.cond_decide, cond_true, cond_false, ldA_n, stA_n, cpA_n, bnd_s, bindP_s, Option.bind_some, gN_sI, gN_sA, gI_sA, gA_sI, gI_eq, gA_eq, gI_ne, gA_ne, sA_sA, sI_sI, if_pos, if_neg, ite_true, ite_false, eq_self, not_true_eq_false, not_false_eq_true, Nat.add_zero, NF_ap, id1]
      · simp (disch := omega) only [c_lt, c_ge, c_gt, c_le, c_eq, c_ne, c_lt0, c_ge0, c_le0, c_gt0, c_eq0, c_ne0, c_eqm, c_nem, c_m0, c_meq, c_mne, c_mlt, nI_add, pk_mul, Bool.cond_decide, cond_true, cond_false, ldA_n, stA_n, cpA_n, bnd_s, bindP_s, Option.bind_some, gN_sI, gN_sA, gI_sA, gA_sI, gI_eq, gA_eq, gI_ne, gA_ne, sA_sA, sI_sI, if_pos, if_neg, ite_true, ite_false, eq_self, not_true_eq_false, not_false_eq_true, Nat.add_zero, NF_ap, im1]
      · simp (disch := omega) only [c_lt, c_ge, c_gt, c_le, c_eq, c_ne, c_lt0, c_ge0, c_le0, c_gt0, c_eq0, c_ne0, c_eqm, c_nem, c_m0, c_meq, c_mne, c_mlt, nI_add, pk_mul, Bool.cond_decide, cond_true, cond_false, ldA_n, stA_n, cpA_n, bnd_s, bindP_s, Option.bind_some, gN_sI, gN_sA, gI_sA, gA_sI, gI_eq, gA_eq, gI_ne, gA_ne, sA_sA, sI_sI, if_pos, if_neg, ite_true, ite_false, eq_self, not_true_eq_false, not_false_eq_true, Nat.add_zero, NF_ap, im1]
      · rw [gA_sI, xd1 11 (by decide)]
      · rw [gA_sI, xm1 2 (by decide)]
    · rw [gA_sI, xd1 12 (by decide)]
    · rw [gA_sI, xm1 7 (by decide)]
  | none =>
    obtain ⟨d2, m2, c2, l2, w1, w2, w3, w4, w5, w6, w7, w8, w9, -⟩ := u_wr cd1 cm1 jj1 hN hx ad6 am6 (by decide) (by decide) (by decide) (by decide) hh8
    refine ⟨x, d2, m2, c2, l2, x + 1, ?_, w2, hx, ⟨w3, w4, ?_, ?_, ?_, w5, ?_⟩, by omega, ?_, ?_⟩
    · unfold oI
      simp (disch := omega) only [c_lt, c_ge, c_gt, c_le, c_eq, c_ne, c_lt0, c_ge0, c_le0, c_gt0, c_eq0, c_ne0, c_eqm, c_nem, c_m0, c_meq, c_mne, c_mlt, nI_add, pk_mul, Bool.cond_decide, cond_true, cond_false, ldA_n, stA_n, cpA_n, bnd_s, bindP_s, Option.bind_some, gN_sI, gN_sA, gI_sA, gA_sI, gI_eq, gA_eq, gI_ne, gA_ne, sA_sA, sI_sI, if_pos, if_neg, ite_true, ite_false, eq_self, not_true_eq_false, not_false_eq_true, Nat.add_zero, NF_ap, w1]
    · refine GG_g hg ?_ ?_ ?_ ?_ ?_ ?_ ?_ ?_
      · rw [w6 2 (by decide) (by decide), id1]
      · rw [w6 3 (by decide) (by decide), id1]
      · rw [w6 6 (by decide) (by decide), id1]
      · rw [w6 7 (by decide) (by decide), id1]
      · rw [w7 3 (by decide) (by decide), im1]
      · rw [w7 4 (by decide) (by decide), im1]
      · rw [w7 5 (by decide) (by decide), im1]
      · rw [w7 6 (by decide) (by decide), im1]
    · rw [w6 0 (by decide) (by decide), id1]; exact o1
    · rw [w7 1 (by decide) (by decide), im1]; exact o2
    · refine OR_g hr0 ?_ ?_ ?_ ?_ ?_ ?_
      · rw [w6 4 (by decide) (by decide), id1]
      · rw [w6 5 (by decide) (by decide), id1]
      · rw [w7 7 (by decide) (by decide), im1]
      · rw [w7 8 (by decide) (by decide), im1]
      · rw [w8 11 (by decide), xd1 11 (by decide)]
      · rw [w9 2 (Or.inl rfl), xm1 2 (by decide)]
    · rw [w8 12 (by decide), xd1 12 (by decide)]
    · rw [w9 7 (Or.inr (by decide)), xm1 7 (by decide)]
end EN
