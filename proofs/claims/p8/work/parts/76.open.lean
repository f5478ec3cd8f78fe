/-! open and add -/
theorem sI_id {s : St} {k : Nat} : sI s k (gI s k) = s := by
  unfold sI gI upd
  obtain ⟨n, f, g⟩ := s
  congr 2
  funext j
  by_cases h : j = k
  · subst h; rw [if_pos rfl]
  · rw [if_neg h]
theorem JJ_g {d d' m m' : St} {n x x' : Nat} (h : JJ d m n x) (hx : x ≤ x') (h8 : gI d' 8 = gI d 8) (h9 : gI m' 9 = gI m 9) (a3 : gA d' 3 = gA d 3) (a4 : gA d' 4 = gA d 4) (a5 : gA d' 5 = gA d 5) (b3 : gA m' 3 = gA m 3) (b4 : gA m' 4 = gA m 4) (b5 : gA m' 5 = gA m 5) : JJ d' m' n x' := by
  obtain ⟨w, wa, wt, wl, h1, h2, h3, h4, h5⟩ := h
  exact ⟨w, wa, wt, wl, h8.trans h1, h9.trans h2, by omega, JR_f h4 a3 a4 a5, JR_f h5 b3 b4 b5⟩
theorem GG_g {d d' m m' : St} {p : Nat} (h : GG d m p) (d2 : gI d' 2 = gI d 2) (d3 : gI d' 3 = gI d 3) (d6 : gI d' 6 = gI d 6) (d7 : gI d' 7 = gI d 7) (m3 : gI m' 3 = gI m 3) (m4 : gI m' 4 = gI m 4) (m5 : gI m' 5 = gI m 5) (m6 : gI m' 6 = gI m 6) : GG d' m' p := by
  unfold GG at *
  rw [d2, d3, d6, d7, m3, m4, m5, m6]
  exact h
/-- byte k of a long -/
def b64 (x : Int64) (k : Nat) : Nat := x.toBitVec.toNat / 2 ^ (8 * k) % 2 ^ 8
theorem b64_lt (x : Int64) (k : Nat) : b64 x k < 256 := Nat.mod_lt _ (by decide)
theorem l2i_bv (y : Int64) : y.toInt32.toBitVec = y.toBitVec.setWidth 32 := by
  rw [Int64.toBitVec_toInt32]
  first
    | exact BitVec.signExtend_eq_setWidth_of_le _ (by decide)
    | exact BitVec.signExtend_eq_setWidth_of_lt _ (by decide)
    | exact BitVec.signExtend_eq_truncate_of_lt _ (by decide)
theorem l2i_m (y : Int64) : y.toInt32.toBitVec.toNat % 2 ^ 8 = y.toBitVec.toNat % 2 ^ 8 := by
  have e := l2i_bv y
  rw [e, BitVec.toNat_setWidth, Nat.mod_mod_of_dvd _ (by decide)]
theorem b64_u (x : Int64) {k : Nat} (hk : k < 8) : ((x.toUInt64 >>> ((nI 8 * nI k).toInt64.toUInt64 &&& Int64.toUInt64 63)).toInt64).toInt32 &&& nI 255 = nI (b64 x k) := by
  rw [pk_and _ 8 (by decide), l2i_m]
  unfold b64
  refine congrArg nI ?_
  have key : ∀ (t : UInt64) (s : Nat), ((t.toBitVec) % 64).toNat = s → (x.toUInt64 >>> t).toInt64.toBitVec.toNat = x.toBitVec.toNat / 2 ^ s := by
    intro t s hs
    have e : (x.toUInt64 >>> t).toInt64.toBitVec = x.toBitVec >>> s := by
      rw [← hs]
      exact UInt64.toBitVec_shiftRight _ _
    rw [e, BitVec.toNat_ushiftRight, Nat.shiftRight_eq_div_pow]
  rw [key _ (8 * k)]
  have : ∀ j : Fin 8, (((nI 8 * nI (j : Nat)).toInt64.toUInt64 &&& Int64.toUInt64 63).toBitVec % 64).toNat = 8 * (j : Nat) := by decide
  exact this ⟨k, hk⟩
theorem sshr_mod64 (x : BitVec 64) {k : Nat} (hk : k ≤ 56) : (x.sshiftRight k).toNat % 2 ^ 8 = x.toNat / 2 ^ k % 2 ^ 8 := by
  apply Nat.eq_of_testBit_eq
  intro i
  rw [Nat.testBit_mod_two_pow, Nat.testBit_mod_two_pow, Nat.testBit_div_two_pow]
  by_cases h : i < 8
  · rw [BitVec.testBit_toNat, BitVec.testBit_toNat, BitVec.getLsbD_sshiftRight]
    have h1 : ¬ 64 ≤ i := by omega
    have h2 : k + i < 64 := by omega
    simp [h1, h2, Nat.add_comm]
  · simp [h]
theorem b64_s (x : Int64) {k : Nat} (hk : k < 8) : ((x >>> ((nI 8 * nI k).toInt64 &&& 63)) &&& (255 : Int64)).toInt32 = nI (b64 x k) := by
  have key : ∀ (t : Int64) (s : Nat), s ≤ 56 → (t.toBitVec.smod 64).toNat = s → ((x >>> t) &&& (255 : Int64)).toInt32 = nI (x.toBitVec.toNat / 2 ^ s % 2 ^ 8) := by
    intro t s h56 hs
    have e : (x >>> t).toBitVec = x.toBitVec.sshiftRight s := by
      show x.toBitVec.sshiftRight (t.toBitVec.smod 64).toNat = _
      rw [hs]
    apply Int32.toBitVec_inj.mp
    apply BitVec.eq_of_toNat_eq
    have hlt : x.toBitVec.toNat / 2 ^ s % 2 ^ 8 < 2 ^ 8 := Nat.mod_lt _ (by decide)
    rw [pk_tn (by omega)]
    have e2 := l2i_bv ((x >>> t) &&& (255 : Int64))
    rw [e2, BitVec.toNat_setWidth, Int64.toBitVec_and, BitVec.toNat_and, e, show ((255 : Int64).toBitVec).toNat = 2 ^ 8 - 1 from by decide, Nat.and_two_pow_sub_one_eq_mod, sshr_mod64 _ h56]
    exact Nat.mod_eq_of_lt (by omega)
  unfold b64
  have : ∀ j : Fin 8, (((nI 8 * nI (j : Nat)).toInt64 &&& 63).toBitVec.smod 64).toNat = 8 * (j : Nat) := by decide
  exact key _ (8 * k) (by omega) (this ⟨k, hk⟩)
def wr (g : Nat → Int32) (len : Nat) (x : Int64) : Nat → Nat → Int32
  | 0 => g
  | k + 1 => upd (wr g len x k) (len + k) (nI (b64 x k))
theorem wr_ap (g : Nat → Int32) (len : Nat) (x : Int64) : ∀ k i, wr g len x k i = if len ≤ i ∧ i < len + k then nI (b64 x (i - len)) else g i := by
  intro k
  induction k with
  | zero => intro i; rw [if_neg (by omega)]; rfl
  | succ k ih =>
    intro i
    show upd (wr g len x k) (len + k) (nI (b64 x k)) i = _
    unfold upd
    by_cases h : i = len + k
    · rw [if_pos h, if_pos (by omega), h, show len + k - len = k by omega]
    · rw [if_neg h, ih]
      by_cases h1 : len ≤ i ∧ i < len + k
      · rw [if_pos h1, if_pos (by omega)]
      · rw [if_neg h1, if_neg (by omega)]
section OA
variable {d m : St} {n x p N : Nat} {c l : Nat → Nat}
theorem u_open (h : Rel d m n c l x p) (hN : 100 ≤ N) (y : Int32) : ∃ v d' m', F_X5_open N d y = some (v, d') ∧ F_X6_open m y = some (v, m') ∧ RR n d' m' := by
  have h' := Rel_0 h (nI 0)
  obtain ⟨m', hm'⟩ : ∃ q, q = sI m 0 (nI 0) := ⟨_, rfl⟩
  rw [← hm'] at h'
  have h0 := h'
  obtain ⟨hc, hm, hg, hp⟩ := h'
  have h2 := hc.n60
  have hp60 := hg.2.2.1
  have hu1 := hg.1
  have hu2 := hg.2.1
  have hn := hm.1.1
  have hx := hm.xi
  have same : ∀ {A B : Option (Int32 × St)} (v : Int32), A = some (v, d) → B = some (v, m') → ∃ v d' m', A = some (v, d') ∧ B = some (v, m') ∧ RR n d' m' := fun v e1 e2 => ⟨v, d, _, e1, e2, ⟨c, l, x, p, h0⟩⟩
  unfold F_X5_open F_X6_open
  rw [bnd_s, ← hm']
  rcases sgn y with hy | ⟨k, hk, rfl⟩
  · refine same (-nI 2) ?_ ?_
    · rw [c_lt0n hy]; rfl
    · rw [b_inN hy (by decide)]; rfl
  rw [b_in hk (by decide) (by decide)]
  by_cases q1 : k ≤ 9
  rotate_left
  · refine same (-nI 2) ?_ ?_
    · simp (disch := omega) only [c_lt, c_ge, c_gt, c_le, c_eq, c_ne, c_lt0, c_ge0, c_le0, c_gt0, c_eq0, c_ne0, c_eqm, c_nem, c_m0, c_meq, c_mne, c_mlt, nI_add, pk_mul, Bool.cond_decide, cond_true, cond_false, ldA_n, stA_n, cpA_n, bnd_s, bindP_s, Option.bind_some, gN_sI, gN_sA, gI_sA, gA_sI, gI_eq, gA_eq, gI_ne, gA_ne, sA_sA, sI_sI, if_pos, if_neg, ite_true, ite_false, eq_self, not_true_eq_false, not_false_eq_true, Nat.add_zero, NF_ap]
    · simp (disch := omega) only [c_lt, c_ge, c_gt, c_le, c_eq, c_ne, c_lt0, c_ge0, c_le0, c_gt0, c_eq0, c_ne0, c_eqm, c_nem, c_m0, c_meq, c_mne, c_mlt, nI_add, pk_mul, Bool.cond_decide, cond_true, cond_false, ldA_n, stA_n, cpA_n, bnd_s, bindP_s, Option.bind_some, gN_sI, gN_sA, gI_sA, gA_sI, gI_eq, gA_eq, gI_ne, gA_ne, sA_sA, sI_sI, if_pos, if_neg, ite_true, ite_false, eq_self, not_true_eq_false, not_false_eq_true, Nat.add_zero, NF_ap]
  rcases hp with ⟨o1, o2, jj, oo⟩ | ⟨o1, o2, -⟩
  rotate_left
  · refine same (-nI 3) ?_ ?_
    · rw [o1]
      simp (disch := omega) only [c_lt, c_ge, c_gt, c_le, c_eq, c_ne, c_lt0, c_ge0, c_le0, c_gt0, c_eq0, c_ne0, c_eqm, c_nem, c_m0, c_meq, c_mne, c_mlt, nI_add, pk_mul, Bool.cond_decide, cond_true, cond_false, ldA_n, stA_n, cpA_n, bnd_s, bindP_s, Option.bind_some, gN_sI, gN_sA, gI_sA, gA_sI, gI_eq, gA_eq, gI_ne, gA_ne, sA_sA, sI_sI, if_pos, if_neg, ite_true, ite_false, eq_self, not_true_eq_false, not_false_eq_true, Nat.add_zero, NF_ap]
    · rw [o2]
      simp (disch := omega) only [c_lt, c_ge, c_gt, c_le, c_eq, c_ne, c_lt0, c_ge0, c_le0, c_gt0, c_eq0, c_ne0, c_eqm, c_nem, c_m0, c_meq, c_mne, c_mlt, nI_add, pk_mul, Bool.cond_decide, cond_true, cond_false, ldA_n, stA_n, cpA_n, bnd_s, bindP_s, Option.bind_some, gN_sI, gN_sA, gI_sA, gA_sI, gI_eq, gA_eq, gI_ne, gA_ne, sA_sA, sI_sI, if_pos, if_neg, ite_true, ite_false, eq_self, not_true_eq_false, not_false_eq_true, Nat.add_zero, NF_ap]
  unfold F_X5_isOpen
  rw [o1, o2]
  rcases oo with ⟨i1, i2⟩ | ⟨-, -, kp, len, o, hr⟩
  rotate_left
  · obtain ⟨r1, r2, r3, r4, r5, r6, -⟩ := hr
    refine same (-nI 3) ?_ ?_
    · rw [r5]
      simp (disch := omega) only [c_lt, c_ge, c_gt, c_le, c_eq, c_ne, c_lt0, c_ge0, c_le0, c_gt0, c_eq0, c_ne0, c_eqm, c_nem, c_m0, c_meq, c_mne, c_mlt, nI_add, pk_mul, Bool.cond_decide, cond_true, cond_false, ldA_n, stA_n, cpA_n, bnd_s, bindP_s, Option.bind_some, gN_sI, gN_sA, gI_sA, gA_sI, gI_eq, gA_eq, gI_ne, gA_ne, sA_sA, sI_sI, if_pos, if_neg, ite_true, ite_false, eq_self, not_true_eq_false, not_false_eq_true, Nat.add_zero, NF_ap]
    · rw [r4]
      simp (disch := omega) only [c_lt, c_ge, c_gt, c_le, c_eq, c_ne, c_lt0, c_ge0, c_le0, c_gt0, c_eq0, c_ne0, c_eqm, c_nem, c_m0, c_meq, c_mne, c_mlt, nI_add, pk_mul, Bool.cond_decide, cond_true, cond_false, ldA_n, stA_n, cpA_n, bnd_s, bindP_s, Option.bind_some, gN_sI, gN_sA, gI_sA, gA_sI, gI_eq, gA_eq, gI_ne, gA_ne, sA_sA, sI_sI, if_pos, if_neg, ite_true, ite_false, eq_self, not_true_eq_false, not_false_eq_true, Nat.add_zero, NF_ap]
  rw [i1, i2, a_left hc, hn, hx, pk_sub (by omega), hu1, hu2]
  by_cases q2 : n - x < 5
  · refine same (-nI 4) ?_ ?_
    · simp (disch := omega) only [c_lt, c_ge, c_gt, c_le, c_eq, c_ne, c_lt0, c_ge0, c_le0, c_gt0, c_eq0, c_ne0, c_eqm, c_nem, c_m0, c_meq, c_mne, c_mlt, nI_add, pk_mul, Bool.cond_decide, cond_true, cond_false, ldA_n, stA_n, cpA_n, bnd_s, bindP_s, Option.bind_some, gN_sI, gN_sA, gI_sA, gA_sI, gI_eq, gA_eq, gI_ne, gA_ne, sA_sA, sI_sI, if_pos, if_neg, ite_true, ite_false, eq_self, not_true_eq_false, not_false_eq_true, Nat.add_zero, NF_ap]
    · simp (disch := omega) only [c_lt, c_ge, c_gt, c_le, c_eq, c_ne, c_lt0, c_ge0, c_le0, c_gt0, c_eq0, c_ne0, c_eqm, c_nem, c_m0, c_meq, c_mne, c_mlt, nI_add, pk_mul, Bool.cond_decide, cond_true, cond_false, ldA_n, stA_n, cpA_n, bnd_s, bindP_s, Option.bind_some, gN_sI, gN_sA, gI_sA, gA_sI, gI_eq, gA_eq, gI_ne, gA_ne, sA_sA, sI_sI, if_pos, if_neg, ite_true, ite_false, eq_self, not_true_eq_false, not_false_eq_true, Nat.add_zero, NF_ap]
  by_cases q3 : p < 60
  rotate_left
  · refine same (-nI 4) ?_ ?_
    · simp (disch := omega) only [c_lt, c_ge, c_gt, c_le, c_eq, c_ne, c_lt0, c_ge0, c_le0, c_gt0, c_eq0, c_ne0, c_eqm, c_nem, c_m0, c_meq, c_mne, c_mlt, nI_add, pk_mul, Bool.cond_decide, cond_true, cond_false, ldA_n, stA_n, cpA_n, bnd_s, bindP_s, Option.bind_some, gN_sI, gN_sA, gI_sA, gA_sI, gI_eq, gA_eq, gI_ne, gA_ne, sA_sA, sI_sI, if_pos, if_neg, ite_true, ite_false, eq_self, not_true_eq_false, not_false_eq_true, Nat.add_zero, NF_ap]
    · simp (disch := omega) only [c_lt, c_ge, c_gt, c_le, c_eq, c_ne, c_lt0, c_ge0, c_le0, c_gt0, c_eq0, c_ne0, c_eqm, c_nem, c_m0, c_meq, c_mne, c_mlt, nI_add, pk_mul, Bool.cond_decide, cond_true, cond_false, ldA_n, stA_n, cpA_n, bnd_s, bindP_s, Option.bind_some, gN_sI, gN_sA, gI_sA, gA_sI, gI_eq, gA_eq, gI_ne, gA_ne, sA_sA, sI_sI, if_pos, if_neg, ite_true, ite_false, eq_self, not_true_eq_false, not_false_eq_true, Nat.add_zero, NF_ap]
  refine ⟨nI p, sI (sI (sA d 11 (fun j => if 0 ≤ j ∧ j < 96 then nI 0 else gA d 11 j)) 4 (nI k)) 5 (nI 0), sI (sI m' 7 (nI k)) 8 (nI 0), ?_, ?_, ⟨c, l, x, p, ?_, ?_, ?_, ?_⟩⟩
  · simp (disch := omega) only [c_lt, c_ge, c_gt, c_le, c_eq, c_ne, c_lt0, c_ge0, c_le0, c_gt0, c_eq0, c_ne0, c_eqm, c_nem, c_m0, c_meq, c_mne, c_mlt, nI_add, pk_mul, Bool.cond_decide, cond_true, cond_false, ldA_n, stA_n, cpA_n, bnd_s, bindP_s, Option.bind_some, gN_sI, gN_sA, gI_sA, gA_sI, gI_eq, gA_eq, gI_ne, gA_ne, sA_sA, sI_sI, if_pos, if_neg, ite_true, ite_false, eq_self, not_true_eq_false, not_false_eq_true, Nat.add_zero, NF_ap, a_fill16 hN, hu1]
  · simp (disch := omega) only [c_lt, c_ge, c_gt, c_le, c_eq, c_ne, c_lt0, c_ge0, c_le0, c_gt0, c_eq0, c_ne0, c_eqm, c_nem, c_m0, c_meq, c_mne, c_mlt, nI_add, pk_mul, Bool.cond_decide, cond_true, cond_false, ldA_n, stA_n, cpA_n, bnd_s, bindP_s, Option.bind_some, gN_sI, gN_sA, gI_sA, gA_sI, gI_eq, gA_eq, gI_ne, gA_ne, sA_sA, sI_sI, if_pos, if_neg, ite_true, ite_false, eq_self, not_true_eq_false, not_false_eq_true, Nat.add_zero, NF_ap, hu2]
  · exact CV_sI (CV_sI (CV_sA hc (by decide) _) (by decide) _) (by decide) _
  · exact MV_sI (MV_sI hm (by decide) _) (by decide) _
  · refine GG_g hg ?_ ?_ ?_ ?_ ?_ ?_ ?_ ?_ <;> simp (disch := omega) only [c_lt, c_ge, c_gt, c_le, c_eq, c_ne, c_lt0, c_ge0, c_le0, c_gt0, c_eq0, c_ne0, c_eqm, c_nem, c_m0, c_meq, c_mne, c_mlt, nI_add, pk_mul, Bool.cond_decide, cond_true, cond_false, ldA_n, stA_n, cpA_n, bnd_s, bindP_s, Option.bind_some, gN_sI, gN_sA, gI_sA, gA_sI, gI_eq, gA_eq, gI_ne, gA_ne, sA_sA, sI_sI, if_pos, if_neg, ite_true, ite_false, eq_self, not_true_eq_false, not_false_eq_true, Nat.add_zero, NF_ap]
  · refine Or.inl ⟨?_, ?_, JJ_g jj (Nat.le_refl x) ?_ ?_ ?_ ?_ ?_ ?_ ?_ ?_, Or.inr ⟨by omega, q3, k, 0, fun _ => 0, q1, by omega, ?_, ?_, ?_, ?_, ?_, fun _ => Nat.zero_lt_succ 255, fun _ _ _ => rfl, fun i hi => by omega⟩⟩
    · simp (disch := omega) only [c_lt, c_ge, c_gt, c_le, c_eq, c_ne, c_lt0, c_ge0, c_le0, c_gt0, c_eq0, c_ne0, c_eqm, c_nem, c_m0, c_meq, c_mne, c_mlt, nI_add, pk_mul, Bool.cond_decide, cond_true, cond_false, ldA_n, stA_n, cpA_n, bnd_s, bindP_s, Option.bind_some, gN_sI, gN_sA, gI_sA, gA_sI, gI_eq, gA_eq, gI_ne, gA_ne, sA_sA, sI_sI, if_pos, if_neg, ite_true, ite_false, eq_self, not_true_eq_false, not_false_eq_true, Nat.add_zero, NF_ap]
      exact o1
    · simp (disch := omega) only [c_lt, c_ge, c_gt, c_le, c_eq, c_ne, c_lt0, c_ge0, c_le0, c_gt0, c_eq0, c_ne0, c_eqm, c_nem, c_m0, c_meq, c_mne, c_mlt, nI_add, pk_mul, Bool.cond_decide, cond_true, cond_false, ldA_n, stA_n, cpA_n, bnd_s, bindP_s, Option.bind_some, gN_sI, gN_sA, gI_sA, gA_sI, gI_eq, gA_eq, gI_ne, gA_ne, sA_sA, sI_sI, if_pos, if_neg, ite_true, ite_false, eq_self, not_true_eq_false, not_false_eq_true, Nat.add_zero, NF_ap]
      exact o2
    · simp (disch := omega) only [c_lt, c_ge, c_gt, c_le, c_eq, c_ne, c_lt0, c_ge0, c_le0, c_gt0, c_eq0, c_ne0, c_eqm, c_nem, c_m0, c_meq, c_mne, c_mlt, nI_add, pk_mul, Bool.cond_decide, cond_true, cond_false, ldA_n, stA_n, cpA_n, bnd_s, bindP_s, Option.bind_some, gN_sI, gN_sA, gI_sA, gA_sI, gI_eq, gA_eq, gI_ne, gA_ne, sA_sA, sI_sI, if_pos, if_neg, ite_true, ite_false, eq_self, not_true_eq_false, not_false_eq_true, Nat.add_zero, NF_ap]
    · simp (disch := omega) only [c_lt, c_ge, c_gt, c_le, c_eq, c_ne, c_lt0, c_ge0, c_le0, c_gt0, c_eq0, c_ne0, c_eqm, c_nem, c_m0, c_meq, c_mne, c_mlt, nI_add, pk_mul, Bool.cond_decide, cond_true, cond_false, ldA_n, stA_n, cpA_n, bnd_s, bindP_s, Option.bind_some, gN_sI, gN_sA, gI_sA, gA_sI, gI_eq, gA_eq, gI_ne, gA_ne, sA_sA, sI_sI, if_pos, if_neg, ite_true, ite_false, eq_self, not_true_eq_false, not_false_eq_true, Nat.add_zero, NF_ap]
    · simp (disch := omega) only [c_lt, c_ge, c_gt, c_le, c_eq, c_ne, c_lt0, c_ge0, c_le0, c_gt0, c_eq0, c_ne0, c_eqm, c_nem, c_m0, c_meq, c_mne, c_mlt, nI_add, pk_mul, Bool.cond_decide, cond_true, cond_false, ldA_n, stA_n, cpA_n, bnd_s, bindP_s, Option.bind_some, gN_sI, gN_sA, gI_sA, gA_sI, gI_eq, gA_eq, gI_ne, gA_ne, sA_sA, sI_sI, if_pos, if_neg, ite_true, ite_false, eq_self, not_true_eq_false, not_false_eq_true, Nat.add_zero, NF_ap]
    · simp (disch := omega) only [c_lt, c_ge, c_gt, c_le, c_eq, c_ne, c_lt0, c_ge0, c_le0, c_gt0, c_eq0, c_ne0, c_eqm, c_nem, c_m0, c_meq, c_mne, c_mlt, nI_add, pk_mul, Bool.cond_decide, cond_true, cond_false, ldA_n, stA_n, cpA_n, bnd_s, bindP_s, Option.bind_some, gN_sI, gN_sA, gI_sA, gA_sI, gI_eq, gA_eq, gI_ne, gA_ne, sA_sA, sI_sI, if_pos, if_neg, ite_true, ite_false, eq_self, not_true_eq_false, not_false_eq_true, Nat.add_zero, NF_ap]
    · simp (disch := omega) only [c_lt, c_ge, c_gt, c_le, c_eq, c_ne, c_lt0, c_ge0, c_le0, c_gt0, c_eq0, c_ne0, c_eqm, c_nem, c_m0, c_meq, c_mne, c_mlt, nI_add, pk_mul, Bool.cond_decide, cond_true, cond_false, ldA_n, stA_n, cpA_n, bnd_s, bindP_s, Option.bind_some, gN_sI, gN_sA, gI_sA, gA_sI, gI_eq, gA_eq, gI_ne, gA_ne, sA_sA, sI_sI, if_pos, if_neg, ite_true, ite_false, eq_self, not_true_eq_false, not_false_eq_true, Nat.add_zero, NF_ap]
    · simp (disch := omega) only [c_lt, c_ge, c_gt, c_le, c_eq, c_ne, c_lt0, c_ge0, c_le0, c_gt0, c_eq0, c_ne0, c_eqm, c_nem, c_m0, c_meq, c_mne, c_mlt, nI_add, pk_mul, Bool.cond_decide, cond_true, cond_false, ldA_n, stA_n, cpA_n, bnd_s, bindP_s, Option.bind_some, gN_sI, gN_sA, gI_sA, gA_sI, gI_eq, gA_eq, gI_ne, gA_ne, sA_sA, sI_sI, if_pos, if_neg, ite_true, ite_false, eq_self, not_true_eq_false, not_false_eq_true, Nat.add_zero, NF_ap]
    · simp (disch := omega) only [c_lt, c_ge, c_gt, c_le, c_eq, c_ne, c_lt0, c_ge0, c_le0, c_gt0, c_eq0, c_ne0, c_eqm, c_nem, c_m0, c_meq, c_mne, c_mlt, nI_add, pk_mul, Bool.cond_decide, cond_true, cond_false, ldA_n, stA_n, cpA_n, bnd_s, bindP_s, Option.bind_some, gN_sI, gN_sA, gI_sA, gA_sI, gI_eq, gA_eq, gI_ne, gA_ne, sA_sA, sI_sI, if_pos, if_neg, ite_true, ite_false, eq_self, not_true_eq_false, not_false_eq_true, Nat.add_zero, NF_ap]
    · simp (disch := omega) only [c_lt, c_ge, c_gt, c_le, c_eq, c_ne, c_lt0, c_ge0, c_le0, c_gt0, c_eq0, c_ne0, c_eqm, c_nem, c_m0, c_meq, c_mne, c_mlt, nI_add, pk_mul, Bool.cond_decide, cond_true, cond_false, ldA_n, stA_n, cpA_n, bnd_s, bindP_s, Option.bind_some, gN_sI, gN_sA, gI_sA, gA_sI, gI_eq, gA_eq, gI_ne, gA_ne, sA_sA, sI_sI, if_pos, if_neg, ite_true, ite_false, eq_self, not_true_eq_false, not_false_eq_true, Nat.add_zero, NF_ap]
    · simp (disch := omega) only [c_lt, c_ge, c_gt, c_le, c_eq, c_ne, c_lt0, c_ge0, c_le0, c_gt0, c_eq0, c_ne0, c_eqm, c_nem, c_m0, c_meq, c_mne, c_mlt, nI_add, pk_mul, Bool.cond_decide, cond_true, cond_false, ldA_n, stA_n, cpA_n, bnd_s, bindP_s, Option.bind_some, gN_sI, gN_sA, gI_sA, gA_sI, gI_eq, gA_eq, gI_ne, gA_ne, sA_sA, sI_sI, if_pos, if_neg, ite_true, ite_false, eq_self, not_true_eq_false, not_false_eq_true, Nat.add_zero, NF_ap]
    · simp (disch := omega) only [c_lt, c_ge, c_gt, c_le, c_eq, c_ne, c_lt0, c_ge0, c_le0, c_gt0, c_eq0, c_ne0, c_eqm, c_nem, c_m0, c_meq, c_mne, c_mlt, nI_add, pk_mul, Bool.cond_decide, cond_true, cond_false, ldA_n, stA_n, cpA_n, bnd_s, bindP_s, Option.bind_some, gN_sI, gN_sA, gI_sA, gA_sI, gI_eq, gA_eq, gI_ne, gA_ne, sA_sA, sI_sI, if_pos, if_neg, ite_true, ite_false, eq_self, not_true_eq_false, not_false_eq_true, Nat.add_zero, NF_ap]
    · simp (disch := omega) only [c_lt, c_ge, c_gt, c_le, c_eq, c_ne, c_lt0, c_ge0, c_le0, c_gt0, c_eq0, c_ne0, c_eqm, c_nem, c_m0, c_meq, c_mne, c_mlt, nI_add, pk_mul, Bool.cond_decide, cond_true, cond_false, ldA_n, stA_n, cpA_n, bnd_s, bindP_s, Option.bind_some, gN_sI, gN_sA, gI_sA, gA_sI, gI_eq, gA_eq, gI_ne, gA_ne, sA_sA, sI_sI, if_pos, if_neg, ite_true, ite_false, eq_self, not_true_eq_false, not_false_eq_true, Nat.add_zero, NF_ap]
    · simp (disch := omega) only [c_lt, c_ge, c_gt, c_le, c_eq, c_ne, c_lt0, c_ge0, c_le0, c_gt0, c_eq0, c_ne0, c_eqm, c_nem, c_m0, c_meq, c_mne, c_mlt, nI_add, pk_mul, Bool.cond_decide, cond_true, cond_false, ldA_n, stA_n, cpA_n, bnd_s, bindP_s, Option.bind_some, gN_sI, gN_sA, gI_sA, gA_sI, gI_eq, gA_eq, gI_ne, gA_ne, sA_sA, sI_sI, if_pos, if_neg, ite_true, ite_false, eq_self, not_true_eq_false, not_false_eq_true, Nat.add_zero, NF_ap]
    · intro i hi
      simp (disch := omega) only [c_lt, c_ge, c_gt, c_le, c_eq, c_ne, c_lt0, c_ge0, c_le0, c_gt0, c_eq0, c_ne0, c_eqm, c_nem, c_m0, c_meq, c_mne, c_mlt, nI_add, pk_mul, Bool.cond_decide, cond_true, cond_false, ldA_n, stA_n, cpA_n, bnd_s, bindP_s, Option.bind_some, gN_sI, gN_sA, gI_sA, gA_sI, gI_eq, gA_eq, gI_ne, gA_ne, sA_sA, sI_sI, if_pos, if_neg, ite_true, ite_false, eq_self, not_true_eq_false, not_false_eq_true, Nat.add_zero, NF_ap]
theorem u_add (h : Rel d m n c l x p) (hN : 100 ≤ N) (y : Int64) (z : Int32) : ∃ v d' m', F_X5_add N d y z = some (v, d') ∧ F_X6_add N m y z = some (v, m') ∧ RR n d' m' := by
  have h' := Rel_0 h (nI 0)
  obtain ⟨m', hm'⟩ : ∃ q, q = sI m 0 (nI 0) := ⟨_, rfl⟩
  rw [← hm'] at h'
  have h0 := h'
  obtain ⟨hc, hm, hg, hp⟩ := h'
  have h2 := hc.n60
  have same : ∀ {A B : Option (Int32 × St)} (v : Int32), A = some (v, d) → B = some (v, m') → ∃ v d' m', A = some (v, d') ∧ B = some (v, m') ∧ RR n d' m' := fun v e1 e2 => ⟨v, d, _, e1, e2, ⟨c, l, x, p, h0⟩⟩
  unfold F_X5_add F_X6_add
  rw [bnd_s, ← hm']
  rcases sgn z with hy | ⟨q, hq, rfl⟩
  · refine same (-nI 2) ?_ ?_
    · rw [c_ltn hy (by decide)]; rfl
    · rw [b_inN hy (by decide)]; rfl
  rw [b_in hq (by decide) (by decide)]
  by_cases q1 : 1 ≤ q ∧ q ≤ 8
  rotate_left
  · refine same (-nI 2) ?_ ?_
    · by_cases q2 : q < 1
      · simp (disch := omega) only [c_lt, c_ge, c_gt, c_le, c_eq, c_ne, c_lt0, c_ge0, c_le0, c_gt0, c_eq0, c_ne0, c_eqm, c_nem, c_m0, c_meq, c_mne, c_mlt, nI_add, pk_mul, Bool.cond_decide, cond_true, cond_false, ldA_n, stA_n, cpA_n, bnd_s, bindP_s, Option.bind_some, gN_sI, gN_sA, gI_sA, gA_sI, gI_eq, gA_eq, gI_ne, gA_ne, sA_sA, sI_sI, if_pos, if_neg, ite_true, ite_false, eq_self, not_true_eq_false, not_false_eq_true, Nat.add_zero, NF_ap]
      · simp (disch := omega) only [c_lt, c_ge, c_gt, c_le, c_eq, c_ne, c_lt0, c_ge0, c_le0, c_gt0, c_eq0, c_ne0, c_eqm, c_nem, c_m0, c_meq, c_mne, c_mlt, nI_add, pk_mul, Bool.cond_decide, cond_true, cond_false, ldA_n, stA_n, cpA_n, bnd_s, bindP_s, Option.bind_some, gN_sI, gN_sA, gI_sA, gA_sI, gI_eq, gA_eq, gI_ne, gA_ne, sA_sA, sI_sI, if_pos, if_neg, ite_true, ite_false, eq_self, not_true_eq_false, not_false_eq_true, Nat.add_zero, NF_ap]
    · simp (disch := omega) only [c_lt, c_ge, c_gt, c_le, c_eq, c_ne, c_lt0, c_ge0, c_le0, c_gt0, c_eq0, c_ne0, c_eqm, c_nem, c_m0, c_meq, c_mne, c_mlt, nI_add, pk_mul, Bool.cond_decide, cond_true, cond_false, ldA_n, stA_n, cpA_n, bnd_s, bindP_s, Option.bind_some, gN_sI, gN_sA, gI_sA, gA_sI, gI_eq, gA_eq, gI_ne, gA_ne, sA_sA, sI_sI, if_pos, if_neg, ite_true, ite_false, eq_self, not_true_eq_false, not_false_eq_true, Nat.add_zero, NF_ap]
  rcases hp with ⟨o1, o2, jj, oo⟩ | ⟨o1, o2, -⟩
  rotate_left
  · refine same (-nI 3) ?_ ?_
    · rw [o1]
      simp (disch := omega) only [c_lt, c_ge, c_gt, c_le, c_eq, c_ne, c_lt0, c_ge0, c_le0, c_gt0, c_eq0, c_ne0, c_eqm, c_nem, c_m0, c_meq, c_mne, c_mlt, nI_add, pk_mul, Bool.cond_decide, cond_true, cond_false, ldA_n, stA_n, cpA_n, bnd_s, bindP_s, Option.bind_some, gN_sI, gN_sA, gI_sA, gA_sI, gI_eq, gA_eq, gI_ne, gA_ne, sA_sA, sI_sI, if_pos, if_neg, ite_true, ite_false, eq_self, not_true_eq_false, not_false_eq_true, Nat.add_zero, NF_ap]
    · rw [o2]
      simp (disch := omega) only [c_lt, c_ge, c_gt, c_le, c_eq, c_ne, c_lt0, c_ge0, c_le0, c_gt0, c_eq0, c_ne0, c_eqm, c_nem, c_m0, c_meq, c_mne, c_mlt, nI_add, pk_mul, Bool.cond_decide, cond_true, cond_false, ldA_n, stA_n, cpA_n, bnd_s, bindP_s, Option.bind_some, gN_sI, gN_sA, gI_sA, gA_sI, gI_eq, gA_eq, gI_ne, gA_ne, sA_sA, sI_sI, if_pos, if_neg, ite_true, ite_false, eq_self, not_true_eq_false, not_false_eq_true, Nat.add_zero, NF_ap]
  unfold F_X5_isOpen
  rw [o1, o2]
  rcases oo with ⟨i1, i2⟩ | ⟨hx5, hp60, kp, len, o, hr⟩
  · refine same (-nI 3) ?_ ?_
    · rw [i1]
      simp (disch := omega) only [c_lt, c_ge, c_gt, c_le, c_eq, c_ne, c_lt0, c_ge0, c_le0, c_gt0, c_eq0, c_ne0, c_eqm, c_nem, c_m0, c_meq, c_mne, c_mlt, nI_add, pk_mul, Bool.cond_decide, cond_true, cond_false, ldA_n, stA_n, cpA_n, bnd_s, bindP_s, Option.bind_some, gN_sI, gN_sA, gI_sA, gA_sI, gI_eq, gA_eq, gI_ne, gA_ne, sA_sA, sI_sI, if_pos, if_neg, ite_true, ite_false, eq_self, not_true_eq_false, not_false_eq_true, Nat.add_zero, NF_ap]
    · rw [i2]
      simp (disch := omega) only [c_lt, c_ge, c_gt, c_le, c_eq, c_ne, c_lt0, c_ge0, c_le0, c_gt0, c_eq0, c_ne0, c_eqm, c_nem, c_m0, c_meq, c_mne, c_mlt, nI_add, pk_mul, Bool.cond_decide, cond_true, cond_false, ldA_n, stA_n, cpA_n, bnd_s, bindP_s, Option.bind_some, gN_sI, gN_sA, gI_sA, gA_sI, gI_eq, gA_eq, gI_ne, gA_ne, sA_sA, sI_sI, if_pos, if_neg, ite_true, ite_false, eq_self, not_true_eq_false, not_false_eq_true, Nat.add_zero, NF_ap]
  obtain ⟨r1, r2, r3, r4, r5, r6, r7, r8, r9, r10⟩ := hr
  rw [r4, r5, r6]
  by_cases q2 : len + q ≤ 96
  rotate_left
  · refine same (-nI 4) ?_ ?_
    · simp (disch := omega) only [c_lt, c_ge, c_gt, c_le, c_eq, c_ne, c_lt0, c_ge0, c_le0, c_gt0, c_eq0, c_ne0, c_eqm, c_nem, c_m0, c_meq, c_mne, c_mlt, nI_add, pk_mul, Bool.cond_decide, cond_true, cond_false, ldA_n, stA_n, cpA_n, bnd_s, bindP_s, Option.bind_some, gN_sI, gN_sA, gI_sA, gA_sI, gI_eq, gA_eq, gI_ne, gA_ne, sA_sA, sI_sI, if_pos, if_neg, ite_true, ite_false, eq_self, not_true_eq_false, not_false_eq_true, Nat.add_zero, NF_ap]
    · simp (disch := omega) only [c_lt, c_ge, c_gt, c_le, c_eq, c_ne, c_lt0, c_ge0, c_le0, c_gt0, c_eq0, c_ne0, c_eqm, c_nem, c_m0, c_meq, c_mne, c_mlt, nI_add, pk_mul, Bool.cond_decide, cond_true, cond_false, ldA_n, stA_n, cpA_n, bnd_s, bindP_s, Option.bind_some, gN_sI, gN_sA, gI_sA, gA_sI, gI_eq, gA_eq, gI_ne, gA_ne, sA_sA, sI_sI, if_pos, if_neg, ite_true, ite_false, eq_self, not_true_eq_false, not_false_eq_true, Nat.add_zero, NF_ap]
  have k1 : ∀ a k f, k + a = q → a < f → F_X5_add_48 N f (sA d 11 (wr (gA d 11) len y k)) y (nI q) (nI k) = some (nI (len + q), sI (sA d 11 (wr (gA d 11) len y q)) 5 (nI (len + q))) := by
    intro a
    induction a with
    | zero =>
      intro k f e1 e2
      obtain ⟨f, rfl⟩ : ∃ q, f = q + 1 := ⟨f - 1, by omega⟩
      obtain rfl : k = q := by omega
      rw [F_X5_add_48.eq_2]
      simp (disch := omega) only [c_lt, c_ge, c_gt, c_le, c_eq, c_ne, c_lt0, c_ge0, c_le0, c_gt0, c_eq0, c_ne0, c_eqm, c_nem, c_m0, c_meq, c_mne, c_mlt, nI_add, pk_mul, Bool.cond_decide, cond_true, cond_false, ldA_n, stA_n, cpA_n, bnd_s, bindP_s, Option.bind_some, gN_sI, gN_sA, gI_sA, gA_sI, gI_eq, gA_eq, gI_ne, gA_ne, sA_sA, sI_sI, if_pos, if_neg, ite_true, ite_false, eq_self, not_true_eq_false, not_false_eq_true, Nat.add_zero, NF_ap, r5]
    | succ a ih =>
      intro k f e1 e2
      obtain ⟨f, rfl⟩ : ∃ q, f = q + 1 := ⟨f - 1, by omega⟩
      rw [F_X5_add_48.eq_2, b64_u y (by omega)]
      simp (disch := omega) only [c_lt, c_ge, c_gt, c_le, c_eq, c_ne, c_lt0, c_ge0, c_le0, c_gt0, c_eq0, c_ne0, c_eqm, c_nem, c_m0, c_meq, c_mne, c_mlt, nI_add, pk_mul, Bool.cond_decide, cond_true, cond_false, ldA_n, stA_n, cpA_n, bnd_s, bindP_s, Option.bind_some, gN_sI, gN_sA, gI_sA, gA_sI, gI_eq, gA_eq, gI_ne, gA_ne, sA_sA, sI_sI, if_pos, if_neg, ite_true, ite_false, eq_self, not_true_eq_false, not_false_eq_true, Nat.add_zero, NF_ap, r5]
      exact ih (k + 1) f (by omega) (by omega)
  have k2 : ∀ a k f, k + a = q → a < f → F_X6_add_53 N f (sI (sA m' 2 (wr (gA m' 2) len y k)) 8 (nI (len + k))) y (nI q) (nI k) = some (nI (len + q), sI (sA m' 2 (wr (gA m' 2) len y q)) 8 (nI (len + q))) := by
    intro a
    induction a with
    | zero =>
      intro k f e1 e2
      obtain ⟨f, rfl⟩ : ∃ q, f = q + 1 := ⟨f - 1, by omega⟩
      obtain rfl : k = q := by omega
      rw [F_X6_add_53.eq_2]
      simp (disch := omega) only [c_lt, c_ge, c_gt, c_le, c_eq, c_ne, c_lt0, c_ge0, c_le0, c_gt0, c_eq0, c_ne0, c_eqm, c_nem, c_m0, c_meq, c_mne, c_mlt, nI_add, pk_mul, Bool.cond_decide, cond_true, cond_false, ldA_n, stA_n, cpA_n, bnd_s, bindP_s, Option.bind_some, gN_sI, gN_sA, gI_sA, gA_sI, gI_eq, gA_eq, gI_ne, gA_ne, sA_sA, sI_sI, if_pos, if_neg, ite_true, ite_false, eq_self, not_true_eq_false, not_false_eq_true, Nat.add_zero, NF_ap]
    | succ a ih =>
      intro k f e1 e2
      obtain ⟨f, rfl⟩ : ∃ q, f = q + 1 := ⟨f - 1, by omega⟩
      rw [F_X6_add_53.eq_2, b64_s y (by omega)]
      simp (disch := omega) only [c_lt, c_ge, c_gt, c_le, c_eq, c_ne, c_lt0, c_ge0, c_le0, c_gt0, c_eq0, c_ne0, c_eqm, c_nem, c_m0, c_meq, c_mne, c_mlt, nI_add, pk_mul, Bool.cond_decide, cond_true, cond_false, ldA_n, stA_n, cpA_n, bnd_s, bindP_s, Option.bind_some, gN_sI, gN_sA, gI_sA, gA_sI, gI_eq, gA_eq, gI_ne, gA_ne, sA_sA, sI_sI, if_pos, if_neg, ite_true, ite_false, eq_self, not_true_eq_false, not_false_eq_true, Nat.add_zero, NF_ap, sIA_cm]
      exact ih (k + 1) f (by omega) (by omega)
  have e1 := k1 q 0 N (by omega) (by omega)
  rw [show wr (gA d 11) len y 0 = gA d 11 from rfl, sA_id] at e1
  have e2 := k2 q 0 N (by omega) (by omega)
  rw [show wr (gA m' 2) len y 0 = gA m' 2 from rfl, sA_id, Nat.add_zero, ← r6, sI_id] at e2
  refine ⟨nI (len + q), sI (sA d 11 (wr (gA d 11) len y q)) 5 (nI (len + q)), sI (sA m' 2 (wr (gA m' 2) len y q)) 8 (nI (len + q)), ?_, ?_, ⟨c, l, x, p, ?_, ?_, ?_, ?_⟩⟩
  rotate_left
  rotate_left
  · exact CV_sI (CV_sA hc (k := 11) (by decide) (wr (gA d 11) len y q)) (k := 5) (by decide) (nI (len + q))
  · exact MV_sI (MV_sA hm (k := 2) (by decide) (wr (gA m' 2) len y q)) (k := 8) (by decide) (nI (len + q))
  · refine GG_g hg ?_ ?_ ?_ ?_ ?_ ?_ ?_ ?_ <;> simp (disch := omega) only [c_lt, c_ge, c_gt, c_le, c_eq, c_ne, c_lt0, c_ge0, c_le0, c_gt0, c_eq0, c_ne0, c_eqm, c_nem, c_m0, c_meq, c_mne, c_mlt, nI_add, pk_mul, Bool.cond_decide, cond_true, cond_false, ldA_n, stA_n, cpA_n, bnd_s, bindP_s, Option.bind_some, gN_sI, gN_sA, gI_sA, gA_sI, gI_eq, gA_eq, gI_ne, gA_ne, sA_sA, sI_sI, if_pos, if_neg, ite_true, ite_false, eq_self, not_true_eq_false, not_false_eq_true, Nat.add_zero, NF_ap]
  · refine Or.inl ⟨?_, ?_, JJ_g jj (Nat.le_refl x) ?_ ?_ ?_ ?_ ?_ ?_ ?_ ?_, Or.inr ⟨hx5, hp60, kp, len + q, fun i => if len ≤ i ∧ i < len + q then b64 y (i - len) else o i, r1, q2, ?_, ?_, ?_, ?_, ?_, ?_, ?_, ?_⟩⟩
    · simp (disch := omega) only [c_lt, c_ge, c_gt, c_le, c_eq, c_ne, c_lt0, c_ge0, c_le0, c_gt0, c_eq0, c_ne0, c_eqm, c_nem, c_m0, c_meq, c_mne, c_mlt, nI_add, pk_mul, Bool.cond_decide, cond_true, cond_false, ldA_n, stA_n, cpA_n, bnd_s, bindP_s, Option.bind_some, gN_sI, gN_sA, gI_sA, gA_sI, gI_eq, gA_eq, gI_ne, gA_ne, sA_sA, sI_sI, if_pos, if_neg, ite_true, ite_false, eq_self, not_true_eq_false, not_false_eq_true, Nat.add_zero, NF_ap]
      exact o1
    · simp (disch := omega) only [c_lt, c_ge, c_gt, c_le, c_eq, c_ne, c_lt0, c_ge0, c_le0, c_gt0, c_eq0, c_ne0, c_eqm, c_nem, c_m0, c_meq, c_mne, c_mlt, nI_add, pk_mul, Bool.cond_decide, cond_true, cond_false, ldA_n, stA_n, cpA_n, bnd_s, bindP_s, Option.bind_some, gN_sI, gN_sA, gI_sA, gA_sI, gI_eq, gA_eq, gI_ne, gA_ne, sA_sA, sI_sI, if_pos, if_neg, ite_true, ite_false, eq_self, not_true_eq_false, not_false_eq_true, Nat.add_zero, NF_ap]
      exact o2
    · simp (disch := omega) only [c_lt, c_ge, c_gt, c_le, c_eq, c_ne, c_lt0, c_ge0, c_le0, c_gt0, c_eq0, c_ne0, c_eqm, c_nem, c_m0, c_meq, c_mne, c_mlt, nI_add, pk_mul, Bool.cond_decide, cond_true, cond_false, ldA_n, stA_n, cpA_n, bnd_s, bindP_s, Option.bind_some, gN_sI, gN_sA, gI_sA, gA_sI, gI_eq, gA_eq, gI_ne, gA_ne, sA_sA, sI_sI, if_pos, if_neg, ite_true, ite_false, eq_self, not_true_eq_false, not_false_eq_true, Nat.add_zero, NF_ap]
    · simp (disch := omega) only [c_lt, c_ge, c_gt, c_le, c_eq, c_ne, c_lt0, c_ge0, c_le0, c_gt0, c_eq0, c_ne0, c_eqm, c_nem, c_m0, c_meq, c_mne, c_mlt, nI_add, pk_mul, Bool.cond_decide, cond_true, cond_false, ldA_n, stA_n, cpA_n, bnd_s, bindP_s, Option.bind_some, gN_sI, gN_sA, gI_sA, gA_sI, gI_eq, gA_eq, gI_ne, gA_ne, sA_sA, sI_sI, if_pos, if_neg, ite_true, ite_false, eq_self, not_true_eq_false, not_false_eq_true, Nat.add_zero, NF_ap]
    · simp (disch := omega) only [c_lt, c_ge, c_gt, c_le, c_eq, c_ne, c_lt0, c_ge0, c_le0, c_gt0, c_eq0, c_ne0, c_eqm, c_nem, c_m0, c_meq, c_mne, c_mlt, nI_add, pk_mul, Bool.cond_decide, cond_true, cond_false, ldA_n, stA_n, cpA_n, bnd_s, bindP_s, Option.bind_some, gN_sI, gN_sA, gI_sA, gA_sI, gI_eq, gA_eq, gI_ne, gA_ne, sA_sA, sI_sI, if_pos, if_neg, ite_true, ite_false, eq_self, not_true_eq_false, not_false_eq_true, Nat.add_zero, NF_ap]
    · simp (disch := omega) only [c_lt, c_ge, c_gt, c_le, c_eq, c_ne, c_lt0, c_ge0, c_le0, c_gt0, c_eq0, c_ne0, c_eqm, c_nem, c_m0, c_meq, c_mne, c_mlt, nI_add, pk_mul, Bool.cond_decide, cond_true, cond_false, ldA_n, stA_n, cpA_n, bnd_s, bindP_s, Option.bind_some, gN_sI, gN_sA, gI_sA, gA_sI, gI_eq, gA_eq, gI_ne, gA_ne, sA_sA, sI_sI, if_pos, if_neg, ite_true, ite_false, eq_self, not_true_eq_false, not_false_eq_true, Nat.add_zero, NF_ap]
    · simp (disch := omega) only [c_lt, c_ge, c_gt, c_le, c_eq, c_ne, c_lt0, c_ge0, c_le0, c_gt0, c_eq0, c_ne0, c_eqm, c_nem, c_m0, c_meq, c_mne, c_mlt, nI_add, pk_mul, Bool.cond_decide, cond_true, cond_false, ldA_n, stA_n, cpA_n, bnd_s, bindP_s, Option.bind_some, gN_sI, gN_sA, gI_sA, gA_sI, gI_eq, gA_eq, gI_ne, gA_ne, sA_sA, sI_sI, if_pos, if_neg, ite_true, ite_false, eq_self, not_true_eq_false, not_false_eq_true, Nat.add_zero, NF_ap]
    · simp (disch := omega) only [c_lt, c_ge, c_gt, c_le, c_eq, c_ne, c_lt0, c_ge0, c_le0, c_gt0, c_eq0, c_ne0, c_eqm, c_nem, c_m0, c_meq, c_mne, c_mlt, nI_add, pk_mul, Bool.cond_decide, cond_true, cond_false, ldA_n, stA_n, cpA_n, bnd_s, bindP_s, Option.bind_some, gN_sI, gN_sA, gI_sA, gA_sI, gI_eq, gA_eq, gI_ne, gA_ne, sA_sA, sI_sI, if_pos, if_neg, ite_true, ite_false, eq_self, not_true_eq_false, not_false_eq_true, Nat.add_zero, NF_ap]
    · simp (disch := omega) only [c_lt, c_ge, c_gt, c_le, c_eq, c_ne, c_lt0, c_ge0, c_le0, c_gt0, c_eq0, c_ne0, c_eqm, c_nem, c_m0, c_meq, c_mne, c_mlt, nI_add, pk_mul, Bool.cond_decide, cond_true, cond_false, ldA_n, stA_n, cpA_n, bnd_s, bindP_s, Option.bind_some, gN_sI, gN_sA, gI_sA, gA_sI, gI_eq, gA_eq, gI_ne, gA_ne, sA_sA, sI_sI, if_pos, if_neg, ite_true, ite_false, eq_self, not_true_eq_false, not_false_eq_true, Nat.add_zero, NF_ap]
    · simp (disch := omega) only [c_lt, c_ge, c_gt, c_le, c_eq, c_ne, c_lt0, c_ge0, c_le0, c_gt0, c_eq0, c_ne0, c_eqm, c_nem, c_m0, c_meq, c_mne, c_mlt, nI_add, pk_mul, Bool.cond_decide, cond_true, cond_false, ldA_n, stA_n, cpA_n, bnd_s, bindP_s, Option.bind_some, gN_sI, gN_sA, gI_sA, gA_sI, gI_eq, gA_eq, gI_ne, gA_ne, sA_sA, sI_sI, if_pos, if_neg, ite_true, ite_false, eq_self, not_true_eq_false, not_false_eq_true, Nat.add_zero, NF_ap]
    · simp (disch := omega) only [c_lt, c_ge, c_gt, c_le, c_eq, c_ne, c_lt0, c_ge0, c_le0, c_gt0, c_eq0, c_ne0, c_eqm, c_nem, c_m0, c_meq, c_mne, c_mlt, nI_add, pk_mul, Bool.cond_decide, cond_true, cond_false, ldA_n, stA_n, cpA_n, bnd_s, bindP_s, Option.bind_some, gN_sI, gN_sA, gI_sA, gA_sI, gI_eq, gA_eq, gI_ne, gA_ne, sA_sA, sI_sI, if_pos, if_neg, ite_true, ite_false, eq_self, not_true_eq_false, not_false_eq_true, Nat.add_zero, NF_ap]
      exact r3
    · simp (disch := omega) only [c_lt, c_ge, c_gt, c_le, c_eq, c_ne, c_lt0, c_ge0, c_le0, c_gt0, c_eq0, c_ne0, c_eqm, c_nem, c_m0, c_meq, c_mne, c_mlt, nI_add, pk_mul, Bool.cond_decide, cond_true, cond_false, ldA_n, stA_n, cpA_n, bnd_s, bindP_s, Option.bind_some, gN_sI, gN_sA, gI_sA, gA_sI, gI_eq, gA_eq, gI_ne, gA_ne, sA_sA, sI_sI, if_pos, if_neg, ite_true, ite_false, eq_self, not_true_eq_false, not_false_eq_true, Nat.add_zero, NF_ap]
      exact r4
    · simp (disch := omega) only [c_lt, c_ge, c_gt, c_le, c_eq, c_ne, c_lt0, c_ge0, c_le0, c_gt0, c_eq0, c_ne0, c_eqm, c_nem, c_m0, c_meq, c_mne, c_mlt, nI_add, pk_mul, Bool.cond_decide, cond_true, cond_false, ldA_n, stA_n, cpA_n, bnd_s, bindP_s, Option.bind_some, gN_sI, gN_sA, gI_sA, gA_sI, gI_eq, gA_eq, gI_ne, gA_ne, sA_sA, sI_sI, if_pos, if_neg, ite_true, ite_false, eq_self, not_true_eq_false, not_false_eq_true, Nat.add_zero, NF_ap]
    · simp (disch := omega) only [c_lt, c_ge, c_gt, c_le, c_eq, c_ne, c_lt0, c_ge0, c_le0, c_gt0, c_eq0, c_ne0, c_eqm, c_nem, c_m0, c_meq, c_mne, c_mlt, nI_add, pk_mul, Bool.cond_decide, cond_true, cond_false, ldA_n, stA_n, cpA_n, bnd_s, bindP_s, Option.bind_some, gN_sI, gN_sA, gI_sA, gA_sI, gI_eq, gA_eq, gI_ne, gA_ne, sA_sA, sI_sI, if_pos, if_neg, ite_true, ite_false, eq_self, not_true_eq_false, not_false_eq_true, Nat.add_zero, NF_ap]
    · intro i hi
      rw [gA_sI, gA_eq, wr_ap]
      dsimp only
      by_cases q3 : len ≤ i ∧ i < len + q
      · rw [if_pos q3, if_pos q3]
      · rw [if_neg q3, if_neg q3]; exact r7 i hi
    · intro i
      dsimp only
      by_cases q3 : len ≤ i ∧ i < len + q
      · rw [if_pos q3]; exact b64_lt _ _
      · rw [if_neg q3]; exact r8 i
    · intro i hi hi2
      dsimp only
      rw [if_neg (by omega)]; exact r9 i (by omega) hi2
    · intro i hi
      rw [gA_sI, gA_eq, wr_ap]
      dsimp only
      by_cases q3 : len ≤ i ∧ i < len + q
      · rw [if_pos q3, if_pos q3]
      · rw [if_neg q3, if_neg q3]; exact r10 i (by omega)
  · simp (disch := omega) only [c_lt, c_ge, c_gt, c_le, c_eq, c_ne, c_lt0, c_ge0, c_le0, c_gt0, c_eq0, c_ne0, c_eqm, c_nem, c_m0, c_meq, c_mne, c_mlt, nI_add, pk_mul, Bool.cond_decide, cond_true, cond_false, ldA_n, stA_n, cpA_n, bnd_s, bindP_s, Option.bind_some, gN_sI, gN_sA, gI_sA, gA_sI, gI_eq, gA_eq, gI_ne, gA_ne, sA_sA, sI_sI, if_pos, if_neg, ite_true, ite_false, eq_self, not_true_eq_false, not_false_eq_true, Nat.add_zero, NF_ap]
    exact e1
  · simp (disch := omega) only [c_lt, c_ge, c_gt, c_le, c_eq, c_ne, c_lt0, c_ge0, c_le0, c_gt0, c_eq0, c_ne0, c_eqm, c_nem, c_m0, c_meq, c_mne, c_mlt, nI_add, pk_mul, Bool.cond_decide, cond_true, cond_false, ldA_n, stA_n, cpA_n, bnd_s, bindP_s, Option.bind_some, gN_sI, gN_sA, gI_sA, gA_sI, gI_eq, gA_eq, gI_ne, gA_ne, sA_sA, sI_sI, if_pos, if_neg, ite_true, ite_false, eq_self, not_true_eq_false, not_false_eq_true, Nat.add_zero, NF_ap]
    exact e2
end OA
