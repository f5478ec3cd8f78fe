/-! class and reference side by side -/
def JR (s : St) (n w : Nat) (wa : Nat → Nat) (wt : Nat → Nat → Nat) (wl : Nat → Nat) : Prop := ∀ k, k < w → gA s 3 k = nI (wa k) ∧ wa k < n ∧ gA s 5 k = nI (wl k) ∧ wl k ≤ 1 ∧ ∀ i, i < 32 → gA s 4 (32 * k + i) = nI (wt k i) ∧ wt k i < 256
/-- the journals are alike -/
def JJ (d m : St) (n x : Nat) : Prop := ∃ w wa wt wl, gI d 8 = nI w ∧ gI m 9 = nI w ∧ w + 2 ≤ x ∧ JR d n w wa wt wl ∧ JR m n w wa wt wl
/-- an open row: its kind, its length and its bytes -/
def OR (d m : St) (kp len : Nat) (o : Nat → Nat) : Prop := kp ≤ 9 ∧ len ≤ 96 ∧ gI d 4 = nI kp ∧ gI m 7 = nI kp ∧ gI d 5 = nI len ∧ gI m 8 = nI len ∧ (∀ i, i < 96 → gA d 11 i = nI (o i)) ∧ (∀ i, o i < 256) ∧ (∀ i, len ≤ i → i < 96 → o i = 0) ∧ (∀ i, i < len → gA m 2 i = nI (o i))
def OO (d m : St) (n x p : Nat) : Prop := (gI d 5 = -nI 1 ∧ gI m 7 = -nI 1) ∨ (x + 5 ≤ n ∧ p < 60 ∧ ∃ kp len o, OR d m kp len o)
def PW (d m : St) (n x p : Nat) : Prop := (gI d 0 = nI 1 ∧ gI m 1 = nI 1 ∧ JJ d m n x ∧ OO d m n x p) ∨ (gI d 0 = nI 0 ∧ gI m 1 = nI 0 ∧ gI d 5 = -nI 1 ∧ gI m 7 = -nI 1 ∧ gI m 9 = nI 0)
def GG (d m : St) (p : Nat) : Prop := gI d 2 = nI p ∧ gI m 3 = nI p ∧ p ≤ 60 ∧ gI m 4 = gI d 3 ∧ gI m 5 = gI d 6 ∧ gI m 6 = gI d 7
def Rel (d m : St) (n : Nat) (c l : Nat → Nat) (x p : Nat) : Prop := CV d n c l x ∧ MV m n c l x ∧ GG d m p ∧ PW d m n x p
/-- the two objects stand for one disk -/
def RR (n : Nat) (d m : St) : Prop := ∃ c l x p, Rel d m n c l x p
/-- states that agree where the relation looks -/
def sD (d d' : St) : Prop := (∀ k, k ≠ 1 → gI d' k = gI d k) ∧ gA d' 3 = gA d 3 ∧ gA d' 4 = gA d 4 ∧ gA d' 5 = gA d 5 ∧ gA d' 11 = gA d 11
def sM (m m' : St) : Prop := (∀ k, k ≠ 0 → k ≠ 2 → gI m' k = gI m k) ∧ gA m' 2 = gA m 2 ∧ gA m' 3 = gA m 3 ∧ gA m' 4 = gA m 4 ∧ gA m' 5 = gA m 5
theorem sD_r (d : St) : sD d d := ⟨fun _ _ => rfl, rfl, rfl, rfl, rfl⟩
theorem sM_r (m : St) : sM m m := ⟨fun _ _ _ => rfl, rfl, rfl, rfl, rfl⟩
theorem sM_0 (m : St) (v : Int32) : sM m (sI m 0 v) := ⟨fun k h _ => gI_ne h, rfl, rfl, rfl, rfl⟩
theorem JR_f {s s' : St} {n w : Nat} {wa : Nat → Nat} {wt : Nat → Nat → Nat} {wl : Nat → Nat} (h : JR s n w wa wt wl) (h3 : gA s' 3 = gA s 3) (h4 : gA s' 4 = gA s 4) (h5 : gA s' 5 = gA s 5) : JR s' n w wa wt wl := by
  unfold JR at *
  rw [h3, h4, h5]
  exact h
theorem GG_f {d d' m m' : St} {p : Nat} (h : GG d m p) (hd : sD d d') (hm : sM m m') : GG d' m' p := by
  unfold GG at *
  rw [hd.1 2 (by decide), hm.1 3 (by decide) (by decide), hm.1 4 (by decide) (by decide), hd.1 3 (by decide), hm.1 5 (by decide) (by decide), hd.1 6 (by decide), hm.1 6 (by decide) (by decide), hd.1 7 (by decide)]
  exact h
theorem JJ_f {d d' m m' : St} {n x : Nat} (h : JJ d m n x) (hd : sD d d') (hm : sM m m') : JJ d' m' n x := by
  obtain ⟨w, wa, wt, wl, h1, h2, h3, h4, h5⟩ := h
  exact ⟨w, wa, wt, wl, by rw [hd.1 8 (by decide)]; exact h1, by rw [hm.1 9 (by decide) (by decide)]; exact h2, h3, JR_f h4 hd.2.1 hd.2.2.1 hd.2.2.2.1, JR_f h5 hm.2.2.1 hm.2.2.2.1 hm.2.2.2.2⟩
theorem OR_f {d d' m m' : St} {kp len : Nat} {o : Nat → Nat} (h : OR d m kp len o) (hd : sD d d') (hm : sM m m') : OR d' m' kp len o := by
  unfold OR at *
  rw [hd.1 4 (by decide), hm.1 7 (by decide) (by decide), hd.1 5 (by decide), hm.1 8 (by decide) (by decide), hd.2.2.2.2, hm.2.1]
  exact h
theorem OO_f {d d' m m' : St} {n x p : Nat} (h : OO d m n x p) (hd : sD d d') (hm : sM m m') : OO d' m' n x p := by
  rcases h with h | ⟨h1, h2, kp, len, o, h3⟩
  · refine Or.inl ?_
    rw [hd.1 5 (by decide), hm.1 7 (by decide) (by decide)]
    exact h
  · exact Or.inr ⟨h1, h2, kp, len, o, OR_f h3 hd hm⟩
theorem PW_f {d d' m m' : St} {n x p : Nat} (h : PW d m n x p) (hd : sD d d') (hm : sM m m') : PW d' m' n x p := by
  rcases h with ⟨h1, h2, h3, h4⟩ | h
  · refine Or.inl ⟨?_, ?_, JJ_f h3 hd hm, OO_f h4 hd hm⟩
    · rw [hd.1 0 (by decide)]; exact h1
    · rw [hm.1 1 (by decide) (by decide)]; exact h2
  · refine Or.inr ?_
    rw [hd.1 0 (by decide), hm.1 1 (by decide) (by decide), hd.1 5 (by decide), hm.1 7 (by decide) (by decide), hm.1 9 (by decide) (by decide)]
    exact h
theorem Rel_f {d d' m m' : St} {n x p : Nat} {c l c' l' : Nat → Nat} (h : Rel d m n c l x p) (hc : CV d' n c' l' x) (hm' : MV m' n c' l' x) (hd : sD d d') (hm : sM m m') : Rel d' m' n c' l' x p := ⟨hc, hm', GG_f h.2.2.1 hd hm, PW_f h.2.2.2 hd hm⟩
theorem Rel_0 {d m : St} {n x p : Nat} {c l : Nat → Nat} (h : Rel d m n c l x p) (v : Int32) : Rel d (sI m 0 v) n c l x p := Rel_f h h.1 (MV_sI h.2.1 (by decide) v) (sD_r d) (sM_0 m v)
theorem rz_b {α : Type} {v : Nat} (h : v ≤ 1) (q : Option α) : rz (nI v) q = q := by
  have : v = 0 ∨ v = 1 := by omega
  rcases this with rfl | rfl
  · exact rz_0 q
  · exact rz_1 q
theorem ite01 {p : Prop} [Decidable p] : (if p then 1 else 0) ≤ 1 := by
  by_cases h : p
  · rw [if_pos h]; omega
  · rw [if_neg h]; omega
section PU
variable {d m : St} {n x p N : Nat} {c l : Nat → Nat}
theorem b_isSec (h : CW m n c l) {j : Nat} (hj : j < 2 ^ 31) : F_X6_isSector m (nI j) = some (nI (if j < n then 1 else 0)) := by
  have h1 := h.1
  have h2 := h.2.1
  have h3 := h.2.2.1
  unfold F_X6_isSector
  rw [h1, pk_sub (by omega), b_in hj (by omega) (by omega), Option.bind_some, rz_b ite01]
  by_cases q : j < n
  · simp (disch := omega) only [c_lt, c_ge, c_gt, c_le, c_eq, c_ne, c_lt0, c_ge0, c_le0, c_gt0, c_eq0, c_ne0, c_eqm, c_nem, c_m0, c_meq, c_mne, c_mlt, nI_add, pk_mul, Bool.cond_decide, cond_true, cond_false, ldA_n, stA_n, cpA_n, bnd_s, bindP_s, Option.bind_some, gN_sI, gN_sA, gI_sA, gA_sI, gI_eq, gA_eq, gI_ne, gA_ne, sA_sA, sI_sI, if_pos, if_neg, ite_true, ite_false, eq_self, not_true_eq_false, not_false_eq_true, Nat.add_zero, NF_ap]
  · simp (disch := omega) only [c_lt, c_ge, c_gt, c_le, c_eq, c_ne, c_lt0, c_ge0, c_le0, c_gt0, c_eq0, c_ne0, c_eqm, c_nem, c_m0, c_meq, c_mne, c_mlt, nI_add, pk_mul, Bool.cond_decide, cond_true, cond_false, ldA_n, stA_n, cpA_n, bnd_s, bindP_s, Option.bind_some, gN_sI, gN_sA, gI_sA, gA_sI, gI_eq, gA_eq, gI_ne, gA_ne, sA_sA, sI_sI, if_pos, if_neg, ite_true, ite_false, eq_self, not_true_eq_false, not_false_eq_true, Nat.add_zero, NF_ap]
theorem b_isSecN (h : CW m n c l) {y : Int32} (hy : y < 0) : F_X6_isSector m y = some (nI 0) := by
  unfold F_X6_isSector
  rw [b_inN hy (by decide), Option.bind_some, rz_0]
theorem a_hasCellN {y z : Int32} (hy : y < 0 ∨ z < 0) : F_X4_hasCell d y z = some (nI 0) := by
  unfold F_X4_hasCell
  rcases hy with hy | hy
  · rw [c_lt0n hy]; rfl
  · rw [c_lt0n hy]
    cases mx_cnd .lt y 0
    · cases mx_cnd .ge y (nI (gN d)) <;> rfl
    · rfl
theorem u_octet (h : Rel d m n c l x p) (y z : Int32) : ∃ v, F_X5_octet d y z = some v ∧ F_X6_octet m y z = some (v, sI m 0 (nI 0)) := by
  have hc := h.1
  have hm := MV_sI h.2.1 (k := 0) (by decide) (nI 0)
  have h2 := hc.n60
  have h4 := hm.1.2.2.2.1
  unfold F_X5_octet F_X6_octet
  rw [bnd_s]
  rcases sgn y with hy | ⟨a, ha, rfl⟩
  · refine ⟨-nI 2, ?_, ?_⟩
    · rw [a_hasCellN (Or.inl hy)]; rfl
    · rw [b_isSecN hm.1 hy]; rfl
  · by_cases q1 : a < n
    · rcases sgn z with hz | ⟨b, hb, rfl⟩
      · refine ⟨-nI 2, ?_, ?_⟩
        · rw [a_hasCellN (Or.inr hz)]; rfl
        · rw [b_isSec hm.1 ha, b_inN hz (by decide)]
          simp (disch := omega) only [c_lt, c_ge, c_gt, c_le, c_eq, c_ne, c_lt0, c_ge0, c_le0, c_gt0, c_eq0, c_ne0, c_eqm, c_nem, c_m0, c_meq, c_mne, c_mlt, nI_add, pk_mul, Bool.cond_decide, cond_true, cond_false, ldA_n, stA_n, cpA_n, bnd_s, bindP_s, Option.bind_some, gN_sI, gN_sA, gI_sA, gA_sI, gI_eq, gA_eq, gI_ne, gA_ne, sA_sA, sI_sI, if_pos, if_neg, ite_true, ite_false, eq_self, not_true_eq_false, not_false_eq_true, Nat.add_zero, NF_ap]
      · rw [a_hasCell hc.w ha hb, b_isSec hm.1 ha, b_in hb (by decide) (by decide)]
        by_cases q2 : b < 32
        · refine ⟨nI (c (32 * a + b)), ?_, ?_⟩
          · simp (disch := omega) only [c_lt, c_ge, c_gt, c_le, c_eq, c_ne, c_lt0, c_ge0, c_le0, c_gt0, c_eq0, c_ne0, c_eqm, c_nem, c_m0, c_meq, c_mne, c_mlt, nI_add, pk_mul, Bool.cond_decide, cond_true, cond_false, ldA_n, stA_n, cpA_n, bnd_s, bindP_s, Option.bind_some, gN_sI, gN_sA, gI_sA, gA_sI, gI_eq, gA_eq, gI_ne, gA_ne, sA_sA, sI_sI, if_pos, if_neg, ite_true, ite_false, eq_self, not_true_eq_false, not_false_eq_true, Nat.add_zero, NF_ap, a_cell hc.w]
          · simp (disch := omega) only [c_lt, c_ge, c_gt, c_le, c_eq, c_ne, c_lt0, c_ge0, c_le0, c_gt0, c_eq0, c_ne0, c_eqm, c_nem, c_m0, c_meq, c_mne, c_mlt, nI_add, pk_mul, Bool.cond_decide, cond_true, cond_false, ldA_n, stA_n, cpA_n, bnd_s, bindP_s, Option.bind_some, gN_sI, gN_sA, gI_sA, gA_sI, gI_eq, gA_eq, gI_ne, gA_ne, sA_sA, sI_sI, if_pos, if_neg, ite_true, ite_false, eq_self, not_true_eq_false, not_false_eq_true, Nat.add_zero, NF_ap, h4]
        · refine ⟨-nI 2, ?_, ?_⟩
          · simp (disch := omega) only [c_lt, c_ge, c_gt, c_le, c_eq, c_ne, c_lt0, c_ge0, c_le0, c_gt0, c_eq0, c_ne0, c_eqm, c_nem, c_m0, c_meq, c_mne, c_mlt, nI_add, pk_mul, Bool.cond_decide, cond_true, cond_false, ldA_n, stA_n, cpA_n, bnd_s, bindP_s, Option.bind_some, gN_sI, gN_sA, gI_sA, gA_sI, gI_eq, gA_eq, gI_ne, gA_ne, sA_sA, sI_sI, if_pos, if_neg, ite_true, ite_false, eq_self, not_true_eq_false, not_false_eq_true, Nat.add_zero, NF_ap]
          · simp (disch := omega) only [c_lt, c_ge, c_gt, c_le, c_eq, c_ne, c_lt0, c_ge0, c_le0, c_gt0, c_eq0, c_ne0, c_eqm, c_nem, c_m0, c_meq, c_mne, c_mlt, nI_add, pk_mul, Bool.cond_decide, cond_true, cond_false, ldA_n, stA_n, cpA_n, bnd_s, bindP_s, Option.bind_some, gN_sI, gN_sA, gI_sA, gA_sI, gI_eq, gA_eq, gI_ne, gA_ne, sA_sA, sI_sI, if_pos, if_neg, ite_true, ite_false, eq_self, not_true_eq_false, not_false_eq_true, Nat.add_zero, NF_ap]
    · refine ⟨-nI 2, ?_, ?_⟩
      · rcases sgn z with hz | ⟨b, hb, rfl⟩
        · rw [a_hasCellN (Or.inr hz)]; rfl
        · rw [a_hasCell hc.w ha hb]
          simp (disch := omega) only [c_lt, c_ge, c_gt, c_le, c_eq, c_ne, c_lt0, c_ge0, c_le0, c_gt0, c_eq0, c_ne0, c_eqm, c_nem, c_m0, c_meq, c_mne, c_mlt, nI_add, pk_mul, Bool.cond_decide, cond_true, cond_false, ldA_n, stA_n, cpA_n, bnd_s, bindP_s, Option.bind_some, gN_sI, gN_sA, gI_sA, gA_sI, gI_eq, gA_eq, gI_ne, gA_ne, sA_sA, sI_sI, if_pos, if_neg, ite_true, ite_false, eq_self, not_true_eq_false, not_false_eq_true, Nat.add_zero, NF_ap]
      · rw [b_isSec hm.1 ha]
        simp (disch := omega) only [c_lt, c_ge, c_gt, c_le, c_eq, c_ne, c_lt0, c_ge0, c_le0, c_gt0, c_eq0, c_ne0, c_eqm, c_nem, c_m0, c_meq, c_mne, c_mlt, nI_add, pk_mul, Bool.cond_decide, cond_true, cond_false, ldA_n, stA_n, cpA_n, bnd_s, bindP_s, Option.bind_some, gN_sI, gN_sA, gI_sA, gA_sI, gI_eq, gA_eq, gI_ne, gA_ne, sA_sA, sI_sI, if_pos, if_neg, ite_true, ite_false, eq_self, not_true_eq_false, not_false_eq_true, Nat.add_zero, NF_ap]
theorem u_whole (h : Rel d m n c l x p) (hN : 100 ≤ N) (y : Int32) : ∃ v, F_X5_whole d y = some v ∧ F_X6_whole N m y = some (v, sI m 0 (nI 0)) := by
  have hc := h.1
  have hm := MV_sI h.2.1 (k := 0) (by decide) (nI 0)
  have h2 := hc.n60
  unfold F_X5_whole F_X6_whole
  rw [bnd_s]
  rcases sgn y with hy | ⟨a, ha, rfl⟩
  · refine ⟨-nI 2, ?_, ?_⟩
    · rw [a_hasN hc.w hy]; rfl
    · rw [b_isSecN hm.1 hy]; rfl
  · rw [a_has hc.w ha, b_isSec hm.1 ha]
    by_cases q1 : a < n
    · refine ⟨nI (so c l a), ?_, ?_⟩
      · simp (disch := omega) only [c_lt, c_ge, c_gt, c_le, c_eq, c_ne, c_lt0, c_ge0, c_le0, c_gt0, c_eq0, c_ne0, c_eqm, c_nem, c_m0, c_meq, c_mne, c_mlt, nI_add, pk_mul, Bool.cond_decide, cond_true, cond_false, ldA_n, stA_n, cpA_n, bnd_s, bindP_s, Option.bind_some, gN_sI, gN_sA, gI_sA, gA_sI, gI_eq, gA_eq, gI_ne, gA_ne, sA_sA, sI_sI, if_pos, if_neg, ite_true, ite_false, eq_self, not_true_eq_false, not_false_eq_true, Nat.add_zero, NF_ap, a_ws hc]
      · simp (disch := omega) only [c_lt, c_ge, c_gt, c_le, c_eq, c_ne, c_lt0, c_ge0, c_le0, c_gt0, c_eq0, c_ne0, c_eqm, c_nem, c_m0, c_meq, c_mne, c_mlt, nI_add, pk_mul, Bool.cond_decide, cond_true, cond_false, ldA_n, stA_n, cpA_n, bnd_s, bindP_s, Option.bind_some, gN_sI, gN_sA, gI_sA, gA_sI, gI_eq, gA_eq, gI_ne, gA_ne, sA_sA, sI_sI, if_pos, if_neg, ite_true, ite_false, eq_self, not_true_eq_false, not_false_eq_true, Nat.add_zero, NF_ap, b_so hm.1]
    · refine ⟨-nI 2, ?_, ?_⟩
      · simp (disch := omega) only [c_lt, c_ge, c_gt, c_le, c_eq, c_ne, c_lt0, c_ge0, c_le0, c_gt0, c_eq0, c_ne0, c_eqm, c_nem, c_m0, c_meq, c_mne, c_mlt, nI_add, pk_mul, Bool.cond_decide, cond_true, cond_false, ldA_n, stA_n, cpA_n, bnd_s, bindP_s, Option.bind_some, gN_sI, gN_sA, gI_sA, gA_sI, gI_eq, gA_eq, gI_ne, gA_ne, sA_sA, sI_sI, if_pos, if_neg, ite_true, ite_false, eq_self, not_true_eq_false, not_false_eq_true, Nat.add_zero, NF_ap]
      · simp (disch := omega) only [c_lt, c_ge, c_gt, c_le, c_eq, c_ne, c_lt0, c_ge0, c_le0, c_gt0, c_eq0, c_ne0, c_eqm, c_nem, c_m0, c_meq, c_mne, c_mlt, nI_add, pk_mul, Bool.cond_decide, cond_true, cond_false, ldA_n, stA_n, cpA_n, bnd_s, bindP_s, Option.bind_some, gN_sI, gN_sA, gI_sA, gA_sI, gI_eq, gA_eq, gI_ne, gA_ne, sA_sA, sI_sI, if_pos, if_neg, ite_true, ite_false, eq_self, not_true_eq_false, not_false_eq_true, Nat.add_zero, NF_ap]
/-- the lost flag of a sector is set -/
theorem so_lost {j k : Nat} : so c (uN l j 1) k = if k = j then 0 else so c l k := by
  by_cases q : k = j
  · rw [if_pos q]
    unfold so uN
    rw [if_neg (fun z => by rw [if_pos q] at z; exact absurd z.1 (by decide))]
  · rw [if_neg q]
    exact so_cg (fun _ _ => rfl) (if_neg q)
theorem uN_le {j v : Nat} (h : ∀ i, l i ≤ 1) (hv : v ≤ 1) (i : Nat) : uN l j v i ≤ 1 := by
  unfold uN
  by_cases q : i = j
  · rw [if_pos q]; exact hv
  · rw [if_neg q]; exact h i
theorem u_lose (h : Rel d m n c l x p) (y : Int32) : ∃ v d' m', F_X5_lose d y = some (v, d') ∧ F_X6_lose m y = some (v, m') ∧ RR n d' m' := by
  have hc := h.1
  have hm := MV_sI h.2.1 (k := 0) (by decide) (nI 0)
  have h2 := hc.n60
  have h5 := hm.1.2.2.2.2.1
  have h5d := hc.2.2.2.2.1
  have hn := hc.1
  unfold F_X5_lose F_X6_lose
  rw [bnd_s]
  rcases sgn y with hy | ⟨a, ha, rfl⟩
  · refine ⟨-nI 2, d, sI m 0 (nI 0), ?_, ?_, ⟨c, l, x, p, Rel_0 h _⟩⟩
    · rw [a_hasN hc.w hy]; rfl
    · rw [b_isSecN hm.1 hy]; rfl
  · rw [a_has hc.w ha, b_isSec hm.1 ha]
    by_cases q1 : a < n
    · have hl := hc.w.2.2.2.2.2.2 a
      have hM : MV (sA (sI m 0 (nI 0)) 1 (NF (uN l a 1))) n c (uN l a 1) x := by
        obtain ⟨⟨g1, g2, g3, g4, g5, g6, g7⟩, g8⟩ := hm
        refine ⟨?_, g8⟩
        unfold CW
        rw [gN_sA, gA_eq, gA_ne (by decide)]
        exact ⟨g1, g2, g3, g4, rfl, g6, uN_le g7 (by omega)⟩
      by_cases q2 : l a = 0
      · refine ⟨nI 1, sA (sA d 1 (NF (uN l a 1))) 2 (upd (gA d 2) a (nI 0)), sA (sI m 0 (nI 0)) 1 (NF (uN l a 1)), ?_, ?_, ⟨c, uN l a 1, x, p, ?_⟩⟩
        · simp (disch := omega) only [c_lt, c_ge, c_gt, c_le, c_eq, c_ne, c_lt0, c_ge0, c_le0, c_gt0, c_eq0, c_ne0, c_eqm, c_nem, c_m0, c_meq, c_mne, c_mlt, nI_add, pk_mul, Bool.cond_decide, cond_true, cond_false, ldA_n, stA_n, cpA_n, bnd_s, bindP_s, Option.bind_some, gN_sI, gN_sA, gI_sA, gA_sI, gI_eq, gA_eq, gI_ne, gA_ne, sA_sA, sI_sI, if_pos, if_neg, ite_true, ite_false, eq_self, not_true_eq_false, not_false_eq_true, Nat.add_zero, NF_ap, a_isLost hc.w]
          unfold F_X4_markLost
          simp (disch := omega) only [c_lt, c_ge, c_gt, c_le, c_eq, c_ne, c_lt0, c_ge0, c_le0, c_gt0, c_eq0, c_ne0, c_eqm, c_nem, c_m0, c_meq, c_mne, c_mlt, nI_add, pk_mul, Bool.cond_decide, cond_true, cond_false, ldA_n, stA_n, cpA_n, bnd_s, bindP_s, Option.bind_some, gN_sI, gN_sA, gI_sA, gA_sI, gI_eq, gA_eq, gI_ne, gA_ne, sA_sA, sI_sI, if_pos, if_neg, ite_true, ite_false, eq_self, not_true_eq_false, not_false_eq_true, Nat.add_zero, NF_ap, a_hasT hc.w, hn, h5d, nar1, upd_NF]
        · simp (disch := omega) only [c_lt, c_ge, c_gt, c_le, c_eq, c_ne, c_lt0, c_ge0, c_le0, c_gt0, c_eq0, c_ne0, c_eqm, c_nem, c_m0, c_meq, c_mne, c_mlt, nI_add, pk_mul, Bool.cond_decide, cond_true, cond_false, ldA_n, stA_n, cpA_n, bnd_s, bindP_s, Option.bind_some, gN_sI, gN_sA, gI_sA, gA_sI, gI_eq, gA_eq, gI_ne, gA_ne, sA_sA, sI_sI, if_pos, if_neg, ite_true, ite_false, eq_self, not_true_eq_false, not_false_eq_true, Nat.add_zero, NF_ap, h5, nar1, upd_NF]
        · refine Rel_f h ?_ hM ?_ ?_
          · obtain ⟨g1, g2, g3, g4, g5, g6, g7, g8, g9, g10, g11⟩ := hc
            unfold CV
            simp (disch := omega) only [c_lt, c_ge, c_gt, c_le, c_eq, c_ne, c_lt0, c_ge0, c_le0, c_gt0, c_eq0, c_ne0, c_eqm, c_nem, c_m0, c_meq, c_mne, c_mlt, nI_add, pk_mul, Bool.cond_decide, cond_true, cond_false, ldA_n, stA_n, cpA_n, bnd_s, bindP_s, Option.bind_some, gN_sI, gN_sA, gI_sA, gA_sI, gI_eq, gA_eq, gI_ne, gA_ne, sA_sA, sI_sI, if_pos, if_neg, ite_true, ite_false, eq_self, not_true_eq_false, not_false_eq_true, Nat.add_zero, NF_ap]
            refine ⟨g1, g2, g3, g4, trivial, ?_, g7, g8, g9, g10, uN_le g11 (by omega)⟩
            intro j hj
            rw [so_lost]
            by_cases q : j = a
            · subst q; rw [if_pos rfl]; exact pk_us
            · rw [if_neg q, pk_un q]; exact g6 j hj
          · unfold sD
            simp (disch := omega) only [c_lt, c_ge, c_gt, c_le, c_eq, c_ne, c_lt0, c_ge0, c_le0, c_gt0, c_eq0, c_ne0, c_eqm, c_nem, c_m0, c_meq, c_mne, c_mlt, nI_add, pk_mul, Bool.cond_decide, cond_true, cond_false, ldA_n, stA_n, cpA_n, bnd_s, bindP_s, Option.bind_some, gN_sI, gN_sA, gI_sA, gA_sI, gI_eq, gA_eq, gI_ne, gA_ne, sA_sA, sI_sI, if_pos, if_neg, ite_true, ite_false, eq_self, not_true_eq_false, not_false_eq_true, Nat.add_zero, NF_ap]
            exact ⟨fun k hk => trivial, trivial, trivial, trivial, trivial⟩
          · refine ⟨fun k h0 _ => ?_, ?_, ?_, ?_, ?_⟩
            · rw [gI_sA]; exact gI_ne h0
            · rw [gA_ne (by decide)]; rfl
            · rw [gA_ne (by decide)]; rfl
            · rw [gA_ne (by decide)]; rfl
            · rw [gA_ne (by decide)]; rfl
      · have hu : uN l a 1 = l := by
          funext q
          unfold uN
          by_cases q3 : q = a
          · rw [if_pos q3, q3]; omega
          · rw [if_neg q3]
        rw [hu] at hM
        refine ⟨nI 0, d, sA (sI m 0 (nI 0)) 1 (NF l), ?_, ?_, ⟨c, l, x, p, ?_⟩⟩
        · simp (disch := omega) only [c_lt, c_ge, c_gt, c_le, c_eq, c_ne, c_lt0, c_ge0, c_le0, c_gt0, c_eq0, c_ne0, c_eqm, c_nem, c_m0, c_meq, c_mne, c_mlt, nI_add, pk_mul, Bool.cond_decide, cond_true, cond_false, ldA_n, stA_n, cpA_n, bnd_s, bindP_s, Option.bind_some, gN_sI, gN_sA, gI_sA, gA_sI, gI_eq, gA_eq, gI_ne, gA_ne, sA_sA, sI_sI, if_pos, if_neg, ite_true, ite_false, eq_self, not_true_eq_false, not_false_eq_true, Nat.add_zero, NF_ap, a_isLost hc.w]
        · simp (disch := omega) only [c_lt, c_ge, c_gt, c_le, c_eq, c_ne, c_lt0, c_ge0, c_le0, c_gt0, c_eq0, c_ne0, c_eqm, c_nem, c_m0, c_meq, c_mne, c_mlt, nI_add, pk_mul, Bool.cond_decide, cond_true, cond_false, ldA_n, stA_n, cpA_n, bnd_s, bindP_s, Option.bind_some, gN_sI, gN_sA, gI_sA, gA_sI, gI_eq, gA_eq, gI_ne, gA_ne, sA_sA, sI_sI, if_pos, if_neg, ite_true, ite_false, eq_self, not_true_eq_false, not_false_eq_true, Nat.add_zero, NF_ap, h5, nar1, upd_NF, hu]
        · refine Rel_f h hc hM (sD_r d) ?_
          refine ⟨fun k h0 _ => ?_, ?_, ?_, ?_, ?_⟩
          · rw [gI_sA]; exact gI_ne h0
          · rw [gA_ne (by decide)]; rfl
          · rw [gA_ne (by decide)]; rfl
          · rw [gA_ne (by decide)]; rfl
          · rw [gA_ne (by decide)]; rfl
    · refine ⟨-nI 2, d, sI m 0 (nI 0), ?_, ?_, ⟨c, l, x, p, Rel_0 h _⟩⟩
      · simp (disch := omega) only [c_lt, c_ge, c_gt, c_le, c_eq, c_ne, c_lt0, c_ge0, c_le0, c_gt0, c_eq0, c_ne0, c_eqm, c_nem, c_m0, c_meq, c_mne, c_mlt, nI_add, pk_mul, Bool.cond_decide, cond_true, cond_false, ldA_n, stA_n, cpA_n, bnd_s, bindP_s, Option.bind_some, gN_sI, gN_sA, gI_sA, gA_sI, gI_eq, gA_eq, gI_ne, gA_ne, sA_sA, sI_sI, if_pos, if_neg, ite_true, ite_false, eq_self, not_true_eq_false, not_false_eq_true, Nat.add_zero, NF_ap]
      · simp (disch := omega) only [c_lt, c_ge, c_gt, c_le, c_eq, c_ne, c_lt0, c_ge0, c_le0, c_gt0, c_eq0, c_ne0, c_eqm, c_nem, c_m0, c_meq, c_mne, c_mlt, nI_add, pk_mul, Bool.cond_decide, cond_true, cond_false, ldA_n, stA_n, cpA_n, bnd_s, bindP_s, Option.bind_some, gN_sI, gN_sA, gI_sA, gA_sI, gI_eq, gA_eq, gI_ne, gA_ne, sA_sA, sI_sI, if_pos, if_neg, ite_true, ite_false, eq_self, not_true_eq_false, not_false_eq_true, Nat.add_zero, NF_ap]
end PU
