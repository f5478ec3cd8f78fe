/-! sync and cut -/
def hdF (v : Int32) (x p : Nat) (q : Nat) : Nat := if q < 4 then byt v (24 - 8 * q) else if q = 4 then x else if q = 5 then p else 0
theorem hdF_lt {v : Int32} {x p : Nat} (hx : x < 256) (hp : p < 256) (q : Nat) : hdF v x p q < 256 := by
  unfold hdF
  by_cases h1 : q < 4
  · rw [if_pos h1]; exact byt_lt _ _
  by_cases h2 : q = 4
  · rw [if_neg h1, if_pos h2]; exact hx
  by_cases h3 : q = 5
  · rw [if_neg h1, if_neg h2, if_pos h3]; exact hp
  · rw [if_neg h1, if_neg h2, if_neg h3]; decide
def hpF (v : Int32) (i : Nat) : Nat → Nat := fun q => if q < i then byt v (24 - 8 * q) else 0
theorem hpF_s (v : Int32) (i : Nat) : uN (hpF v i) i (byt v (24 - 8 * i)) = hpF v (i + 1) := by
  funext q
  unfold uN hpF
  by_cases h : q = i
  · rw [if_pos h, if_pos (by omega), h]
  · rw [if_neg h]
    by_cases h1 : q < i
    · rw [if_pos h1, if_pos (by omega)]
    · rw [if_neg h1, if_neg (by omega)]
theorem hpF_0 (v : Int32) : hpF v 0 = fun _ => 0 := by
  funext q
  exact if_neg (by omega)
theorem hpF_4 (v : Int32) (x p : Nat) : uN (uN (hpF v 4) 4 x) 5 p = hdF v x p := by
  funext q
  unfold uN hpF hdF
  by_cases h5 : q = 5
  · rw [if_pos h5, if_neg (by omega), if_neg (by omega), if_pos h5]
  · rw [if_neg h5]
    by_cases h4 : q = 4
    · rw [if_pos h4, if_neg (by omega), if_pos h4]
    · rw [if_neg h4]
      by_cases h3 : q < 4
      · rw [if_pos h3, if_pos h3]
      · rw [if_neg h3, if_neg h3, if_neg h4, if_neg h5]
/-- bytes t to i of a sector are again those of f -/
def unI (c f : Nat → Nat) (a t i : Nat) : Nat → Nat := fun z => if 32 * a + t ≤ z ∧ z < 32 * a + i then f (z - 32 * a) else c z
theorem unI_t (c f : Nat → Nat) (a t : Nat) : unI c f a t t = c := by
  funext z
  exact if_neg (by omega)
theorem unI_s (c f : Nat → Nat) {a t i : Nat} (h : t ≤ i) : uN (unI c f a t i) (32 * a + i) (f i) = unI c f a t (i + 1) := by
  funext z
  unfold uN unI
  by_cases h1 : z = 32 * a + i
  · rw [if_pos h1, if_pos (by omega), h1, show 32 * a + i - 32 * a = i by omega]
  · rw [if_neg h1]
    by_cases h2 : 32 * a + t ≤ z ∧ z < 32 * a + i
    · rw [if_pos h2, if_pos (by omega)]
    · rw [if_neg h2, if_neg (by omega)]
theorem unI_lt {c f : Nat → Nat} {a t : Nat} (hc : ∀ i, c i < 256) (hf : ∀ i, i < 32 → f i < 256) {i : Nat} (hi : i ≤ 32) (z : Nat) : unI c f a t i z < 256 := by
  unfold unI
  by_cases h2 : 32 * a + t ≤ z ∧ z < 32 * a + i
  · rw [if_pos h2]; exact hf _ (by omega)
  · rw [if_neg h2]; exact hc z
section SC
variable {d m : St} {n x p N : Nat} {c l : Nat → Nat}
theorem e_setC {g : Nat → Int32} {a b e q : Nat} {h : Nat → Nat} {i v : Nat} {y : Int32} (hi : i < 24) (hv : y &&& nI 255 = nI v) : F_X0_setContent (sA d 6 (dF g a b e q h)) (nI i) y = some (sA d 6 (dF g a b e q (uN h i v))) := by
  unfold F_X0_setContent
  rw [hv]
  simp (disch := omega) only [c_lt, c_ge, c_gt, c_le, c_eq, c_ne, c_lt0, c_ge0, c_le0, c_gt0, c_eq0, c_ne0, c_eqm, c_nem, c_m0, c_meq, c_mne, c_mlt, nI_add, pk_mul, Bool.cond_decide, cond_true, cond_false, ldA_n, stA_n, cpA_n, bnd_s, bindP_s, Option.bind_some, gN_sI, gN_sA, gI_sA, gA_sI, gI_eq, gA_eq, gI_ne, gA_ne, sA_sA, sI_sI, if_pos, if_neg, ite_true, ite_false, eq_self, not_true_eq_false, not_false_eq_true, Nat.add_zero, NF_ap]
  rw [dF_set hi]
theorem a_dh (hN : 100 ≤ N) (v : Int32) (h1 : gI d 1 = nI x) (h2 : gI d 2 = nI p) (hx : x < 256) (hp : p < 256) : F_X5_draftHead N d v = some (sA d 6 (secF (gA d 6) 1 0 0 0 (hdF v x p))) := by
  have key : ∀ a i f, i + a = 4 → a < f → F_X5_draftHead_13 N f (sA d 6 (dF (gA d 6) 1 0 0 0 (hpF v i))) v (nI i) = some (sA d 6 (secF (gA d 6) 1 0 0 0 (hdF v x p))) := by
    intro a
    induction a with
    | zero =>
      intro i f e1 e2
      obtain ⟨f, rfl⟩ : ∃ q, f = q + 1 := ⟨f - 1, by omega⟩
      obtain rfl : i = 4 := by omega
      rw [F_X5_draftHead_13.eq_2]
      simp (disch := omega) only [c_lt, c_ge, c_gt, c_le, c_eq, c_ne, c_lt0, c_ge0, c_le0, c_gt0, c_eq0, c_ne0, c_eqm, c_nem, c_m0, c_meq, c_mne, c_mlt, nI_add, pk_mul, Bool.cond_decide, cond_true, cond_false, ldA_n, stA_n, cpA_n, bnd_s, bindP_s, Option.bind_some, gN_sI, gN_sA, gI_sA, gA_sI, gI_eq, gA_eq, gI_ne, gA_ne, sA_sA, sI_sI, if_pos, if_neg, ite_true, ite_false, eq_self, not_true_eq_false, not_false_eq_true, Nat.add_zero, NF_ap, h1, h2]
      rw [e_setC (by decide) (byt_8 hx)]
      simp (disch := omega) only [c_lt, c_ge, c_gt, c_le, c_eq, c_ne, c_lt0, c_ge0, c_le0, c_gt0, c_eq0, c_ne0, c_eqm, c_nem, c_m0, c_meq, c_mne, c_mlt, nI_add, pk_mul, Bool.cond_decide, cond_true, cond_false, ldA_n, stA_n, cpA_n, bnd_s, bindP_s, Option.bind_some, gN_sI, gN_sA, gI_sA, gA_sI, gI_eq, gA_eq, gI_ne, gA_ne, sA_sA, sI_sI, if_pos, if_neg, ite_true, ite_false, eq_self, not_true_eq_false, not_false_eq_true, Nat.add_zero, NF_ap, h2]
      rw [e_setC (by decide) (byt_8 hp), Option.bind_some, hpF_4, a_seal (by omega), Option.bind_some]
    | succ a ih =>
      intro i f e1 e2
      obtain ⟨f, rfl⟩ : ∃ q, f = q + 1 := ⟨f - 1, by omega⟩
      rw [F_X5_draftHead_13.eq_2, pk_mul, pk_sub (by omega), e_setC (by omega) (byt_u v (by omega)), Option.bind_some, hpF_s]
      simp (disch := omega) only [c_lt, c_ge, c_gt, c_le, c_eq, c_ne, c_lt0, c_ge0, c_le0, c_gt0, c_eq0, c_ne0, c_eqm, c_nem, c_m0, c_meq, c_mne, c_mlt, nI_add, pk_mul, Bool.cond_decide, cond_true, cond_false, ldA_n, stA_n, cpA_n, bnd_s, bindP_s, Option.bind_some, gN_sI, gN_sA, gI_sA, gA_sI, gI_eq, gA_eq, gI_ne, gA_ne, sA_sA, sI_sI, if_pos, if_neg, ite_true, ite_false, eq_self, not_true_eq_false, not_false_eq_true, Nat.add_zero, NF_ap]
      exact ih (i + 1) f (by omega) (by omega)
  unfold F_X5_draftHead
  rw [a_begin (by omega), Option.bind_some, ← hpF_0 v]
  exact key 4 0 N (by omega) (by omega)
theorem b_hd (hN : 100 ≤ N) (v : Int32) (h1 : gI m 2 = nI x) (h2 : gI m 3 = nI p) : F_X6_head N m v = some (sA m 6 (dF (gA m 6) 1 0 0 0 (hdF v x p))) := by
  have key : ∀ a i f, i + a = 4 → a < f → F_X6_head_10 N f (sA m 6 (dF (gA m 6) 1 0 0 0 (hpF v i))) v (nI i) = some (sA m 6 (dF (gA m 6) 1 0 0 0 (hdF v x p))) := by
    intro a
    induction a with
    | zero =>
      intro i f e1 e2
      obtain ⟨f, rfl⟩ : ∃ q, f = q + 1 := ⟨f - 1, by omega⟩
      obtain rfl : i = 4 := by omega
      rw [F_X6_head_10.eq_2]
      simp (disch := omega) only [c_lt, c_ge, c_gt, c_le, c_eq, c_ne, c_lt0, c_ge0, c_le0, c_gt0, c_eq0, c_ne0, c_eqm, c_nem, c_m0, c_meq, c_mne, c_mlt, nI_add, pk_mul, Bool.cond_decide, cond_true, cond_false, ldA_n, stA_n, cpA_n, bnd_s, bindP_s, Option.bind_some, gN_sI, gN_sA, gI_sA, gA_sI, gI_eq, gA_eq, gI_ne, gA_ne, sA_sA, sI_sI, if_pos, if_neg, ite_true, ite_false, eq_self, not_true_eq_false, not_false_eq_true, Nat.add_zero, NF_ap, h1, h2]
      rw [show (8 : Nat) = 4 + 4 from rfl, dF_set (by decide), show (9 : Nat) = 4 + 5 from rfl, dF_set (by decide), hpF_4]
    | succ a ih =>
      intro i f e1 e2
      obtain ⟨f, rfl⟩ : ∃ q, f = q + 1 := ⟨f - 1, by omega⟩
      rw [F_X6_head_10.eq_2, pk_mul, pk_sub (by omega), byt_s v (by omega)]
      simp (disch := omega) only [c_lt, c_ge, c_gt, c_le, c_eq, c_ne, c_lt0, c_ge0, c_le0, c_gt0, c_eq0, c_ne0, c_eqm, c_nem, c_m0, c_meq, c_mne, c_mlt, nI_add, pk_mul, Bool.cond_decide, cond_true, cond_false, ldA_n, stA_n, cpA_n, bnd_s, bindP_s, Option.bind_some, gN_sI, gN_sA, gI_sA, gA_sI, gI_eq, gA_eq, gI_ne, gA_ne, sA_sA, sI_sI, if_pos, if_neg, ite_true, ite_false, eq_self, not_true_eq_false, not_false_eq_true, Nat.add_zero, NF_ap]
      rw [dF_set (by omega), hpF_s]
      exact ih (i + 1) f (by omega) (by omega)
  unfold F_X6_head
  rw [b_begin (by omega), Option.bind_some, ← hpF_0 v]
  exact key 4 0 N (by omega) (by omega)
/-- a number's last bit -/
theorem lb (v : Int32) : ∃ b, b < 2 ∧ v &&& nI 1 = nI b := pk_andE v 1 (by decide)
theorem u_sync (h : Rel d m n c l x p) (hN : 100 ≤ N) : ∃ v d' m', F_X5_sync N d = some (v, d') ∧ F_X6_sync N m = some (v, m') ∧ RR n d' m' := by
  have h' := Rel_0 h (nI 0)
  obtain ⟨m', hm'⟩ : ∃ q, q = sI m 0 (nI 0) := ⟨_, rfl⟩
  rw [← hm'] at h'
  have h0 := h'
  obtain ⟨hc, hm, hg, hp⟩ := h'
  have h2 := hc.n60
  have hxd := hc.xi
  have hxm := hm.xi
  obtain ⟨g1, g2, g3, g4, g5, g6⟩ := hg
  unfold F_X5_sync F_X6_sync
  rw [← hm', bnd_s m']
  rcases hp with ⟨o1, o2, jj, oo⟩ | ⟨o1, o2, -⟩
  rotate_left
  · refine ⟨-nI 3, d, m', ?_, ?_, ⟨c, l, x, p, h0⟩⟩
    · rw [o1]; rfl
    · rw [o2]; rfl
  obtain ⟨w, wa, wt, wl, jw1, jw2, jw3, jw4, jw5⟩ := jj
  obtain ⟨b, hb2, hb⟩ := lb (gI d 3 + nI 1)
  have hh8 : ∀ i, i < 24 → hdF (gI d 3 + nI 1) x p i < 256 := fun i _ => hdF_lt (by omega) (by omega) i
  -- the class
  obtain ⟨d1, hd1⟩ : ∃ q, q = sI d 3 (gI d 3 + nI 1) := ⟨_, rfl⟩
  have cd1 : CV d1 n c l x := by rw [hd1]; exact CV_sI hc (by decide) _
  have id1 : ∀ k, k ≠ 3 → gI d1 k = gI d k := by intro k hk; rw [hd1]; exact gI_ne hk
  have i31 : gI d1 3 = gI d 3 + nI 1 := by rw [hd1]; exact gI_eq
  have ad1 : gA d1 = gA d := by rw [hd1]; rfl
  obtain ⟨d2, hd2⟩ : ∃ q, q = sA d1 6 (secF (gA d1 6) 1 0 0 0 (hdF (gI d 3 + nI 1) x p)) := ⟨_, rfl⟩
  have cd2 : CV d2 n c l x := by rw [hd2]; exact CV_sA cd1 (by decide) _
  have id2 : gI d2 = gI d1 := by rw [hd2]; rfl
  obtain ⟨d3, e3, cd3, id3, ad3⟩ := e_store cd2 (N := N) (j := b) (t := 32) (D := sec 1 0 0 0 (hdF (gI d 3 + nI 1) x p)) (by omega) (by omega) (by omega) (fun i hi => by rw [hd2, gA_eq]; exact secF_lo hi) (fun i _ => sec_lt (by decide) (by decide) (by decide) (by decide) hh8 i)
  -- the reference
  obtain ⟨m1, hm1⟩ : ∃ q, q = sI m' 4 (gI m' 4 + nI 1) := ⟨_, rfl⟩
  have cm1 : MV m1 n c l x := by rw [hm1]; exact MV_sI hm (by decide) _
  have im1 : ∀ k, k ≠ 4 → gI m1 k = gI m' k := by intro k hk; rw [hm1]; exact gI_ne hk
  have i41 : gI m1 4 = gI d 3 + nI 1 := by rw [hm1, gI_eq, g4]
  have am1 : gA m1 = gA m' := by rw [hm1]; rfl
  obtain ⟨m2, hm2⟩ : ∃ q, q = sA m1 6 (dF (gA m1 6) 1 0 0 0 (hdF (gI d 3 + nI 1) x p)) := ⟨_, rfl⟩
  have cm2 : MV m2 n c l x := by rw [hm2]; exact MV_sA cm1 (by decide) _
  have im2 : gI m2 = gI m1 := by rw [hm2]; rfl
  have am2 : ∀ k, k ≠ 6 → gA m2 k = gA m1 k := by intro k hk; rw [hm2]; exact gA_ne hk
  obtain ⟨m3, f3, cm3, j3, im3, -, -, -, am3⟩ := e_write cm2.1 (N := N) (by omega) (j := b) (w := w) (by omega) (by omega) (by rw [im2, im1 9 (by decide)]; exact jw2) (g := gA m1 6) (a := 1) (b := 0) (e := 0) (d := 0) (hh := hdF (gI d 3 + nI 1) x p) (by rw [hm2]; exact gA_eq) (by decide) (by decide) (by decide) (by decide) hh8
  refine ⟨gI d 3 + nI 1, sI d3 8 (nI 0), sI m3 9 (nI 0), ?_, ?_, ⟨_, _, x, p, CV_sI cd3 (by decide) _, ⟨CW_sI cm3 _, ?_, cm2.2.2⟩, ?_, ?_⟩⟩
  · rw [o1, c_ne0 (by decide), show decide (¬ 1 = 0) = true from rfl, cond_true, bnd_s, ← hd1, i31, a_dh hN _ (by rw [id1 1 (by decide)]; exact hxd) (by rw [id1 2 (by decide)]; exact g1) (by omega) (by omega), Option.bind_some, ← hd2, id2, i31]
    unfold F_X5_headSector F_X3_clear
    rw [hb, Option.bind_some, e3, Option.bind_some, bnd_s, Option.bind_some, gI_ne (by decide), id3, id2, i31]
  · rw [o2, c_ne0 (by decide), show decide (¬ 1 = 0) = true from rfl, cond_true, bnd_s, ← hm1, i41, b_hd hN _ (by rw [im1 2 (by decide)]; exact hxm) (by rw [im1 3 (by decide)]; exact g2), Option.bind_some, ← hm2, im2, i41, hb, f3, Option.bind_some, bnd_s, gI_ne (by decide), im3 4 (by decide), im2, i41]
  · rw [gI_ne (by decide), im3 2 (by decide)]; exact cm2.2.1
  · unfold GG
    simp (disch := omega) only [c_lt, c_ge, c_gt, c_le, c_eq, c_ne, c_lt0, c_ge0, c_le0, c_gt0, c_eq0, c_ne0, c_eqm, c_nem, c_m0, c_meq, c_mne, c_mlt, nI_add, pk_mul, Bool.cond_decide, cond_true, cond_false, ldA_n, stA_n, cpA_n, bnd_s, bindP_s, Option.bind_some, gN_sI, gN_sA, gI_sA, gA_sI, gI_eq, gA_eq, gI_ne, gA_ne, sA_sA, sI_sI, if_pos, if_neg, ite_true, ite_false, eq_self, not_true_eq_false, not_false_eq_true, Nat.add_zero, NF_ap, id3, id2, id1, i31, im3, im2, im1, i41]
    exact ⟨g1, g2, g3, trivial, g5, g6⟩
  · refine Or.inl ⟨?_, ?_, ⟨0, fun _ => 0, fun _ _ => 0, fun _ => 0, gI_eq, gI_eq, by omega, fun k hk => by omega, fun k hk => by omega⟩, ?_⟩
    · simp (disch := omega) only [c_lt, c_ge, c_gt, c_le, c_eq, c_ne, c_lt0, c_ge0, c_le0, c_gt0, c_eq0, c_ne0, c_eqm, c_nem, c_m0, c_meq, c_mne, c_mlt, nI_add, pk_mul, Bool.cond_decide, cond_true, cond_false, ldA_n, stA_n, cpA_n, bnd_s, bindP_s, Option.bind_some, gN_sI, gN_sA, gI_sA, gA_sI, gI_eq, gA_eq, gI_ne, gA_ne, sA_sA, sI_sI, if_pos, if_neg, ite_true, ite_false, eq_self, not_true_eq_false, not_false_eq_true, Nat.add_zero, NF_ap, id3, id2, id1]
      exact o1
    · simp (disch := omega) only [c_lt, c_ge, c_gt, c_le, c_eq, c_ne, c_lt0, c_ge0, c_le0, c_gt0, c_eq0, c_ne0, c_eqm, c_nem, c_m0, c_meq, c_mne, c_mlt, nI_add, pk_mul, Bool.cond_decide, cond_true, cond_false, ldA_n, stA_n, cpA_n, bnd_s, bindP_s, Option.bind_some, gN_sI, gN_sA, gI_sA, gA_sI, gI_eq, gA_eq, gI_ne, gA_ne, sA_sA, sI_sI, if_pos, if_neg, ite_true, ite_false, eq_self, not_true_eq_false, not_false_eq_true, Nat.add_zero, NF_ap, im3, im2, im1]
      exact o2
    · rcases oo with ⟨i1, i2⟩ | ⟨i1, i2, kp, len, o, hor⟩
      · refine Or.inl ⟨?_, ?_⟩
        · simp (disch := omega) only [c_lt, c_ge, c_gt, c_le, c_eq, c_ne, c_lt0, c_ge0, c_le0, c_gt0, c_eq0, c_ne0, c_eqm, c_nem, c_m0, c_meq, c_mne, c_mlt, nI_add, pk_mul, Bool.cond_decide, cond_true, cond_false, ldA_n, stA_n, cpA_n, bnd_s, bindP_s, Option.bind_some, gN_sI, gN_sA, gI_sA, gA_sI, gI_eq, gA_eq, gI_ne, gA_ne, sA_sA, sI_sI, if_pos, if_neg, ite_true, ite_false, eq_self, not_true_eq_false, not_false_eq_true, Nat.add_zero, NF_ap, id3, id2, id1]
          exact i1
        · simp (disch := omega) only [c_lt, c_ge, c_gt, c_le, c_eq, c_ne, c_lt0, c_ge0, c_le0, c_gt0, c_eq0, c_ne0, c_eqm, c_nem, c_m0, c_meq, c_mne, c_mlt, nI_add, pk_mul, Bool.cond_decide, cond_true, cond_false, ldA_n, stA_n, cpA_n, bnd_s, bindP_s, Option.bind_some, gN_sI, gN_sA, gI_sA, gA_sI, gI_eq, gA_eq, gI_ne, gA_ne, sA_sA, sI_sI, if_pos, if_neg, ite_true, ite_false, eq_self, not_true_eq_false, not_false_eq_true, Nat.add_zero, NF_ap, im3, im2, im1]
          exact i2
      · refine Or.inr ⟨i1, i2, kp, len, o, OR_g hor ?_ ?_ ?_ ?_ ?_ ?_⟩
        · simp (disch := omega) only [c_lt, c_ge, c_gt, c_le, c_eq, c_ne, c_lt0, c_ge0, c_le0, c_gt0, c_eq0, c_ne0, c_eqm, c_nem, c_m0, c_meq, c_mne, c_mlt, nI_add, pk_mul, Bool.cond_decide, cond_true, cond_false, ldA_n, stA_n, cpA_n, bnd_s, bindP_s, Option.bind_some, gN_sI, gN_sA, gI_sA, gA_sI, gI_eq, gA_eq, gI_ne, gA_ne, sA_sA, sI_sI, if_pos, if_neg, ite_true, ite_false, eq_self, not_true_eq_false, not_false_eq_true, Nat.add_zero, NF_ap, id3, id2, id1]
        · simp (disch := omega) only [c_lt, c_ge, c_gt, c_le, c_eq, c_ne, c_lt0, c_ge0, c_le0, c_gt0, c_eq0, c_ne0, c_eqm, c_nem, c_m0, c_meq, c_mne, c_mlt, nI_add, pk_mul, Bool.cond_decide, cond_true, cond_false, ldA_n, stA_n, cpA_n, bnd_s, bindP_s, Option.bind_some, gN_sI, gN_sA, gI_sA, gA_sI, gI_eq, gA_eq, gI_ne, gA_ne, sA_sA, sI_sI, if_pos, if_neg, ite_true, ite_false, eq_self, not_true_eq_false, not_false_eq_true, Nat.add_zero, NF_ap, id3, id2, id1]
        · simp (disch := omega) only [c_lt, c_ge, c_gt, c_le, c_eq, c_ne, c_lt0, c_ge0, c_le0, c_gt0, c_eq0, c_ne0, c_eqm, c_nem, c_m0, c_meq, c_mne, c_mlt, nI_add, pk_mul, Bool.cond_decide, cond_true, cond_false, ldA_n, stA_n, cpA_n, bnd_s, bindP_s, Option.bind_some, gN_sI, gN_sA, gI_sA, gA_sI, gI_eq, gA_eq, gI_ne, gA_ne, sA_sA, sI_sI, if_pos, if_neg, ite_true, ite_false, eq_self, not_true_eq_false, not_false_eq_true, Nat.add_zero, NF_ap, im3, im2, im1]
        · simp (disch := omega) only [c_lt, c_ge, c_gt, c_le, c_eq, c_ne, c_lt0, c_ge0, c_le0, c_gt0, c_eq0, c_ne0, c_eqm, c_nem, c_m0, c_meq, c_mne, c_mlt, nI_add, pk_mul, Bool.cond_decide, cond_true, cond_false, ldA_n, stA_n, cpA_n, bnd_s, bindP_s, Option.bind_some, gN_sI, gN_sA, gI_sA, gA_sI, gI_eq, gA_eq, gI_ne, gA_ne, sA_sA, sI_sI, if_pos, if_neg, ite_true, ite_false, eq_self, not_true_eq_false, not_false_eq_true, Nat.add_zero, NF_ap, im3, im2, im1]
        · rw [gA_sI, ad3 11 (by decide), hd2, gA_ne (by decide), ad1]
        · rw [gA_sI, am3 2 (Or.inl rfl), am2 2 (by decide), am1]
theorem CV_un (h : CV d n c l x) {a t v : Nat} {f : Nat → Nat} (hv : v ≤ 1) (hf : ∀ i, i < 32 → f i < 256) : CW (sA (sA d 0 (NF (unI c f a t 32))) 1 (NF (uN l a v))) n (unI c f a t 32) (uN l a v) ∧ CV (sA (sA (sA d 0 (NF (unI c f a t 32))) 1 (NF (uN l a v))) 2 (upd (gA d 2) a (nI (so (unI c f a t 32) (uN l a v) a)))) n (unI c f a t 32) (uN l a v) x := by
  obtain ⟨h1, h2, h3, h4, h5, h6, h7, h8, h9, h10, h11⟩ := h
  constructor
  · unfold CW
    simp (disch := omega) only [c_lt, c_ge, c_gt, c_le, c_eq, c_ne, c_lt0, c_ge0, c_le0, c_gt0, c_eq0, c_ne0, c_eqm, c_nem, c_m0, c_meq, c_mne, c_mlt, nI_add, pk_mul, Bool.cond_decide, cond_true, cond_false, ldA_n, stA_n, cpA_n, bnd_s, bindP_s, Option.bind_some, gN_sI, gN_sA, gI_sA, gA_sI, gI_eq, gA_eq, gI_ne, gA_ne, sA_sA, sI_sI, if_pos, if_neg, ite_true, ite_false, eq_self, not_true_eq_false, not_false_eq_true, Nat.add_zero, NF_ap]
    exact ⟨h1, h2, h3, trivial, trivial, unI_lt h10 hf (by omega), uN_le h11 hv⟩
  · unfold CV
    simp (disch := omega) only [c_lt, c_ge, c_gt, c_le, c_eq, c_ne, c_lt0, c_ge0, c_le0, c_gt0, c_eq0, c_ne0, c_eqm, c_nem, c_m0, c_meq, c_mne, c_mlt, nI_add, pk_mul, Bool.cond_decide, cond_true, cond_false, ldA_n, stA_n, cpA_n, bnd_s, bindP_s, Option.bind_some, gN_sI, gN_sA, gI_sA, gA_sI, gI_eq, gA_eq, gI_ne, gA_ne, sA_sA, sI_sI, if_pos, if_neg, ite_true, ite_false, eq_self, not_true_eq_false, not_false_eq_true, Nat.add_zero, NF_ap]
    refine ⟨h1, h2, h3, trivial, trivial, ?_, h7, h8, h9, unI_lt h10 hf (by omega), uN_le h11 hv⟩
    intro k hk
    by_cases q : k = a
    · subst q; exact pk_us
    · rw [pk_un q, h6 k hk]
      refine congrArg nI (so_cg (fun i hi => ?_) ?_)
      · unfold unI
        rw [if_neg (by omega)]
      · unfold uN
        rw [if_neg q]
theorem e_tb (h : CV d n c l x) (hN : 100 ≤ N) {w q t v : Nat} {wa wl : Nat → Nat} {wt : Nat → Nat → Nat} (hj : JR d n w wa wt wl) (hq : q < w) (hw : w ≤ 60) (ht : t < 32) (hv : v ≤ 1) : ∃ s', F_X4_takeBack N d (nI (wa q)) (nI t) (nI (q * 32)) (nI v) = some s' ∧ CV s' n (unI c (wt q) (wa q) t 32) (uN l (wa q) v) x ∧ gI s' = gI d ∧ (∀ k, 3 ≤ k → gA s' k = gA d k) := by
  obtain ⟨j1, j2, j3, j4, j5⟩ := hj q hq
  have hn := h.n60
  have h1 := h.1
  have h4 := h.2.2.2.1
  have h5 := h.2.2.2.2.1
  obtain ⟨hW, hV⟩ := CV_un h (a := wa q) (t := t) (v := v) (f := wt q) hv (fun i hi => (j5 i hi).2)
  have hcp : va_cpy (gA d 4) (NF c) (q * 32 + t) (wa q * 32 + t) (32 - t) = NF (unI c (wt q) (wa q) t 32) := by
    funext z
    unfold va_cpy unI NF
    dsimp only
    by_cases k1 : 32 * wa q + t ≤ z ∧ z < 32 * wa q + 32
    · rw [if_pos (by omega), if_pos k1, show q * 32 + t + (z - (wa q * 32 + t)) = 32 * q + (z - 32 * wa q) by omega, (j5 _ (by omega)).1]
    · rw [if_neg (by omega), if_neg k1]
  refine ⟨_, ?_, hV, rfl, ?_⟩
  · unfold F_X4_takeBack
    rw [a_hasCell h.w (by omega) (by omega), if_pos ⟨j2, ht⟩, pk_sub (a := 1920) (by omega), pk_sub (a := 32) (by omega)]
    simp (disch := omega) only [c_lt, c_ge, c_gt, c_le, c_eq, c_ne, c_lt0, c_ge0, c_le0, c_gt0, c_eq0, c_ne0, c_eqm, c_nem, c_m0, c_meq, c_mne, c_mlt, nI_add, pk_mul, Bool.cond_decide, cond_true, cond_false, ldA_n, stA_n, cpA_n, bnd_s, bindP_s, Option.bind_some, gN_sI, gN_sA, gI_sA, gA_sI, gI_eq, gA_eq, gI_ne, gA_ne, sA_sA, sI_sI, if_pos, if_neg, ite_true, ite_false, eq_self, not_true_eq_false, not_false_eq_true, Nat.add_zero, NF_ap, h1, h4, h5, hcp, nar_b hv, upd_NF]
    rw [a_judge hW (by omega) j2]
    simp (disch := omega) only [c_lt, c_ge, c_gt, c_le, c_eq, c_ne, c_lt0, c_ge0, c_le0, c_gt0, c_eq0, c_ne0, c_eqm, c_nem, c_m0, c_meq, c_mne, c_mlt, nI_add, pk_mul, Bool.cond_decide, cond_true, cond_false, ldA_n, stA_n, cpA_n, bnd_s, bindP_s, Option.bind_some, gN_sI, gN_sA, gI_sA, gA_sI, gI_eq, gA_eq, gI_ne, gA_ne, sA_sA, sI_sI, if_pos, if_neg, ite_true, ite_false, eq_self, not_true_eq_false, not_false_eq_true, Nat.add_zero, NF_ap]
  · intro k hk
    simp (disch := omega) only [c_lt, c_ge, c_gt, c_le, c_eq, c_ne, c_lt0, c_ge0, c_le0, c_gt0, c_eq0, c_ne0, c_eqm, c_nem, c_m0, c_meq, c_mne, c_mlt, nI_add, pk_mul, Bool.cond_decide, cond_true, cond_false, ldA_n, stA_n, cpA_n, bnd_s, bindP_s, Option.bind_some, gN_sI, gN_sA, gI_sA, gA_sI, gI_eq, gA_eq, gI_ne, gA_ne, sA_sA, sI_sI, if_pos, if_neg, ite_true, ite_false, eq_self, not_true_eq_false, not_false_eq_true, Nat.add_zero, NF_ap]
theorem e_102 (h : MV m n c l x) (hN : 100 ≤ N) {w q t k : Nat} {wa wl : Nat → Nat} {wt : Nat → Nat → Nat} (hj : JR m n w wa wt wl) (hq : q < w) (hw : w ≤ 64) (ht : t ≤ 32) (hk : k ≤ q) : ∃ s', (∀ (K : St → Int32 → Int32 → Int32 → Option (Int32 × St)) (y : Int32), F_X6_cut_102 N K N m (nI k) y (nI q) (nI (wa q)) (nI t) = K s' (nI k) y (pI q)) ∧ MV s' n (unI c (wt q) (wa q) t 32) (uN l (wa q) (if q ≤ k then 0 else wl q)) x ∧ gI s' = gI m ∧ (∀ k, 2 ≤ k → gA s' k = gA m k) := by
  obtain ⟨j1, j2, j3, j4, j5⟩ := hj q hq
  have hn := h.n60
  have h1 := h.1.1
  have h4 := h.1.2.2.2.1
  have h5 := h.1.2.2.2.2.1
  have hc := h.1.2.2.2.2.2.1
  have hl := h.1.2.2.2.2.2.2
  refine ⟨sA (sA m 0 (NF (unI c (wt q) (wa q) t 32))) 1 (NF (uN l (wa q) (if q ≤ k then 0 else wl q))), ?_, ⟨?_, h.2⟩, rfl, ?_⟩
  · intro K y
    have key : ∀ a i f, i + a = 32 → t ≤ i → a < f → F_X6_cut_102 N K f (sA m 0 (NF (unI c (wt q) (wa q) t i))) (nI k) y (nI q) (nI (wa q)) (nI i) = K (sA (sA m 0 (NF (unI c (wt q) (wa q) t 32))) 1 (NF (uN l (wa q) (if q ≤ k then 0 else wl q)))) (nI k) y (pI q) := by
      intro a
      induction a with
      | zero =>
        intro i f e1 e3 e2
        obtain ⟨f, rfl⟩ : ∃ q, f = q + 1 := ⟨f - 1, by omega⟩
        obtain rfl : i = 32 := by omega
        rw [F_X6_cut_102.eq_2, pI_m]
        by_cases z : q ≤ k
        · rw [if_pos z]
          simp (disch := omega) only [c_lt, c_ge, c_gt, c_le, c_eq, c_ne, c_lt0, c_ge0, c_le0, c_gt0, c_eq0, c_ne0, c_eqm, c_nem, c_m0, c_meq, c_mne, c_mlt, nI_add, pk_mul, Bool.cond_decide, cond_true, cond_false, ldA_n, stA_n, cpA_n, bnd_s, bindP_s, Option.bind_some, gN_sI, gN_sA, gI_sA, gA_sI, gI_eq, gA_eq, gI_ne, gA_ne, sA_sA, sI_sI, if_pos, if_neg, ite_true, ite_false, eq_self, not_true_eq_false, not_false_eq_true, Nat.add_zero, NF_ap, h5, nar0, upd_NF]
        · rw [if_neg z]
          have : wl q = 0 ∨ wl q = 1 := by omega
          rcases this with z2 | z2
          · rw [z2] at j3 ⊢
            simp (disch := omega) only [c_lt, c_ge, c_gt, c_le, c_eq, c_ne, c_lt0, c_ge0, c_le0, c_gt0, c_eq0, c_ne0, c_eqm, c_nem, c_m0, c_meq, c_mne, c_mlt, nI_add, pk_mul, Bool.cond_decide, cond_true, cond_false, ldA_n, stA_n, cpA_n, bnd_s, bindP_s, Option.bind_some, gN_sI, gN_sA, gI_sA, gA_sI, gI_eq, gA_eq, gI_ne, gA_ne, sA_sA, sI_sI, if_pos, if_neg, ite_true, ite_false, eq_self, not_true_eq_false, not_false_eq_true, Nat.add_zero, NF_ap, h5, nar0, j3, upd_NF]
          · rw [z2] at j3 ⊢
            simp (disch := omega) only [c_lt, c_ge, c_gt, c_le, c_eq, c_ne, c_lt0, c_ge0, c_le0, c_gt0, c_eq0, c_ne0, c_eqm, c_nem, c_m0, c_meq, c_mne, c_mlt, nI_add, pk_mul, Bool.cond_decide, cond_true, cond_false, ldA_n, stA_n, cpA_n, bnd_s, bindP_s, Option.bind_some, gN_sI, gN_sA, gI_sA, gA_sI, gI_eq, gA_eq, gI_ne, gA_ne, sA_sA, sI_sI, if_pos, if_neg, ite_true, ite_false, eq_self, not_true_eq_false, not_false_eq_true, Nat.add_zero, NF_ap, h5, nar1, j3, upd_NF]
      | succ a ih =>
        intro i f e1 e3 e2
        obtain ⟨f, rfl⟩ : ∃ q, f = q + 1 := ⟨f - 1, by omega⟩
        rw [F_X6_cut_102.eq_2]
        simp (disch := omega) only [c_lt, c_ge, c_gt, c_le, c_eq, c_ne, c_lt0, c_ge0, c_le0, c_gt0, c_eq0, c_ne0, c_eqm, c_nem, c_m0, c_meq, c_mne, c_mlt, nI_add, pk_mul, Bool.cond_decide, cond_true, cond_false, ldA_n, stA_n, cpA_n, bnd_s, bindP_s, Option.bind_some, gN_sI, gN_sA, gI_sA, gA_sI, gI_eq, gA_eq, gI_ne, gA_ne, sA_sA, sI_sI, if_pos, if_neg, ite_true, ite_false, eq_self, not_true_eq_false, not_false_eq_true, Nat.add_zero, NF_ap]
        rw [(j5 i (by omega)).1, upd_NF, unI_s c (wt q) e3]
        exact ih (i + 1) f (by omega) (by omega) (by omega)
    have := key (32 - t) t N (by omega) (by omega) (by omega)
    rw [unI_t, ← h4, sA_id] at this
    exact this
  · unfold CW
    simp (disch := omega) only [c_lt, c_ge, c_gt, c_le, c_eq, c_ne, c_lt0, c_ge0, c_le0, c_gt0, c_eq0, c_ne0, c_eqm, c_nem, c_m0, c_meq, c_mne, c_mlt, nI_add, pk_mul, Bool.cond_decide, cond_true, cond_false, ldA_n, stA_n, cpA_n, bnd_s, bindP_s, Option.bind_some, gN_sI, gN_sA, gI_sA, gA_sI, gI_eq, gA_eq, gI_ne, gA_ne, sA_sA, sI_sI, if_pos, if_neg, ite_true, ite_false, eq_self, not_true_eq_false, not_false_eq_true, Nat.add_zero, NF_ap]
    refine ⟨h1, by omega, by omega, trivial, trivial, unI_lt hc (fun i hi => (j5 i hi).2) (by omega), uN_le hl ?_⟩
    by_cases z : q ≤ k
    · rw [if_pos z]; omega
    · rw [if_neg z]; exact j4
  · intro k hk
    simp (disch := omega) only [c_lt, c_ge, c_gt, c_le, c_eq, c_ne, c_lt0, c_ge0, c_le0, c_gt0, c_eq0, c_ne0, c_eqm, c_nem, c_m0, c_meq, c_mne, c_mlt, nI_add, pk_mul, Bool.cond_decide, cond_true, cond_false, ldA_n, stA_n, cpA_n, bnd_s, bindP_s, Option.bind_some, gN_sI, gN_sA, gI_sA, gA_sI, gI_eq, gA_eq, gI_ne, gA_ne, sA_sA, sI_sI, if_pos, if_neg, ite_true, ite_false, eq_self, not_true_eq_false, not_false_eq_true, Nat.add_zero, NF_ap]
/-- the end of cut in the reference -/
theorem b_cutE (hN : 100 ≤ N) {k : Nat} (hk : k < 2 ^ 31) (y : Int32) {f : Nat} (hf : 0 < f) : F_X6_cut_77 N f m (nI k) y (pI k) = some (nI 1, sI (sI (sI m 9 (nI 0)) 7 (-nI 1)) 1 (nI 0)) := by
  obtain ⟨f, rfl⟩ : ∃ q, f = q + 1 := ⟨f - 1, by omega⟩
  rw [F_X6_cut_77.eq_2]
  cases k with
  | zero =>
    unfold pI
    simp (disch := omega) only [c_lt, c_ge, c_gt, c_le, c_eq, c_ne, c_lt0, c_ge0, c_le0, c_gt0, c_eq0, c_ne0, c_eqm, c_nem, c_m0, c_meq, c_mne, c_mlt, nI_add, pk_mul, Bool.cond_decide, cond_true, cond_false, ldA_n, stA_n, cpA_n, bnd_s, bindP_s, Option.bind_some, gN_sI, gN_sA, gI_sA, gA_sI, gI_eq, gA_eq, gI_ne, gA_ne, sA_sA, sI_sI, if_pos, if_neg, ite_true, ite_false, eq_self, not_true_eq_false, not_false_eq_true, Nat.add_zero, NF_ap]
  | succ k =>
    rw [show pI (k + 1) = nI k from rfl]
    simp (disch := omega) only [c_lt, c_ge, c_gt, c_le, c_eq, c_ne, c_lt0, c_ge0, c_le0, c_gt0, c_eq0, c_ne0, c_eqm, c_nem, c_m0, c_meq, c_mne, c_mlt, nI_add, pk_mul, Bool.cond_decide, cond_true, cond_false, ldA_n, stA_n, cpA_n, bnd_s, bindP_s, Option.bind_some, gN_sI, gN_sA, gI_sA, gA_sI, gI_eq, gA_eq, gI_ne, gA_ne, sA_sA, sI_sI, if_pos, if_neg, ite_true, ite_false, eq_self, not_true_eq_false, not_false_eq_true, Nat.add_zero, NF_ap]
/-- what was written behind is taken back, on both sides -/
theorem u_undo (hN : 100 ≤ N) {w k t : Nat} {wa wl : Nat → Nat} {wt : Nat → Nat → Nat} (hw : w ≤ 60) (hk : k < w) (ht1 : 1 ≤ t) (ht : t < 32) : ∀ a q f f' d m c l, q = k + a → q < w → a < f → a + 1 < f' → CV d n c l x → MV m n c l x → JR d n w wa wt wl → JR m n w wa wt wl → gI d 8 = nI w → ∃ d' m' c' l', F_X3_undoBehind_8 N f d (nI k) (nI t) (nI q) = some d' ∧ F_X6_cut_77 N f' m (nI k) (nI t) (nI q) = some (nI 1, sI (sI (sI m' 9 (nI 0)) 7 (-nI 1)) 1 (nI 0)) ∧ CV d' n c' l' x ∧ MV m' n c' l' x ∧ gI d' = gI d ∧ gI m' = gI m := by
  intro a
  induction a with
  | zero =>
    intro q f f' d m c l e1 e2 e3 e4 hc hm jd jm h8
    obtain ⟨f, rfl⟩ : ∃ q, f = q + 1 := ⟨f - 1, by omega⟩
    obtain ⟨f', rfl⟩ : ∃ q, f' = q + 1 := ⟨f' - 1, by omega⟩
    obtain rfl : q = k := by omega
    have hn := hc.n60
    obtain ⟨j1, j2, j3, j4, j5⟩ := jd q e2
    obtain ⟨i1, -⟩ := jm q e2
    obtain ⟨d', z1, z2, z3, -⟩ := e_tb hc hN jd e2 hw ht (show 0 ≤ 1 by omega)
    obtain ⟨m', y1, y2, y3, -⟩ := e_102 hm hN jm e2 (by omega) (t := t) (by omega) (k := q) (by omega)
    rw [if_pos (Nat.le_refl q)] at y2
    refine ⟨d', m', _, _, ?_, ?_, z2, y2, z3, y3⟩
    · rw [F_X3_undoBehind_8.eq_2]
      simp (disch := omega) only [c_lt, c_ge, c_gt, c_le, c_eq, c_ne, c_lt0, c_ge0, c_le0, c_gt0, c_eq0, c_ne0, c_eqm, c_nem, c_m0, c_meq, c_mne, c_mlt, nI_add, pk_mul, Bool.cond_decide, cond_true, cond_false, ldA_n, stA_n, cpA_n, bnd_s, bindP_s, Option.bind_some, gN_sI, gN_sA, gI_sA, gA_sI, gI_eq, gA_eq, gI_ne, gA_ne, sA_sA, sI_sI, if_pos, if_neg, ite_true, ite_false, eq_self, not_true_eq_false, not_false_eq_true, Nat.add_zero, NF_ap, h8, j1, z1]
    · rw [F_X6_cut_77.eq_2, c_lt (by omega) (by omega), decide_eq_false (by omega), cond_false, ldA_n (by omega) (by decide), i1, c_ne (by omega) (by omega), decide_eq_false (fun z => z rfl), cond_false, y1]
      exact b_cutE hN (by omega) _ (by omega)
  | succ a ih =>
    intro q f f' d m c l e1 e2 e3 e4 hc hm jd jm h8
    obtain ⟨f, rfl⟩ : ∃ q, f = q + 1 := ⟨f - 1, by omega⟩
    obtain ⟨f', rfl⟩ : ∃ q, f' = q + 1 := ⟨f' - 1, by omega⟩
    have hn := hc.n60
    obtain ⟨j1, j2, j3, j4, j5⟩ := jd q e2
    obtain ⟨i1, -⟩ := jm q e2
    obtain ⟨d1, z1, z2, z3, z4⟩ := e_tb hc hN jd e2 hw (t := 0) (by omega) j4
    obtain ⟨m1, y1, y2, y3, y4⟩ := e_102 hm hN jm e2 (by omega) (t := 0) (by omega) (k := k) (by omega)
    rw [if_neg (by omega)] at y2
    obtain ⟨d', m', c', l', w1, w2, w3, w4, w5, w6⟩ := ih (q - 1) f f' d1 m1 _ _ (by omega) (by omega) (by omega) (by omega) z2 y2 (JR_f jd (z4 3 (by decide)) (z4 4 (by decide)) (z4 5 (by decide))) (JR_f jm (y4 3 (by decide)) (y4 4 (by decide)) (y4 5 (by decide))) (by rw [z3]; exact h8)
    refine ⟨d', m', c', l', ?_, ?_, w3, w4, w5.trans z3, w6.trans y3⟩
    · rw [F_X3_undoBehind_8.eq_2, c_le (by omega) (by omega), decide_eq_false (by omega), cond_false, c_lt0 (by omega), cond_false, ldA_n (by omega) (by decide), j1, ldA_n (by omega) (by decide), j3, pk_mul, z1, Option.bind_some, nI_m1 (by omega)]
      exact w1
    · rw [F_X6_cut_77.eq_2, c_lt (by omega) (by omega), decide_eq_false (by omega), cond_false, ldA_n (by omega) (by decide), i1, c_ne (by omega) (by omega), decide_eq_true (by omega), cond_true, y1, show pI q = nI (q - 1) from by cases q with
        | zero => omega
        | succ q => rfl]
      exact w2
end SC
