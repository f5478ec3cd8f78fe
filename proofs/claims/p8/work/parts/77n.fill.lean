/-! start: a found sector is written; the count of whole blocks -/
theorem gb (s : Int32) (k j : Nat) : (nI (byt s k)).toBitVec.getLsbD j = (decide (j < 8) && s.toBitVec.getLsbD (k + j)) := by
  show (BitVec.ofNat 32 (byt s k)).getLsbD j = _
  rw [BitVec.getLsbD_ofNat]
  unfold byt
  rw [Nat.testBit_mod_two_pow, Nat.testBit_div_two_pow, BitVec.testBit_toNat, Nat.add_comm j k]
  by_cases h : j < 8
  · simp [h, show j < 32 by omega]
  · simp [h]
theorem w4_byt (s : Int32) : w4 (nI (byt s 24)) (nI (byt s 16)) (nI (byt s 8)) (nI (byt s 0)) = s := by
  unfold w4
  apply Int32.toBitVec_inj.mp
  simp only [Int32.toBitVec_or, shl_bv _ (nI 8 &&& 31) 8 (by decide), shl_bv _ (nI 16 &&& 31) 16 (by decide), shl_bv _ (nI 24 &&& 31) 24 (by decide)]
  apply BitVec.eq_of_getLsbD_eq
  intro i hi
  rw [BitVec.getLsbD_or, BitVec.getLsbD_or, BitVec.getLsbD_or, BitVec.getLsbD_shiftLeft, BitVec.getLsbD_shiftLeft, BitVec.getLsbD_shiftLeft, gb, gb, gb, gb]
  by_cases h8 : i < 8
  · simp [h8, show i < 16 by omega, show i < 24 by omega]
  by_cases h16 : i < 16
  · simp [h8, h16, show i < 24 by omega, show i < 32 by omega, show i - 8 < 8 by omega, show 8 + (i - 8) = i by omega]
  by_cases h24 : i < 24
  · simp [h8, h16, h24, show i < 32 by omega, show ¬ i - 8 < 8 by omega, show i - 16 < 8 by omega, show 16 + (i - 16) = i by omega]
  · simp [h8, h16, h24, hi, show ¬ i - 8 < 8 by omega, show ¬ i - 16 < 8 by omega, show i - 24 < 8 by omega, show 24 + (i - 24) = i by omega]
theorem so_sec {c l hh : Nat → Nat} {a b e q j : Nat} (ha : 1 ≤ a ∧ a ≤ 4) : so (stN c (sec a b e q hh) j 32) (uN l j 0) j = a := by
  have hs : ∀ i, i < 32 → stN c (sec a b e q hh) j 32 (32 * j + i) = sec a b e q hh i := by
    intro i hi
    unfold stN
    rw [if_pos (by omega), show 32 * j + i - 32 * j = i by omega]
  have h0 : stN c (sec a b e q hh) j 32 (32 * j) = a := by
    have := hs 0 (by omega)
    rw [Nat.add_zero] at this
    rw [this]
    rfl
  have hp : ps (NF (stN c (sec a b e q hh) j 32)) (32 * j) 28 = sm a b e q hh := by
    unfold sm
    refine ps_cg 28 (fun i hi => ?_)
    show nI (stN c (sec a b e q hh) j 32 (32 * j + i)) = nI (dN a b e q hh (0 + i))
    rw [hs i (by omega), Nat.zero_add]
    unfold sec
    rw [if_pos (by omega)]
  have hk : ∀ k, k < 4 → sec a b e q hh (28 + k) = byt (sm a b e q hh) (24 - 8 * k) := by
    intro k hk
    unfold sec
    rw [if_neg (by omega), show 28 + k - 28 = k by omega]
  have k0 := hk 0 (by omega)
  have k1 := hk 1 (by omega)
  have k2 := hk 2 (by omega)
  have k3 := hk 3 (by omega)
  unfold so
  rw [hp, h0, hs 28 (by omega), hs 29 (by omega), hs 30 (by omega), hs 31 (by omega)]
  rw [show sec a b e q hh 28 = byt (sm a b e q hh) 24 from k0, show sec a b e q hh 29 = byt (sm a b e q hh) 16 from k1, show sec a b e q hh 30 = byt (sm a b e q hh) 8 from k2, show sec a b e q hh 31 = byt (sm a b e q hh) 0 from k3, w4_byt]
  rw [if_pos ⟨if_pos rfl, ha.1, ha.2, rfl⟩]
/-- the whole blocks among 2, .. -/
def cnt (c l : Nat → Nat) : Nat → Nat
  | 0 => 0
  | k + 1 => cnt c l k + (if so c l (k + 2) = 2 then 1 else 0)
theorem cnt_le (c l : Nat → Nat) : ∀ k, cnt c l k ≤ k := by
  intro k
  induction k with
  | zero => exact Nat.le_refl 0
  | succ k ih =>
    unfold cnt
    by_cases h : so c l (k + 2) = 2
    · rw [if_pos h]; omega
    · rw [if_neg h]; omega
theorem cnt_eq {c l c' l' : Nat → Nat} : ∀ k, (∀ j, j < k + 2 → so c' l' j = so c l j) → cnt c' l' k = cnt c l k := by
  intro k
  induction k with
  | zero => intro _; rfl
  | succ k ih =>
    intro h
    show cnt c' l' k + _ = cnt c l k + _
    rw [ih (fun j hj => h j (by omega)), h (k + 2) (by omega)]
theorem cnt_up {c l c' l' : Nat → Nat} {a : Nat} (h : ∀ j, j ≠ a → so c' l' j = so c l j) (h1 : so c l a ≠ 2) (h2 : so c' l' a = 2) (ha : 2 ≤ a) : ∀ k, a < k + 2 → cnt c' l' k = cnt c l k + 1 := by
  intro k
  induction k with
  | zero => intro h; omega
  | succ k ih =>
    intro hk
    show cnt c' l' k + _ = cnt c l k + _ + 1
    by_cases q : a = k + 2
    · rw [cnt_eq k (fun j hj => h j (by omega)), ← q, h2, if_pos rfl, if_neg h1]
    · rw [ih (by omega), h (k + 2) (by omega)]
      omega
section FI
variable {d m : St} {n x N : Nat} {c l : Nat → Nat}
/-- a sector of found bytes in the class -/
theorem a_fill (hc : CV d n c l x) (hN : 100 ≤ N) {s g a : Nat} {C : Nat → Nat} (hC : ∀ i, C i < 256) (h9 : gI d 9 = nI s) (hs : s ≤ 2) (hg : g < s) (hu : gA d 7 g = nI a) (ha : a < n) (hf : ∀ i, i < 24 → gA d 10 (24 * g + i) = nI (C i)) {f : Nat} : ∃ d', F_X5_fillGaps_10 N (f + 1) d (nI s) (nI g) = F_X5_fillGaps_10 N f d' (nI s) (nI (g + 1)) ∧ CV d' n (stN c (sec 2 0 0 0 (ct C 0 24)) a 32) (uN l a 0) x ∧ gI d' 6 = gI d 6 + nI 1 ∧ (∀ q, q ≠ 6 → gI d' q = gI d q) ∧ (∀ q, 7 ≤ q → gA d' q = gA d q) := by
  have hn := hc.n60
  have hh8 : ∀ i, i < 24 → ct C 0 24 i < 256 := fun i _ => ct_lt hC _ _ _
  obtain ⟨d1, hd1⟩ : ∃ q, q = sA d 6 (secF (gA d 6) 2 0 0 0 (ct C 0 24)) := ⟨_, rfl⟩
  have cd1 : CV d1 n c l x := by rw [hd1]; exact CV_sA hc (by decide) _
  obtain ⟨d2, e2, cd2, id2, ad2⟩ := e_store cd1 (N := N) (j := a) (t := 32) (D := sec 2 0 0 0 (ct C 0 24)) (by omega) ha (by omega) (fun i hi => by rw [hd1, gA_eq]; exact secF_lo hi) (fun i _ => sec_lt (by decide) (by decide) (by decide) (by decide) hh8 i)
  have id1 : gI d1 = gI d := by rw [hd1]; rfl
  have ad1 : ∀ q, q ≠ 6 → gA d1 q = gA d q := by intro q hq; rw [hd1]; exact gA_ne hq
  refine ⟨sI d2 6 (gI d 6 + nI 1), ?_, CV_sI cd2 (by decide) _, gI_eq, ?_, ?_⟩
  · have key : ∀ b i f', i + b = 24 → b < f' → F_X5_fillGaps_28 N (F_X5_fillGaps_10 N f) f' (sA d 6 (dF (gA d 6) 2 0 0 0 (ct C 0 i))) (nI s) (nI g) (nI i) = F_X5_fillGaps_10 N f (sI d2 6 (gI d 6 + nI 1)) (nI s) (nI (g + 1)) := by
      intro b
      induction b with
      | zero =>
        intro i f' e1 e3
        obtain ⟨f', rfl⟩ : ∃ q, f' = q + 1 := ⟨f' - 1, by omega⟩
        obtain rfl : i = 24 := by omega
        rw [F_X5_fillGaps_28.eq_2, c_ge (by decide) (by decide), show decide (24 ≤ 24) = true from rfl, cond_true, a_seal (by omega), Option.bind_some, ← hd1]
        unfold F_X2_sectorOf
        rw [id1, h9, c_lt0 (by omega), cond_false, c_ge (by omega) (by omega), decide_eq_false (by omega), cond_false, c_ge (by omega) (by decide), decide_eq_false (by omega), cond_false, ldA_n (by omega) (by decide), ad1 7 (by decide), hu, Option.bind_some, e2, Option.bind_some, bnd_s, id2, id1, nI_add]
      | succ b ih =>
        intro i f' e1 e3
        obtain ⟨f', rfl⟩ : ∃ q, f' = q + 1 := ⟨f' - 1, by omega⟩
        have hs2 := ct_s C 0 i
        rw [Nat.zero_add] at hs2
        rw [F_X5_fillGaps_28.eq_2, c_ge (by omega) (by decide), decide_eq_false (by omega), cond_false]
        unfold F_X2_filling
        rw [c_lt0 (by omega), cond_false, c_ge (by omega) (by decide), decide_eq_false (by omega), cond_false, c_lt0 (by omega), cond_false, c_ge (by omega) (by decide), decide_eq_false (by omega), cond_false, pk_mul, nI_add, ldA_n (by omega) (by decide), gA_ne (by decide), Nat.mul_comm g 24, hf i (by omega), Option.bind_some, a_setC (by omega) (hC i), Option.bind_some, hs2, nI_add]
        exact ih (i + 1) f' (by omega) (by omega)
    rw [F_X5_fillGaps_10.eq_2, c_ge (by omega) (by omega), decide_eq_false (by omega), cond_false, a_begin (by omega), Option.bind_some, ← ct_0 C 0]
    exact key 24 0 N (by omega) (by omega)
  · intro q hq
    rw [gI_ne hq, id2, id1]
  · intro q hq
    rw [gA_sI, ad2 q (by omega), ad1 q (by omega)]
theorem b_fill32 (hm : MV m n c l x) (hN : 100 ≤ N) {a : Nat} {C : Nat → Nat} (hC : ∀ i, C i < 256) (ha : a < n) (hf : ∀ i, i < 24 → gA m 13 i = nI (C i)) : ∃ m', F_X6_fill_32 N m (nI a) = some m' ∧ MV m' n (stN c (sec 2 0 0 0 (ct C 0 24)) a 32) (uN l a 0) x ∧ gI m' 5 = gI m 5 + nI 1 ∧ (∀ q, q ≠ 5 → q ≠ 9 → gI m' q = gI m q) ∧ (∀ q, 7 ≤ q → gA m' q = gA m q) := by
  have hn := hm.n60
  have hh8 : ∀ i, i < 24 → ct C 0 24 i < 256 := fun i _ => ct_lt hC _ _ _
  obtain ⟨m1, hm1⟩ : ∃ q, q = sI (sA m 6 (dF (gA m 6) 2 0 0 0 (ct C 0 24))) 9 (nI 0) := ⟨_, rfl⟩
  have cm1 : MV m1 n c l x := by rw [hm1]; exact MV_sI (MV_sA hm (by decide) _) (by decide) _
  have im1 : ∀ q, q ≠ 9 → gI m1 q = gI m q := by intro q hq; rw [hm1, gI_ne hq]; rfl
  have am1 : ∀ q, q ≠ 6 → gA m1 q = gA m q := by intro q hq; rw [hm1, gA_sI]; exact gA_ne hq
  obtain ⟨m2, e2, cm2, i9, im2, -, -, -, am2⟩ := e_write cm1.1 (N := N) (by omega) (j := a) (w := 0) ha (by omega) (by rw [hm1]; exact gI_eq) (g := gA m 6) (a := 2) (b := 0) (e := 0) (d := 0) (hh := ct C 0 24) (by rw [hm1, gA_sI]; exact gA_eq) (by decide) (by decide) (by decide) (by decide) hh8
  refine ⟨sI m2 5 (gI m 5 + nI 1), ?_, ⟨CW_sI cm2 _, ?_, cm1.2.2⟩, gI_eq, ?_, ?_⟩
  · have key : ∀ b i f', i + b = 24 → b < f' → F_X6_fill_32_10 N f' (sA m 6 (dF (gA m 6) 2 0 0 0 (ct C 0 i))) (nI a) (nI i) = some (sI m2 5 (gI m 5 + nI 1)) := by
      intro b
      induction b with
      | zero =>
        intro i f' e1 e3
        obtain ⟨f', rfl⟩ : ∃ q, f' = q + 1 := ⟨f' - 1, by omega⟩
        obtain rfl : i = 24 := by omega
        rw [F_X6_fill_32_10.eq_2, c_ge (by decide) (by decide), show decide (24 ≤ 24) = true from rfl, cond_true, bnd_s, ← hm1, e2, Option.bind_some, bnd_s, im2 5 (by decide), im1 5 (by decide)]
      | succ b ih =>
        intro i f' e1 e3
        obtain ⟨f', rfl⟩ : ∃ q, f' = q + 1 := ⟨f' - 1, by omega⟩
        have hs2 := ct_s C 0 i
        rw [Nat.zero_add] at hs2
        rw [F_X6_fill_32_10.eq_2, c_ge (by omega) (by decide), decide_eq_false (by omega), cond_false, ldA_n (by omega) (by decide), gA_ne (by decide), hf i (by omega), nI_add, stA_n (by omega) (by decide), gA_eq, dF_set (by omega), hs2, sA_sA, nI_add]
        exact ih (i + 1) f' (by omega) (by omega)
    unfold F_X6_fill_32
    rw [b_begin (by omega), Option.bind_some, ← ct_0 C 0]
    exact key 24 0 N (by omega) (by omega)
  · rw [gI_ne (by decide), im2 2 (by decide)]; exact cm1.2.1
  · intro q h5 h9
    rw [gI_ne h5, im2 q h9, im1 q h9]
  · intro q hq
    rw [gA_sI, am2 q (Or.inr hq), am1 q (by omega)]
theorem b_fill33 (hm : MV m n c l x) (hN : 100 ≤ N) {a : Nat} {C : Nat → Nat} (hC : ∀ i, C i < 256) (ha : a < n) (hf : ∀ i, i < 24 → gA m 14 i = nI (C i)) : ∃ m', F_X6_fill_33 N m (nI a) = some m' ∧ MV m' n (stN c (sec 2 0 0 0 (ct C 0 24)) a 32) (uN l a 0) x ∧ gI m' 5 = gI m 5 + nI 1 ∧ (∀ q, q ≠ 5 → q ≠ 9 → gI m' q = gI m q) ∧ (∀ q, 7 ≤ q → gA m' q = gA m q) := by
  have hn := hm.n60
  have hh8 : ∀ i, i < 24 → ct C 0 24 i < 256 := fun i _ => ct_lt hC _ _ _
  obtain ⟨m1, hm1⟩ : ∃ q, q = sI (sA m 6 (dF (gA m 6) 2 0 0 0 (ct C 0 24))) 9 (nI 0) := ⟨_, rfl⟩
  have cm1 : MV m1 n c l x := by rw [hm1]; exact MV_sI (MV_sA hm (by decide) _) (by decide) _
  have im1 : ∀ q, q ≠ 9 → gI m1 q = gI m q := by intro q hq; rw [hm1, gI_ne hq]; rfl
  have am1 : ∀ q, q ≠ 6 → gA m1 q = gA m q := by intro q hq; rw [hm1, gA_sI]; exact gA_ne hq
  obtain ⟨m2, e2, cm2, i9, im2, -, -, -, am2⟩ := e_write cm1.1 (N := N) (by omega) (j := a) (w := 0) ha (by omega) (by rw [hm1]; exact gI_eq) (g := gA m 6) (a := 2) (b := 0) (e := 0) (d := 0) (hh := ct C 0 24) (by rw [hm1, gA_sI]; exact gA_eq) (by decide) (by decide) (by decide) (by decide) hh8
  refine ⟨sI m2 5 (gI m 5 + nI 1), ?_, ⟨CW_sI cm2 _, ?_, cm1.2.2⟩, gI_eq, ?_, ?_⟩
  · have key : ∀ b i f', i + b = 24 → b < f' → F_X6_fill_33_10 N f' (sA m 6 (dF (gA m 6) 2 0 0 0 (ct C 0 i))) (nI a) (nI i) = some (sI m2 5 (gI m 5 + nI 1)) := by
      intro b
      induction b with
      | zero =>
        intro i f' e1 e3
        obtain ⟨f', rfl⟩ : ∃ q, f' = q + 1 := ⟨f' - 1, by omega⟩
        obtain rfl : i = 24 := by omega
        rw [F_X6_fill_33_10.eq_2, c_ge (by decide) (by decide), show decide (24 ≤ 24) = true from rfl, cond_true, bnd_s, ← hm1, e2, Option.bind_some, bnd_s, im2 5 (by decide), im1 5 (by decide)]
      | succ b ih =>
        intro i f' e1 e3
        obtain ⟨f', rfl⟩ : ∃ q, f' = q + 1 := ⟨f' - 1, by omega⟩
        have hs2 := ct_s C 0 i
        rw [Nat.zero_add] at hs2
        rw [F_X6_fill_33_10.eq_2, c_ge (by omega) (by decide), decide_eq_false (by omega), cond_false, ldA_n (by omega) (by decide), gA_ne (by decide), hf i (by omega), nI_add, stA_n (by omega) (by decide), gA_eq, dF_set (by omega), hs2, sA_sA, nI_add]
        exact ih (i + 1) f' (by omega) (by omega)
    unfold F_X6_fill_33
    rw [b_begin (by omega), Option.bind_some, ← ct_0 C 0]
    exact key 24 0 N (by omega) (by omega)
  · rw [gI_ne (by decide), im2 2 (by decide)]; exact cm1.2.1
  · intro q h5 h9
    rw [gI_ne h5, im2 q h9, im1 q h9]
  · intro q hq
    rw [gA_sI, am2 q (Or.inr hq), am1 q (by omega)]
end FI
