/-! what class and reference share, over naturals: cells c, lost flags l -/
def NF (c : Nat → Nat) : Nat → Int32 := fun i => nI (c i)
theorem NF_ap (c : Nat → Nat) (i : Nat) : NF c i = nI (c i) := rfl
def uN (c : Nat → Nat) (j v : Nat) : Nat → Nat := fun q => if q = j then v else c q
theorem upd_NF {c : Nat → Nat} {j v : Nat} : upd (NF c) j (nI v) = NF (uN c j v) := by
  funext q
  unfold upd uN
  by_cases h : q = j
  · simp [NF, h]
  · simp [NF, h]
/-- a draft: four bytes, 24 bytes of content -/
def dN (a b c d : Nat) (h : Nat → Nat) (j : Nat) : Nat := if j = 0 then a else if j = 1 then b else if j = 2 then c else if j = 3 then d else if j < 28 then h (j - 4) else 0
def dF (g : Nat → Int32) (a b c d : Nat) (h : Nat → Nat) : Nat → Int32 := fun j => if j < 32 then nI (dN a b c d h j) else g j
theorem dF_bg {g : Nat → Int32} {a b c d : Nat} : upd (upd (upd (upd (fun j => if 0 ≤ j ∧ j < 32 then nI 0 else g j) 0 (nI a)) 1 (nI b)) 2 (nI c)) 3 (nI d) = dF g a b c d (fun _ => 0) := by
  funext j
  unfold upd dF dN
  by_cases h0 : j = 0
  · subst h0; simp
  by_cases h1 : j = 1
  · subst h1; simp
  by_cases h2 : j = 2
  · subst h2; simp
  by_cases h3 : j = 3
  · subst h3; simp
  simp [h0, h1, h2, h3]
theorem dF_set {g : Nat → Int32} {a b c d : Nat} {h : Nat → Nat} {i v : Nat} (hi : i < 24) : upd (dF g a b c d h) (4 + i) (nI v) = dF g a b c d (uN h i v) := by
  funext j
  unfold upd dF dN uN
  by_cases h0 : j = 4 + i
  · subst h0
    rw [if_pos rfl, if_pos (by omega), if_neg (by omega), if_neg (by omega), if_neg (by omega), if_neg (by omega), if_pos (by omega), if_pos (by omega)]
  · rw [if_neg h0]
    by_cases h4 : 4 ≤ j
    · rw [if_neg (show ¬ j - 4 = i by omega)]
    · by_cases h1 : j = 0
      · subst h1; rfl
      by_cases h2 : j = 1
      · subst h2; rfl
      by_cases h3 : j = 2
      · subst h3; rfl
      have h5 : j = 3 := by omega
      subst h5; rfl
theorem dF_cg {g : Nat → Int32} {a b c d : Nat} {h h' : Nat → Nat} (e : ∀ i, i < 24 → h i = h' i) : dF g a b c d h = dF g a b c d h' := by
  funext j
  unfold dF dN
  by_cases h4 : 4 ≤ j ∧ j < 28
  · rw [e (j - 4) (by omega)]
  · by_cases h5 : j < 28
    · by_cases h1 : j = 0
      · subst h1; rfl
      by_cases h2 : j = 1
      · subst h2; rfl
      by_cases h3 : j = 2
      · subst h3; rfl
      have h6 : j = 3 := by omega
      subst h6; rfl
    · rw [if_neg h5, if_neg h5]
/-- byte k / 8 of a number -/
def byt (s : Int32) (k : Nat) : Nat := s.toBitVec.toNat / 2 ^ k % 2 ^ 8
theorem byt_lt (s : Int32) (k : Nat) : byt s k < 256 := Nat.mod_lt _ (by decide)
theorem byt_u (s : Int32) {i : Nat} (hi : i < 4) : (s.toUInt32 >>> ((nI (24 - 8 * i)).toUInt32 &&& Int32.toUInt32 31)).toInt32 &&& nI 255 = nI (byt s (24 - 8 * i)) := by
  rw [pk_and _ 8 (by decide)]
  unfold byt
  have : i = 0 ∨ i = 1 ∨ i = 2 ∨ i = 3 := by omega
  rcases this with rfl | rfl | rfl | rfl
  · rw [pk_ushr s _ 24 (by decide)]
  · rw [pk_ushr s _ 16 (by decide)]
  · rw [pk_ushr s _ 8 (by decide)]
  · rw [pk_ushr s _ 0 (by decide)]
theorem sshr_mod (x : BitVec 32) {k : Nat} (hk : k ≤ 24) : (x.sshiftRight k).toNat % 2 ^ 8 = x.toNat / 2 ^ k % 2 ^ 8 := by
  apply Nat.eq_of_testBit_eq
  intro i
  rw [Nat.testBit_mod_two_pow, Nat.testBit_mod_two_pow, Nat.testBit_div_two_pow]
  by_cases h : i < 8
  · rw [BitVec.testBit_toNat, BitVec.testBit_toNat, BitVec.getLsbD_sshiftRight]
    have h1 : ¬ 32 ≤ i := by omega
    have h2 : k + i < 32 := by omega
    simp [h1, h2, Nat.add_comm]
  · simp [h]
theorem byt_s (s : Int32) {i : Nat} (hi : i < 4) : (s >>> (nI (24 - 8 * i) &&& 31)) &&& nI 255 = nI (byt s (24 - 8 * i)) := by
  rw [pk_and _ 8 (by decide)]
  unfold byt
  refine congrArg nI ?_
  have key : ∀ (t : Int32) (k : Nat), k ≤ 24 → (t.toBitVec.smod 32).toNat = k → (s >>> t).toBitVec.toNat % 2 ^ 8 = s.toBitVec.toNat / 2 ^ k % 2 ^ 8 := by
    intro t k hk ht
    have e : (s >>> t).toBitVec = s.toBitVec.sshiftRight k := by
      show s.toBitVec.sshiftRight (t.toBitVec.smod 32).toNat = _
      rw [ht]
    rw [e, sshr_mod _ hk]
  have : i = 0 ∨ i = 1 ∨ i = 2 ∨ i = 3 := by omega
  rcases this with rfl | rfl | rfl | rfl
  · exact key _ 24 (by decide) (by decide)
  · exact key _ 16 (by decide) (by decide)
  · exact key _ 8 (by decide) (by decide)
  · exact key _ 0 (by decide) (by decide)
theorem byt_8 {n : Nat} (h : n < 256) : nI n &&& nI 255 = nI n := by
  rw [pk_andN (by omega) 8 (by decide), Nat.mod_eq_of_lt (by omega)]
/-- four bytes as a number -/
def w4 (a b c d : Int32) : Int32 := (((a <<< ((nI 24) &&& 31)) ||| (b <<< ((nI 16) &&& 31))) ||| (c <<< ((nI 8) &&& 31))) ||| d
theorem shl_bv (a s : Int32) (k : Nat) (hs : (s.toBitVec.smod 32).toNat = k) : (a <<< s).toBitVec = a.toBitVec <<< k := by
  show a.toBitVec <<< (s.toBitVec.smod 32).toNat = _
  rw [hs]
theorem w4_h (a b c d : Int32) : ((((((((nI 0 <<< ((nI 8) &&& 31)) ||| a) <<< ((nI 8) &&& 31)) ||| b) <<< ((nI 8) &&& 31)) ||| c) <<< ((nI 8) &&& 31)) ||| d) = w4 a b c d := by
  unfold w4
  apply Int32.toBitVec_inj.mp
  simp only [Int32.toBitVec_or, shl_bv _ (nI 8 &&& 31) 8 (by decide), shl_bv _ (nI 16 &&& 31) 16 (by decide), shl_bv _ (nI 24 &&& 31) 24 (by decide), BitVec.shiftLeft_or_distrib, ← BitVec.shiftLeft_add]
  rw [show (nI 0).toBitVec = 0#32 from by decide, BitVec.zero_shiftLeft, BitVec.zero_or]
/-- the sum over a sealed sector -/
theorem ps_cg {g g' : Nat → Int32} {b b' : Nat} : ∀ m, (∀ i, i < m → g (b + i) = g' (b' + i)) → ps g b m = ps g' b' m := by
  intro m
  induction m with
  | zero => intro _; rfl
  | succ m ih =>
    intro h
    show ps_st (ps g b m) (g (b + m)) = ps_st (ps g' b' m) (g' (b' + m))
    rw [ih (fun i hi => h i (by omega)), h m (by omega)]
theorem ps_lp {g : Nat → Int32} {n b : Nat} {G : Nat → Int32 → Int32 → Int32 → Option Int32} (hn : n < 2 ^ 31) (hb : b + 28 ≤ n) (hG : ∀ f x1 x2 x3, G (f + 1) x1 x2 x3 = bif mx_cnd .ge x3 (nI 28) then (some x2) else (ldA g n (x1 + x3) fun v1 => G f x1 (ps_st x2 v1) (x3 + (nI 1)))) : ∀ (m i f : Nat), i + m = 28 → m < f → G f (nI b) (ps g b i) (nI i) = some (ps g b 28) := by
  intro m
  induction m with
  | zero =>
    intro i f h1 h2
    obtain ⟨f, rfl⟩ : ∃ q, f = q + 1 := ⟨f - 1, by omega⟩
    obtain rfl : i = 28 := by omega
    rw [hG]
    simp (disch := omega) only [c_lt, c_ge, c_gt, c_le, c_eq, c_ne, c_lt0, c_ge0, c_le0, c_gt0, c_eq0, c_ne0, c_eqm, c_nem, c_m0, c_meq, c_mne, c_mlt, nI_add, pk_mul, Bool.cond_decide, cond_true, cond_false, ldA_n, stA_n, cpA_n, bnd_s, bindP_s, Option.bind_some, gN_sI, gN_sA, gI_sA, gA_sI, gI_eq, gA_eq, gI_ne, gA_ne, sA_sA, sI_sI, if_pos, if_neg, ite_true, ite_false, eq_self, not_true_eq_false, not_false_eq_true, Nat.add_zero]
  | succ m ih =>
    intro i f h1 h2
    obtain ⟨f, rfl⟩ : ∃ q, f = q + 1 := ⟨f - 1, by omega⟩
    rw [hG]
    simp (disch := omega) only [c_lt, c_ge, c_gt, c_le, c_eq, c_ne, c_lt0, c_ge0, c_le0, c_gt0, c_eq0, c_ne0, c_eqm, c_nem, c_m0, c_meq, c_mne, c_mlt, nI_add, pk_mul, Bool.cond_decide, cond_true, cond_false, ldA_n, stA_n, cpA_n, bnd_s, bindP_s, Option.bind_some, gN_sI, gN_sA, gI_sA, gA_sI, gI_eq, gA_eq, gI_ne, gA_ne, sA_sA, sI_sI, if_pos, if_neg, ite_true, ite_false, eq_self, not_true_eq_false, not_false_eq_true, Nat.add_zero]
    exact ih (i + 1) f (by omega) (by omega)
def sm (a b c d : Nat) (h : Nat → Nat) : Int32 := ps (NF (dN a b c d h)) 0 28
/-- a sealed sector -/
def sec (a b c d : Nat) (h : Nat → Nat) (j : Nat) : Nat := if j < 28 then dN a b c d h j else byt (sm a b c d h) (24 - 8 * (j - 28))
def secF (g : Nat → Int32) (a b c d : Nat) (h : Nat → Nat) : Nat → Int32 := fun j => if j < 32 then nI (sec a b c d h j) else g j
theorem dF_lo {g : Nat → Int32} {a b c d : Nat} {h : Nat → Nat} {j : Nat} (hj : j < 32) : dF g a b c d h j = nI (dN a b c d h j) := if_pos hj
theorem secF_lo {g : Nat → Int32} {a b c d : Nat} {h : Nat → Nat} {j : Nat} (hj : j < 32) : secF g a b c d h j = nI (sec a b c d h j) := if_pos hj
theorem ps_dF {g : Nat → Int32} {a b c d : Nat} {h : Nat → Nat} : ps (dF g a b c d h) 0 28 = sm a b c d h := ps_cg 28 (fun i hi => dF_lo (by omega))
/-- the four last bytes, one by one -/
def slF (g : Nat → Int32) (a b c d : Nat) (h : Nat → Nat) (m : Nat) : Nat → Int32 := fun j => if 28 + m ≤ j then dF g a b c d h j else secF g a b c d h j
theorem slF_0 {g : Nat → Int32} {a b c d : Nat} {h : Nat → Nat} : slF g a b c d h 0 = dF g a b c d h := by
  funext j
  unfold slF
  by_cases h1 : 28 + 0 ≤ j
  · rw [if_pos h1]
  · rw [if_neg h1]
    unfold secF dF sec
    rw [if_pos (by omega), if_pos (by omega), if_pos (by omega)]
theorem slF_4 {g : Nat → Int32} {a b c d : Nat} {h : Nat → Nat} : slF g a b c d h 4 = secF g a b c d h := by
  funext j
  unfold slF
  by_cases h1 : 28 + 4 ≤ j
  · rw [if_pos h1]
    unfold secF dF
    rw [if_neg (by omega), if_neg (by omega)]
  · rw [if_neg h1]
theorem slF_s {g : Nat → Int32} {a b c d : Nat} {h : Nat → Nat} {m : Nat} (hm : m < 4) : upd (slF g a b c d h m) (28 + m) (nI (byt (sm a b c d h) (24 - 8 * m))) = slF g a b c d h (m + 1) := by
  funext j
  unfold upd slF
  by_cases h0 : j = 28 + m
  · subst h0
    rw [if_pos rfl, if_neg (by omega)]
    unfold secF sec
    rw [if_pos (by omega), if_neg (by omega), show 28 + m - 28 = m by omega]
  · rw [if_neg h0]
    by_cases h1 : 28 + m ≤ j
    · rw [if_pos h1, if_pos (by omega)]
    · rw [if_neg h1, if_neg (by omega)]
/-- the sort of a sector, 0 if it is not whole -/
def so (c l : Nat → Nat) (j : Nat) : Nat := if l j = 0 ∧ 1 ≤ c (32 * j) ∧ c (32 * j) ≤ 4 ∧ w4 (nI (c (32 * j + 28))) (nI (c (32 * j + 29))) (nI (c (32 * j + 30))) (nI (c (32 * j + 31))) = ps (NF c) (32 * j) 28 then c (32 * j) else 0
theorem so_le (c l : Nat → Nat) (j : Nat) : so c l j ≤ 4 := by
  unfold so
  by_cases h : l j = 0 ∧ 1 ≤ c (32 * j) ∧ c (32 * j) ≤ 4 ∧ w4 (nI (c (32 * j + 28))) (nI (c (32 * j + 29))) (nI (c (32 * j + 30))) (nI (c (32 * j + 31))) = ps (NF c) (32 * j) 28
  · rw [if_pos h]; omega
  · rw [if_neg h]; omega
/-- the sort is a matter of the sector's own cells -/
theorem so_cg {c c' l l' : Nat → Nat} {j : Nat} (h : ∀ i, i < 32 → c (32 * j + i) = c' (32 * j + i)) (hl : l j = l' j) : so c l j = so c' l' j := by
  unfold so
  have h0 := h 0 (by omega)
  rw [Nat.add_zero] at h0
  rw [hl, h0, h 28 (by omega), h 29 (by omega), h 30 (by omega), h 31 (by omega), ps_cg (g := NF c) (g' := NF c') (b := 32 * j) (b' := 32 * j) 28 (fun i hi => congrArg nI (h i (by omega)))]
/-- a block in the log -/
def bk (c l : Nat → Nat) (x b : Nat) : Bool := decide (2 ≤ b ∧ b < x ∧ so c l b = 2)
/-- the first t bytes of a sector D come to sector j -/
def stN (c D : Nat → Nat) (j t : Nat) : Nat → Nat := fun q => if 32 * j ≤ q ∧ q < 32 * j + t then D (q - 32 * j) else c q
theorem stN_0 (c D : Nat → Nat) (j : Nat) : stN c D j 0 = c := by
  funext q
  exact if_neg (by omega)
theorem stN_s (c D : Nat → Nat) (j t : Nat) : uN (stN c D j t) (32 * j + t) (D t) = stN c D j (t + 1) := by
  funext q
  unfold uN stN
  by_cases h : q = 32 * j + t
  · subst h
    rw [if_pos rfl, if_pos (by omega), show 32 * j + t - 32 * j = t by omega]
  · rw [if_neg h]
    by_cases h1 : 32 * j ≤ q ∧ q < 32 * j + t
    · rw [if_pos h1, if_pos (by omega)]
    · rw [if_neg h1, if_neg (by omega)]
