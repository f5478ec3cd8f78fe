/-! rows of a walk, with numbers that count -/
section XN
variable {mi : Nat} {M : mx_M} {r : mx_A} {pc : Nat} {L : mx_L} {S : List Value} {w : mx_W} {k : Nat × Nat}
theorem xaldN {a N j : Nat} {f : Nat → Int32} (h1 : tb_MT mi = some M) (h2 : decode (mx_cc M) pc = .ok (.iaload, 1)) (hw : w[a]? = some (.inl (0, N, .inl f))) (hj : j < N) (hN : N < 2 ^ 31) (kk : X mi (pc + 1, L, .int (f j) :: S, w, k) r) : X mi (pc, L, .int (nI j) :: .ref a :: S, w, k) r := by
  refine xald h1 h2 hw (vp_in_nI hj hN) ?_
  rw [nI_clamp (by omega)]
  exact kk
theorem xzldN {a N j : Nat} {f : Nat → Int32} (h1 : tb_MT mi = some M) (h2 : decode (mx_cc M) pc = .ok (.baload, 1)) (hw : w[a]? = some (.inl (1, N, .inl f))) (hj : j < N) (hN : N < 2 ^ 31) (kk : X mi (pc + 1, L, .int (f j) :: S, w, k) r) : X mi (pc, L, .int (nI j) :: .ref a :: S, w, k) r := by
  refine xzld h1 h2 hw (vp_in_nI hj hN) ?_
  rw [nI_clamp (by omega)]
  exact kk
theorem xastN {v : Int32} {a N j : Nat} {f : Nat → Int32} {w' : mx_W} (h1 : tb_MT mi = some M) (h2 : decode (mx_cc M) pc = .ok (.iastore, 1)) (hw : w[a]? = some (.inl (0, N, .inl f))) (hj : j < N) (hN : N < 2 ^ 31) (hw' : w.set a (.inl (0, N, .inl (upd f j v))) = w') (kk : X mi (pc + 1, L, S, w', k) r) : X mi (pc, L, .int v :: .int (nI j) :: .ref a :: S, w, k) r := by
  refine xast h1 h2 hw (vp_in_nI hj hN) ?_ kk
  rw [nI_clamp (by omega)]
  exact hw'
theorem xzstN {v v' : Int32} {a N j : Nat} {f : Nat → Int32} {w' : mx_W} (h1 : tb_MT mi = some M) (h2 : decode (mx_cc M) pc = .ok (.bastore, 1)) (hw : w[a]? = some (.inl (1, N, .inl f))) (hj : j < N) (hN : N < 2 ^ 31) (hv : vp_nar .boolean v = v') (hw' : w.set a (.inl (1, N, .inl (upd f j v'))) = w') (kk : X mi (pc + 1, L, S, w', k) r) : X mi (pc, L, .int v :: .int (nI j) :: .ref a :: S, w, k) r := by
  refine xzst h1 h2 hw (vp_in_nI hj hN) ?_ kk
  rw [nI_clamp (by omega), hv]
  exact hw'
/-- a return whose answer and world are told in other words -/
theorem xretE {v v' : Int32} {w' : mx_W} (h1 : tb_MT mi = some M) (hr : mx_ret M = some .int) (h2 : decode (mx_cc M) pc = .ok (.ireturn, 1)) (hv : v = v') (hw : w = w') : X mi (pc, L, [.int v], w, k) (some (.int v'), w', k) := by
  subst hv; subst hw
  exact xret h1 hr h2
theorem xretzE {v v' : Int32} {w' : mx_W} (h1 : tb_MT mi = some M) (hr : mx_ret M = some .boolean) (hz : v = 0 ∨ v = 1) (h2 : decode (mx_cc M) pc = .ok (.ireturn, 1)) (hv : v = v') (hw : w = w') : X mi (pc, L, [.int v], w, k) (some (.int v'), w', k) := by
  subst hv; subst hw
  exact xretz h1 hr hz h2
theorem xretvE {w' : mx_W} (h1 : tb_MT mi = some M) (hr : mx_ret M = none) (h2 : decode (mx_cc M) pc = .ok (.return_, 1)) (hw : w = w') : X mi (pc, L, [], w, k) (none, w', k) := by
  subst hw
  exact xretv h1 hr h2
end XN
theorem nlt {a b : Nat} (ha : a < 2 ^ 31) (hb : b < 2 ^ 31) (h : a < b) : nI a < nI b := (nI_ltI ha hb).mpr h
theorem nle {a b : Nat} (ha : a < 2 ^ 31) (hb : b < 2 ^ 31) (h : a ≤ b) : nI a ≤ nI b := (nI_leI ha hb).mpr h
theorem nnlt {a b : Nat} (ha : a < 2 ^ 31) (hb : b < 2 ^ 31) (h : b ≤ a) : ¬ nI a < nI b := fun z => absurd ((nI_ltI ha hb).mp z) (by omega)
theorem nnle {a b : Nat} (ha : a < 2 ^ 31) (hb : b < 2 ^ 31) (h : b < a) : ¬ nI a ≤ nI b := fun z => absurd ((nI_leI ha hb).mp z) (by omega)
theorem nne {a b : Nat} (ha : a < 2 ^ 31) (hb : b < 2 ^ 31) (h : a ≠ b) : ¬ nI a = nI b := fun z => h ((nI_eq ha hb).mp z)
/-- the first i places of an array hold v -/
def fl (g : Nat → Int32) (i : Nat) (v : Int32) : Nat → Int32 := fun j => if j < i then v else g j
theorem fl_0 (g : Nat → Int32) (v : Int32) : fl g 0 v = g := by
  funext j
  simp [fl]
theorem fl_s (g : Nat → Int32) (i : Nat) (v : Int32) : upd (fl g i v) i v = fl g (i + 1) v := by
  funext j
  unfold upd fl
  by_cases h : j = i
  · subst h; simp
  · by_cases h2 : j < i
    · simp [h, h2, show j < i + 1 by omega]
    · simp [h, h2, show ¬ j < i + 1 by omega]
/-- the sum of a sector's bytes -/
def ps_st (s x : Int32) : Int32 := (((s ^^^ x) <<< (nI 7 &&& 31)) ||| ((s ^^^ x).toUInt32 >>> ((nI 25).toUInt32 &&& Int32.toUInt32 31)).toInt32) * (461845907 : Int32)
def ps (g : Nat → Int32) (b : Nat) : Nat → Int32
  | 0 => nI 0
  | i + 1 => ps_st (ps g b i) (g (b + i))
theorem neq0 {a : Nat} (h : a = 0) : nI a = 0 := by rw [h]; exact nI_0
theorem xb1 : ¬ nI 1 = 0 := by decide
theorem xb0 : nI 0 = 0 := nI_0
theorem nar0 : vp_nar .boolean (nI 0) = nI 0 := by decide
theorem nar1 : vp_nar .boolean (nI 1) = nI 1 := by decide
section XT
variable {mi : Nat} {M : mx_M} {r : mx_A} {pc : Nat} {L : mx_L} {S : List Value} {w : mx_W} {k : Nat × Nat} {t len : Nat} {d lo hi off v : Int} {offs : Array Int} {x : Int32}
theorem xtabI (h1 : tb_MT mi = some M) (h2 : decode (mx_cc M) pc = .ok (.tableswitch d lo hi offs, len)) (hx : x.toInt = v) (hlo : ¬ v < lo) (hhi : ¬ hi < v) (ho : offs[(v - lo).toNat]? = some off) (ht : (pc : Int) + off = (t : Int)) (kk : X mi (t, L, S, w, k) r) : X mi (pc, L, .int x :: S, w, k) r := by
  subst hx
  have h0 : decide (0 ≤ (pc : Int) + off) = true := decide_eq_true (by omega)
  have ht2 : mx_to pc off = t := by unfold mx_to; omega
  refine mx_X.go (st' := (t, L, S, w, k)) h1 h2 ?_ kk
  show (if x.toInt < lo ∨ hi < x.toInt then mx_goto d (pc, L, S, w, k) else (match offs[(x.toInt - lo).toNat]? with
    | some off => mx_goto off (pc, L, S, w, k)
    | none => none)) = _
  rw [if_neg (by omega), ho]
  show (bif decide (0 ≤ (pc : Int) + off) then some (mx_to pc off, L, S, w, k) else none) = _
  rw [h0, ht2]
  rfl
theorem xtabO (h1 : tb_MT mi = some M) (h2 : decode (mx_cc M) pc = .ok (.tableswitch d lo hi offs, len)) (hx : x.toInt < lo ∨ hi < x.toInt) (ht : (pc : Int) + d = (t : Int)) (kk : X mi (t, L, S, w, k) r) : X mi (pc, L, .int x :: S, w, k) r := by
  have h0 : decide (0 ≤ (pc : Int) + d) = true := decide_eq_true (by omega)
  have ht2 : mx_to pc d = t := by unfold mx_to; omega
  refine mx_X.go (st' := (t, L, S, w, k)) h1 h2 ?_ kk
  show (if x.toInt < lo ∨ hi < x.toInt then mx_goto d (pc, L, S, w, k) else (match offs[(x.toInt - lo).toNat]? with
    | some off => mx_goto off (pc, L, S, w, k)
    | none => none)) = _
  rw [if_pos hx]
  show (bif decide (0 ≤ (pc : Int) + d) then some (mx_to pc d, L, S, w, k) else none) = _
  rw [h0, ht2]
  rfl
end XT
theorem or4 {A B C D : Prop} (h : A ∨ B ∨ C ∨ D) (a : ¬ A) (b : ¬ B) (c : ¬ C) : D := ((h.resolve_left a).resolve_left b).resolve_left c
abbrev zz : Nat → Int32 := fun _ => nI 0
