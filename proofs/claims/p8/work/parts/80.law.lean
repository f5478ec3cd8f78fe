/-! the law: rows of its walk in the small machine; the script is the place 1000 -/
section LW
variable {p : Program} {l : Launch} {e : Env} {s : State} {m : MethodId} {below : List Frame} {meth : Method} {c : Code} {D : va_G} {cT : Nat → ClassId} {b L0 : Nat} {xs : Nat → Int32}
/-- the law's goal at a state of the small machine -/
def lG (p : Program) (l : Launch) (e : Env) (s : State) (m : MethodId) (below : List Frame) (meth : Method) (c : Code) (D : va_G) (cT : Nat → ClassId) (b : Nat) (st : mx_S) : Prop :=
  mx_G p l e room_1 s m #[Value.ref b] below meth c (lw_Z below #[Value.ref b] s) D tb_cl cT (fun q => s.heap.size ≤ q) 7 0 (fun _ => b) st
/-- what holds at the law's start -/
def lC (p : Program) (s : State) (m : MethodId) (meth : Method) (c : Code) (D : va_G) (cT : Nat → ClassId) (b L0 : Nat) (xs : Nat → Int32) : Prop :=
  mx_F p room_1 s m #[Value.ref b] meth c D tb_cl cT (fun q => s.heap.size ≤ q) tb_ty tb_GT tb_NW tb_MT tm_L ∧ (∀ z ∈ tb_NW, va_Nw z s) ∧ va_X b L0 xs s s.heap ∧ b < s.heap.size ∧ meth.sig.returnType = ret ∧ meth.locks = false ∧ (∀ w ∈ lw_tbl, w.before #[Value.ref b] s = true)
theorem lgo (C : lC p s m meth c D cT b L0 xs) {i : Instr} {len : Nat} {st st' : mx_S} (hd : decode cL_law st.1 = .ok (i, len)) (h : mx_go tb_cl tb_ty tm_L i len st = some st') (hkc : st'.2.2.2.2.1 ≤ 603072) (hks : st'.2.2.2.2.2 ≤ 7223016) (kk : lG p l e s m below meth c D cT b st') : lG p l e s m below meth c D cT b st := by
  have hle := mx_go_le h
  exact mx_go_ok C.1 hd h (Nat.le_trans hle.1 hkc) (Nat.le_trans hle.2 hks) hkc hks kk
/-- several steps that make nothing -/
theorem lgs (C : lC p s m meth c D cT b L0 xs) {pc' : Nat} {L' : mx_L} {S' : List Value} {w' : mx_W} {kc ks : Nat} (hkc : kc ≤ 603072) (hks : ks ≤ 7223016) : ∀ (is : List (Nat × Instr × Nat)) {st : mx_S}, (∀ q ∈ is, decode cL_law q.1 = .ok q.2) → xs_run tm_L is st = some (pc', L', S', w', kc, ks) → lG p l e s m below meth c D cT b (pc', L', S', w', kc, ks) → lG p l e s m below meth c D cT b st ∧ st.2.2.2.2.1 ≤ kc ∧ st.2.2.2.2.2 ≤ ks := by
  intro is
  induction is with
  | nil => intro st _ h k; cases h; exact ⟨k, Nat.le_refl _, Nat.le_refl _⟩
  | cons q is ih =>
    intro st hd h k
    unfold xs_run at h
    cases hq : (st.1 == q.1) with
    | false => rw [hq] at h; cases h
    | true =>
      rw [hq] at h
      simp only [cond_true] at h
      obtain ⟨st1, h2, h3⟩ := mx_bind h
      have hd1 := hd q List.mem_cons_self
      have hq : st.1 = q.1 := by simpa using hq
      rw [← hq] at hd1
      obtain ⟨k1, k2, k3⟩ := ih (fun z hz => hd z (List.mem_cons_of_mem _ hz)) h3 k
      have hle := mx_go_le h2
      exact ⟨lgo C hd1 h2 (Nat.le_trans k2 hkc) (Nat.le_trans k3 hks) k1, Nat.le_trans hle.1 k2, Nat.le_trans hle.2 k3⟩
/-- a call out of the table -/
theorem lcl (C : lC p s m meth c D cT b L0 xs) {i : Instr} {st : mx_S} {n : Nat} {M' : mx_M} {av rest : List Value} {q : mx_A} (hd : decode cL_law st.1 = .ok (i, 3)) (h : mx_cal tb_MT tm_L i st = some (n, M', av, rest)) (hM : tb_MT n = some M') (h6 : Nat.ble (mx_cs av) (mx_ml M') = true) (h4 : X n (0, lv_args 0 av, [], st.2.2.2.1, 0, 0) q)
    (hkc : st.2.2.2.2.1 + q.2.2.1 ≤ 603072) (hks : st.2.2.2.2.2 + q.2.2.2 ≤ 7223016) (hkeep : q.2.2.1 = 0 ∨ (Nat.ble q.2.1.length 1000 && mx_okl st.2.2.2.1.length st.2.1 && rest.all (mx_okv st.2.2.2.1.length)) = true)
    (kk : lG p l e s m below meth c D cT b (st.1 + 3, st.2.1, q.1.toList ++ rest, q.2.1, st.2.2.2.2.1 + q.2.2.1, st.2.2.2.2.2 + q.2.2.2)) : lG p l e s m below meth c D cT b st := by
  obtain ⟨f, h4⟩ := h4
  have hY := (tb_ok.2.2.2.2 n M' hM).2
  exact mx_call_ok C.1 tb_good tb_nest C.2.1 hY hd h (fun ad sz => mx_sound tb_ok l D cT (mx_rk M' + 1) n M' hM (Nat.lt_succ_self _) f av _ q h4 (Nat.le_of_ble_eq_true h6) ad sz) (by decide) (by decide) hkc hks hkeep kk
/-- counters may be rounded up -/
theorem lup {pc : Nat} {L : mx_L} {S : List Value} {w : mx_W} {kc ks kc' ks' : Nat} (h1 : kc ≤ kc' + 1) (h2 : ks ≤ ks') (kk : lG p l e s m below meth c D cT b (pc, L, S, w, kc' + 1, ks')) : lG p l e s m below meth c D cT b (pc, L, S, w, kc, ks) :=
  fun ad H locs ls a1 a2 a3 a4 a5 a6 a7 => W.widen h1 h2 (kk ad H locs ls a1 (fun z => absurd z (Nat.succ_ne_zero _)) a3 a4 a5 a6 a7)
/-- the script's ints -/
theorem lsld (C : lC p s m meth c D cT b L0 xs) {pc : Nat} {L : mx_L} {S : List Value} {w : mx_W} {k : Nat × Nat} {j : Nat} {v : Int32} (hd : decode cL_law pc = .ok (.iaload, 1)) (hw : w.length ≤ 1000) (hj : j < L0) (hL : L0 ≤ 2049) (hv : xs j = v) (kk : lG p l e s m below meth c D cT b (pc + 1, L, .int v :: S, w, k)) : lG p l e s m below meth c D cT b (pc, L, .int (nI j) :: .ref 1000 :: S, w, k) := by
  subst hv
  obtain ⟨F, -, hX, hbl, -⟩ := C
  intro ad H locs ls h1 h2 h3 h4 h5 h6 h7
  have e1 : ad 1000 = b := h1 1000 (Or.inr hw)
  have k0 := kk ad H locs ls h1 h2 h3 h4 h5 h6 h7
  show W p l e room_1 s m #[Value.ref b] below meth c H locs _ _ _ (F0 m pc ls (.int (nI j) :: .ref (ad 1000) :: S.map (mx_v ad)))
  rw [e1]
  refine va_sld F.1 F.2.1 hX hbl (Nat.not_le.mpr hbl) h6 (vp_in_nI hj (by omega)) hd ?_
  rw [nI_clamp (by omega)]
  exact k0
theorem lsln (C : lC p s m meth c D cT b L0 xs) {pc : Nat} {L : mx_L} {S : List Value} {w : mx_W} {k : Nat × Nat} (hd : decode cL_law pc = .ok (.arraylength, 1)) (hw : w.length ≤ 1000) (kk : lG p l e s m below meth c D cT b (pc + 1, L, .int (nI L0) :: S, w, k)) : lG p l e s m below meth c D cT b (pc, L, .ref 1000 :: S, w, k) := by
  obtain ⟨F, -, hX, hbl, -⟩ := C
  intro ad H locs ls h1 h2 h3 h4 h5 h6 h7
  have e1 : ad 1000 = b := h1 1000 (Or.inr hw)
  have k0 := kk ad H locs ls h1 h2 h3 h4 h5 h6 h7
  show W p l e room_1 s m #[Value.ref b] below meth c H locs _ _ _ (F0 m pc ls (.ref (ad 1000) :: S.map (mx_v ad)))
  rw [e1]
  exact va_slen F.1 F.2.1 hX hbl (Nat.not_le.mpr hbl) h6 hd k0
/-- the law's end -/
theorem lret (C : lC p s m meth c D cT b L0 xs) {pc : Nat} {L : mx_L} {w : mx_W} {kc ks : Nat} (hd : decode cL_law pc = .ok (.ireturn, 1)) (hkc : kc ≤ 603072) (hks : ks ≤ 7223016) : lG p l e s m below meth c D cT b (pc, L, [.int (nI 1)], w, kc, ks) := by
  obtain ⟨F, -, hX, hbl, hr, hlocks, -⟩ := C
  intro ad H locs ls h1 h2 h3 h4 h5 h6 h7
  refine va_forget (fun q hq => h6.2.2 q hq) ?_
  refine W.widen hkc hks ?_
  exact lw_ret F.1 F.2.1 hr hlocks hd
theorem lcmp {pc t : Nat} {off : Int} {x y : Int32} {cd : Jvm.ClassFile.Cond} {L : mx_L} {S : List Value} {w : mx_W} {kc ks : Nat} (C : lC p s m meth c D cT b L0 xs) (hd : decode cL_law pc = .ok (.if_icmp cd off, 3)) (ht : (pc : Int) + off = (t : Int)) (hkc : kc ≤ 603072) (hks : ks ≤ 7223016) (v : Bool) (hv : mx_cnd cd x y = v) (kk : lG p l e s m below meth c D cT b (cond v t (pc + 3), L, S, w, kc, ks)) : lG p l e s m below meth c D cT b (pc, L, .int y :: .int x :: S, w, kc, ks) := by
  have h0 : decide (0 ≤ (pc : Int) + off) = true := decide_eq_true (by omega)
  have ht2 : mx_to pc off = t := by unfold mx_to; omega
  refine lgo C (st' := (cond v t (pc + 3), L, S, w, kc, ks)) hd ?_ hkc hks kk
  show (bif decide (0 ≤ (pc : Int) + off) then some (cond (mx_cnd cd x y) (mx_to pc off) (pc + 3), L, S, w, kc, ks) else none) = _
  rw [h0, ht2, hv]
  rfl
theorem ltab {pc t len : Nat} {d lo hi off v : Int} {offs : Array Int} {x : Int32} {L : mx_L} {S : List Value} {w : mx_W} {kc ks : Nat} (C : lC p s m meth c D cT b L0 xs) (hd : decode cL_law pc = .ok (.tableswitch d lo hi offs, len)) (hx : x.toInt = v) (hg : (v < lo ∨ hi < v) ∧ d = off ∨ (¬ v < lo ∧ ¬ hi < v ∧ offs[(v - lo).toNat]? = some off)) (ht : (pc : Int) + off = (t : Int)) (hkc : kc ≤ 603072) (hks : ks ≤ 7223016) (kk : lG p l e s m below meth c D cT b (t, L, S, w, kc, ks)) : lG p l e s m below meth c D cT b (pc, L, .int x :: S, w, kc, ks) := by
  subst hx
  have h0 : decide (0 ≤ (pc : Int) + off) = true := decide_eq_true (by omega)
  have ht2 : mx_to pc off = t := by unfold mx_to; omega
  refine lgo C (st' := (t, L, S, w, kc, ks)) hd ?_ hkc hks kk
  show (if x.toInt < lo ∨ hi < x.toInt then mx_goto d (pc, L, S, w, kc, ks) else (match offs[(x.toInt - lo).toNat]? with
    | some off => mx_goto off (pc, L, S, w, kc, ks)
    | none => none)) = _
  have hgo : mx_goto off (pc, L, S, w, kc, ks) = some (t, L, S, w, kc, ks) := by
    show (bif decide (0 ≤ (pc : Int) + off) then some (mx_to pc off, L, S, w, kc, ks) else none) = _
    rw [h0, ht2]
    rfl
  rcases hg with ⟨h1, rfl⟩ | ⟨h1, h2, h3⟩
  · rw [if_pos h1]; exact hgo
  · rw [if_neg (by omega), h3]; exact hgo
end LW
