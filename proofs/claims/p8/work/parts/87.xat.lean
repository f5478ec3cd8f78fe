/-! PackDisk.at where it throws -/
abbrev xtx : String := "the row has no such byte"
abbrev xr_X : Room := { frames := 8, cells := 1, slots := 6, locals := 2048 }
abbrev xr_L : Room := { frames := 10, cells := 1, slots := 6, locals := 2560 }
theorem xa_all : ∀ w ∈ vx_atS RX5 157 xcls xnames, w ∈ tb_GT ∨ xw w = true := by
  intro w hw
  have h := List.all_eq_true.mp xa_g w hw
  simp only [Bool.or_eq_true] at h
  rcases h with h | h
  · exact Or.inl (List.mem_filter.mpr ⟨xa_in w hw, h⟩)
  · exact Or.inr h
theorem xw_go {w : Jvm.Cond} (hx : xw w = true) {args a' : Array Value} {s U : State} (hW : s.vm.Alike U.vm) (h : w.before args s = true) : w.before a' U = true := by
  cases w with
  | castable c1 c2 =>
    obtain ⟨c3, c4, h3, h4, h5⟩ := Cond.castable_spec h
    have g3 : U.vm.findClass c1 = some c3 := by rw [hW.findClass]; exact h3
    have g4 : U.vm.findClass c2 = some c4 := by rw [hW.findClass]; exact h4
    have g5 : U.vm.assignable c3 c4 = true := by rw [hW.assignable]; exact h5
    show (Jvm.Cond.castable c1 c2).holds a' U none U [] = true
    simp [Cond.holds, Cond.value, g3, g4, g5]
  | declares x =>
    have h1 : (Cond.declares x).before args (s.setVm U.vm) = true := by rw [Cond.declares_setVm hW]; exact h
    exact va_tabs (u := s.setVm U.vm) (U := U) rfl rfl h1
  | _ => cases hx
/-- what the start says of a throw -/
def xH (A : Nat → Prop) (sa : Nat) (U : State) : Prop := vx_Zq Bundle.tN "UNASSIGNED_STACK" Bundle.steD A U U.heap ∧ vx_Zq Bundle.tN "SUPPRESSED_SENTINEL" Bundle.listD A U U.heap ∧ vk_R RX5 155 xtx sa U ∧ ∀ w ∈ vx_atS RX5 157 xcls xnames, xw w = true → w.before #[] U = true
theorem xH_go {A B : Nat → Prop} {sa : Nat} {s U : State} {H : Heap} {locs : List Loc} (h : xH A sa s) (hS : va_S A s.heap H locs) (hU : U.heap = H) (hW : s.WarmedH U.vm) (hB : ∀ q, B q → A q) : xH B sa U := by
  obtain ⟨h1, h2, h3, h4⟩ := h
  subst hU
  exact ⟨(vx_Zq.moved hW.alike (h1.kept hS.2.1)).narrow hB, (vx_Zq.moved hW.alike (h2.kept hS.2.1)).narrow hB, vk_R.warm hW h3, fun w hw hx => xw_go hx hW.alike (h4 w hw hx)⟩
def xPc (D : va_G) (cT : Nat → ClassId) (ad : Nat → Nat) (av : List Value) (w : mx_W) (sz sa : Nat) : Array Value → State → Prop := fun a U => mx_Pc D tb_cl cT tb_NW ad av w sz a U ∧ xH (va_A (mx_w cT ad w) sz) sa U
theorem xPc_blind {D : va_G} {cT : Nat → ClassId} {ad : Nat → Nat} {av : List Value} {w : mx_W} {sz sa : Nat} : FrameBlind (xPc D cT ad av w sz sa) := by
  intro a U g mk q
  obtain ⟨q0, q1, q2, q3, q4⟩ := q
  exact ⟨mx_Pc_blind tb_nest a U g mk q0, vx_Zq.moved (u := U) (U := U.calling g mk a) (Vm.Alike.refl U.vm) q1, vx_Zq.moved (u := U) (U := U.calling g mk a) (Vm.Alike.refl U.vm) q2, vk_R.same (u := U) rfl q3, fun w hw hx => xw_go (s := U) hx (Vm.Alike.refl U.vm) (q4 w hw hx)⟩
def xXC (D : va_G) (cT : Nat → ClassId) (ad : Nat → Nat) (w : mx_W) (sz : Nat) (E : String) (st t : State) : Prop := E = xcls ∧ va_P D tb_cl (mx_w cT ad w) t.heap ∧ st.heap.size ≤ t.heap.size ∧ ∀ q : Nat, q < st.heap.size → ¬ va_A (mx_w cT ad w) sz q → t.heap[q]? = st.heap[q]?
section GX
variable {p : Program} {l : Launch} {e : Env} {R : Room} {s : State} {m : MethodId} {args : Array Value} {below : List Frame} {meth : Method} {c : Code} {Q : State → Prop} {D : va_G} {cT : Nat → ClassId} {A : Nat → Prop} {n0 : Nat} {ad0 : Nat → Nat} {M : mx_M}
theorem gif (F : mx_F p R s m args meth c D tb_cl cT A tb_ty tb_GT tb_NW tb_MT M) {pc t : Nat} {off : Int} {x : Int32} {cd : Jvm.ClassFile.Cond} {L : mx_L} {S : List Value} {w : mx_W} (hd : decode (mx_cc M) pc = .ok (.ifCond cd off, 3)) (ht : (pc : Int) + off = (t : Int)) (v : Bool) (hv : mx_cnd cd x 0 = v) (kk : mx_G p l e R s m args below meth c Q D tb_cl cT A (mx_ml M) n0 ad0 (cond v t (pc + 3), L, S, w, 0, 0)) : mx_G p l e R s m args below meth c Q D tb_cl cT A (mx_ml M) n0 ad0 (pc, L, .int x :: S, w, 0, 0) := by
  have h0 : decide (0 ≤ (pc : Int) + off) = true := decide_eq_true (by omega)
  have ht2 : mx_to pc off = t := by unfold mx_to; omega
  refine mx_go_ok F (st' := (cond v t (pc + 3), L, S, w, 0, 0)) hd ?_ (Nat.zero_le _) (Nat.zero_le _) (Nat.zero_le _) (Nat.zero_le _) kk
  show (bif decide (0 ≤ (pc : Int) + off) then some (cond (mx_cnd cd x 0) (mx_to pc off) (pc + 3), L, S, w, 0, 0) else none) = _
  rw [h0, ht2, hv]
  rfl
theorem gcp (F : mx_F p R s m args meth c D tb_cl cT A tb_ty tb_GT tb_NW tb_MT M) {pc t : Nat} {off : Int} {x y : Int32} {cd : Jvm.ClassFile.Cond} {L : mx_L} {S : List Value} {w : mx_W} (hd : decode (mx_cc M) pc = .ok (.if_icmp cd off, 3)) (ht : (pc : Int) + off = (t : Int)) (v : Bool) (hv : mx_cnd cd x y = v) (kk : mx_G p l e R s m args below meth c Q D tb_cl cT A (mx_ml M) n0 ad0 (cond v t (pc + 3), L, S, w, 0, 0)) : mx_G p l e R s m args below meth c Q D tb_cl cT A (mx_ml M) n0 ad0 (pc, L, .int y :: .int x :: S, w, 0, 0) := by
  have h0 : decide (0 ≤ (pc : Int) + off) = true := decide_eq_true (by omega)
  have ht2 : mx_to pc off = t := by unfold mx_to; omega
  refine mx_go_ok F (st' := (cond v t (pc + 3), L, S, w, 0, 0)) hd ?_ (Nat.zero_le _) (Nat.zero_le _) (Nat.zero_le _) (Nat.zero_le _) kk
  show (bif decide (0 ≤ (pc : Int) + off) then some (cond (mx_cnd cd x y) (mx_to pc off) (pc + 3), L, S, w, 0, 0) else none) = _
  rw [h0, ht2, hv]
  rfl
theorem ggs (F : mx_F p R s m args meth c D tb_cl cT A tb_ty tb_GT tb_NW tb_MT M) {pc' : Nat} {L' : mx_L} {S' : List Value} {w' : mx_W} : ∀ (is : List (Nat × Instr × Nat)) {st : mx_S}, (∀ q ∈ is, decode (mx_cc M) q.1 = .ok q.2) → xs_run M is st = some (pc', L', S', w', 0, 0) → mx_G p l e R s m args below meth c Q D tb_cl cT A (mx_ml M) n0 ad0 (pc', L', S', w', 0, 0) → mx_G p l e R s m args below meth c Q D tb_cl cT A (mx_ml M) n0 ad0 st ∧ st.2.2.2.2.1 ≤ 0 ∧ st.2.2.2.2.2 ≤ 0 := by
  intro is
  induction is with
  | nil => intro st _ h k; cases h; exact ⟨k, Nat.le_refl _, Nat.le_refl _⟩
  | cons q is ih =>
    intro st hd h k
    unfold xs_run at h
    cases hq : (st.1 == q.1) with
    | false => rw [hq] at h; cases h
    | true =>
      rw [hq] at h
      simp only [cond_true] at h
      obtain ⟨st1, h2, h3⟩ := mx_bind h
      have hd1 := hd q List.mem_cons_self
      have hq : st.1 = q.1 := by simpa using hq
      rw [← hq] at hd1
      obtain ⟨k1, k2, k3⟩ := ih (fun z hz => hd z (List.mem_cons_of_mem _ hz)) h3 k
      have hle := mx_go_le h2
      have a1 : st.2.2.2.2.1 ≤ 0 := Nat.le_trans hle.1 k2
      have a2 : st.2.2.2.2.2 ≤ 0 := Nat.le_trans hle.2 k3
      exact ⟨mx_go_ok F hd1 h2 (Nat.le_trans a1 (Nat.zero_le _)) (Nat.le_trans a2 (Nat.zero_le _)) (Nat.le_trans k2 (Nat.zero_le _)) (Nat.le_trans k3 (Nat.zero_le _)) k1, a1, a2⟩
end GX
set_option maxHeartbeats 4000000 in
set_option maxRecDepth 100000 in
theorem x_at (l : Launch) (hl : l.stackTraces = false) (D : va_G) (cT : Nat → ClassId) {d : St} {rest : mx_W} {N : Nat} {y z : Int32} {j : Nat} (hj : j < 2 ^ 31) (e1 : F_X5_isRowNumber d y = some (nI 1)) (e2 : gI d 0 = nI 1) (e3 : F_X5_findRow N d y = some (nI j)) (e4 : z < 0 ∨ ∃ v, F_X5_lengthOfRow d (nI j) = some v ∧ mx_cnd .lt z v = false) (ad : Nat → Nat) (sz sa : Nat) : vx_Met l yX5_at (mx_ws tb_GT tm_X5_at) xr_X (xPc D cT ad [.ref 0, .int y, .int z] (wd d rest) sz sa) (fun _ _ _ _ => False) (xXC D cT ad (wd d rest) sz) 1 6 (va_A (mx_w cT ad (wd d rest)) sz) := by
  obtain ⟨f1, r1⟩ := w_X5_isRowNumber (rest := rest) e1
  obtain ⟨f3, r3⟩ := w_X5_findRow (rest := rest) e3
  refine vx_ofW (cc := cX5_at) (maxL := 5) (ret := some .int) (by decide) rfl ?_
  intro p e s m args below meth c s₁ B hml ht hv
  obtain ⟨⟨rfl, hsz, hP, hK, hD0, hNs⟩, hU, hN, hstr, hcast⟩ := hv
  have hts0 := atoms_spec (ws := mx_ws tb_GT tm_X5_at) B.pre
  have hts : ∀ z' ∈ tb_GT, z'.before (([.ref 0, .int y, .int z] : List Value).map (mx_v ad)).toArray s = true := fun z' hz => hts0 z' (List.mem_cons_of_mem _ hz)
  have hown : s.vm.findClass RX5 = some m.cls := findClass_of_methodNamed B.named
  have hlocks := B.notSynchronized
  have hat : ∀ w ∈ vx_atS RX5 157 xcls xnames, w.before (([.ref 0, .int y, .int z] : List Value).map (mx_v ad)).toArray s = true := fun w hw => by
    rcases xa_all w hw with h | h
    · exact hts w h
    · exact xw_go h (Vm.Alike.refl s.vm) (hcast w hw h)
  subst hsz
  have hD := hD0.self (sz := s.heap.size)
  have hA : ∀ q : Nat, s.heap.size ≤ q → va_A (mx_w cT ad (wd d rest)) s.heap.size q := fun q h => Or.inr h
  have hlv := lv_entry (([.ref 0, .int y, .int z] : List Value).map (mx_v ad)) (n := 5) (Nat.le_of_ble_eq_true rfl)
  rw [lg_entry_eq]
  generalize (lg_sl (([.ref 0, .int y, .int z] : List Value).map (mx_v ad)) ++ List.replicate (5 - (lg_sl (([.ref 0, .int y, .int z] : List Value).map (mx_v ad))).length) Slot.unset).toArray = ls at hlv ⊢
  rw [mx_largs] at hlv
  have F : mx_F p xr_X s m (([.ref 0, .int y, .int z] : List Value).map (mx_v ad)).toArray meth c D tb_cl cT (va_A (mx_w cT ad (wd d rest)) s.heap.size) tb_ty tb_GT tb_NW tb_MT tm_X5_at := ⟨B.exec, B.bytes, hml, hown, hts, fun h => absurd h (by decide), hK, hA, tb_C, tb_J, tL_X5_at, fun _ => ⟨Nat.le_of_ble_eq_true rfl, Nat.le_of_ble_eq_true rfl⟩, fun h => absurd h (by decide)⟩
  have E : mx_G p l e xr_X s m (([.ref 0, .int y, .int z] : List Value).map (mx_v ad)).toArray below meth c (vx_MQ below (fun _ _ _ _ => False) (xXC D cT ad (wd d rest) s.heap.size) (([.ref 0, .int y, .int z] : List Value).map (mx_v ad)).toArray s 1 6 (va_A (mx_w cT ad (wd d rest)) s.heap.size)) D tb_cl cT (va_A (mx_w cT ad (wd d rest)) s.heap.size) (mx_ml tm_X5_at) (wd d rest).length ad (49, [(3, .int (nI j)), (0, .ref 0), (1, .int y), (2, .int z)], [], wd d rest, 0, 0) := by
    intro ad' H locs ls' h1 h2 h3 h4 h5 h6 h7
    have ee : ad' = ad := h2 rfl
    subst ee
    exact vx_throwS (own := RX5) (cls := xcls) (text := xtx) (names := xnames) (ik := 153) (is := 155) (ic := 157) (sa := sa) (A := va_A (mx_w cT ad' (wd d rest)) s.heap.size) (rest := []) B.exec B.bytes hl hown (by decide +kernel) (by decide +kernel) (hts _ xa_k) (hts _ xa_i) hstr hat xa_o hU hN h6 (h7.1.trans hml.symm) dX5_at_49 dX5_at_52 dX5_at_53 dX5_at_55 dX5_at_58 (fun x hx => (ht x hx).elim) (by decide) (by decide) (Nat.le_refl _) (Nat.le_refl _) hlocks
      (fun t _ hz hk => ⟨rfl, h4.kept (fun k x hx => hk x.1 ((h4 k x hx).lt)), Nat.le_trans h6.1 hz, fun q hq hn => by rw [hk q (Nat.lt_of_lt_of_le hq h6.1)]; exact h6.2.1 q hq hn⟩) h6.2.2 (Nat.le_refl _) (Nat.le_refl _)
  have K : mx_G p l e xr_X s m (([.ref 0, .int y, .int z] : List Value).map (mx_v ad)).toArray below meth c (vx_MQ below (fun _ _ _ _ => False) (xXC D cT ad (wd d rest) s.heap.size) (([.ref 0, .int y, .int z] : List Value).map (mx_v ad)).toArray s 1 6 (va_A (mx_w cT ad (wd d rest)) s.heap.size)) D tb_cl cT (va_A (mx_w cT ad (wd d rest)) s.heap.size) (mx_ml tm_X5_at) (wd d rest).length ad (0, [(0, .ref 0), (1, .int y), (2, .int z)], [], wd d rest, 0, 0) := by
    refine (ggs F (pc' := 2) (L' := [(0, .ref 0), (1, .int y), (2, .int z)]) (S' := [.int y, .ref 0]) (w' := wd d rest) [(0, .aload_n 0, 1), (1, .iload_n 1, 1)] (List.forall_mem_cons.mpr ⟨dX5_at_0, List.forall_mem_cons.mpr ⟨dX5_at_1, fun _ h => absurd h List.not_mem_nil⟩⟩) rfl ?_).1
    refine mx_call_ok F tb_good tb_nest hNs (tb_ok.2.2.2.2 _ _ tn_X5_isRowNumber).2 dX5_at_2 rfl (fun ad' sz' => mx_sound tb_ok l D cT (mx_rk tm_X5_isRowNumber + 1) _ tm_X5_isRowNumber tn_X5_isRowNumber (Nat.lt_succ_self _) f1 [.ref 0, .int y] (wd d rest) _ r1 (Nat.le_of_ble_eq_true rfl) ad' sz') (Nat.le_of_ble_eq_true rfl) (Nat.le_of_ble_eq_true rfl) (Nat.zero_le _) (Nat.zero_le _) (Or.inl rfl) ?_
    refine gif (pc := 5) (t := 11) F dX5_at_5 (by decide) true (by decide) ?_
    refine (ggs F (pc' := 15) (L' := [(0, .ref 0), (1, .int y), (2, .int z)]) (S' := [.int (gI d 0)]) (w' := wd d rest) [(11, .aload_n 0, 1), (12, .getfield 46, 3)] (List.forall_mem_cons.mpr ⟨dX5_at_11, List.forall_mem_cons.mpr ⟨dX5_at_12, fun _ h => absurd h List.not_mem_nil⟩⟩) rfl ?_).1
    refine gif (t := 26) F dX5_at_15 (by decide) false (by rw [e2]; decide) ?_
    refine (ggs F (pc' := 20) (L' := [(0, .ref 0), (1, .int y), (2, .int z)]) (S' := [.int y, .ref 0]) (w' := wd d rest) [(18, .aload_n 0, 1), (19, .iload_n 1, 1)] (List.forall_mem_cons.mpr ⟨dX5_at_18, List.forall_mem_cons.mpr ⟨dX5_at_19, fun _ h => absurd h List.not_mem_nil⟩⟩) rfl ?_).1
    refine mx_call_ok F tb_good tb_nest hNs (tb_ok.2.2.2.2 _ _ tn_X5_findRow).2 dX5_at_20 rfl (fun ad' sz' => mx_sound tb_ok l D cT (mx_rk tm_X5_findRow + 1) _ tm_X5_findRow tn_X5_findRow (Nat.lt_succ_self _) f3 [.ref 0, .int y] (wd d rest) _ r3 (Nat.le_of_ble_eq_true rfl) ad' sz') (Nat.le_of_ble_eq_true rfl) (Nat.le_of_ble_eq_true rfl) (Nat.zero_le _) (Nat.zero_le _) (Or.inl rfl) ?_
    refine (ggs F (pc' := 30) (L' := [(3, .int (nI j)), (0, .ref 0), (1, .int y), (2, .int z)]) (S' := [.int (-nI 1), .int (nI j)]) (w' := wd d rest) [(23, .goto 4, 3), (27, .istore_n 3, 1), (28, .iload_n 3, 1), (29, .iconst (-1), 1)] (List.forall_mem_cons.mpr ⟨dX5_at_23, List.forall_mem_cons.mpr ⟨dX5_at_27, List.forall_mem_cons.mpr ⟨dX5_at_28, List.forall_mem_cons.mpr ⟨dX5_at_29, fun _ h => absurd h List.not_mem_nil⟩⟩⟩⟩) rfl ?_).1
    refine gcp (t := 36) F dX5_at_30 (by decide) true (c_nem hj) ?_
    refine (ggs F (pc' := 37) (L' := [(3, .int (nI j)), (0, .ref 0), (1, .int y), (2, .int z)]) (S' := [.int z]) (w' := wd d rest) [(36, .iload_n 2, 1)] (List.forall_mem_cons.mpr ⟨dX5_at_36, fun _ h => absurd h List.not_mem_nil⟩) rfl ?_).1
    by_cases hz : z < 0
    · refine gif (t := 49) F dX5_at_37 (by decide) true (c_lt0n hz) ?_
      exact E
    · obtain ⟨v, e5, e6⟩ := e4.resolve_left hz
      obtain ⟨f5, r5⟩ := w_X5_lengthOfRow (rest := rest) e5
      refine gif (t := 49) F dX5_at_37 (by decide) false (decide_eq_false hz) ?_
      refine (ggs F (pc' := 43) (L' := [(3, .int (nI j)), (0, .ref 0), (1, .int y), (2, .int z)]) (S' := [.int (nI j), .ref 0, .int z]) (w' := wd d rest) [(40, .iload_n 2, 1), (41, .aload_n 0, 1), (42, .iload_n 3, 1)] (List.forall_mem_cons.mpr ⟨dX5_at_40, List.forall_mem_cons.mpr ⟨dX5_at_41, List.forall_mem_cons.mpr ⟨dX5_at_42, fun _ h => absurd h List.not_mem_nil⟩⟩⟩) rfl ?_).1
      refine mx_call_ok F tb_good tb_nest hNs (tb_ok.2.2.2.2 _ _ tn_X5_lengthOfRow).2 dX5_at_43 rfl (fun ad' sz' => mx_sound tb_ok l D cT (mx_rk tm_X5_lengthOfRow + 1) _ tm_X5_lengthOfRow tn_X5_lengthOfRow (Nat.lt_succ_self _) f5 [.ref 0, .int (nI j)] (wd d rest) _ r5 (Nat.le_of_ble_eq_true rfl) ad' sz') (Nat.le_of_ble_eq_true rfl) (Nat.le_of_ble_eq_true rfl) (Nat.zero_le _) (Nat.zero_le _) (Or.inl rfl) ?_
      refine gcp (pc := 46) (t := 59) F dX5_at_46 (by decide) false e6 ?_
      exact E
  exact K ad s.heap [] ls (fun _ _ => rfl) (fun _ => rfl) (Nat.le_refl _) hP hD va_S.rf hlv
