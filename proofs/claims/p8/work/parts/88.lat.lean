/-! the law's own at -/
set_option maxHeartbeats 4000000 in
set_option maxRecDepth 100000 in
theorem c_at (l : Launch) (D : va_G) (cT : Nat → ClassId) {d mm : St} {g : Nat → Int64} {N : Nat} {y z v : Int32} (e1 : F_X5_at N d y z = some v) (ad : Nat → Nat) (sz : Nat) : Met l yL_at (Jvm.Cond.codeWith yL_at cL_at 5 (some .int) [(0, 10, 13, 13)] :: tb_GT) (mx_rm tm_at (some (.int (nI 0)), WL d mm (vp_updL g (nI 0).toNatClampNeg v.toInt64), 0, 0)) (mx_Pc D tb_cl cT tb_NW ad [.ref 0, .int y, .int z, .ref 34] (WL d mm g) sz) (mx_Qc D tb_cl cT ad (WL d mm g) sz (some (.int (nI 0)), WL d mm (vp_updL g (nI 0).toNatClampNeg v.toInt64), 0, 0)) 0 0 (va_A (mx_w cT ad (WL d mm g)) sz) := by
  obtain ⟨f, hf⟩ := w_X5_at (rest := wm mm [.inl (2, 1, .inr (.inl g))]) e1
  refine va_MetW (cc := cL_at) (maxL := 5) (ret := some .int) (hh := [(0, 10, 13, 13)]) (by decide) rfl ?_
  intro p e s m args below meth c s₁ B hml hv
  obtain ⟨rfl, hsz, hP, hK, hD0, hNs⟩ := hv
  have hr := B.returns
  have hts0 := atoms_spec (ws := Jvm.Cond.codeWith yL_at cL_at 5 (some .int) [(0, 10, 13, 13)] :: tb_GT) B.pre
  have hts : ∀ z' ∈ tb_GT, z'.before (([.ref 0, .int y, .int z, .ref 34] : List Value).map (mx_v ad)).toArray s = true := fun z' hz => hts0 z' (List.mem_cons_of_mem _ hz)
  have hown : s.vm.findClass RL = some m.cls := findClass_of_methodNamed B.named
  have hlocks := B.notSynchronized
  subst hsz
  have hD := hD0.self (sz := s.heap.size)
  have hA : ∀ q : Nat, s.heap.size ≤ q → va_A (mx_w cT ad (WL d mm g)) s.heap.size q := fun q h => Or.inr h
  have hl := lv_entry (([.ref 0, .int y, .int z, .ref 34] : List Value).map (mx_v ad)) (n := 5) (Nat.le_of_ble_eq_true rfl)
  rw [lg_entry_eq]
  generalize (lg_sl (([.ref 0, .int y, .int z, .ref 34] : List Value).map (mx_v ad)) ++ List.replicate (5 - (lg_sl (([.ref 0, .int y, .int z, .ref 34] : List Value).map (mx_v ad))).length) Slot.unset).toArray = ls at hl ⊢
  rw [mx_largs] at hl
  have F : mx_F p (mx_rm tm_at (some (.int (nI 0)), WL d mm (vp_updL g (nI 0).toNatClampNeg v.toInt64), 0, 0)) s m (([.ref 0, .int y, .int z, .ref 34] : List Value).map (mx_v ad)).toArray meth c D tb_cl cT (va_A (mx_w cT ad (WL d mm g)) s.heap.size) tb_ty tb_GT tb_NW tb_MT tm_at := ⟨B.exec, B.bytes, hml, hown, hts, fun h => absurd h (by decide), hK, hA, tb_C, tb_J, tL_at, fun _ => ⟨Nat.le_of_ble_eq_true rfl, Nat.le_of_ble_eq_true rfl⟩, fun h => absurd h (by decide)⟩
  have K : mx_G p l e (mx_rm tm_at (some (.int (nI 0)), WL d mm (vp_updL g (nI 0).toNatClampNeg v.toInt64), 0, 0)) s m (([.ref 0, .int y, .int z, .ref 34] : List Value).map (mx_v ad)).toArray below meth c (MQ below (mx_Qc D tb_cl cT ad (WL d mm g) s.heap.size (some (.int (nI 0)), WL d mm (vp_updL g (nI 0).toNatClampNeg v.toInt64), 0, 0)) (([.ref 0, .int y, .int z, .ref 34] : List Value).map (mx_v ad)).toArray s 0 0 (va_A (mx_w cT ad (WL d mm g)) s.heap.size)) D tb_cl cT (va_A (mx_w cT ad (WL d mm g)) s.heap.size) (mx_ml tm_at) (WL d mm g).length ad (0, [(0, .ref 0), (1, .int y), (2, .int z), (3, .ref 34)], [], WL d mm g, 0, 0) := by
    refine (ggs F (pc' := 5) (L' := [(0, .ref 0), (1, .int y), (2, .int z), (3, .ref 34)]) (S' := [.int z, .int y, .ref 0, .int (nI 0), .ref 34]) (w' := WL d mm g) [(0, .aload_n 3, 1), (1, .iconst 0, 1), (2, .aload_n 0, 1), (3, .iload_n 1, 1), (4, .iload_n 2, 1)] (List.forall_mem_cons.mpr ⟨dL_at_0, List.forall_mem_cons.mpr ⟨dL_at_1, List.forall_mem_cons.mpr ⟨dL_at_2, List.forall_mem_cons.mpr ⟨dL_at_3, List.forall_mem_cons.mpr ⟨dL_at_4, fun _ h => absurd h List.not_mem_nil⟩⟩⟩⟩⟩) rfl ?_).1
    refine mx_call_ok F tb_good tb_nest hNs (tb_ok.2.2.2.2 _ _ tn_X5_at).2 dL_at_5 rfl (fun ad' sz' => mx_sound tb_ok l D cT (mx_rk tm_X5_at + 1) _ tm_X5_at tn_X5_at (Nat.lt_succ_self _) f [.ref 0, .int y, .int z] (WL d mm g) _ hf (Nat.le_of_ble_eq_true rfl) ad' sz') (Nat.le_of_ble_eq_true rfl) (Nat.le_of_ble_eq_true rfl) (Nat.zero_le _) (Nat.zero_le _) (Or.inl rfl) ?_
    refine mx_go_ok F (st' := (9, [(0, .ref 0), (1, .int y), (2, .int z), (3, .ref 34)], [.long v.toInt64, .int (nI 0), .ref 34], WL d mm g, 0, 0)) dL_at_8 rfl (Nat.zero_le _) (Nat.zero_le _) (Nat.zero_le _) (Nat.zero_le _) ?_
    refine mx_go_ok F (st' := (10, [(0, .ref 0), (1, .int y), (2, .int z), (3, .ref 34)], [], WL d mm (vp_updL g (nI 0).toNatClampNeg v.toInt64), 0, 0)) dL_at_9 rfl (Nat.zero_le _) (Nat.zero_le _) (Nat.zero_le _) (Nat.zero_le _) ?_
    refine mx_go_ok F (st' := (17, [(0, .ref 0), (1, .int y), (2, .int z), (3, .ref 34)], [], WL d mm (vp_updL g (nI 0).toNatClampNeg v.toInt64), 0, 0)) dL_at_10 rfl (Nat.zero_le _) (Nat.zero_le _) (Nat.zero_le _) (Nat.zero_le _) ?_
    refine mx_go_ok F (st' := (18, [(0, .ref 0), (1, .int y), (2, .int z), (3, .ref 34)], [.int (nI 0)], WL d mm (vp_updL g (nI 0).toNatClampNeg v.toInt64), 0, 0)) dL_at_17 rfl (Nat.zero_le _) (Nat.zero_le _) (Nat.zero_le _) (Nat.zero_le _) ?_
    exact mx_end_ok F hr hlocks dL_at_18 rfl
  exact K ad s.heap [] ls (fun _ _ => rfl) (fun _ => rfl) (Nat.le_refl _) hP hD va_S.rf hl
set_option maxHeartbeats 4000000 in
set_option maxRecDepth 100000 in
theorem c_atX (l : Launch) (hl : l.stackTraces = false) (D : va_G) (cT : Nat → ClassId) {d mm : St} {g : Nat → Int64} {N : Nat} {y z : Int32} {j : Nat} (hj : j < 2 ^ 31) (e1 : F_X5_isRowNumber d y = some (nI 1)) (e2 : gI d 0 = nI 1) (e3 : F_X5_findRow N d y = some (nI j)) (e4 : z < 0 ∨ ∃ v, F_X5_lengthOfRow d (nI j) = some v ∧ mx_cnd .lt z v = false) (ad : Nat → Nat) (sz sa : Nat) : Met l yL_at (Jvm.Cond.codeWith yL_at cL_at 5 (some .int) [(0, 10, 13, 13)] :: tb_GT) xr_L (xPc D cT ad [.ref 0, .int y, .int z, .ref 34] (WL d mm g) sz sa) (mx_Qc D tb_cl cT ad (WL d mm g) sz (some (.int (nI 1)), WL d mm g, 1, 6)) 1 6 (va_A (mx_w cT ad (WL d mm g)) sz) := by
  refine va_MetW (cc := cL_at) (maxL := 5) (ret := some .int) (hh := [(0, 10, 13, 13)]) (by decide) rfl ?_
  intro p e s m args below meth c s₁ B hml hv
  obtain ⟨⟨rfl, hsz, hP, hK, hD0, hNs⟩, hX0⟩ := hv
  have hr := B.returns
  have hts0 := atoms_spec (ws := Jvm.Cond.codeWith yL_at cL_at 5 (some .int) [(0, 10, 13, 13)] :: tb_GT) B.pre
  have hts : ∀ z' ∈ tb_GT, z'.before (([.ref 0, .int y, .int z, .ref 34] : List Value).map (mx_v ad)).toArray s = true := fun z' hz => hts0 z' (List.mem_cons_of_mem _ hz)
  have hown : s.vm.findClass RL = some m.cls := findClass_of_methodNamed B.named
  have hlocks := B.notSynchronized
  have htab := vx_table (x := yL_at) B (hts _ tc_at)
  subst hsz
  have hD := hD0.self (sz := s.heap.size)
  have hA : ∀ q : Nat, s.heap.size ≤ q → va_A (mx_w cT ad (WL d mm g)) s.heap.size q := fun q h => Or.inr h
  have hlv := lv_entry (([.ref 0, .int y, .int z, .ref 34] : List Value).map (mx_v ad)) (n := 5) (Nat.le_of_ble_eq_true rfl)
  rw [lg_entry_eq]
  generalize (lg_sl (([.ref 0, .int y, .int z, .ref 34] : List Value).map (mx_v ad)) ++ List.replicate (5 - (lg_sl (([.ref 0, .int y, .int z, .ref 34] : List Value).map (mx_v ad))).length) Slot.unset).toArray = ls at hlv ⊢
  rw [mx_largs] at hlv
  have F : mx_F p xr_L s m (([.ref 0, .int y, .int z, .ref 34] : List Value).map (mx_v ad)).toArray meth c D tb_cl cT (va_A (mx_w cT ad (WL d mm g)) s.heap.size) tb_ty tb_GT tb_NW tb_MT tm_at := ⟨B.exec, B.bytes, hml, hown, hts, fun h => absurd h (by decide), hK, hA, tb_C, tb_J, tL_at, fun _ => ⟨Nat.le_of_ble_eq_true rfl, Nat.le_of_ble_eq_true rfl⟩, fun h => absurd h (by decide)⟩
  have K : mx_G p l e xr_L s m (([.ref 0, .int y, .int z, .ref 34] : List Value).map (mx_v ad)).toArray below meth c (MQ below (mx_Qc D tb_cl cT ad (WL d mm g) s.heap.size (some (.int (nI 1)), WL d mm g, 1, 6)) (([.ref 0, .int y, .int z, .ref 34] : List Value).map (mx_v ad)).toArray s 1 6 (va_A (mx_w cT ad (WL d mm g)) s.heap.size)) D tb_cl cT (va_A (mx_w cT ad (WL d mm g)) s.heap.size) (mx_ml tm_at) (WL d mm g).length ad (0, [(0, .ref 0), (1, .int y), (2, .int z), (3, .ref 34)], [], WL d mm g, 0, 0) := by
    refine (ggs F (pc' := 5) (L' := [(0, .ref 0), (1, .int y), (2, .int z), (3, .ref 34)]) (S' := [.int z, .int y, .ref 0, .int (nI 0), .ref 34]) (w' := WL d mm g) [(0, .aload_n 3, 1), (1, .iconst 0, 1), (2, .aload_n 0, 1), (3, .iload_n 1, 1), (4, .iload_n 2, 1)] (List.forall_mem_cons.mpr ⟨dL_at_0, List.forall_mem_cons.mpr ⟨dL_at_1, List.forall_mem_cons.mpr ⟨dL_at_2, List.forall_mem_cons.mpr ⟨dL_at_3, List.forall_mem_cons.mpr ⟨dL_at_4, fun _ h => absurd h List.not_mem_nil⟩⟩⟩⟩⟩) rfl ?_).1
    intro ad' H locs ls' h1 h2 h3 h4 h5 h6 h7
    have ee : ad' = ad := h2 rfl
    subst ee
    obtain ⟨y1, y2, y3, y4, y5, y6, y7, y8, y9, y10, y11⟩ := tY_X5_at
    have hw0 : (WL d mm g)[0]? = some (.inr (4, [.ref 1, .ref 5, .ref 9, .ref 11, .ref 16, .ref 17, .int (gI d 0), .int (gI d 1), .int (gI d 2), .int (gI d 3), .int (gI d 4), .int (gI d 5), .int (gI d 6), .int (gI d 7)])) := rfl
    have hrecv := va_recv (ci := 4) (q := (RX5, TX5, 14)) hK h4 rfl (mx_w_at hw0)
    have hpre := mx_Pre (A := va_A (mx_w cT ad' (WL d mm g)) s.heap.size) tb_nest hNs hK h4 h5 [.ref 0, .int y, .int z]
    have hrun := vx_runV (R := xr_L) (g := F0 m 5 ls' [.int z, .int y, .ref (ad' 0), .int (nI 0), .ref (ad' 34)]) (H := H) (locs := locs) (cells := 0) (slots := 0) (C := RX5) (b := ad' 0) (As := [.int y, .int z]) (rest := [.int (nI 0), .ref (ad' 34)]) (e := e) (below := below) (meth := meth) ⟨F.1, F.2.1, F.2.2.1, F.2.2.2.1, hts⟩ (x_at l hl D cT (rest := wm mm [.inl (2, 1, .inr (.inl g))]) hj e1 e2 e3 e4 ad' H.size sa) ⟨callB_of 2 hts (mx_goodIn tb_good y3) rfl rfl rfl (hts _ y4) (hts _ (tb_mem 607 (by decide +kernel) rfl)) ⟨y5, y6, y7⟩ ⟨Nat.le_of_ble_eq_true rfl, Nat.le_of_ble_eq_true rfl⟩, hts _ tw_X5_at_inst, hts _ tw_X5_at_sel⟩ ⟨xPc_blind, hrecv, fun U hU hW => ⟨hpre.2 U hU hW, xH_go hX0 h6 hU hW (mx_aF hA h5 h6)⟩⟩ rfl rfl h7.1 rfl (lv_room (Nat.le_of_ble_eq_true rfl)) dL_at_5 ⟨Nat.le_refl _, Nat.le_refl _⟩
    intro T hT X
    rcases hrun T hT X with ⟨v, st₀, t, T', L, g0, X', hL, q1, q2, hq, st⟩ | ⟨q, st₀, t, T', L, E, ce, g0, X', hL, q1, q2, ⟨rfl, xP, xz, xk⟩, hce, hcv, hcl, st⟩
    · exact hq.elim
    · rw [g0] at xz xk
      have hF := mx_aF (s := s) (cT := cT) hA h5 h6
      have hS' : va_S (va_A (mx_w cT ad' (WL d mm g)) s.heap.size) s.heap T'.heap (locs ++ L) := ⟨Nat.le_trans h6.1 (by rw [q1]; exact xz), fun z' a1 a2 => by rw [q1, xk z' (Nat.lt_of_lt_of_le a1 h6.1) (fun y' => a2 (hF z' y'))]; exact h6.2.1 z' a1 a2, fun z' hz' => by
        rcases List.mem_append.mp hz' with h | h
        · exact h6.2.2 z' h
        · exact hF _ (hL z' h)⟩
      have kk : W p l e xr_L s m (([.ref 0, .int y, .int z, .ref 34] : List Value).map (mx_v ad')).toArray below meth c T'.heap (locs ++ L) 1 6 (MQ below (mx_Qc D tb_cl cT ad' (WL d mm g) s.heap.size (some (.int (nI 1)), WL d mm g, 1, 6)) (([.ref 0, .int y, .int z, .ref 34] : List Value).map (mx_v ad')).toArray s 1 6 (va_A (mx_w cT ad' (WL d mm g)) s.heap.size)) (F0 m 13 ls' [.ref q]) := by
        refine lv_astore B.exec B.bytes dL_at_13 h7 (by decide) rfl (fun ls9 hl9 => ?_)
        refine lv_iconst (v := nI 1) B.exec B.bytes dL_at_15 (by decide) ?_
        exact W.iret (v := nI 1) B.exec B.bytes hr (fun t9 ht9 hW9 => ⟨⟨ad', fun _ _ => rfl, fun _ => rfl, Nat.le_refl _, rfl, by rw [ht9, q1]; exact xP, h5⟩, hS'.F ht9⟩) hS'.2.2 dL_at_16
      obtain ⟨t2, a1, b1⟩ := cx_catch (own := RL) (name := xcls) (E := xcls) (pc := 5) (ls := ls') (rest := [.int (nI 0), .ref (ad' 34)]) (x := ⟨0, 10, 13, 13⟩) hown htab (by decide) (by decide) (hts _ xa_l) (xw_go rfl (Vm.Alike.refl s.vm) (hX0.2.2.2 _ xa_cm rfl)) (by rw [q1]; exact hce) hcv hcl kk T' rfl X'
      exact ⟨t2, st.trans a1, b1⟩
  exact K ad s.heap [] ls (fun _ _ => rfl) (fun _ => rfl) (Nat.le_refl _) hP hD va_S.rf hlv
section LAT
variable {p : Program} {l : Launch} {e : Env} {s : State} {m : MethodId} {below : List Frame} {meth : Method} {c : Code} {D : va_G} {cT : Nat → ClassId} {b L0 : Nat} {xs : Nat → Int32}
theorem at_sig : ∀ sig, parseMethodDescriptor yL_at.desc = some sig → 4 = sig.parameters.length := by
  intro sig h
  have h2 : (parseMethodDescriptor yL_at.desc).map (fun d => d.parameters.length) = some 4 := by decide +kernel
  rw [h] at h2
  exact (Option.some.inj h2).symm
set_option maxHeartbeats 4000000 in
set_option maxRecDepth 100000 in
theorem lat (C : lC p s m meth c D cT b L0 xs) {pc : Nat} (hdc : decode cL_law pc = .ok (.invokestatic 60, 3)) {L : mx_L} {d mm : St} {g : Nat → Int64} {N : Nat} {y z v : Int32} (e1 : F_X5_at N d y z = some v) {kc ks : Nat} (hkc : kc ≤ 603072) (hks : ks ≤ 7223016) (kk : lG p l e s m below meth c D cT b (pc + 3, L, [.int (nI 0)], WL d mm (vp_updL g (nI 0).toNatClampNeg v.toInt64), kc, ks)) : lG p l e s m below meth c D cT b (pc, L, [.ref 34, .int z, .int y, .ref 0], WL d mm g, kc, ks) := by
  obtain ⟨F, hNs, -⟩ := C
  have hts := F.2.2.2.2.1
  have hK := F.2.2.2.2.2.2.1
  have hA := F.2.2.2.2.2.2.2.1
  intro ad H locs ls h1 h2 h3 h4 h5 h6 h7
  have cw : vx_CSW room_1 s #[Value.ref b] RL 60 yL_at cL_at 5 (some .int) [(0, 10, 13, 13)] (Jvm.Cond.codeWith yL_at cL_at 5 (some .int) [(0, 10, 13, 13)] :: tb_GT) (mx_rm tm_at (some (.int (nI 0)), WL d mm (vp_updL g (nI 0).toNatClampNeg v.toInt64), 0, 0)) 0 0 4 := by
    refine ⟨⟨rfl, rfl, Nat.le_of_ble_eq_true rfl, Nat.le_of_ble_eq_true rfl, pay_in hts (fun w hw => ?_), List.mem_cons_self⟩, hts _ tc_at, hts _ tc_law_i, ⟨by decide +kernel, by decide +kernel⟩, at_sig, hts _ tc_at_l, hts _ tc_at_s⟩
    rcases List.mem_cons.mp hw with rfl | hw
    · exact ⟨tc_at, tb_good _ tc_at⟩
    · exact ⟨hw, tb_good _ hw⟩
  have hpre := mx_Pre (A := fun q => s.heap.size ≤ q) tb_nest hNs hK h4 h5 [.ref 0, .int y, .int z, .ref 34]
  refine mx_after (q := (some (.int (nI 0)), WL d mm (vp_updL g (nI 0).toNatClampNeg v.toInt64), 0, 0)) (vx_runSW (hh := [(0, 10, 13, 13)]) (As := ([.ref 0, .int y, .int z, .ref 34] : List Value).map (mx_v ad)) (rest := []) ⟨F.1, F.2.1, F.2.2.1, F.2.2.2.1, hts⟩ (c_at l D cT e1 ad H.size) cw hpre rfl rfl h7.1 rfl (lv_room (by decide)) hdc ⟨hkc, hks⟩) h6 (mx_aF hA h5 h6) (fun ad' H1 locs1 g1 g2 g3 g4 g5 g6 => ?_)
  have e9 : ad' = ad := g2 rfl
  subst e9
  exact kk ad' H1 locs1 ls h1 h2 h3 g4 g5 g6 h7
set_option maxHeartbeats 4000000 in
set_option maxRecDepth 100000 in
theorem latX (C : lC p s m meth c D cT b L0 xs) {sa : Nat} (hX0 : xH (fun q => s.heap.size ≤ q) sa s) (hl : l.stackTraces = false) {pc : Nat} (hdc : decode cL_law pc = .ok (.invokestatic 60, 3)) {L : mx_L} {d mm : St} {g : Nat → Int64} {N : Nat} {y z : Int32} {j : Nat} (hj : j < 2 ^ 31) (e1 : F_X5_isRowNumber d y = some (nI 1)) (e2 : gI d 0 = nI 1) (e3 : F_X5_findRow N d y = some (nI j)) (e4 : z < 0 ∨ ∃ v, F_X5_lengthOfRow d (nI j) = some v ∧ mx_cnd .lt z v = false) {kc ks : Nat} (hkc : kc + 1 ≤ 603072) (hks : ks + 6 ≤ 7223016) (kk : lG p l e s m below meth c D cT b (pc + 3, L, [.int (nI 1)], WL d mm g, kc + 1, ks + 6)) : lG p l e s m below meth c D cT b (pc, L, [.ref 34, .int z, .int y, .ref 0], WL d mm g, kc, ks) := by
  obtain ⟨F, hNs, -⟩ := C
  have hts := F.2.2.2.2.1
  have hK := F.2.2.2.2.2.2.1
  have hA := F.2.2.2.2.2.2.2.1
  intro ad H locs ls h1 h2 h3 h4 h5 h6 h7
  have cw : vx_CSW room_1 s #[Value.ref b] RL 60 yL_at cL_at 5 (some .int) [(0, 10, 13, 13)] (Jvm.Cond.codeWith yL_at cL_at 5 (some .int) [(0, 10, 13, 13)] :: tb_GT) xr_L 1 6 4 := by
    refine ⟨⟨rfl, rfl, Nat.le_of_ble_eq_true rfl, Nat.le_of_ble_eq_true rfl, pay_in hts (fun w hw => ?_), List.mem_cons_self⟩, hts _ tc_at, hts _ tc_law_i, ⟨by decide +kernel, by decide +kernel⟩, at_sig, hts _ tc_at_l, hts _ tc_at_s⟩
    rcases List.mem_cons.mp hw with rfl | hw
    · exact ⟨tc_at, tb_good _ tc_at⟩
    · exact ⟨hw, tb_good _ hw⟩
  have hpre := mx_Pre (A := fun q => s.heap.size ≤ q) tb_nest hNs hK h4 h5 [.ref 0, .int y, .int z, .ref 34]
  refine mx_after (q := (some (.int (nI 1)), WL d mm g, 1, 6)) (vx_runSW (hh := [(0, 10, 13, 13)]) (As := ([.ref 0, .int y, .int z, .ref 34] : List Value).map (mx_v ad)) (rest := []) ⟨F.1, F.2.1, F.2.2.1, F.2.2.2.1, hts⟩ (c_atX l hl D cT hj e1 e2 e3 e4 ad H.size sa) cw ⟨xPc_blind, fun U hU hW => ⟨hpre.2 U hU hW, xH_go hX0 h6 hU hW (mx_aF hA h5 h6)⟩⟩ rfl rfl h7.1 rfl (lv_room (by decide)) hdc ⟨hkc, hks⟩) h6 (mx_aF hA h5 h6) (fun ad' H1 locs1 g1 g2 g3 g4 g5 g6 => ?_)
  have e9 : ad' = ad := funext fun k => g1 k (Nat.lt_or_ge k _)
  subst e9
  exact kk ad' H1 locs1 ls h1 (fun z => absurd z (Nat.succ_ne_zero _)) h3 g4 g5 g6 h7
end LAT
