/-! the law's own method at, where PackDisk.at answers -/
abbrev WA (n : Nat) : mx_W := wD n (nI 1) (nI 2) (nI 0) (nI 0) (nI 0) (-nI 1) (nI 0) (nI 0) (nI 0) (nI 0) (nI 0) (fun _ => 0) (fun _ => 0) (fun _ => 0) (fun _ => 0) (fun _ => 0) (fun _ => 0) (fun _ => 0) (fun _ => 0) (fun _ => 0) (fun _ => 0) (fun _ => 0) (fun _ => 0) (fun _ => 0) (wM n (nI 0) (nI 1) (nI 2) (nI 0) (nI 0) (nI 0) (nI 0) (-nI 1) (nI 0) (nI 0) (nI 0) (fun _ => 0) (fun _ => 0) (fun _ => 0) (fun _ => 0) (fun _ => 0) (fun _ => 0) (fun _ => 0) (fun _ => 0) (fun _ => 0) (fun _ => 0) (fun _ => 0) (fun _ => 0) (fun _ => 0) (fun _ => 0) (fun _ => 0) [.inl (2, 1, .inr (.inl (vp_updL (fun _ => 0) (nI 0).toNatClampNeg ((-nI 2).toInt64))))])
set_option maxHeartbeats 4000000 in
set_option maxRecDepth 100000 in
theorem c_at (l : Launch) (D : va_G) (cT : Nat → ClassId) {n : Nat} (hn : n ≤ 60) (h8 : 8 ≤ n) (r i : Int32) (ad : Nat → Nat) (sz : Nat) : Met l yL_at (Jvm.Cond.codeWith yL_at cL_at 5 (some .int) [(0, 10, 13, 13)] :: tb_GT) (mx_rm tm_at (some (.int (nI 0)), WA n, 0, 0)) (mx_Pc D tb_cl cT tb_NW ad [.ref 0, .int r, .int i, .ref 34] (WF n) sz) (mx_Qc D tb_cl cT ad (WF n) sz (some (.int (nI 0)), WA n, 0, 0)) 0 0 (va_A (mx_w cT ad (WF n)) sz) := by
  obtain ⟨f, hf⟩ := q_at n (fun _ => 0) (fun _ => 0) (fun _ => 0) (fun _ => 0) (fun _ => 0) (fun _ => 0) (fun _ => 0) (fun _ => 0) (fun _ => 0) (fun _ => 0) (fun _ => 0) (fun _ => 0) (fun _ => 0) (wM n (nI 0) (nI 1) (nI 2) (nI 0) (nI 0) (nI 0) (nI 0) (-nI 1) (nI 0) (nI 0) (nI 0) (fun _ => 0) (fun _ => 0) (fun _ => 0) (fun _ => 0) (fun _ => 0) (fun _ => 0) (fun _ => 0) (fun _ => 0) (fun _ => 0) (fun _ => 0) (fun _ => 0) (fun _ => 0) (fun _ => 0) (fun _ => 0) (fun _ => 0) [.inl (2, 1, .inr (.inl (fun _ => 0)))]) hn h8 r i
  refine va_MetW (cc := cL_at) (maxL := 5) (ret := some .int) (hh := [(0, 10, 13, 13)]) (by decide) rfl ?_
  intro p e s m args below meth c s₁ B hml hv
  obtain ⟨rfl, hsz, hP, hK, hD0, hNs⟩ := hv
  have hr := B.returns
  have hts0 := atoms_spec (ws := Jvm.Cond.codeWith yL_at cL_at 5 (some .int) [(0, 10, 13, 13)] :: tb_GT) B.pre
  have hts : ∀ z ∈ tb_GT, z.before (([.ref 0, .int r, .int i, .ref 34] : List Value).map (mx_v ad)).toArray s = true := fun z hz => hts0 z (List.mem_cons_of_mem _ hz)
  have hown : s.vm.findClass RL = some m.cls := findClass_of_methodNamed B.named
  have hlocks := B.notSynchronized
  subst hsz
  have hD := hD0.self (sz := s.heap.size)
  have hA : ∀ q : Nat, s.heap.size ≤ q → va_A (mx_w cT ad (WF n)) s.heap.size q := fun q h => Or.inr h
  have hl := lv_entry (([.ref 0, .int r, .int i, .ref 34] : List Value).map (mx_v ad)) (n := 5) (Nat.le_of_ble_eq_true rfl)
  rw [lg_entry_eq]
  generalize (lg_sl (([.ref 0, .int r, .int i, .ref 34] : List Value).map (mx_v ad)) ++ List.replicate (5 - (lg_sl (([.ref 0, .int r, .int i, .ref 34] : List Value).map (mx_v ad))).length) Slot.unset).toArray = ls at hl ⊢
  rw [mx_largs] at hl
  have F : mx_F p (mx_rm tm_at (some (.int (nI 0)), WA n, 0, 0)) s m (([.ref 0, .int r, .int i, .ref 34] : List Value).map (mx_v ad)).toArray meth c D tb_cl cT (va_A (mx_w cT ad (WF n)) s.heap.size) tb_ty tb_GT tb_NW tb_MT tm_at := ⟨B.exec, B.bytes, hml, hown, hts, fun h => absurd h (by decide), hK, hA, tb_C, tb_J, tL_at, fun _ => ⟨Nat.le_of_ble_eq_true rfl, Nat.le_of_ble_eq_true rfl⟩, fun h => absurd h (by decide)⟩
  have K : mx_G p l e (mx_rm tm_at (some (.int (nI 0)), WA n, 0, 0)) s m (([.ref 0, .int r, .int i, .ref 34] : List Value).map (mx_v ad)).toArray below meth c (MQ below (mx_Qc D tb_cl cT ad (WF n) s.heap.size (some (.int (nI 0)), WA n, 0, 0)) (([.ref 0, .int r, .int i, .ref 34] : List Value).map (mx_v ad)).toArray s 0 0 (va_A (mx_w cT ad (WF n)) s.heap.size)) D tb_cl cT (va_A (mx_w cT ad (WF n)) s.heap.size) (mx_ml tm_at) (WF n).length ad (0, [(0, .ref 0), (1, .int r), (2, .int i), (3, .ref 34)], [], WF n, 0, 0) := by
    refine mx_go_ok F (st' := (1, [(0, .ref 0), (1, .int r), (2, .int i), (3, .ref 34)], [.ref 34], WF n, 0, 0)) dL_at_0 rfl (Nat.zero_le _) (Nat.zero_le _) (Nat.zero_le _) (Nat.zero_le _) ?_
    refine mx_go_ok F (st' := (2, [(0, .ref 0), (1, .int r), (2, .int i), (3, .ref 34)], [.int (nI 0), .ref 34], WF n, 0, 0)) dL_at_1 rfl (Nat.zero_le _) (Nat.zero_le _) (Nat.zero_le _) (Nat.zero_le _) ?_
    refine mx_go_ok F (st' := (3, [(0, .ref 0), (1, .int r), (2, .int i), (3, .ref 34)], [.ref 0, .int (nI 0), .ref 34], WF n, 0, 0)) dL_at_2 rfl (Nat.zero_le _) (Nat.zero_le _) (Nat.zero_le _) (Nat.zero_le _) ?_
    refine mx_go_ok F (st' := (4, [(0, .ref 0), (1, .int r), (2, .int i), (3, .ref 34)], [.int r, .ref 0, .int (nI 0), .ref 34], WF n, 0, 0)) dL_at_3 rfl (Nat.zero_le _) (Nat.zero_le _) (Nat.zero_le _) (Nat.zero_le _) ?_
    refine mx_go_ok F (st' := (5, [(0, .ref 0), (1, .int r), (2, .int i), (3, .ref 34)], [.int i, .int r, .ref 0, .int (nI 0), .ref 34], WF n, 0, 0)) dL_at_4 rfl (Nat.zero_le _) (Nat.zero_le _) (Nat.zero_le _) (Nat.zero_le _) ?_
    refine mx_call_ok F tb_good tb_nest hNs (tb_ok.2.2.2.2 _ _ tn_X5_at).2 dL_at_5 rfl (fun ad' sz' => mx_sound tb_ok l D cT (mx_rk tm_X5_at + 1) 96 tm_X5_at tn_X5_at (Nat.lt_succ_self _) f [.ref 0, .int r, .int i] (WF n) _ hf (Nat.le_of_ble_eq_true rfl) ad' sz') (Nat.le_of_ble_eq_true rfl) (Nat.le_of_ble_eq_true rfl) (Nat.zero_le _) (Nat.zero_le _) (Or.inl rfl) ?_
    refine mx_go_ok F (st' := (9, [(0, .ref 0), (1, .int r), (2, .int i), (3, .ref 34)], [.long (-nI 2).toInt64, .int (nI 0), .ref 34], WF n, 0, 0)) dL_at_8 rfl (Nat.zero_le _) (Nat.zero_le _) (Nat.zero_le _) (Nat.zero_le _) ?_
    refine mx_go_ok F (st' := (10, [(0, .ref 0), (1, .int r), (2, .int i), (3, .ref 34)], [], WA n, 0, 0)) dL_at_9 rfl (Nat.zero_le _) (Nat.zero_le _) (Nat.zero_le _) (Nat.zero_le _) ?_
    refine mx_go_ok F (st' := (17, [(0, .ref 0), (1, .int r), (2, .int i), (3, .ref 34)], [], WA n, 0, 0)) dL_at_10 rfl (Nat.zero_le _) (Nat.zero_le _) (Nat.zero_le _) (Nat.zero_le _) ?_
    refine mx_go_ok F (st' := (18, [(0, .ref 0), (1, .int r), (2, .int i), (3, .ref 34)], [.int (nI 0)], WA n, 0, 0)) dL_at_17 rfl (Nat.zero_le _) (Nat.zero_le _) (Nat.zero_le _) (Nat.zero_le _) ?_
    exact mx_end_ok F hr hlocks dL_at_18 rfl
  exact K ad s.heap [] ls (fun _ _ => rfl) (fun _ => rfl) (Nat.le_refl _) hP hD va_S.rf hl
section LAT
variable {p : Program} {l : Launch} {e : Env} {s : State} {m : MethodId} {below : List Frame} {meth : Method} {c : Code} {D : va_G} {cT : Nat → ClassId} {b L0 : Nat} {xs : Nat → Int32}
set_option maxHeartbeats 4000000 in
set_option maxRecDepth 100000 in
theorem lat (C : lC p s m meth c D cT b L0 xs) {n : Nat} (hn : n ≤ 60) (h8 : 8 ≤ n) {L : mx_L} {r i : Int32} (kk : lG p l e s m below meth c D cT b (348, L, [.int (nI 0)], WA n, 40, 20000)) : lG p l e s m below meth c D cT b (345, L, [.ref 34, .int i, .int r, .ref 0], WF n, 40, 20000) := by
  obtain ⟨F, hNs, -⟩ := C
  have hts := F.2.2.2.2.1
  have hK := F.2.2.2.2.2.2.1
  have hA := F.2.2.2.2.2.2.2.1
  intro ad H locs ls h1 h2 h3 h4 h5 h6 h7
  have cw : vx_CSW room_1 s #[Value.ref b] RL 60 yL_at cL_at 5 (some .int) [(0, 10, 13, 13)] (Jvm.Cond.codeWith yL_at cL_at 5 (some .int) [(0, 10, 13, 13)] :: tb_GT) (mx_rm tm_at (some (.int (nI 0)), WA n, 0, 0)) 0 0 4 := by
    refine ⟨⟨rfl, rfl, Nat.le_of_ble_eq_true rfl, Nat.le_of_ble_eq_true rfl, pay_in hts (fun w hw => ?_), List.mem_cons_self⟩, hts _ tc_at, hts _ tc_law_i, ⟨by decide +kernel, by decide +kernel⟩, fun sig h => ?_, hts _ tc_at_l, hts _ tc_at_s⟩
    · rcases List.mem_cons.mp hw with rfl | hw
      · exact ⟨tc_at, tb_good _ tc_at⟩
      · exact ⟨hw, tb_good _ hw⟩
    · have h2 : (parseMethodDescriptor yL_at.desc).map (fun d => d.parameters.length) = some 4 := by decide +kernel
      rw [h] at h2
      exact (Option.some.inj h2).symm
  have hpre := mx_Pre (A := fun q => s.heap.size ≤ q) tb_nest hNs hK h4 h5 [.ref 0, .int r, .int i, .ref 34]
  refine mx_after (q := (some (.int (nI 0)), WA n, 0, 0)) (vx_runSW (hh := [(0, 10, 13, 13)]) (As := ([.ref 0, .int r, .int i, .ref 34] : List Value).map (mx_v ad)) (rest := []) ⟨F.1, F.2.1, F.2.2.1, F.2.2.2.1, hts⟩ (c_at l D cT hn h8 r i ad H.size) cw hpre rfl rfl h7.1 rfl (lv_room (by decide)) dL_law_345 ⟨Nat.le_of_ble_eq_true rfl, Nat.le_of_ble_eq_true rfl⟩) h6 (mx_aF hA h5 h6) (fun ad' H1 locs1 g1 g2 g3 g4 g5 g6 => ?_)
  have e1 : ad' = ad := g2 rfl
  subst e1
  exact kk ad' H1 locs1 ls h1 h2 h3 g4 g5 g6 h7
end LAT
