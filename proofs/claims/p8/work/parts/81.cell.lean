/-! the law's own method cell, on the script -/
set_option maxHeartbeats 4000000 in
set_option maxRecDepth 100000 in
theorem c_cell (l : Launch) (b L0 : Nat) (xs : Nat → Int32) (hL : L0 ≤ 2049) : Met l yL_cell (.code yL_cell cL_cell 2 (some .int) :: tb_GT) ({ frames := 0, cells := 0, slots := 0, locals := 0 }) (va_Pc [.ref b, .int (nI 0)] (fun U => b < U.heap.size ∧ va_X b L0 xs U U.heap)) (va_Qi (fun (r : Int32) (_ : Unit) => r = if 0 < L0 then xs 0 else nI 0) (fun _ _ => True) (fun _ => False)) 0 0 (fun _ => False) := by
  refine Met.ofW (cc := cL_cell) (maxL := 2) (ret := (some .int)) (by decide) rfl ?_
  intro p e s m args below meth c s₁ B hml hv
  obtain ⟨rfl, hbl, hX⟩ := hv
  have hx := B.exec
  have hb := B.bytes
  have hr := B.returns
  have hlocks := B.notSynchronized
  have hS : va_S (fun _ => False) s.heap s.heap [] := va_S.rf
  have hl := lv_entry ([.ref b, .int (nI 0)]) (n := 2) (Nat.le_of_ble_eq_true rfl)
  rw [lg_entry_eq]
  generalize (lg_sl ([.ref b, .int (nI 0)]) ++ List.replicate (2 - (lg_sl ([.ref b, .int (nI 0)])).length) Slot.unset).toArray = ls at hl ⊢
  have hl : lv_has ls 2 [(0, .ref b), (1, .int (nI 0))] := hl
  refine lv_iload_n hx hb dL_cell_0 rfl (lv_at hl 1 rfl) ?_
  refine lv_aload_n hx hb dL_cell_1 rfl (lv_at hl 0 rfl) ?_
  refine va_slen hx hb hX hbl (fun h => h) hS dL_cell_2 ?_
  refine lv_icmp_ge (tgt := 12) hx hb dL_cell_3 (by decide) (fun c1 => ?_) (fun c1 => ?_)
  · have h0 : ¬ 0 < L0 := fun z => absurd c1 (nnle (by omega) (by omega) z)
    refine lv_iconst (v := nI 0) hx hb dL_cell_12 (by decide) ?_
    exact W.iret (v := nI 0) hx hb hr (fun t ht hW => ⟨⟨nI 0, (), rfl, by rw [if_neg h0], trivial⟩, hS.F ht⟩) hS.2.2 dL_cell_13
  · have h0 : 0 < L0 := Nat.pos_of_ne_zero fun z => c1 (by rw [z]; exact Int32.le_refl _)
    refine lv_aload_n hx hb dL_cell_6 rfl (lv_at hl 0 rfl) ?_
    refine lv_iload_n hx hb dL_cell_7 rfl (lv_at hl 1 rfl) ?_
    refine va_sld hx hb hX hbl (fun h => h) hS (vp_in_nI h0 (by omega)) dL_cell_8 ?_
    rw [nI_clamp (by omega)]
    refine lv_goto (tgt := 13) hx hb dL_cell_9 (by decide) ?_
    exact W.iret (v := xs 0) hx hb hr (fun t ht hW => ⟨⟨xs 0, (), rfl, by rw [if_pos h0], trivial⟩, hS.F ht⟩) hS.2.2 dL_cell_13
section LC
variable {p : Program} {l : Launch} {e : Env} {s : State} {m : MethodId} {below : List Frame} {meth : Method} {c : Code} {D : va_G} {cT : Nat → ClassId} {b L0 : Nat} {xs : Nat → Int32}
set_option maxHeartbeats 4000000 in
/-- cell(script, 0) -/
theorem lcell (C : lC p s m meth c D cT b L0 xs) {pc : Nat} {L : mx_L} {S : List Value} {w : mx_W} {kc ks : Nat} (hd : decode cL_law pc = .ok (.invokestatic 15, 3)) (hw : w.length ≤ 1000) (hL : L0 ≤ 2049) (hS8 : mx_cs S ≤ 8) (hkc : kc ≤ 603072) (hks : ks ≤ 7223016) (kk : lG p l e s m below meth c D cT b (pc + 3, L, .int (if 0 < L0 then xs 0 else nI 0) :: S, w, kc, ks)) : lG p l e s m below meth c D cT b (pc, L, .int (nI 0) :: .ref 1000 :: S, w, kc, ks) := by
  obtain ⟨F, -, hX, hbl, -⟩ := C
  intro ad H locs ls h1 h2 h3 h4 h5 h6 h7
  have e1 : ad 1000 = b := h1 1000 (Or.inr hw)
  show W p l e room_1 s m #[Value.ref b] below meth c H locs _ _ _ (F0 m pc ls (.int (nI 0) :: .ref (ad 1000) :: S.map (mx_v ad)))
  rw [e1]
  have hbH : b < H.size := Nat.lt_of_lt_of_le hbl h6.1
  have hXH : va_X b L0 xs s H := hX.kept (h6.2.1 b hbl (Nat.not_le.mpr hbl))
  refine va_calli (A1 := fun _ => False) (free := fun _ => False) (va_runS (As := [.ref b, .int (nI 0)]) (rest := S.map (mx_v ad)) ⟨F.1, F.2.1, F.2.2.1, F.2.2.2.1, F.2.2.2.2.1⟩ (c_cell l b L0 xs hL) ⟨callB_of 2 F.2.2.2.2.1 (fun w hw => by
      rcases List.mem_cons.mp hw with rfl | hw
      · exact ⟨tc_cell, tb_good _ tc_cell⟩
      · exact ⟨hw, tb_good _ hw⟩) rfl rfl rfl (F.2.2.2.2.1 _ tc_law_i) (F.2.2.2.2.1 _ tc_cell_l) ⟨by decide +kernel, by decide +kernel, by decide +kernel⟩ ⟨by decide, by decide⟩, F.2.2.2.2.1 _ tc_cell_s⟩ ⟨fun a U g mk q => by
      obtain ⟨q0, q1, q2⟩ := q
      exact ⟨q0, q1, q2.moved (Vm.Alike.refl U.vm)⟩, fun U hU hW => ⟨rfl, by rw [hU]; exact hbH, by rw [hU]; exact hXH.moved hW.alike⟩⟩ rfl rfl h7.1 rfl (lv_room (by rw [mx_cs_v]; exact hS8)) hd ⟨hkc, hks⟩) h6 (fun q _ h => h.elim) (fun q h => h.elim) (fun r u t H1 locs1 ht hvm hw1 hB hz1 hk1 hS1 => ?_)
  subst hw1
  exact kk ad H1 locs1 ls h1 h2 h3 (h4.kept (fun k x hx => hk1 x.1 ((h4 k x hx).lt) (fun z => z))) h5 hS1 h7
end LC
