/-! the law's start: what the tables say gives the walk's ground -/
theorem arr_known {args : Array Value} {s : State} {ty : FieldType} (h : (Jvm.Cond.arrayClass ty).before args s = true) : ∃ cA : ClassId, ArrOfT s cA ty ∧ s.vm.findClass ("[" ++ ty.toString) = some cA := by
  obtain ⟨cA, kA, comp, h1, h2, h3⟩ := Cond.arrayClass_spec h
  exact ⟨cA, fun n z => ⟨fun k h => (by cases h), kA, h2, comp, h3⟩, h1⟩
set_option maxHeartbeats 4000000 in
set_option maxRecDepth 100000 in
theorem law_ground {p : Program} {s : State} {m : MethodId} {meth : Method} {c : Code} {b L : Nat} {xs : Nat → Int32} (C0 : lw_At p s m meth c b L xs) : ∃ (D : va_G) (cT : Nat → ClassId), lC p s m meth c D cT b L xs := by
  obtain ⟨hx, hb, hr, hml, hown, hts, hX, hbl, hlocks, hgv⟩ := C0
  have hG : ∀ w ∈ tb_GT, w.before #[Value.ref b] s = true := fun w hw => hts w (List.mem_filter.mp hw).1
  obtain ⟨c0, i0, k0⟩ := u_known (C := RX0) (T := TX0) (N := 1) (n := 1) hG tu_X0 (hG _ tw_X0_new)
  obtain ⟨c1, i1, k1⟩ := u_known (C := RX2) (T := TX2) (N := 6) (n := 6) hG tu_X2 (hG _ tw_X2_new)
  obtain ⟨c2, i2, k2⟩ := u_known (C := RX3) (T := TX3) (N := 4) (n := 4) hG tu_X3 (hG _ tw_X3_new)
  obtain ⟨c3, i3, k3⟩ := u_known (C := RX4) (T := TX4) (N := 4) (n := 4) hG tu_X4 (hG _ tw_X4_new)
  obtain ⟨c4, i4, k4⟩ := u_known (C := RX5) (T := TX5) (N := 14) (n := 14) hG tu_X5 (hG _ tw_X5_new)
  obtain ⟨c5, i5, k5⟩ := u_known (C := RX6) (T := TX6) (N := 27) (n := 27) hG tu_X6 (hG _ tw_X6_new)
  obtain ⟨z0, a0, r0⟩ := arr_known (hG _ tb_J.2.2.2.2.2.2.2.2.2.2.1)
  obtain ⟨z1, a1, r1⟩ := arr_known (hG _ tb_J.2.2.2.2.2.2.2.2.2.2.2.1)
  obtain ⟨z2, a2, r2⟩ := arr_known (hG _ tb_J.2.2.2.2.2.2.2.2.2.2.2.2)
  refine ⟨(fun k => [c0, c1, c2, c3, c4, c5].getD k c0, fun k => [i0, i1, i2, i3, i4, i5].getD k i0), fun k => [z0, z1, z2].getD k z0, ⟨hx, hb, hml, hown, hG, fun h => absurd h (by decide), ⟨?_, ?_⟩, fun _ h => h, tb_C, tb_J, tL_L, fun _ => ⟨by decide, by decide⟩, fun h => absurd h (by decide)⟩, ?_, hX, hbl, hr, hlocks, hts⟩
  · intro k q hq
    match k, hq with
    | 0, hq => cases hq; exact k0
    | 1, hq => cases hq; exact k1
    | 2, hq => cases hq; exact k2
    | 3, hq => cases hq; exact k3
    | 4, hq => cases hq; exact k4
    | 5, hq => cases hq; exact k5
    | k + 6, hq => exact absurd hq (by simp [tb_cl])
  · intro k q hq
    match k, hq with
    | 0, hq => cases hq; exact ⟨a0, r0⟩
    | 1, hq => cases hq; exact ⟨a1, r1⟩
    | 2, hq => cases hq; exact ⟨a2, r2⟩
    | k + 3, hq => exact absurd hq (by simp [mx_tys])
  · intro z hz
    have h1 := hts z (tb_NW_in z hz)
    obtain ⟨a, i, x, h, rfl⟩ := tb_nest z hz
    exact va_Nw.of rfl h1
set_option maxHeartbeats 4000000 in
set_option maxRecDepth 100000 in
theorem start_open {p : Program} {e : Env} {s : State} {m : MethodId} {below : List Frame} {meth : Method} {c : Code} (l : Launch) {b L : Nat} {xs : Nat → Int32} (hL : L ≤ 5) (C0 : lw_At p s m meth c b L xs) (hat : ∀ (D : va_G) (cT : Nat → ClassId), lC p s m meth c D cT b L xs → ∀ n, n ≤ 60 → 8 ≤ n → L = 5 → lG p l e s m below meth c D cT b (331, [(4, .int (nI 1)), (3, .ref 34), (2, .ref 18), (1, .ref 0), (0, .ref 1000)], [], WF n, 40, 20000)) : W p l e room_1 s m #[Value.ref b] below meth c s.heap [] 0 0 (lw_Z below #[Value.ref b] s) (entryFrame m ([Value.ref b] : List Value).toArray 7) := by
  obtain ⟨D, cT, C⟩ := law_ground C0
  have K : lG p l e s m below meth c D cT b (0, [(0, .ref 1000)], [], [], 0, 0) := w_entry_open C hL (hat D cT C)
  have hl := lv_entry ([.ref b]) (n := 7) (Nat.le_of_ble_eq_true rfl)
  rw [lg_entry_eq]
  generalize (lg_sl ([.ref b]) ++ List.replicate (7 - (lg_sl ([.ref b])).length) Slot.unset).toArray = ls at hl ⊢
  exact K (fun _ => b) s.heap [] ls (fun _ _ => rfl) (fun _ => rfl) (Nat.zero_le _) (fun k q h => by simp [mx_w] at h) ⟨fun i j p q h => by simp [mx_w] at h, fun k q h => by simp [mx_w] at h⟩ va_S.rf hl
