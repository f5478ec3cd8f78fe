/-! the law: its case of at, and the whole -/
section LIF
variable {p : Program} {l : Launch} {e : Env} {s : State} {m : MethodId} {below : List Frame} {meth : Method} {c : Code} {D : va_G} {cT : Nat → ClassId} {b L0 : Nat} {xs : Nat → Int32}
theorem lif {pc t : Nat} {off : Int} {x : Int32} {cd : Jvm.ClassFile.Cond} {L : mx_L} {S : List Value} {w : mx_W} {kc ks : Nat} (C : lC p s m meth c D cT b L0 xs) (hd : decode cL_law pc = .ok (.ifCond cd off, 3)) (ht : (pc : Int) + off = (t : Int)) (hkc : kc ≤ 600006) (hks : ks ≤ 7301710) (v : Bool) (hv : mx_cnd cd x 0 = v) (kk : lG p l e s m below meth c D cT b (cond v t (pc + 3), L, S, w, kc, ks)) : lG p l e s m below meth c D cT b (pc, L, .int x :: S, w, kc, ks) := by
  have h0 : decide (0 ≤ (pc : Int) + off) = true := decide_eq_true (by omega)
  have ht2 : mx_to pc off = t := by unfold mx_to; omega
  refine lgo C (st' := (cond v t (pc + 3), L, S, w, kc, ks)) hd ?_ hkc hks kk
  show (bif decide (0 ≤ (pc : Int) + off) then some (cond (mx_cnd cd x 0) (mx_to pc off) (pc + 3), L, S, w, kc, ks) else none) = _
  rw [h0, ht2, hv]
  rfl
end LIF
set_option maxRecDepth 100000 in
set_option maxHeartbeats 4000000 in
theorem w_end6 {p : Program} {l : Launch} {e : Env} {s : State} {m : MethodId} {below : List Frame} {meth : Method} {c : Code} {D : va_G} {cT : Nat → ClassId} {b : Nat} {xs : Nat → Int32} (C : lC p s m meth c D cT b 5 xs) {w : mx_W} (hw : w.length ≤ 1000) : lG p l e s m below meth c D cT b (622, [(6, .int (-nI 2)), (5, .int (nI 0)), (4, .int (nI 1)), (3, .ref 34), (2, .ref 18), (1, .ref 0), (0, .ref 1000)], [], w, 40, 20000) := by
  refine (lgs C (pc' := 36) (L' := [(6, .int (-nI 2)), (5, .int (nI 0)), (4, .int (nI 1 + nI 4)), (3, .ref 34), (2, .ref 18), (1, .ref 0), (0, .ref 1000)]) (S' := [.ref 1000, .int (nI 1 + nI 4)]) (by decide) (by decide) [(622, .iinc 4 4, 3), (625, .goto (-592), 3), (33, .iload 4, 2), (35, .aload_n 0, 1)] (List.forall_mem_cons.mpr ⟨dL_law_622, List.forall_mem_cons.mpr ⟨dL_law_625, List.forall_mem_cons.mpr ⟨dL_law_33, List.forall_mem_cons.mpr ⟨dL_law_35, fun _ h => absurd h List.not_mem_nil⟩⟩⟩⟩) rfl ?_).1
  refine lsln C dL_law_36 hw ?_
  refine (lgs C (pc' := 39) (L' := [(6, .int (-nI 2)), (5, .int (nI 0)), (4, .int (nI 1 + nI 4)), (3, .ref 34), (2, .ref 18), (1, .ref 0), (0, .ref 1000)]) (S' := [.int (nI 5 - nI 4), .int (nI 1 + nI 4)]) (by decide) (by decide) [(37, .iconst 4, 1), (38, .isub, 1)] (List.forall_mem_cons.mpr ⟨dL_law_37, List.forall_mem_cons.mpr ⟨dL_law_38, fun _ h => absurd h List.not_mem_nil⟩⟩) rfl ?_).1
  refine lcmp (t := 628) C dL_law_39 (by decide) (by decide) (by decide) true (by decide) ?_
  show lG p l e s m below meth c D cT b (628, [(6, .int (-nI 2)), (5, .int (nI 0)), (4, .int (nI 1 + nI 4)), (3, .ref 34), (2, .ref 18), (1, .ref 0), (0, .ref 1000)], [], w, 40, 20000)
  refine (lgs C (pc' := 629) (L' := [(6, .int (-nI 2)), (5, .int (nI 0)), (4, .int (nI 1 + nI 4)), (3, .ref 34), (2, .ref 18), (1, .ref 0), (0, .ref 1000)]) (S' := [.int (nI 1)]) (by decide) (by decide) [(628, .iconst 1, 1)] (List.forall_mem_cons.mpr ⟨dL_law_628, fun _ h => absurd h List.not_mem_nil⟩) rfl ?_).1
  exact lret C dL_law_629 (by decide) (by decide)
set_option maxRecDepth 100000 in
set_option maxHeartbeats 4000000 in
theorem w_at {p : Program} {l : Launch} {e : Env} {s : State} {m : MethodId} {below : List Frame} {meth : Method} {c : Code} {D : va_G} {cT : Nat → ClassId} {b : Nat} {xs : Nat → Int32} (C : lC p s m meth c D cT b 5 xs) {n : Nat} (hn : n ≤ 60) (h8 : 8 ≤ n) : lG p l e s m below meth c D cT b (331, [(4, .int (nI 1)), (3, .ref 34), (2, .ref 18), (1, .ref 0), (0, .ref 1000)], [], WF n, 40, 20000) := by
  refine (lgs C (pc' := 332) (L' := [(4, .int (nI 1)), (3, .ref 34), (2, .ref 18), (1, .ref 0), (0, .ref 1000)]) (S' := [.ref 0]) (by decide) (by decide) [(331, .aload_n 1, 1)] (List.forall_mem_cons.mpr ⟨dL_law_331, fun _ h => absurd h List.not_mem_nil⟩) rfl ?_).1
  refine (lgs C (pc' := 337) (L' := [(4, .int (nI 1)), (3, .ref 34), (2, .ref 18), (1, .ref 0), (0, .ref 1000)]) (S' := [.int (nI 1 + nI 1), .ref 1000, .ref 0]) (by decide) (by decide) [(332, .aload_n 0, 1), (333, .iload 4, 2), (335, .iconst 1, 1), (336, .iadd, 1)] (List.forall_mem_cons.mpr ⟨dL_law_332, List.forall_mem_cons.mpr ⟨dL_law_333, List.forall_mem_cons.mpr ⟨dL_law_335, List.forall_mem_cons.mpr ⟨dL_law_336, fun _ h => absurd h List.not_mem_nil⟩⟩⟩⟩) rfl ?_).1
  rw [show nI 1 + nI 1 = nI 2 from nI_add _ _]
  refine lsld C dL_law_337 (Nat.le_of_ble_eq_true rfl) (by decide) (by decide) rfl ?_
  show lG p l e s m below meth c D cT b (338, [(4, .int (nI 1)), (3, .ref 34), (2, .ref 18), (1, .ref 0), (0, .ref 1000)], [.int (xs 2), .ref 0], _, 40, 20000)
  refine (lgs C (pc' := 343) (L' := [(4, .int (nI 1)), (3, .ref 34), (2, .ref 18), (1, .ref 0), (0, .ref 1000)]) (S' := [.int (nI 1 + nI 2), .ref 1000, .int (xs 2), .ref 0]) (by decide) (by decide) [(338, .aload_n 0, 1), (339, .iload 4, 2), (341, .iconst 2, 1), (342, .iadd, 1)] (List.forall_mem_cons.mpr ⟨dL_law_338, List.forall_mem_cons.mpr ⟨dL_law_339, List.forall_mem_cons.mpr ⟨dL_law_341, List.forall_mem_cons.mpr ⟨dL_law_342, fun _ h => absurd h List.not_mem_nil⟩⟩⟩⟩) rfl ?_).1
  rw [show nI 1 + nI 2 = nI 3 from nI_add _ _]
  refine lsld C dL_law_343 (Nat.le_of_ble_eq_true rfl) (by decide) (by decide) rfl ?_
  show lG p l e s m below meth c D cT b (344, [(4, .int (nI 1)), (3, .ref 34), (2, .ref 18), (1, .ref 0), (0, .ref 1000)], [.int (xs 3), .int (xs 2), .ref 0], _, 40, 20000)
  refine (lgs C (pc' := 345) (L' := [(4, .int (nI 1)), (3, .ref 34), (2, .ref 18), (1, .ref 0), (0, .ref 1000)]) (S' := [.ref 34, .int (xs 3), .int (xs 2), .ref 0]) (by decide) (by decide) [(344, .aload_n 3, 1)] (List.forall_mem_cons.mpr ⟨dL_law_344, fun _ h => absurd h List.not_mem_nil⟩) rfl ?_).1
  refine lat C hn h8 ?_
  refine (lgs C (pc' := 350) (L' := [(5, .int (nI 0)), (4, .int (nI 1)), (3, .ref 34), (2, .ref 18), (1, .ref 0), (0, .ref 1000)]) (S' := []) (by decide) (by decide) [(348, .istore 5, 2)] (List.forall_mem_cons.mpr ⟨dL_law_348, fun _ h => absurd h List.not_mem_nil⟩) rfl ?_).1
  refine (lgs C (pc' := 351) (L' := [(5, .int (nI 0)), (4, .int (nI 1)), (3, .ref 34), (2, .ref 18), (1, .ref 0), (0, .ref 1000)]) (S' := [.ref 18]) (by decide) (by decide) [(350, .aload_n 2, 1)] (List.forall_mem_cons.mpr ⟨dL_law_350, fun _ h => absurd h List.not_mem_nil⟩) rfl ?_).1
  refine (lgs C (pc' := 356) (L' := [(5, .int (nI 0)), (4, .int (nI 1)), (3, .ref 34), (2, .ref 18), (1, .ref 0), (0, .ref 1000)]) (S' := [.int (nI 1 + nI 1), .ref 1000, .ref 18]) (by decide) (by decide) [(351, .aload_n 0, 1), (352, .iload 4, 2), (354, .iconst 1, 1), (355, .iadd, 1)] (List.forall_mem_cons.mpr ⟨dL_law_351, List.forall_mem_cons.mpr ⟨dL_law_352, List.forall_mem_cons.mpr ⟨dL_law_354, List.forall_mem_cons.mpr ⟨dL_law_355, fun _ h => absurd h List.not_mem_nil⟩⟩⟩⟩) rfl ?_).1
  rw [show nI 1 + nI 1 = nI 2 from nI_add _ _]
  refine lsld C dL_law_356 (Nat.le_of_ble_eq_true rfl) (by decide) (by decide) rfl ?_
  show lG p l e s m below meth c D cT b (357, [(5, .int (nI 0)), (4, .int (nI 1)), (3, .ref 34), (2, .ref 18), (1, .ref 0), (0, .ref 1000)], [.int (xs 2), .ref 18], _, 40, 20000)
  refine (lgs C (pc' := 362) (L' := [(5, .int (nI 0)), (4, .int (nI 1)), (3, .ref 34), (2, .ref 18), (1, .ref 0), (0, .ref 1000)]) (S' := [.int (nI 1 + nI 2), .ref 1000, .int (xs 2), .ref 18]) (by decide) (by decide) [(357, .aload_n 0, 1), (358, .iload 4, 2), (360, .iconst 2, 1), (361, .iadd, 1)] (List.forall_mem_cons.mpr ⟨dL_law_357, List.forall_mem_cons.mpr ⟨dL_law_358, List.forall_mem_cons.mpr ⟨dL_law_360, List.forall_mem_cons.mpr ⟨dL_law_361, fun _ h => absurd h List.not_mem_nil⟩⟩⟩⟩) rfl ?_).1
  rw [show nI 1 + nI 2 = nI 3 from nI_add _ _]
  refine lsld C dL_law_362 (Nat.le_of_ble_eq_true rfl) (by decide) (by decide) rfl ?_
  show lG p l e s m below meth c D cT b (363, [(5, .int (nI 0)), (4, .int (nI 1)), (3, .ref 34), (2, .ref 18), (1, .ref 0), (0, .ref 1000)], [.int (xs 3), .int (xs 2), .ref 18], _, 40, 20000)
  refine lcl C dL_law_363 rfl tn_X6_at rfl (p_at _ _ _ _ _ _ _ _ _ _ _ _ _ _ _ _ _ _ _ _ _ _ _ _ _ _ _ _ _ _ _ _ _ _ _ _ _ _ _ _ _ hn h8 (xs 2) (xs 3)) (Nat.le_of_ble_eq_true rfl) (Nat.le_of_ble_eq_true rfl) (Or.inl rfl) ?_
  show lG p l e s m below meth c D cT b (366, [(5, .int (nI 0)), (4, .int (nI 1)), (3, .ref 34), (2, .ref 18), (1, .ref 0), (0, .ref 1000)], [.int (-nI 2)], _, 40, 20000)
  refine (lgs C (pc' := 369) (L' := [(6, .int (-nI 2)), (5, .int (nI 0)), (4, .int (nI 1)), (3, .ref 34), (2, .ref 18), (1, .ref 0), (0, .ref 1000)]) (S' := [.ref 18]) (by decide) (by decide) [(366, .istore 6, 2), (368, .aload_n 2, 1)] (List.forall_mem_cons.mpr ⟨dL_law_366, List.forall_mem_cons.mpr ⟨dL_law_368, fun _ h => absurd h List.not_mem_nil⟩⟩) rfl ?_).1
  refine lcl C dL_law_369 rfl tn_X6_thrown rfl (p_thrown _ _ _ _ _ _ _ _ _ _ _ _ _ _ _ _ _ _ _ _ _ _ _ _ _ _ _ _ _ _ _ _ _ _ _ _ _ _ _ _ _ hn h8) (Nat.le_of_ble_eq_true rfl) (Nat.le_of_ble_eq_true rfl) (Or.inl rfl) ?_
  show lG p l e s m below meth c D cT b (372, [(6, .int (-nI 2)), (5, .int (nI 0)), (4, .int (nI 1)), (3, .ref 34), (2, .ref 18), (1, .ref 0), (0, .ref 1000)], [.int (nI 0)], _, 40, 20000)
  refine (lgs C (pc' := 374) (L' := [(6, .int (-nI 2)), (5, .int (nI 0)), (4, .int (nI 1)), (3, .ref 34), (2, .ref 18), (1, .ref 0), (0, .ref 1000)]) (S' := [.int (nI 0), .int (nI 0)]) (by decide) (by decide) [(372, .iload 5, 2)] (List.forall_mem_cons.mpr ⟨dL_law_372, fun _ h => absurd h List.not_mem_nil⟩) rfl ?_).1
  refine lcmp (t := 379) C dL_law_374 (by decide) (by decide) (by decide) true (cnd_eq rfl) ?_
  show lG p l e s m below meth c D cT b (379, [(6, .int (-nI 2)), (5, .int (nI 0)), (4, .int (nI 1)), (3, .ref 34), (2, .ref 18), (1, .ref 0), (0, .ref 1000)], [], _, 40, 20000)
  refine (lgs C (pc' := 381) (L' := [(6, .int (-nI 2)), (5, .int (nI 0)), (4, .int (nI 1)), (3, .ref 34), (2, .ref 18), (1, .ref 0), (0, .ref 1000)]) (S' := [.int (nI 0)]) (by decide) (by decide) [(379, .iload 5, 2)] (List.forall_mem_cons.mpr ⟨dL_law_379, fun _ h => absurd h List.not_mem_nil⟩) rfl ?_).1
  refine lif (t := 396) C dL_law_381 (by decide) (by decide) (by decide) false (by decide) ?_
  show lG p l e s m below meth c D cT b (384, [(6, .int (-nI 2)), (5, .int (nI 0)), (4, .int (nI 1)), (3, .ref 34), (2, .ref 18), (1, .ref 0), (0, .ref 1000)], [], _, 40, 20000)
  refine (lgs C (pc' := 391) (L' := [(6, .int (-nI 2)), (5, .int (nI 0)), (4, .int (nI 1)), (3, .ref 34), (2, .ref 18), (1, .ref 0), (0, .ref 1000)]) (S' := [.int (lg_cmp (vp_updL (fun _ => 0) (nI 0).toNatClampNeg ((-nI 2).toInt64) (nI 0).toNatClampNeg) ((-nI 2).toInt64))]) (by decide) (by decide) [(384, .aload_n 3, 1), (385, .iconst 0, 1), (386, .laload, 1), (387, .iload 6, 2), (389, .i2l, 1), (390, .lcmp, 1)] (List.forall_mem_cons.mpr ⟨dL_law_384, List.forall_mem_cons.mpr ⟨dL_law_385, List.forall_mem_cons.mpr ⟨dL_law_386, List.forall_mem_cons.mpr ⟨dL_law_387, List.forall_mem_cons.mpr ⟨dL_law_389, List.forall_mem_cons.mpr ⟨dL_law_390, fun _ h => absurd h List.not_mem_nil⟩⟩⟩⟩⟩⟩) rfl ?_).1
  refine lif (t := 396) C dL_law_391 (by decide) (by decide) (by decide) true (by decide) ?_
  show lG p l e s m below meth c D cT b (396, [(6, .int (-nI 2)), (5, .int (nI 0)), (4, .int (nI 1)), (3, .ref 34), (2, .ref 18), (1, .ref 0), (0, .ref 1000)], [], _, 40, 20000)
  refine (lgs C (pc' := 622) (L' := [(6, .int (-nI 2)), (5, .int (nI 0)), (4, .int (nI 1)), (3, .ref 34), (2, .ref 18), (1, .ref 0), (0, .ref 1000)]) (S' := []) (by decide) (by decide) [(396, .goto 226, 3)] (List.forall_mem_cons.mpr ⟨dL_law_396, fun _ h => absurd h List.not_mem_nil⟩) rfl ?_).1
  exact w_end6 C (Nat.le_of_ble_eq_true rfl)
/-- THE LAW, from its entry -/
theorem whole_start {p : Program} {e : Env} {s : State} {m : MethodId} {below : List Frame} {meth : Method} {c : Code} (l : Launch) {b L : Nat} {xs : Nat → Int32} (hL : L ≤ 5) (C0 : lw_At p s m meth c b L xs) : W p l e room_1 s m #[Value.ref b] below meth c s.heap [] 0 0 (lw_Z below #[Value.ref b] s) (entryFrame m ([Value.ref b] : List Value).toArray 7) :=
  start_open l hL C0 (fun D cT C n hn h8 h5 => by
    subst h5
    exact w_at C hn h8)
