/-! the law: at, the loop, the entry -/
section LIF
variable {p : Program} {l : Launch} {e : Env} {s : State} {m : MethodId} {below : List Frame} {meth : Method} {c : Code} {D : va_G} {cT : Nat → ClassId} {b L0 : Nat} {xs : Nat → Int32}
theorem lif {pc t : Nat} {off : Int} {x : Int32} {cd : Jvm.ClassFile.Cond} {L : mx_L} {S : List Value} {w : mx_W} {kc ks : Nat} (C : lC p s m meth c D cT b L0 xs) (hd : decode cL_law pc = .ok (.ifCond cd off, 3)) (ht : (pc : Int) + off = (t : Int)) (hkc : kc ≤ 603072) (hks : ks ≤ 7223016) (v : Bool) (hv : mx_cnd cd x 0 = v) (kk : lG p l e s m below meth c D cT b (cond v t (pc + 3), L, S, w, kc, ks)) : lG p l e s m below meth c D cT b (pc, L, .int x :: S, w, kc, ks) := by
  have h0 : decide (0 ≤ (pc : Int) + off) = true := decide_eq_true (by omega)
  have ht2 : mx_to pc off = t := by unfold mx_to; omega
  refine lgo C (st' := (cond v t (pc + 3), L, S, w, kc, ks)) hd ?_ hkc hks kk
  show (bif decide (0 ≤ (pc : Int) + off) then some (cond (mx_cnd cd x 0) (mx_to pc off) (pc + 3), L, S, w, kc, ks) else none) = _
  rw [h0, ht2, hv]
  rfl
theorem lcmp_z {g : Nat → Int64} {k : Nat} {v : Int64} : mx_cnd .eq (lg_cmp (vp_updL g k v k) v) 0 = true := by
  have e : vp_updL g k v k = v := if_pos rfl
  have h : lg_cmp v v = 0 := by
    unfold lg_cmp
    rw [if_neg (show ¬ v > v from Int64.lt_irrefl), if_pos rfl]
  rw [e, h]
  decide
end LIF
set_option maxRecDepth 100000 in
set_option maxHeartbeats 4000000 in
theorem lc_at {p : Program} {l : Launch} {e : Env} {s : State} {m : MethodId} {below : List Frame} {meth : Method} {c : Code} {D : va_G} {cT : Nat → ClassId} {b L0 : Nat} {xs : Nat → Int32} (C : lC p s m meth c D cT b L0 xs) {sa : Nat} (hX0 : xH (fun q => s.heap.size ≤ q) sa s) (hl : l.stackTraces = false) (hL : L0 ≤ 2049) {i n : Nat} {du mu : St} {g : Nat → Int64} {kc ks : Nat} (hi : i + 4 ≤ L0) (hR : RR n du mu) (hkc : kc + 1 ≤ 603072) (hks : ks + 6 ≤ 7223016) (nxt : ∀ d' m' g', RR n d' m' → lG p l e s m below meth c D cT b (594, [(4, .int (nI i)), (3, .ref 34), (2, .ref 18), (1, .ref 0), (0, .ref 1000)], [], WL d' m' g', kc + 1, ks + 6)) : lG p l e s m below meth c D cT b (331, [(4, .int (nI i)), (3, .ref 34), (2, .ref 18), (1, .ref 0), (0, .ref 1000)], [], WL du mu g, kc, ks) := by
  have hkc0 : kc ≤ 603072 := by omega
  have hks0 : ks ≤ 7223016 := by omega
  obtain ⟨cc, ll, xx, pp, hR⟩ := hR
  have hn60 := hR.1.n60
  rcases u_at hR (N := 300) (by decide) (xs (i + 1)) (xs (i + 2)) with ⟨v1, e1, e2⟩ | ⟨j, f1, f2, f3, f4, f5, e2⟩
  · refine (lgs C (pc' := 337) (L' := [(4, .int (nI i)), (3, .ref 34), (2, .ref 18), (1, .ref 0), (0, .ref 1000)]) (S' := [.int ((nI i) + (nI 1)), .ref 1000, .ref 0]) hkc0 hks0 [(331, .aload_n 1, 1), (332, .aload_n 0, 1), (333, .iload 4, 2), (335, .iconst 1, 1), (336, .iadd, 1)] (List.forall_mem_cons.mpr ⟨dL_law_331, List.forall_mem_cons.mpr ⟨dL_law_332, List.forall_mem_cons.mpr ⟨dL_law_333, List.forall_mem_cons.mpr ⟨dL_law_335, List.forall_mem_cons.mpr ⟨dL_law_336, fun _ h => absurd h List.not_mem_nil⟩⟩⟩⟩⟩) rfl ?_).1
    refine lsldE C dL_law_337 (Nat.le_of_ble_eq_true rfl) (j := i + 1) (nI_add i 1) (by omega) (by omega) ?_
    refine (lgs C (pc' := 343) (L' := [(4, .int (nI i)), (3, .ref 34), (2, .ref 18), (1, .ref 0), (0, .ref 1000)]) (S' := [.int ((nI i) + (nI 2)), .ref 1000, .int (xs (i + 1)), .ref 0]) hkc0 hks0 [(338, .aload_n 0, 1), (339, .iload 4, 2), (341, .iconst 2, 1), (342, .iadd, 1)] (List.forall_mem_cons.mpr ⟨dL_law_338, List.forall_mem_cons.mpr ⟨dL_law_339, List.forall_mem_cons.mpr ⟨dL_law_341, List.forall_mem_cons.mpr ⟨dL_law_342, fun _ h => absurd h List.not_mem_nil⟩⟩⟩⟩) rfl ?_).1
    refine lsldE C dL_law_343 (Nat.le_of_ble_eq_true rfl) (j := i + 2) (nI_add i 2) (by omega) (by omega) ?_
    refine (lgs C (pc' := 345) (L' := [(4, .int (nI i)), (3, .ref 34), (2, .ref 18), (1, .ref 0), (0, .ref 1000)]) (S' := [.ref 34, .int (xs (i + 2)), .int (xs (i + 1)), .ref 0]) hkc0 hks0 [(344, .aload_n 3, 1)] (List.forall_mem_cons.mpr ⟨dL_law_344, fun _ h => absurd h List.not_mem_nil⟩) rfl ?_).1
    refine lat C dL_law_345 e1 hkc0 hks0 ?_
    refine (lgs C (pc' := 356) (L' := [(5, .int (nI 0)), (4, .int (nI i)), (3, .ref 34), (2, .ref 18), (1, .ref 0), (0, .ref 1000)]) (S' := [.int ((nI i) + (nI 1)), .ref 1000, .ref 18]) hkc0 hks0 [(348, .istore 5, 2), (350, .aload_n 2, 1), (351, .aload_n 0, 1), (352, .iload 4, 2), (354, .iconst 1, 1), (355, .iadd, 1)] (List.forall_mem_cons.mpr ⟨dL_law_348, List.forall_mem_cons.mpr ⟨dL_law_350, List.forall_mem_cons.mpr ⟨dL_law_351, List.forall_mem_cons.mpr ⟨dL_law_352, List.forall_mem_cons.mpr ⟨dL_law_354, List.forall_mem_cons.mpr ⟨dL_law_355, fun _ h => absurd h List.not_mem_nil⟩⟩⟩⟩⟩⟩) rfl ?_).1
    refine lsldE C dL_law_356 (Nat.le_of_ble_eq_true rfl) (j := i + 1) (nI_add i 1) (by omega) (by omega) ?_
    refine (lgs C (pc' := 362) (L' := [(5, .int (nI 0)), (4, .int (nI i)), (3, .ref 34), (2, .ref 18), (1, .ref 0), (0, .ref 1000)]) (S' := [.int ((nI i) + (nI 2)), .ref 1000, .int (xs (i + 1)), .ref 18]) hkc0 hks0 [(357, .aload_n 0, 1), (358, .iload 4, 2), (360, .iconst 2, 1), (361, .iadd, 1)] (List.forall_mem_cons.mpr ⟨dL_law_357, List.forall_mem_cons.mpr ⟨dL_law_358, List.forall_mem_cons.mpr ⟨dL_law_360, List.forall_mem_cons.mpr ⟨dL_law_361, fun _ h => absurd h List.not_mem_nil⟩⟩⟩⟩) rfl ?_).1
    refine lsldE C dL_law_362 (Nat.le_of_ble_eq_true rfl) (j := i + 2) (nI_add i 2) (by omega) (by omega) ?_
    refine lcl C dL_law_363 rfl tn_X6_at rfl (w_X6_at e2) hkc0 hks0 (Or.inl rfl) ?_
    show lG p l e s m below meth c D cT b (366, [(5, .int (nI 0)), (4, .int (nI i)), (3, .ref 34), (2, .ref 18), (1, .ref 0), (0, .ref 1000)], [.int v1], WL du (sI mu 0 (nI 0)) (vp_updL g (nI 0).toNatClampNeg v1.toInt64), kc, ks)
    refine (lgs C (pc' := 594) (L' := [(6, .int v1), (5, .int (nI 0)), (4, .int (nI i)), (3, .ref 34), (2, .ref 18), (1, .ref 0), (0, .ref 1000)]) (S' := []) hkc0 hks0 [(366, .istore 6, 2), (368, .goto 226, 3)] (List.forall_mem_cons.mpr ⟨dL_law_366, List.forall_mem_cons.mpr ⟨dL_law_368, fun _ h => absurd h List.not_mem_nil⟩⟩) rfl ?_).1
    refine lwk (L' := [(4, .int (nI i)), (3, .ref 34), (2, .ref 18), (1, .ref 0), (0, .ref 1000)]) (fun q hq => List.mem_cons_of_mem _ (List.mem_cons_of_mem _ (hq))) ?_
    refine lup (kc' := kc) (ks' := ks + 6) (by omega) (by omega) ?_
    exact nxt du (sI mu 0 (nI 0)) (vp_updL g (nI 0).toNatClampNeg v1.toInt64) ⟨cc, ll, xx, pp, Rel_0 hR _⟩
  · refine (lgs C (pc' := 337) (L' := [(4, .int (nI i)), (3, .ref 34), (2, .ref 18), (1, .ref 0), (0, .ref 1000)]) (S' := [.int ((nI i) + (nI 1)), .ref 1000, .ref 0]) hkc0 hks0 [(331, .aload_n 1, 1), (332, .aload_n 0, 1), (333, .iload 4, 2), (335, .iconst 1, 1), (336, .iadd, 1)] (List.forall_mem_cons.mpr ⟨dL_law_331, List.forall_mem_cons.mpr ⟨dL_law_332, List.forall_mem_cons.mpr ⟨dL_law_333, List.forall_mem_cons.mpr ⟨dL_law_335, List.forall_mem_cons.mpr ⟨dL_law_336, fun _ h => absurd h List.not_mem_nil⟩⟩⟩⟩⟩) rfl ?_).1
    refine lsldE C dL_law_337 (Nat.le_of_ble_eq_true rfl) (j := i + 1) (nI_add i 1) (by omega) (by omega) ?_
    refine (lgs C (pc' := 343) (L' := [(4, .int (nI i)), (3, .ref 34), (2, .ref 18), (1, .ref 0), (0, .ref 1000)]) (S' := [.int ((nI i) + (nI 2)), .ref 1000, .int (xs (i + 1)), .ref 0]) hkc0 hks0 [(338, .aload_n 0, 1), (339, .iload 4, 2), (341, .iconst 2, 1), (342, .iadd, 1)] (List.forall_mem_cons.mpr ⟨dL_law_338, List.forall_mem_cons.mpr ⟨dL_law_339, List.forall_mem_cons.mpr ⟨dL_law_341, List.forall_mem_cons.mpr ⟨dL_law_342, fun _ h => absurd h List.not_mem_nil⟩⟩⟩⟩) rfl ?_).1
    refine lsldE C dL_law_343 (Nat.le_of_ble_eq_true rfl) (j := i + 2) (nI_add i 2) (by omega) (by omega) ?_
    refine (lgs C (pc' := 345) (L' := [(4, .int (nI i)), (3, .ref 34), (2, .ref 18), (1, .ref 0), (0, .ref 1000)]) (S' := [.ref 34, .int (xs (i + 2)), .int (xs (i + 1)), .ref 0]) hkc0 hks0 [(344, .aload_n 3, 1)] (List.forall_mem_cons.mpr ⟨dL_law_344, fun _ h => absurd h List.not_mem_nil⟩) rfl ?_).1
    refine latX C hX0 hl dL_law_345 (by omega) f1 f2 f3 f5 hkc hks ?_
    refine (lgs C (pc' := 356) (L' := [(5, .int (nI 1)), (4, .int (nI i)), (3, .ref 34), (2, .ref 18), (1, .ref 0), (0, .ref 1000)]) (S' := [.int ((nI i) + (nI 1)), .ref 1000, .ref 18]) hkc hks [(348, .istore 5, 2), (350, .aload_n 2, 1), (351, .aload_n 0, 1), (352, .iload 4, 2), (354, .iconst 1, 1), (355, .iadd, 1)] (List.forall_mem_cons.mpr ⟨dL_law_348, List.forall_mem_cons.mpr ⟨dL_law_350, List.forall_mem_cons.mpr ⟨dL_law_351, List.forall_mem_cons.mpr ⟨dL_law_352, List.forall_mem_cons.mpr ⟨dL_law_354, List.forall_mem_cons.mpr ⟨dL_law_355, fun _ h => absurd h List.not_mem_nil⟩⟩⟩⟩⟩⟩) rfl ?_).1
    refine lsldE C dL_law_356 (Nat.le_of_ble_eq_true rfl) (j := i + 1) (nI_add i 1) (by omega) (by omega) ?_
    refine (lgs C (pc' := 362) (L' := [(5, .int (nI 1)), (4, .int (nI i)), (3, .ref 34), (2, .ref 18), (1, .ref 0), (0, .ref 1000)]) (S' := [.int ((nI i) + (nI 2)), .ref 1000, .int (xs (i + 1)), .ref 18]) hkc hks [(357, .aload_n 0, 1), (358, .iload 4, 2), (360, .iconst 2, 1), (361, .iadd, 1)] (List.forall_mem_cons.mpr ⟨dL_law_357, List.forall_mem_cons.mpr ⟨dL_law_358, List.forall_mem_cons.mpr ⟨dL_law_360, List.forall_mem_cons.mpr ⟨dL_law_361, fun _ h => absurd h List.not_mem_nil⟩⟩⟩⟩) rfl ?_).1
    refine lsldE C dL_law_362 (Nat.le_of_ble_eq_true rfl) (j := i + 2) (nI_add i 2) (by omega) (by omega) ?_
    refine lcl C dL_law_363 rfl tn_X6_at rfl (w_X6_at e2) hkc hks (Or.inl rfl) ?_
    show lG p l e s m below meth c D cT b (366, [(5, .int (nI 1)), (4, .int (nI i)), (3, .ref 34), (2, .ref 18), (1, .ref 0), (0, .ref 1000)], [.int (nI 0)], WL du (sI (sI mu 0 (nI 0)) 0 (nI 1)) g, kc + 1, ks + 6)
    refine (lgs C (pc' := 594) (L' := [(6, .int (nI 0)), (5, .int (nI 1)), (4, .int (nI i)), (3, .ref 34), (2, .ref 18), (1, .ref 0), (0, .ref 1000)]) (S' := []) hkc hks [(366, .istore 6, 2), (368, .goto 226, 3)] (List.forall_mem_cons.mpr ⟨dL_law_366, List.forall_mem_cons.mpr ⟨dL_law_368, fun _ h => absurd h List.not_mem_nil⟩⟩) rfl ?_).1
    refine lwk (L' := [(4, .int (nI i)), (3, .ref 34), (2, .ref 18), (1, .ref 0), (0, .ref 1000)]) (fun q hq => List.mem_cons_of_mem _ (List.mem_cons_of_mem _ (hq))) ?_
    exact nxt du (sI (sI mu 0 (nI 0)) 0 (nI 1)) g ⟨cc, ll, xx, pp, Rel_0 (Rel_0 hR _) _⟩
set_option maxRecDepth 100000 in
set_option maxHeartbeats 4000000 in
theorem l_next {p : Program} {l : Launch} {e : Env} {s : State} {m : MethodId} {below : List Frame} {meth : Method} {c : Code} {D : va_G} {cT : Nat → ClassId} {b L0 : Nat} {xs : Nat → Int32} (C : lC p s m meth c D cT b L0 xs) {i : Nat} {w : mx_W} {kc ks : Nat} (hi : i ≤ 2049) (hkc : kc ≤ i + 44) (hks : ks ≤ 6 * i + 20024) (kk : lG p l e s m below meth c D cT b (33, [(4, .int (nI (i + 4))), (3, .ref 34), (2, .ref 18), (1, .ref 0), (0, .ref 1000)], [], w, i + 4 + 40, 6 * (i + 4) + 20000)) : lG p l e s m below meth c D cT b (594, [(4, .int (nI i)), (3, .ref 34), (2, .ref 18), (1, .ref 0), (0, .ref 1000)], [], w, kc, ks) := by
  have e1 : i + 4 + 40 = i + 43 + 1 := by omega
  have e2 : 6 * (i + 4) + 20000 = 6 * i + 20024 := by omega
  rw [e1, e2] at kk
  refine (lgs C (pc' := 33) (L' := [(4, .int (nI i + nI 4)), (3, .ref 34), (2, .ref 18), (1, .ref 0), (0, .ref 1000)]) (S' := []) (by omega) (by omega) [(594, .iinc 4 4, 3), (597, .goto (-564), 3)] (List.forall_mem_cons.mpr ⟨dL_law_594, List.forall_mem_cons.mpr ⟨dL_law_597, fun _ h => absurd h List.not_mem_nil⟩⟩) rfl ?_).1
  rw [show nI i + nI 4 = nI (i + 4) from nI_add _ _]
  exact lup (kc' := i + 43) (ks' := 6 * i + 20024) hkc hks kk
set_option maxRecDepth 100000 in
set_option maxHeartbeats 4000000 in
theorem l_leave {p : Program} {l : Launch} {e : Env} {s : State} {m : MethodId} {below : List Frame} {meth : Method} {c : Code} {D : va_G} {cT : Nat → ClassId} {b L0 : Nat} {xs : Nat → Int32} (C : lC p s m meth c D cT b L0 xs) (hL : L0 ≤ 2049) {i : Nat} {w : mx_W} {kc ks : Nat} (hw : w.length ≤ 1000) (h1 : 1 ≤ i) (h2 : i ≤ 2057) (h3 : L0 < i + 4) (hkc : kc ≤ 603072) (hks : ks ≤ 7223016) : lG p l e s m below meth c D cT b (33, [(4, .int (nI i)), (3, .ref 34), (2, .ref 18), (1, .ref 0), (0, .ref 1000)], [], w, kc, ks) := by
  refine (lgs C (pc' := 36) (L' := [(4, .int (nI i)), (3, .ref 34), (2, .ref 18), (1, .ref 0), (0, .ref 1000)]) (S' := [.ref 1000, .int (nI i)]) hkc hks [(33, .iload 4, 2), (35, .aload_n 0, 1)] (List.forall_mem_cons.mpr ⟨dL_law_33, List.forall_mem_cons.mpr ⟨dL_law_35, fun _ h => absurd h List.not_mem_nil⟩⟩) rfl ?_).1
  refine lsln C dL_law_36 hw ?_
  refine (lgs C (pc' := 39) (L' := [(4, .int (nI i)), (3, .ref 34), (2, .ref 18), (1, .ref 0), (0, .ref 1000)]) (S' := [.int (nI L0 - nI 4), .int (nI i)]) hkc hks [(37, .iconst 4, 1), (38, .isub, 1)] (List.forall_mem_cons.mpr ⟨dL_law_37, List.forall_mem_cons.mpr ⟨dL_law_38, fun _ h => absurd h List.not_mem_nil⟩⟩) rfl ?_).1
  have hc : mx_cnd .gt (nI i) (nI L0 - nI 4) = true := by
    by_cases h4 : 4 ≤ L0
    · rw [pk_sub h4, c_gt (by omega) (by omega)]
      exact decide_eq_true (by omega)
    · have hn : nI L0 - nI 4 < 0 := by
        rcases (show L0 = 0 ∨ L0 = 1 ∨ L0 = 2 ∨ L0 = 3 by omega) with rfl | rfl | rfl | rfl <;> decide
      exact decide_eq_true (neg_lt hn (by omega))
  refine lcmp (t := 600) C dL_law_39 (by decide) hkc hks true hc ?_
  show lG p l e s m below meth c D cT b (600, [(4, .int (nI i)), (3, .ref 34), (2, .ref 18), (1, .ref 0), (0, .ref 1000)], [], w, kc, ks)
  refine (lgs C (pc' := 601) (L' := [(4, .int (nI i)), (3, .ref 34), (2, .ref 18), (1, .ref 0), (0, .ref 1000)]) (S' := [.int (nI 1)]) hkc hks [(600, .iconst 1, 1)] (List.forall_mem_cons.mpr ⟨dL_law_600, fun _ h => absurd h List.not_mem_nil⟩) rfl ?_).1
  exact lret C dL_law_601 hkc hks
set_option maxRecDepth 100000 in
set_option maxHeartbeats 4000000 in
theorem l_body {p : Program} {l : Launch} {e : Env} {s : State} {m : MethodId} {below : List Frame} {meth : Method} {c : Code} {D : va_G} {cT : Nat → ClassId} {b L0 : Nat} {xs : Nat → Int32} (C : lC p s m meth c D cT b L0 xs) {sa : Nat} (hX0 : xH (fun q => s.heap.size ≤ q) sa s) (hl : l.stackTraces = false) (hL : L0 ≤ 2049) {i n : Nat} {du mu : St} {g : Nat → Int64} (hR : RR n du mu) (hi : i + 4 ≤ L0) (kk : ∀ d' m' g', RR n d' m' → lG p l e s m below meth c D cT b (33, [(4, .int (nI (i + 4))), (3, .ref 34), (2, .ref 18), (1, .ref 0), (0, .ref 1000)], [], WL d' m' g', i + 4 + 40, 6 * (i + 4) + 20000)) : lG p l e s m below meth c D cT b (33, [(4, .int (nI i)), (3, .ref 34), (2, .ref 18), (1, .ref 0), (0, .ref 1000)], [], WL du mu g, i + 40, 6 * i + 20000) := by
  have hkc : i + 40 ≤ 603072 := by omega
  have hks : 6 * i + 20000 ≤ 7223016 := by omega
  refine (lgs C (pc' := 36) (L' := [(4, .int (nI i)), (3, .ref 34), (2, .ref 18), (1, .ref 0), (0, .ref 1000)]) (S' := [.ref 1000, .int (nI i)]) hkc hks [(33, .iload 4, 2), (35, .aload_n 0, 1)] (List.forall_mem_cons.mpr ⟨dL_law_33, List.forall_mem_cons.mpr ⟨dL_law_35, fun _ h => absurd h List.not_mem_nil⟩⟩) rfl ?_).1
  refine lsln C dL_law_36 (Nat.le_of_ble_eq_true rfl) ?_
  refine (lgs C (pc' := 39) (L' := [(4, .int (nI i)), (3, .ref 34), (2, .ref 18), (1, .ref 0), (0, .ref 1000)]) (S' := [.int (nI L0 - nI 4), .int (nI i)]) hkc hks [(37, .iconst 4, 1), (38, .isub, 1)] (List.forall_mem_cons.mpr ⟨dL_law_37, List.forall_mem_cons.mpr ⟨dL_law_38, fun _ h => absurd h List.not_mem_nil⟩⟩) rfl ?_).1
  have hc : mx_cnd .gt (nI i) (nI L0 - nI 4) = false := by
    rw [pk_sub (by omega), c_gt (by omega) (by omega)]
    exact decide_eq_false (by omega)
  refine lcmp (t := 600) C dL_law_39 (by decide) hkc hks false hc ?_
  show lG p l e s m below meth c D cT b (42, [(4, .int (nI i)), (3, .ref 34), (2, .ref 18), (1, .ref 0), (0, .ref 1000)], [], WL du mu g, i + 40, 6 * i + 20000)
  refine (lgs C (pc' := 45) (L' := [(4, .int (nI i)), (3, .ref 34), (2, .ref 18), (1, .ref 0), (0, .ref 1000)]) (S' := [.int (nI i), .ref 1000]) hkc hks [(42, .aload_n 0, 1), (43, .iload 4, 2)] (List.forall_mem_cons.mpr ⟨dL_law_42, List.forall_mem_cons.mpr ⟨dL_law_43, fun _ h => absurd h List.not_mem_nil⟩⟩) rfl ?_).1
  refine lsld C dL_law_45 (Nat.le_of_ble_eq_true rfl) (by omega) (by omega) rfl ?_
  refine (lgs C (pc' := 49) (L' := [(4, .int (nI i)), (3, .ref 34), (2, .ref 18), (1, .ref 0), (0, .ref 1000)]) (S' := [.int (xs i &&& nI 15)]) hkc hks [(46, .bipush 15, 2), (48, .iand, 1)] (List.forall_mem_cons.mpr ⟨dL_law_46, List.forall_mem_cons.mpr ⟨dL_law_48, fun _ h => absurd h List.not_mem_nil⟩⟩) rfl ?_).1
  obtain ⟨j, hj, ej⟩ := pk_andE (xs i) (m := nI 15) 4 (by decide)
  rw [ej]
  have nx : ∀ d' m', RR n d' m' → lG p l e s m below meth c D cT b (594, [(4, .int (nI i)), (3, .ref 34), (2, .ref 18), (1, .ref 0), (0, .ref 1000)], [], WL d' m' g, i + 40, 6 * i + 20000) := fun d' m' h => l_next C (by omega) (by omega) (by omega) (kk d' m' g h)
  have nxx : ∀ d' m' g', RR n d' m' → lG p l e s m below meth c D cT b (594, [(4, .int (nI i)), (3, .ref 34), (2, .ref 18), (1, .ref 0), (0, .ref 1000)], [], WL d' m' g', i + 40 + 1, 6 * i + 20000 + 6) := fun d' m' g' h => l_next C (by omega) (by omega) (by omega) (kk d' m' g' h)
  rcases (show j = 0 ∨ j = 1 ∨ j = 2 ∨ j = 3 ∨ j = 4 ∨ j = 5 ∨ j = 6 ∨ j = 7 ∨ j = 8 ∨ j = 9 ∨ j = 10 ∨ j = 11 ∨ j = 12 ∨ j = 13 ∨ j = 14 ∨ j = 15 by omega) with rfl | rfl | rfl | rfl | rfl | rfl | rfl | rfl | rfl | rfl | rfl | rfl | rfl | rfl | rfl | rfl
  · exact ltab (t := 124) (v := 0) (off := 75) C dL_law_49 (nI_toInt (by omega)) (Or.inr ⟨by decide, by decide, rfl⟩) (by decide) hkc hks (lc_open C hL hi hR hkc hks nx)
  · exact ltab (t := 149) (v := 1) (off := 100) C dL_law_49 (nI_toInt (by omega)) (Or.inr ⟨by decide, by decide, rfl⟩) (by decide) hkc hks (lc_add C hL hi hR hkc hks nx)
  · exact ltab (t := 218) (v := 2) (off := 169) C dL_law_49 (nI_toInt (by omega)) (Or.inr ⟨by decide, by decide, rfl⟩) (by decide) hkc hks (lc_end C hL hi hR hkc hks nx)
  · exact ltab (t := 231) (v := 3) (off := 182) C dL_law_49 (nI_toInt (by omega)) (Or.inr ⟨by decide, by decide, rfl⟩) (by decide) hkc hks (lc_protect C hL hi hR hkc hks nx)
  · exact ltab (t := 268) (v := 4) (off := 219) C dL_law_49 (nI_toInt (by omega)) (Or.inr ⟨by decide, by decide, rfl⟩) (by decide) hkc hks (lc_sync C hL hi hR hkc hks nx)
  · exact ltab (t := 281) (v := 5) (off := 232) C dL_law_49 (nI_toInt (by omega)) (Or.inr ⟨by decide, by decide, rfl⟩) (by decide) hkc hks (lc_cut C hL hi hR hkc hks nx)
  · exact ltab (t := 318) (v := 6) (off := 269) C dL_law_49 (nI_toInt (by omega)) (Or.inr ⟨by decide, by decide, rfl⟩) (by decide) hkc hks (lc_start C hL hi hR hkc hks nx)
  · exact ltab (t := 331) (v := 7) (off := 282) C dL_law_49 (nI_toInt (by omega)) (Or.inr ⟨by decide, by decide, rfl⟩) (by decide) hkc hks (lc_at C hX0 hl hL hi hR (by omega) (by omega) nxx)
  · exact ltab (t := 371) (v := 8) (off := 322) C dL_law_49 (nI_toInt (by omega)) (Or.inr ⟨by decide, by decide, rfl⟩) (by decide) hkc hks (lc_row C hL hi hR hkc hks nx)
  · exact ltab (t := 408) (v := 9) (off := 359) C dL_law_49 (nI_toInt (by omega)) (Or.inr ⟨by decide, by decide, rfl⟩) (by decide) hkc hks (lc_lose C hL hi hR hkc hks nx)
  · exact ltab (t := 433) (v := 10) (off := 384) C dL_law_49 (nI_toInt (by omega)) (Or.inr ⟨by decide, by decide, rfl⟩) (by decide) hkc hks (lc_poke C hL hi hR hkc hks nx)
  · exact ltab (t := 482) (v := 11) (off := 433) C dL_law_49 (nI_toInt (by omega)) (Or.inr ⟨by decide, by decide, rfl⟩) (by decide) hkc hks (lc_octet C hL hi hR hkc hks nx)
  · exact ltab (t := 519) (v := 12) (off := 470) C dL_law_49 (nI_toInt (by omega)) (Or.inr ⟨by decide, by decide, rfl⟩) (by decide) hkc hks (lc_whole C hL hi hR hkc hks nx)
  · exact ltab (t := 544) (v := 13) (off := 495) C dL_law_49 (nI_toInt (by omega)) (Or.inr ⟨by decide, by decide, rfl⟩) (by decide) hkc hks (lc_listed C hL hi hR hkc hks nx)
  · exact ltab (t := 569) (v := 14) (off := 520) C dL_law_49 (nI_toInt (by omega)) (Or.inr ⟨by decide, by decide, rfl⟩) (by decide) hkc hks (lc_told C hL hi hR hkc hks nx)
  · exact ltab (t := 594) (v := 15) (off := 545) C dL_law_49 (nI_toInt (by omega)) (Or.inl ⟨by decide, rfl⟩) (by decide) hkc hks (nx du mu hR)
set_option maxRecDepth 100000 in
set_option maxHeartbeats 4000000 in
theorem l_loop {p : Program} {l : Launch} {e : Env} {s : State} {m : MethodId} {below : List Frame} {meth : Method} {c : Code} {D : va_G} {cT : Nat → ClassId} {b L0 : Nat} {xs : Nat → Int32} (C : lC p s m meth c D cT b L0 xs) {sa : Nat} (hX0 : xH (fun q => s.heap.size ≤ q) sa s) (hl : l.stackTraces = false) (hL : L0 ≤ 2049) {n : Nat} : ∀ (k i : Nat) (du mu : St) (g : Nat → Int64), L0 < i + k → 1 ≤ i → i ≤ 2057 → RR n du mu → lG p l e s m below meth c D cT b (33, [(4, .int (nI i)), (3, .ref 34), (2, .ref 18), (1, .ref 0), (0, .ref 1000)], [], WL du mu g, i + 40, 6 * i + 20000) := by
  intro k
  induction k with
  | zero =>
    intro i du mu g h1 h2 h3 hR
    exact l_leave C hL (Nat.le_of_ble_eq_true rfl) h2 h3 (by omega) (by omega) (by omega)
  | succ k ih =>
    intro i du mu g h1 h2 h3 hR
    by_cases h4 : i + 4 ≤ L0
    · exact l_body C hX0 hl hL hR h4 (fun d' m' g' h => ih (i + 4) d' m' g' (by omega) (by omega) (by omega) h)
    · exact l_leave C hL (Nat.le_of_ble_eq_true rfl) h2 h3 (by omega) (by omega) (by omega)
/-- the two objects as they are made -/
def d0 (n : Nat) : St := (n, fun k => if k = 0 then nI 1 else if k = 1 then nI 2 else if k = 5 then -nI 1 else 0, fun _ _ => 0)
def m0 (n : Nat) : St := (n, fun k => if k = 1 then nI 1 else if k = 2 then nI 2 else if k = 7 then -nI 1 else 0, fun _ _ => 0)
theorem RR_new {n : Nat} (hn : n ≤ 60) (h8 : 8 ≤ n) : RR n (d0 n) (m0 n) := by
  have hz : (fun _ => 0 : Nat → Int32) = NF (fun _ => 0) := funext fun _ => rfl
  refine ⟨fun _ => 0, fun _ => 0, 2, 0, ⟨rfl, hn, h8, hz, hz, fun j _ => ?_, rfl, Nat.le_refl _, by omega, fun _ => (by decide : (0 : Nat) < 256), fun _ => (by decide : (0 : Nat) ≤ 1)⟩, ⟨⟨rfl, hn, h8, hz, hz, fun _ => (by decide : (0 : Nat) < 256), fun _ => (by decide : (0 : Nat) ≤ 1)⟩, rfl, Nat.le_refl _, by omega⟩, ⟨rfl, rfl, by decide, rfl, rfl, rfl⟩, Or.inl ⟨rfl, rfl, ⟨0, fun _ => 0, fun _ _ => 0, fun _ => 0, rfl, rfl, Nat.le_refl _, fun k h => absurd h (Nat.not_lt_zero _), fun k h => absurd h (Nat.not_lt_zero _)⟩, Or.inl ⟨rfl, rfl⟩⟩⟩
  have h0 : so (fun _ => 0) (fun _ => 0) j = 0 := if_neg (fun z => absurd z.2.1 (by decide : ¬ (1 : Nat) ≤ 0))
  rw [h0]
  rfl
set_option maxRecDepth 100000 in
set_option maxHeartbeats 4000000 in
theorem l_entry {p : Program} {l : Launch} {e : Env} {s : State} {m : MethodId} {below : List Frame} {meth : Method} {c : Code} {D : va_G} {cT : Nat → ClassId} {b L0 : Nat} {xs : Nat → Int32} (C : lC p s m meth c D cT b L0 xs) {sa : Nat} (hX0 : xH (fun q => s.heap.size ≤ q) sa s) (hl : l.stackTraces = false) (hL : L0 ≤ 2049) : lG p l e s m below meth c D cT b (0, [(0, .ref 1000)], [], [], 0, 0) := by
  obtain ⟨x, hx0⟩ : ∃ x, x = (if 0 < L0 then xs 0 else nI 0) := ⟨_, rfl⟩
  have hcn := cn_lo x
  refine lgo C (st' := (3, [(0, .ref 1000)], [.ref 0], [.inr (4, [.null, .null, .null, .null, .null, .null, .int 0, .int 0, .int 0, .int 0, .int 0, .int 0, .int 0, .int 0])], 0 + 1, 0 + 14)) dL_law_0 rfl (Nat.le_of_ble_eq_true rfl) (Nat.le_of_ble_eq_true rfl) ?_
  refine lgo C (st' := (4, [(0, .ref 1000)], [.ref 0, .ref 0], [.inr (4, [.null, .null, .null, .null, .null, .null, .int 0, .int 0, .int 0, .int 0, .int 0, .int 0, .int 0, .int 0])], 0 + 1, 0 + 14)) dL_law_3 rfl (Nat.le_of_ble_eq_true rfl) (Nat.le_of_ble_eq_true rfl) ?_
  refine lgo C (st' := (5, [(0, .ref 1000)], [.ref 1000, .ref 0, .ref 0], [.inr (4, [.null, .null, .null, .null, .null, .null, .int 0, .int 0, .int 0, .int 0, .int 0, .int 0, .int 0, .int 0])], 0 + 1, 0 + 14)) dL_law_4 rfl (Nat.le_of_ble_eq_true rfl) (Nat.le_of_ble_eq_true rfl) ?_
  refine lgo C (st' := (6, [(0, .ref 1000)], [.int (nI 0), .ref 1000, .ref 0, .ref 0], [.inr (4, [.null, .null, .null, .null, .null, .null, .int 0, .int 0, .int 0, .int 0, .int 0, .int 0, .int 0, .int 0])], 0 + 1, 0 + 14)) dL_law_5 rfl (Nat.le_of_ble_eq_true rfl) (Nat.le_of_ble_eq_true rfl) ?_
  refine lcell C dL_law_6 (Nat.le_of_ble_eq_true rfl) (by omega) (by decide) (by decide) (by decide) ?_
  rw [← hx0]
  refine lcl C dL_law_9 rfl tn_X5_init rfl (k_disk x) (by (try dsimp only) <;> omega) (by (try dsimp only) <;> omega) (Or.inr rfl) ?_
  show lG p l e s m below meth c D cT b (12, [(0, .ref 1000)], [.ref 0], [.inr (4, [.ref 1, .ref 5, .ref 9, .ref 11, .ref 16, .ref 17, .int (nI 1), .int (nI 2), .int 0, .int 0, .int 0, .int (-nI 1), .int 0, .int 0]), .inr (3, [.int (nI (cn x)), .ref 2, .ref 3, .ref 4]), .inl (0, (32 * (cn x)), .inl (fun _ => 0)), .inl (1, (cn x), .inl (fun _ => 0)), .inl (0, (cn x), .inl (fun _ => 0)), .inr (2, [.ref 6, .ref 7, .ref 8, .int 0]), .inl (0, 60, .inl (fun _ => 0)), .inl (0, 1920, .inl (fun _ => 0)), .inl (1, 60, .inl (fun _ => 0)), .inr (0, [.ref 10]), .inl (0, 32, .inl (fun _ => 0)), .inr (1, [.ref 12, .ref 13, .ref 14, .ref 15, .int 0, .int 0]), .inl (0, 4, .inl (fun _ => 0)), .inl (0, 4, .inl (fun _ => 0)), .inl (0, 4, .inl (fun _ => 0)), .inl (0, 48, .inl (fun _ => 0)), .inl (0, 96, .inl (fun _ => 0)), .inl (0, 4, .inl (fun _ => 0))], 0 + 1 + 17, 0 + 14 + (0 + 4 + (0 + (32 * (cn x)) + (cn x) + (cn x)) + 4 + (0 + 60 + 1920 + 60) + 1 + (0 + 32) + 6 + (0 + 4 + 4 + 4 + 48) + 96 + 4))
  refine lgo C (st' := (13, [(1, .ref 0), (0, .ref 1000)], [], [.inr (4, [.ref 1, .ref 5, .ref 9, .ref 11, .ref 16, .ref 17, .int (nI 1), .int (nI 2), .int 0, .int 0, .int 0, .int (-nI 1), .int 0, .int 0]), .inr (3, [.int (nI (cn x)), .ref 2, .ref 3, .ref 4]), .inl (0, (32 * (cn x)), .inl (fun _ => 0)), .inl (1, (cn x), .inl (fun _ => 0)), .inl (0, (cn x), .inl (fun _ => 0)), .inr (2, [.ref 6, .ref 7, .ref 8, .int 0]), .inl (0, 60, .inl (fun _ => 0)), .inl (0, 1920, .inl (fun _ => 0)), .inl (1, 60, .inl (fun _ => 0)), .inr (0, [.ref 10]), .inl (0, 32, .inl (fun _ => 0)), .inr (1, [.ref 12, .ref 13, .ref 14, .ref 15, .int 0, .int 0]), .inl (0, 4, .inl (fun _ => 0)), .inl (0, 4, .inl (fun _ => 0)), .inl (0, 4, .inl (fun _ => 0)), .inl (0, 48, .inl (fun _ => 0)), .inl (0, 96, .inl (fun _ => 0)), .inl (0, 4, .inl (fun _ => 0))], 0 + 1 + 17, 0 + 14 + (0 + 4 + (0 + (32 * (cn x)) + (cn x) + (cn x)) + 4 + (0 + 60 + 1920 + 60) + 1 + (0 + 32) + 6 + (0 + 4 + 4 + 4 + 48) + 96 + 4))) dL_law_12 rfl (by (try dsimp only) <;> omega) (by (try dsimp only) <;> omega) ?_
  refine lgo C (st' := (16, [(1, .ref 0), (0, .ref 1000)], [.ref 18], [.inr (4, [.ref 1, .ref 5, .ref 9, .ref 11, .ref 16, .ref 17, .int (nI 1), .int (nI 2), .int 0, .int 0, .int 0, .int (-nI 1), .int 0, .int 0]), .inr (3, [.int (nI (cn x)), .ref 2, .ref 3, .ref 4]), .inl (0, (32 * (cn x)), .inl (fun _ => 0)), .inl (1, (cn x), .inl (fun _ => 0)), .inl (0, (cn x), .inl (fun _ => 0)), .inr (2, [.ref 6, .ref 7, .ref 8, .int 0]), .inl (0, 60, .inl (fun _ => 0)), .inl (0, 1920, .inl (fun _ => 0)), .inl (1, 60, .inl (fun _ => 0)), .inr (0, [.ref 10]), .inl (0, 32, .inl (fun _ => 0)), .inr (1, [.ref 12, .ref 13, .ref 14, .ref 15, .int 0, .int 0]), .inl (0, 4, .inl (fun _ => 0)), .inl (0, 4, .inl (fun _ => 0)), .inl (0, 4, .inl (fun _ => 0)), .inl (0, 48, .inl (fun _ => 0)), .inl (0, 96, .inl (fun _ => 0)), .inl (0, 4, .inl (fun _ => 0)), .inr (5, [.int 0, .int 0, .null, .null, .int 0, .int 0, .int 0, .int 0, .int 0, .int 0, .int 0, .int 0, .null, .int 0, .null, .null, .null, .null, .null, .int 0, .null, .null, .null, .null, .null, .null, .null])], 0 + 1 + 17 + 1, 0 + 14 + (0 + 4 + (0 + (32 * (cn x)) + (cn x) + (cn x)) + 4 + (0 + 60 + 1920 + 60) + 1 + (0 + 32) + 6 + (0 + 4 + 4 + 4 + 48) + 96 + 4) + 27)) dL_law_13 rfl (by (try dsimp only) <;> omega) (by (try dsimp only) <;> omega) ?_
  refine lgo C (st' := (17, [(1, .ref 0), (0, .ref 1000)], [.ref 18, .ref 18], [.inr (4, [.ref 1, .ref 5, .ref 9, .ref 11, .ref 16, .ref 17, .int (nI 1), .int (nI 2), .int 0, .int 0, .int 0, .int (-nI 1), .int 0, .int 0]), .inr (3, [.int (nI (cn x)), .ref 2, .ref 3, .ref 4]), .inl (0, (32 * (cn x)), .inl (fun _ => 0)), .inl (1, (cn x), .inl (fun _ => 0)), .inl (0, (cn x), .inl (fun _ => 0)), .inr (2, [.ref 6, .ref 7, .ref 8, .int 0]), .inl (0, 60, .inl (fun _ => 0)), .inl (0, 1920, .inl (fun _ => 0)), .inl (1, 60, .inl (fun _ => 0)), .inr (0, [.ref 10]), .inl (0, 32, .inl (fun _ => 0)), .inr (1, [.ref 12, .ref 13, .ref 14, .ref 15, .int 0, .int 0]), .inl (0, 4, .inl (fun _ => 0)), .inl (0, 4, .inl (fun _ => 0)), .inl (0, 4, .inl (fun _ => 0)), .inl (0, 48, .inl (fun _ => 0)), .inl (0, 96, .inl (fun _ => 0)), .inl (0, 4, .inl (fun _ => 0)), .inr (5, [.int 0, .int 0, .null, .null, .int 0, .int 0, .int 0, .int 0, .int 0, .int 0, .int 0, .int 0, .null, .int 0, .null, .null, .null, .null, .null, .int 0, .null, .null, .null, .null, .null, .null, .null])], 0 + 1 + 17 + 1, 0 + 14 + (0 + 4 + (0 + (32 * (cn x)) + (cn x) + (cn x)) + 4 + (0 + 60 + 1920 + 60) + 1 + (0 + 32) + 6 + (0 + 4 + 4 + 4 + 48) + 96 + 4) + 27)) dL_law_16 rfl (by (try dsimp only) <;> omega) (by (try dsimp only) <;> omega) ?_
  refine lgo C (st' := (18, [(1, .ref 0), (0, .ref 1000)], [.ref 1000, .ref 18, .ref 18], [.inr (4, [.ref 1, .ref 5, .ref 9, .ref 11, .ref 16, .ref 17, .int (nI 1), .int (nI 2), .int 0, .int 0, .int 0, .int (-nI 1), .int 0, .int 0]), .inr (3, [.int (nI (cn x)), .ref 2, .ref 3, .ref 4]), .inl (0, (32 * (cn x)), .inl (fun _ => 0)), .inl (1, (cn x), .inl (fun _ => 0)), .inl (0, (cn x), .inl (fun _ => 0)), .inr (2, [.ref 6, .ref 7, .ref 8, .int 0]), .inl (0, 60, .inl (fun _ => 0)), .inl (0, 1920, .inl (fun _ => 0)), .inl (1, 60, .inl (fun _ => 0)), .inr (0, [.ref 10]), .inl (0, 32, .inl (fun _ => 0)), .inr (1, [.ref 12, .ref 13, .ref 14, .ref 15, .int 0, .int 0]), .inl (0, 4, .inl (fun _ => 0)), .inl (0, 4, .inl (fun _ => 0)), .inl (0, 4, .inl (fun _ => 0)), .inl (0, 48, .inl (fun _ => 0)), .inl (0, 96, .inl (fun _ => 0)), .inl (0, 4, .inl (fun _ => 0)), .inr (5, [.int 0, .int 0, .null, .null, .int 0, .int 0, .int 0, .int 0, .int 0, .int 0, .int 0, .int 0, .null, .int 0, .null, .null, .null, .null, .null, .int 0, .null, .null, .null, .null, .null, .null, .null])], 0 + 1 + 17 + 1, 0 + 14 + (0 + 4 + (0 + (32 * (cn x)) + (cn x) + (cn x)) + 4 + (0 + 60 + 1920 + 60) + 1 + (0 + 32) + 6 + (0 + 4 + 4 + 4 + 48) + 96 + 4) + 27)) dL_law_17 rfl (by (try dsimp only) <;> omega) (by (try dsimp only) <;> omega) ?_
  refine lgo C (st' := (19, [(1, .ref 0), (0, .ref 1000)], [.int (nI 0), .ref 1000, .ref 18, .ref 18], [.inr (4, [.ref 1, .ref 5, .ref 9, .ref 11, .ref 16, .ref 17, .int (nI 1), .int (nI 2), .int 0, .int 0, .int 0, .int (-nI 1), .int 0, .int 0]), .inr (3, [.int (nI (cn x)), .ref 2, .ref 3, .ref 4]), .inl (0, (32 * (cn x)), .inl (fun _ => 0)), .inl (1, (cn x), .inl (fun _ => 0)), .inl (0, (cn x), .inl (fun _ => 0)), .inr (2, [.ref 6, .ref 7, .ref 8, .int 0]), .inl (0, 60, .inl (fun _ => 0)), .inl (0, 1920, .inl (fun _ => 0)), .inl (1, 60, .inl (fun _ => 0)), .inr (0, [.ref 10]), .inl (0, 32, .inl (fun _ => 0)), .inr (1, [.ref 12, .ref 13, .ref 14, .ref 15, .int 0, .int 0]), .inl (0, 4, .inl (fun _ => 0)), .inl (0, 4, .inl (fun _ => 0)), .inl (0, 4, .inl (fun _ => 0)), .inl (0, 48, .inl (fun _ => 0)), .inl (0, 96, .inl (fun _ => 0)), .inl (0, 4, .inl (fun _ => 0)), .inr (5, [.int 0, .int 0, .null, .null, .int 0, .int 0, .int 0, .int 0, .int 0, .int 0, .int 0, .int 0, .null, .int 0, .null, .null, .null, .null, .null, .int 0, .null, .null, .null, .null, .null, .null, .null])], 0 + 1 + 17 + 1, 0 + 14 + (0 + 4 + (0 + (32 * (cn x)) + (cn x) + (cn x)) + 4 + (0 + 60 + 1920 + 60) + 1 + (0 + 32) + 6 + (0 + 4 + 4 + 4 + 48) + 96 + 4) + 27)) dL_law_18 rfl (by (try dsimp only) <;> omega) (by (try dsimp only) <;> omega) ?_
  refine lcell C dL_law_19 (Nat.le_of_ble_eq_true rfl) (by omega) (by decide) (by omega) (by omega) ?_
  rw [← hx0]
  refine lcl C dL_law_22 rfl tn_X6_init rfl (k_mod x) (by (try dsimp only) <;> omega) (by (try dsimp only) <;> omega) (Or.inr rfl) ?_
  show lG p l e s m below meth c D cT b (25, [(1, .ref 0), (0, .ref 1000)], [.ref 18], [.inr (4, [.ref 1, .ref 5, .ref 9, .ref 11, .ref 16, .ref 17, .int (nI 1), .int (nI 2), .int 0, .int 0, .int 0, .int (-nI 1), .int 0, .int 0]), .inr (3, [.int (nI (cn x)), .ref 2, .ref 3, .ref 4]), .inl (0, (32 * (cn x)), .inl (fun _ => 0)), .inl (1, (cn x), .inl (fun _ => 0)), .inl (0, (cn x), .inl (fun _ => 0)), .inr (2, [.ref 6, .ref 7, .ref 8, .int 0]), .inl (0, 60, .inl (fun _ => 0)), .inl (0, 1920, .inl (fun _ => 0)), .inl (1, 60, .inl (fun _ => 0)), .inr (0, [.ref 10]), .inl (0, 32, .inl (fun _ => 0)), .inr (1, [.ref 12, .ref 13, .ref 14, .ref 15, .int 0, .int 0]), .inl (0, 4, .inl (fun _ => 0)), .inl (0, 4, .inl (fun _ => 0)), .inl (0, 4, .inl (fun _ => 0)), .inl (0, 48, .inl (fun _ => 0)), .inl (0, 96, .inl (fun _ => 0)), .inl (0, 4, .inl (fun _ => 0)), .inr (5, [.int 0, .int (nI (cn x)), .ref 19, .ref 20, .int (nI 1), .int (nI 2), .int 0, .int 0, .int 0, .int 0, .int (-nI 1), .int 0, .ref 21, .int 0, .ref 22, .ref 23, .ref 24, .ref 25, .ref 26, .int 0, .ref 27, .ref 28, .ref 29, .ref 30, .ref 31, .ref 32, .ref 33]), .inl (0, 1920, .inl (fun _ => 0)), .inl (1, 60, .inl (fun _ => 0)), .inl (0, 96, .inl (fun _ => 0)), .inl (0, 64, .inl (fun _ => 0)), .inl (0, 2048, .inl (fun _ => 0)), .inl (1, 64, .inl (fun _ => 0)), .inl (0, 32, .inl (fun _ => 0)), .inl (0, 4, .inl (fun _ => 0)), .inl (0, 4, .inl (fun _ => 0)), .inl (0, 4, .inl (fun _ => 0)), .inl (0, 4, .inl (fun _ => 0)), .inl (0, 24, .inl (fun _ => 0)), .inl (0, 24, .inl (fun _ => 0)), .inl (0, 24, .inl (fun _ => 0)), .inl (0, 24, .inl (fun _ => 0))], 0 + 1 + 17 + 1 + 15, 0 + 14 + (0 + 4 + (0 + (32 * (cn x)) + (cn x) + (cn x)) + 4 + (0 + 60 + 1920 + 60) + 1 + (0 + 32) + 6 + (0 + 4 + 4 + 4 + 48) + 96 + 4) + 27 + (0 + 1920 + 60 + 96 + 64 + 2048 + 64 + 32 + 4 + 4 + 4 + 4 + 24 + 24 + 24 + 24))
  refine lgo C (st' := (26, [(2, .ref 18), (1, .ref 0), (0, .ref 1000)], [], [.inr (4, [.ref 1, .ref 5, .ref 9, .ref 11, .ref 16, .ref 17, .int (nI 1), .int (nI 2), .int 0, .int 0, .int 0, .int (-nI 1), .int 0, .int 0]), .inr (3, [.int (nI (cn x)), .ref 2, .ref 3, .ref 4]), .inl (0, (32 * (cn x)), .inl (fun _ => 0)), .inl (1, (cn x), .inl (fun _ => 0)), .inl (0, (cn x), .inl (fun _ => 0)), .inr (2, [.ref 6, .ref 7, .ref 8, .int 0]), .inl (0, 60, .inl (fun _ => 0)), .inl (0, 1920, .inl (fun _ => 0)), .inl (1, 60, .inl (fun _ => 0)), .inr (0, [.ref 10]), .inl (0, 32, .inl (fun _ => 0)), .inr (1, [.ref 12, .ref 13, .ref 14, .ref 15, .int 0, .int 0]), .inl (0, 4, .inl (fun _ => 0)), .inl (0, 4, .inl (fun _ => 0)), .inl (0, 4, .inl (fun _ => 0)), .inl (0, 48, .inl (fun _ => 0)), .inl (0, 96, .inl (fun _ => 0)), .inl (0, 4, .inl (fun _ => 0)), .inr (5, [.int 0, .int (nI (cn x)), .ref 19, .ref 20, .int (nI 1), .int (nI 2), .int 0, .int 0, .int 0, .int 0, .int (-nI 1), .int 0, .ref 21, .int 0, .ref 22, .ref 23, .ref 24, .ref 25, .ref 26, .int 0, .ref 27, .ref 28, .ref 29, .ref 30, .ref 31, .ref 32, .ref 33]), .inl (0, 1920, .inl (fun _ => 0)), .inl (1, 60, .inl (fun _ => 0)), .inl (0, 96, .inl (fun _ => 0)), .inl (0, 64, .inl (fun _ => 0)), .inl (0, 2048, .inl (fun _ => 0)), .inl (1, 64, .inl (fun _ => 0)), .inl (0, 32, .inl (fun _ => 0)), .inl (0, 4, .inl (fun _ => 0)), .inl (0, 4, .inl (fun _ => 0)), .inl (0, 4, .inl (fun _ => 0)), .inl (0, 4, .inl (fun _ => 0)), .inl (0, 24, .inl (fun _ => 0)), .inl (0, 24, .inl (fun _ => 0)), .inl (0, 24, .inl (fun _ => 0)), .inl (0, 24, .inl (fun _ => 0))], 0 + 1 + 17 + 1 + 15, 0 + 14 + (0 + 4 + (0 + (32 * (cn x)) + (cn x) + (cn x)) + 4 + (0 + 60 + 1920 + 60) + 1 + (0 + 32) + 6 + (0 + 4 + 4 + 4 + 48) + 96 + 4) + 27 + (0 + 1920 + 60 + 96 + 64 + 2048 + 64 + 32 + 4 + 4 + 4 + 4 + 24 + 24 + 24 + 24))) dL_law_25 rfl (by (try dsimp only) <;> omega) (by (try dsimp only) <;> omega) ?_
  refine lgo C (st' := (27, [(2, .ref 18), (1, .ref 0), (0, .ref 1000)], [.int (nI 1)], [.inr (4, [.ref 1, .ref 5, .ref 9, .ref 11, .ref 16, .ref 17, .int (nI 1), .int (nI 2), .int 0, .int 0, .int 0, .int (-nI 1), .int 0, .int 0]), .inr (3, [.int (nI (cn x)), .ref 2, .ref 3, .ref 4]), .inl (0, (32 * (cn x)), .inl (fun _ => 0)), .inl (1, (cn x), .inl (fun _ => 0)), .inl (0, (cn x), .inl (fun _ => 0)), .inr (2, [.ref 6, .ref 7, .ref 8, .int 0]), .inl (0, 60, .inl (fun _ => 0)), .inl (0, 1920, .inl (fun _ => 0)), .inl (1, 60, .inl (fun _ => 0)), .inr (0, [.ref 10]), .inl (0, 32, .inl (fun _ => 0)), .inr (1, [.ref 12, .ref 13, .ref 14, .ref 15, .int 0, .int 0]), .inl (0, 4, .inl (fun _ => 0)), .inl (0, 4, .inl (fun _ => 0)), .inl (0, 4, .inl (fun _ => 0)), .inl (0, 48, .inl (fun _ => 0)), .inl (0, 96, .inl (fun _ => 0)), .inl (0, 4, .inl (fun _ => 0)), .inr (5, [.int 0, .int (nI (cn x)), .ref 19, .ref 20, .int (nI 1), .int (nI 2), .int 0, .int 0, .int 0, .int 0, .int (-nI 1), .int 0, .ref 21, .int 0, .ref 22, .ref 23, .ref 24, .ref 25, .ref 26, .int 0, .ref 27, .ref 28, .ref 29, .ref 30, .ref 31, .ref 32, .ref 33]), .inl (0, 1920, .inl (fun _ => 0)), .inl (1, 60, .inl (fun _ => 0)), .inl (0, 96, .inl (fun _ => 0)), .inl (0, 64, .inl (fun _ => 0)), .inl (0, 2048, .inl (fun _ => 0)), .inl (1, 64, .inl (fun _ => 0)), .inl (0, 32, .inl (fun _ => 0)), .inl (0, 4, .inl (fun _ => 0)), .inl (0, 4, .inl (fun _ => 0)), .inl (0, 4, .inl (fun _ => 0)), .inl (0, 4, .inl (fun _ => 0)), .inl (0, 24, .inl (fun _ => 0)), .inl (0, 24, .inl (fun _ => 0)), .inl (0, 24, .inl (fun _ => 0)), .inl (0, 24, .inl (fun _ => 0))], 0 + 1 + 17 + 1 + 15, 0 + 14 + (0 + 4 + (0 + (32 * (cn x)) + (cn x) + (cn x)) + 4 + (0 + 60 + 1920 + 60) + 1 + (0 + 32) + 6 + (0 + 4 + 4 + 4 + 48) + 96 + 4) + 27 + (0 + 1920 + 60 + 96 + 64 + 2048 + 64 + 32 + 4 + 4 + 4 + 4 + 24 + 24 + 24 + 24))) dL_law_26 rfl (by (try dsimp only) <;> omega) (by (try dsimp only) <;> omega) ?_
  refine lgo C (st' := (29, [(2, .ref 18), (1, .ref 0), (0, .ref 1000)], [.ref 34], [.inr (4, [.ref 1, .ref 5, .ref 9, .ref 11, .ref 16, .ref 17, .int (nI 1), .int (nI 2), .int 0, .int 0, .int 0, .int (-nI 1), .int 0, .int 0]), .inr (3, [.int (nI (cn x)), .ref 2, .ref 3, .ref 4]), .inl (0, (32 * (cn x)), .inl (fun _ => 0)), .inl (1, (cn x), .inl (fun _ => 0)), .inl (0, (cn x), .inl (fun _ => 0)), .inr (2, [.ref 6, .ref 7, .ref 8, .int 0]), .inl (0, 60, .inl (fun _ => 0)), .inl (0, 1920, .inl (fun _ => 0)), .inl (1, 60, .inl (fun _ => 0)), .inr (0, [.ref 10]), .inl (0, 32, .inl (fun _ => 0)), .inr (1, [.ref 12, .ref 13, .ref 14, .ref 15, .int 0, .int 0]), .inl (0, 4, .inl (fun _ => 0)), .inl (0, 4, .inl (fun _ => 0)), .inl (0, 4, .inl (fun _ => 0)), .inl (0, 48, .inl (fun _ => 0)), .inl (0, 96, .inl (fun _ => 0)), .inl (0, 4, .inl (fun _ => 0)), .inr (5, [.int 0, .int (nI (cn x)), .ref 19, .ref 20, .int (nI 1), .int (nI 2), .int 0, .int 0, .int 0, .int 0, .int (-nI 1), .int 0, .ref 21, .int 0, .ref 22, .ref 23, .ref 24, .ref 25, .ref 26, .int 0, .ref 27, .ref 28, .ref 29, .ref 30, .ref 31, .ref 32, .ref 33]), .inl (0, 1920, .inl (fun _ => 0)), .inl (1, 60, .inl (fun _ => 0)), .inl (0, 96, .inl (fun _ => 0)), .inl (0, 64, .inl (fun _ => 0)), .inl (0, 2048, .inl (fun _ => 0)), .inl (1, 64, .inl (fun _ => 0)), .inl (0, 32, .inl (fun _ => 0)), .inl (0, 4, .inl (fun _ => 0)), .inl (0, 4, .inl (fun _ => 0)), .inl (0, 4, .inl (fun _ => 0)), .inl (0, 4, .inl (fun _ => 0)), .inl (0, 24, .inl (fun _ => 0)), .inl (0, 24, .inl (fun _ => 0)), .inl (0, 24, .inl (fun _ => 0)), .inl (0, 24, .inl (fun _ => 0)), .inl (2, 1, .inr (.inl (fun _ => 0)))], 0 + 1 + 17 + 1 + 15 + 1, 0 + 14 + (0 + 4 + (0 + (32 * (cn x)) + (cn x) + (cn x)) + 4 + (0 + 60 + 1920 + 60) + 1 + (0 + 32) + 6 + (0 + 4 + 4 + 4 + 48) + 96 + 4) + 27 + (0 + 1920 + 60 + 96 + 64 + 2048 + 64 + 32 + 4 + 4 + 4 + 4 + 24 + 24 + 24 + 24) + 1)) dL_law_27 rfl (by (try dsimp only) <;> omega) (by (try dsimp only) <;> omega) ?_
  refine lup (kc' := 40) (ks' := 20006) (by omega) (by omega) ?_
  show lG p l e s m below meth c D cT b (29, [(2, .ref 18), (1, .ref 0), (0, .ref 1000)], [.ref 34], WL (d0 (cn x)) (m0 (cn x)) (fun _ => 0), 1 + 40, 6 * 1 + 20000)
  refine (lgs C (pc' := 33) (L' := [(4, .int (nI 1)), (3, .ref 34), (2, .ref 18), (1, .ref 0), (0, .ref 1000)]) (S' := []) (by decide) (by decide) [(29, .astore_n 3, 1), (30, .iconst 1, 1), (31, .istore 4, 2)] (List.forall_mem_cons.mpr ⟨dL_law_29, List.forall_mem_cons.mpr ⟨dL_law_30, List.forall_mem_cons.mpr ⟨dL_law_31, fun _ h => absurd h List.not_mem_nil⟩⟩⟩) rfl ?_).1
  exact l_loop C hX0 hl hL 2050 1 _ _ _ (by omega) (Nat.le_refl _) (by omega) (RR_new hcn.2 hcn.1)
/-! the law's start: what the tables say gives the walk's ground -/
theorem arr_known {args : Array Value} {s : State} {ty : FieldType} (h : (Jvm.Cond.arrayClass ty).before args s = true) : ∃ cA : ClassId, ArrOfT s cA ty ∧ s.vm.findClass ("[" ++ ty.toString) = some cA := by
  obtain ⟨cA, kA, comp, h1, h2, h3⟩ := Cond.arrayClass_spec h
  exact ⟨cA, fun n z => ⟨fun k h => (by cases h), kA, h2, comp, h3⟩, h1⟩
set_option maxHeartbeats 4000000 in
set_option maxRecDepth 100000 in
theorem law_ground {p : Program} {s : State} {m : MethodId} {meth : Method} {c : Code} {b L : Nat} {xs : Nat → Int32} (C0 : lw_At p s m meth c b L xs) : ∃ (D : va_G) (cT : Nat → ClassId), lC p s m meth c D cT b L xs := by
  obtain ⟨hx, hb, hr, hml, hown, hts, hX, hbl, hlocks, hgv⟩ := C0
  have hG : ∀ w ∈ tb_GT, w.before #[Value.ref b] s = true := fun w hw => hts w (List.mem_filter.mp hw).1
  obtain ⟨c0, i0, k0⟩ := u_known (C := RX0) (T := TX0) (N := 1) (n := 1) hG tu_X0 (hG _ tw_X0_new)
  obtain ⟨c1, i1, k1⟩ := u_known (C := RX2) (T := TX2) (N := 6) (n := 6) hG tu_X2 (hG _ tw_X2_new)
  obtain ⟨c2, i2, k2⟩ := u_known (C := RX3) (T := TX3) (N := 4) (n := 4) hG tu_X3 (hG _ tw_X3_new)
  obtain ⟨c3, i3, k3⟩ := u_known (C := RX4) (T := TX4) (N := 4) (n := 4) hG tu_X4 (hG _ tw_X4_new)
  obtain ⟨c4, i4, k4⟩ := u_known (C := RX5) (T := TX5) (N := 14) (n := 14) hG tu_X5 (hG _ tw_X5_new)
  obtain ⟨c5, i5, k5⟩ := u_known (C := RX6) (T := TX6) (N := 27) (n := 27) hG tu_X6 (hG _ tw_X6_new)
  obtain ⟨z0, a0, r0⟩ := arr_known (hG _ tb_J.2.2.2.2.2.2.2.2.2.2.1)
  obtain ⟨z1, a1, r1⟩ := arr_known (hG _ tb_J.2.2.2.2.2.2.2.2.2.2.2.1)
  obtain ⟨z2, a2, r2⟩ := arr_known (hG _ tb_J.2.2.2.2.2.2.2.2.2.2.2.2)
  refine ⟨(fun k => [c0, c1, c2, c3, c4, c5].getD k c0, fun k => [i0, i1, i2, i3, i4, i5].getD k i0), fun k => [z0, z1, z2].getD k z0, ⟨hx, hb, hml, hown, hG, fun h => absurd h (by decide), ⟨?_, ?_⟩, fun _ h => h, tb_C, tb_J, tL_L, fun _ => ⟨by decide, by decide⟩, fun h => absurd h (by decide)⟩, ?_, hX, hbl, hr, hlocks, hts⟩
  · intro k q hq
    match k, hq with
    | 0, hq => cases hq; exact k0
    | 1, hq => cases hq; exact k1
    | 2, hq => cases hq; exact k2
    | 3, hq => cases hq; exact k3
    | 4, hq => cases hq; exact k4
    | 5, hq => cases hq; exact k5
    | k + 6, hq => exact absurd hq (by simp [tb_cl])
  · intro k q hq
    match k, hq with
    | 0, hq => cases hq; exact ⟨a0, r0⟩
    | 1, hq => cases hq; exact ⟨a1, r1⟩
    | 2, hq => cases hq; exact ⟨a2, r2⟩
    | k + 3, hq => exact absurd hq (by simp [mx_tys])
  · intro z hz
    have h1 := hts z (tb_NW_in z hz)
    obtain ⟨a, i, x, h, rfl⟩ := tb_nest z hz
    exact va_Nw.of rfl h1
set_option maxRecDepth 100000 in
set_option maxHeartbeats 4000000 in
theorem whole_start {p : Program} {e : Env} {s : State} {m : MethodId} {below : List Frame} {meth : Method} {c : Code} (l : Launch) (hl : l.stackTraces = false) {b L : Nat} {xs : Nat → Int32} (hL : L ≤ 2049) (C0 : lw_At p s m meth c b L xs) : W p l e room_1 s m #[Value.ref b] below meth c s.heap [] 0 0 (lw_Z below #[Value.ref b] s) (entryFrame m ([Value.ref b] : List Value).toArray 7) := by
  obtain ⟨D, cT, C⟩ := law_ground C0
  have hts := C0.2.2.2.2.2.1
  have hs := flat_of_before _ C0.2.2.2.2.2.2.2.2.2
  have i1 : (Cond.isRef (.static Bundle.tN "UNASSIGNED_STACK" Bundle.steD)).before #[Value.ref b] s = true := hs _ (by decide +kernel)
  have i2 : (Cond.isRef (.static Bundle.tN "SUPPRESSED_SENTINEL" Bundle.listD)).before #[Value.ref b] s = true := hs _ (by decide +kernel)
  have i3 : (Cond.exactly (Term.string RX5 155) "java/lang/String").before #[Value.ref b] s = true := hs _ (by decide +kernel)
  obtain ⟨sa, c9, cA, kA, q1, -⟩ := Cond.exactly_spec (args := #[Value.ref b]) (first := s) (o := none) (s := s) (idx := []) (t := Term.string RX5 155) (cls := "java/lang/String") i3
  have hX0 : xH (fun q => s.heap.size ≤ q) sa s := ⟨vx_Zqof (hts _ xa_u.1) (hts _ xa_u.2.2) i1 (fun a h z => absurd h (Nat.not_lt.mpr z)), vx_Zqof (hts _ xa_u.2.1) (hts _ xa_u.2.2) i2 (fun a h z => absurd h (Nat.not_lt.mpr z)), vk_R.of (hts _ xa_t) q1, fun w hw hx => xw_go hx (Vm.Alike.refl s.vm) (hts _ (xa_in w hw))⟩
  have K : lG p l e s m below meth c D cT b (0, [(0, .ref 1000)], [], [], 0, 0) := l_entry C hX0 hl hL
  have hlv := lv_entry ([.ref b]) (n := 7) (Nat.le_of_ble_eq_true rfl)
  rw [lg_entry_eq]
  generalize (lg_sl ([.ref b]) ++ List.replicate (7 - (lg_sl ([.ref b])).length) Slot.unset).toArray = ls at hlv ⊢
  exact K (fun _ => b) s.heap [] ls (fun _ _ => rfl) (fun _ => rfl) (Nat.zero_le _) (fun k q h => by simp [mx_w] at h) ⟨fun i j p q h => by simp [mx_w] at h, fun k q h => by simp [mx_w] at h⟩ va_S.rf hlv
