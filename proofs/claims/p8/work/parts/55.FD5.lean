def F_X2_sectorOf (s : St) (x1 : Int32) : Option (Int32) := bif mx_cnd .lt x1 0 then (some (-nI 1)) else (bif mx_cnd .ge x1 (gI s 9) then (some (-nI 1)) else (bif mx_cnd .ge x1 (nI 4) then (some (-nI 1)) else (ldA (gA s 7) 4 x1 fun v1 => some v1)))
set_option maxRecDepth 100000 in
set_option maxHeartbeats 4000000 in
theorem w_X2_sectorOf {rest : mx_W} {s : St} {x1 : Int32} {r : Int32} (h : F_X2_sectorOf s x1 = some r) : X 12 (0, [(0, .ref 11), (1, .int x1)], [], wd s rest, 0, 0) (some (.int r), wd s rest, 0, 0) := by
  unfold F_X2_sectorOf at h
  refine xs tn_X2_sectorOf [(0, .iload_n 1, 1)] (st' := (1, [(0, .ref 11), (1, .int x1)], [.int x1], wd s rest, 0, 0)) (List.forall_mem_cons.mpr ⟨dX2_sectorOf_0, fun _ h => absurd h List.not_mem_nil⟩) rfl ?_
  refine xifF (t := 26) tn_X2_sectorOf dX2_sectorOf_1 (by decide) h (fun h => ?_) (fun h => ?_)
  · refine xs tn_X2_sectorOf [(26, .iconst (-1), 1)] (st' := (27, [(0, .ref 11), (1, .int x1)], [.int (-nI 1)], wd s rest, 0, 0)) (List.forall_mem_cons.mpr ⟨dX2_sectorOf_26, fun _ h => absurd h List.not_mem_nil⟩) rfl ?_
    cases h
    exact xret tn_X2_sectorOf rfl dX2_sectorOf_27
  · refine xs tn_X2_sectorOf [(4, .iload_n 1, 1), (5, .aload_n 0, 1), (6, .getfield 24, 3)] (st' := (9, [(0, .ref 11), (1, .int x1)], [.int (gI s 9), .int x1], wd s rest, 0, 0)) (List.forall_mem_cons.mpr ⟨dX2_sectorOf_4, List.forall_mem_cons.mpr ⟨dX2_sectorOf_5, List.forall_mem_cons.mpr ⟨dX2_sectorOf_6, fun _ h => absurd h List.not_mem_nil⟩⟩⟩) rfl ?_
    refine xcmpF (t := 26) tn_X2_sectorOf dX2_sectorOf_9 (by decide) h (fun h => ?_) (fun h => ?_)
    · refine xs tn_X2_sectorOf [(26, .iconst (-1), 1)] (st' := (27, [(0, .ref 11), (1, .int x1)], [.int (-nI 1)], wd s rest, 0, 0)) (List.forall_mem_cons.mpr ⟨dX2_sectorOf_26, fun _ h => absurd h List.not_mem_nil⟩) rfl ?_
      cases h
      exact xret tn_X2_sectorOf rfl dX2_sectorOf_27
    · refine xs tn_X2_sectorOf [(12, .iload_n 1, 1), (13, .iconst 4, 1)] (st' := (14, [(0, .ref 11), (1, .int x1)], [.int (nI 4), .int x1], wd s rest, 0, 0)) (List.forall_mem_cons.mpr ⟨dX2_sectorOf_12, List.forall_mem_cons.mpr ⟨dX2_sectorOf_13, fun _ h => absurd h List.not_mem_nil⟩⟩) rfl ?_
      refine xcmpF (t := 26) tn_X2_sectorOf dX2_sectorOf_14 (by decide) h (fun h => ?_) (fun h => ?_)
      · refine xs tn_X2_sectorOf [(26, .iconst (-1), 1)] (st' := (27, [(0, .ref 11), (1, .int x1)], [.int (-nI 1)], wd s rest, 0, 0)) (List.forall_mem_cons.mpr ⟨dX2_sectorOf_26, fun _ h => absurd h List.not_mem_nil⟩) rfl ?_
        cases h
        exact xret tn_X2_sectorOf rfl dX2_sectorOf_27
      · refine xs tn_X2_sectorOf [(17, .aload_n 0, 1), (18, .getfield 9, 3), (21, .iload_n 1, 1)] (st' := (22, [(0, .ref 11), (1, .int x1)], [.int x1, .ref 12], wd s rest, 0, 0)) (List.forall_mem_cons.mpr ⟨dX2_sectorOf_17, List.forall_mem_cons.mpr ⟨dX2_sectorOf_18, List.forall_mem_cons.mpr ⟨dX2_sectorOf_21, fun _ h => absurd h List.not_mem_nil⟩⟩⟩) rfl ?_
        refine xldF tn_X2_sectorOf dX2_sectorOf_22 at_12 h (fun v1 h => ?_)
        refine xs tn_X2_sectorOf [(23, .goto 4, 3)] (st' := (27, [(0, .ref 11), (1, .int x1)], [.int v1], wd s rest, 0, 0)) (List.forall_mem_cons.mpr ⟨dX2_sectorOf_23, fun _ h => absurd h List.not_mem_nil⟩) rfl ?_
        cases h
        exact xret tn_X2_sectorOf rfl dX2_sectorOf_27
def F_X2_filling (s : St) (x1 : Int32) (x2 : Int32) : Option (Int32) := bif mx_cnd .lt x1 0 then (some (nI 0)) else (bif mx_cnd .ge x1 (nI 2) then (some (nI 0)) else (bif mx_cnd .lt x2 0 then (some (nI 0)) else (bif mx_cnd .ge x2 (nI 24) then (some (nI 0)) else (ldA (gA s 10) 48 ((x1 * (nI 24)) + x2) fun v1 => some v1))))
set_option maxRecDepth 100000 in
set_option maxHeartbeats 4000000 in
theorem w_X2_filling {rest : mx_W} {s : St} {x1 : Int32} {x2 : Int32} {r : Int32} (h : F_X2_filling s x1 x2 = some r) : X 9 (0, [(0, .ref 11), (1, .int x1), (2, .int x2)], [], wd s rest, 0, 0) (some (.int r), wd s rest, 0, 0) := by
  unfold F_X2_filling at h
  refine xs tn_X2_filling [(0, .iload_n 1, 1)] (st' := (1, [(0, .ref 11), (1, .int x1), (2, .int x2)], [.int x1], wd s rest, 0, 0)) (List.forall_mem_cons.mpr ⟨dX2_filling_0, fun _ h => absurd h List.not_mem_nil⟩) rfl ?_
  refine xifF (t := 23) tn_X2_filling dX2_filling_1 (by decide) h (fun h => ?_) (fun h => ?_)
  · refine xs tn_X2_filling [(23, .iconst 0, 1), (24, .istore_n 3, 1), (25, .iload_n 3, 1)] (st' := (26, [(3, .int (nI 0)), (0, .ref 11), (1, .int x1), (2, .int x2)], [.int (nI 0)], wd s rest, 0, 0)) (List.forall_mem_cons.mpr ⟨dX2_filling_23, List.forall_mem_cons.mpr ⟨dX2_filling_24, List.forall_mem_cons.mpr ⟨dX2_filling_25, fun _ h => absurd h List.not_mem_nil⟩⟩⟩) rfl ?_
    refine xifT (t := 43) tn_X2_filling dX2_filling_26 (by decide) (by decide) ?_
    refine xs tn_X2_filling [(43, .iconst 0, 1)] (st' := (44, [(3, .int (nI 0)), (0, .ref 11), (1, .int x1), (2, .int x2)], [.int (nI 0)], wd s rest, 0, 0)) (List.forall_mem_cons.mpr ⟨dX2_filling_43, fun _ h => absurd h List.not_mem_nil⟩) rfl ?_
    cases h
    exact xret tn_X2_filling rfl dX2_filling_44
  · refine xs tn_X2_filling [(4, .iload_n 1, 1), (5, .iconst 2, 1)] (st' := (6, [(0, .ref 11), (1, .int x1), (2, .int x2)], [.int (nI 2), .int x1], wd s rest, 0, 0)) (List.forall_mem_cons.mpr ⟨dX2_filling_4, List.forall_mem_cons.mpr ⟨dX2_filling_5, fun _ h => absurd h List.not_mem_nil⟩⟩) rfl ?_
    refine xcmpF (t := 23) tn_X2_filling dX2_filling_6 (by decide) h (fun h => ?_) (fun h => ?_)
    · refine xs tn_X2_filling [(23, .iconst 0, 1), (24, .istore_n 3, 1), (25, .iload_n 3, 1)] (st' := (26, [(3, .int (nI 0)), (0, .ref 11), (1, .int x1), (2, .int x2)], [.int (nI 0)], wd s rest, 0, 0)) (List.forall_mem_cons.mpr ⟨dX2_filling_23, List.forall_mem_cons.mpr ⟨dX2_filling_24, List.forall_mem_cons.mpr ⟨dX2_filling_25, fun _ h => absurd h List.not_mem_nil⟩⟩⟩) rfl ?_
      refine xifT (t := 43) tn_X2_filling dX2_filling_26 (by decide) (by decide) ?_
      refine xs tn_X2_filling [(43, .iconst 0, 1)] (st' := (44, [(3, .int (nI 0)), (0, .ref 11), (1, .int x1), (2, .int x2)], [.int (nI 0)], wd s rest, 0, 0)) (List.forall_mem_cons.mpr ⟨dX2_filling_43, fun _ h => absurd h List.not_mem_nil⟩) rfl ?_
      cases h
      exact xret tn_X2_filling rfl dX2_filling_44
    · refine xs tn_X2_filling [(9, .iload_n 2, 1)] (st' := (10, [(0, .ref 11), (1, .int x1), (2, .int x2)], [.int x2], wd s rest, 0, 0)) (List.forall_mem_cons.mpr ⟨dX2_filling_9, fun _ h => absurd h List.not_mem_nil⟩) rfl ?_
      refine xifF (t := 23) tn_X2_filling dX2_filling_10 (by decide) h (fun h => ?_) (fun h => ?_)
      · refine xs tn_X2_filling [(23, .iconst 0, 1), (24, .istore_n 3, 1), (25, .iload_n 3, 1)] (st' := (26, [(3, .int (nI 0)), (0, .ref 11), (1, .int x1), (2, .int x2)], [.int (nI 0)], wd s rest, 0, 0)) (List.forall_mem_cons.mpr ⟨dX2_filling_23, List.forall_mem_cons.mpr ⟨dX2_filling_24, List.forall_mem_cons.mpr ⟨dX2_filling_25, fun _ h => absurd h List.not_mem_nil⟩⟩⟩) rfl ?_
        refine xifT (t := 43) tn_X2_filling dX2_filling_26 (by decide) (by decide) ?_
        refine xs tn_X2_filling [(43, .iconst 0, 1)] (st' := (44, [(3, .int (nI 0)), (0, .ref 11), (1, .int x1), (2, .int x2)], [.int (nI 0)], wd s rest, 0, 0)) (List.forall_mem_cons.mpr ⟨dX2_filling_43, fun _ h => absurd h List.not_mem_nil⟩) rfl ?_
        cases h
        exact xret tn_X2_filling rfl dX2_filling_44
      · refine xs tn_X2_filling [(13, .iload_n 2, 1), (14, .bipush 24, 2)] (st' := (16, [(0, .ref 11), (1, .int x1), (2, .int x2)], [.int (nI 24), .int x2], wd s rest, 0, 0)) (List.forall_mem_cons.mpr ⟨dX2_filling_13, List.forall_mem_cons.mpr ⟨dX2_filling_14, fun _ h => absurd h List.not_mem_nil⟩⟩) rfl ?_
        refine xcmpF (t := 23) tn_X2_filling dX2_filling_16 (by decide) h (fun h => ?_) (fun h => ?_)
        · refine xs tn_X2_filling [(23, .iconst 0, 1), (24, .istore_n 3, 1), (25, .iload_n 3, 1)] (st' := (26, [(3, .int (nI 0)), (0, .ref 11), (1, .int x1), (2, .int x2)], [.int (nI 0)], wd s rest, 0, 0)) (List.forall_mem_cons.mpr ⟨dX2_filling_23, List.forall_mem_cons.mpr ⟨dX2_filling_24, List.forall_mem_cons.mpr ⟨dX2_filling_25, fun _ h => absurd h List.not_mem_nil⟩⟩⟩) rfl ?_
          refine xifT (t := 43) tn_X2_filling dX2_filling_26 (by decide) (by decide) ?_
          refine xs tn_X2_filling [(43, .iconst 0, 1)] (st' := (44, [(3, .int (nI 0)), (0, .ref 11), (1, .int x1), (2, .int x2)], [.int (nI 0)], wd s rest, 0, 0)) (List.forall_mem_cons.mpr ⟨dX2_filling_43, fun _ h => absurd h List.not_mem_nil⟩) rfl ?_
          cases h
          exact xret tn_X2_filling rfl dX2_filling_44
        · refine xs tn_X2_filling [(19, .iconst 1, 1), (20, .goto 4, 3), (24, .istore_n 3, 1), (25, .iload_n 3, 1)] (st' := (26, [(3, .int (nI 1)), (0, .ref 11), (1, .int x1), (2, .int x2)], [.int (nI 1)], wd s rest, 0, 0)) (List.forall_mem_cons.mpr ⟨dX2_filling_19, List.forall_mem_cons.mpr ⟨dX2_filling_20, List.forall_mem_cons.mpr ⟨dX2_filling_24, List.forall_mem_cons.mpr ⟨dX2_filling_25, fun _ h => absurd h List.not_mem_nil⟩⟩⟩⟩) rfl ?_
          refine xifN (t := 43) tn_X2_filling dX2_filling_26 (by decide) (by decide) ?_
          refine xs tn_X2_filling [(29, .aload_n 0, 1), (30, .getfield 21, 3), (33, .iload_n 1, 1), (34, .bipush 24, 2), (36, .imul, 1), (37, .iload_n 2, 1), (38, .iadd, 1)] (st' := (39, [(3, .int (nI 1)), (0, .ref 11), (1, .int x1), (2, .int x2)], [.int ((x1 * (nI 24)) + x2), .ref 15], wd s rest, 0, 0)) (List.forall_mem_cons.mpr ⟨dX2_filling_29, List.forall_mem_cons.mpr ⟨dX2_filling_30, List.forall_mem_cons.mpr ⟨dX2_filling_33, List.forall_mem_cons.mpr ⟨dX2_filling_34, List.forall_mem_cons.mpr ⟨dX2_filling_36, List.forall_mem_cons.mpr ⟨dX2_filling_37, List.forall_mem_cons.mpr ⟨dX2_filling_38, fun _ h => absurd h List.not_mem_nil⟩⟩⟩⟩⟩⟩⟩) rfl ?_
          refine xldF tn_X2_filling dX2_filling_39 at_15 h (fun v1 h => ?_)
          refine xs tn_X2_filling [(40, .goto 4, 3)] (st' := (44, [(3, .int (nI 1)), (0, .ref 11), (1, .int x1), (2, .int x2)], [.int v1], wd s rest, 0, 0)) (List.forall_mem_cons.mpr ⟨dX2_filling_40, fun _ h => absurd h List.not_mem_nil⟩) rfl ?_
          cases h
          exact xret tn_X2_filling rfl dX2_filling_44
def F_X5_fillGaps_28 (N : Nat) (K : St → Int32 → Int32 → Option (St)) : Nat → St → Int32 → Int32 → Int32 → Option (St)
  | 0, _, _, _, _ => none
  | f + 1, s, x1, x2, x3 => bif mx_cnd .ge x3 (nI 24) then ((F_X0_seal N s).bind fun s1 => (F_X2_sectorOf s1 x2).bind fun v3 => (F_X4_store N s1 v3 (nI 32)).bind fun s5 => bnd (sI s5 6 ((gI s5 6) + (nI 1))) fun s7 => K s7 x1 (x2 + (nI 1))) else ((F_X2_filling s x2 x3).bind fun v8 => (F_X0_setContent s x3 v8).bind fun s10 => F_X5_fillGaps_28 N K f s10 x1 x2 (x3 + (nI 1)))
set_option maxRecDepth 100000 in
set_option maxHeartbeats 4000000 in
theorem w_X5_fillGaps_28 {rest : mx_W} {N : Nat} {K : St → Int32 → Int32 → Option (St)} (hK : ∀ (s : St) (x1 : Int32) (x2 : Int32) (r : St), K s x1 x2 = some r → X 100 (10, [(0, .ref 0), (1, .int x1), (2, .int x2)], [], wd s rest, 0, 0) (none, wd r rest, 0, 0)) : ∀ (f : Nat) (s : St) (x1 : Int32) (x2 : Int32) (x3 : Int32) (r : St), F_X5_fillGaps_28 N K f s x1 x2 x3 = some r → X 100 (28, [(0, .ref 0), (1, .int x1), (2, .int x2), (3, .int x3)], [], wd s rest, 0, 0) (none, wd r rest, 0, 0) := by
  intro f
  induction f with
  | zero => intro s x1 x2 x3 r h; rw [F_X5_fillGaps_28.eq_1] at h; cases h
  | succ f ih =>
    intro s x1 x2 x3 r h
    rw [F_X5_fillGaps_28.eq_2] at h
    refine xs tn_X5_fillGaps [(28, .iload_n 3, 1), (29, .bipush 24, 2)] (st' := (31, [(0, .ref 0), (1, .int x1), (2, .int x2), (3, .int x3)], [.int (nI 24), .int x3], wd s rest, 0, 0)) (List.forall_mem_cons.mpr ⟨dX5_fillGaps_28, List.forall_mem_cons.mpr ⟨dX5_fillGaps_29, fun _ h => absurd h List.not_mem_nil⟩⟩) rfl ?_
    refine xcmpF (t := 57) tn_X5_fillGaps dX5_fillGaps_31 (by decide) h (fun h => ?_) (fun h => ?_)
    · refine xs tn_X5_fillGaps [(57, .aload_n 0, 1), (58, .getfield 28, 3)] (st' := (61, [(0, .ref 0), (1, .int x1), (2, .int x2), (3, .int x3)], [.ref 9], wd s rest, 0, 0)) (List.forall_mem_cons.mpr ⟨dX5_fillGaps_57, List.forall_mem_cons.mpr ⟨dX5_fillGaps_58, fun _ h => absurd h List.not_mem_nil⟩⟩) rfl ?_
      obtain ⟨s1, h2, h⟩ := obind h
      refine xcall tn_X5_fillGaps dX5_fillGaps_61 rfl rfl (w_X0_seal h2) ?_
      show X 100 (64, [(0, .ref 0), (1, .int x1), (2, .int x2), (3, .int x3)], [], wd s1 rest, 0, 0) _
      refine xs tn_X5_fillGaps [(64, .aload_n 0, 1), (65, .getfield 12, 3), (68, .aload_n 0, 1), (69, .getfield 35, 3), (72, .iload_n 2, 1)] (st' := (73, [(0, .ref 0), (1, .int x1), (2, .int x2), (3, .int x3)], [.int x2, .ref 11, .ref 1], wd s1 rest, 0, 0)) (List.forall_mem_cons.mpr ⟨dX5_fillGaps_64, List.forall_mem_cons.mpr ⟨dX5_fillGaps_65, List.forall_mem_cons.mpr ⟨dX5_fillGaps_68, List.forall_mem_cons.mpr ⟨dX5_fillGaps_69, List.forall_mem_cons.mpr ⟨dX5_fillGaps_72, fun _ h => absurd h List.not_mem_nil⟩⟩⟩⟩⟩) rfl ?_
      obtain ⟨v3, h4, h⟩ := obind h
      refine xcall tn_X5_fillGaps dX5_fillGaps_73 rfl rfl (w_X2_sectorOf h4) ?_
      show X 100 (76, [(0, .ref 0), (1, .int x1), (2, .int x2), (3, .int x3)], [.int v3, .ref 1], wd s1 rest, 0, 0) _
      refine xs tn_X5_fillGaps [(76, .aload_n 0, 1), (77, .getfield 28, 3), (80, .bipush 32, 2)] (st' := (82, [(0, .ref 0), (1, .int x1), (2, .int x2), (3, .int x3)], [.int (nI 32), .ref 9, .int v3, .ref 1], wd s1 rest, 0, 0)) (List.forall_mem_cons.mpr ⟨dX5_fillGaps_76, List.forall_mem_cons.mpr ⟨dX5_fillGaps_77, List.forall_mem_cons.mpr ⟨dX5_fillGaps_80, fun _ h => absurd h List.not_mem_nil⟩⟩⟩) rfl ?_
      obtain ⟨s5, h6, h⟩ := obind h
      refine xcall tn_X5_fillGaps dX5_fillGaps_82 rfl rfl (w_X4_store h6) ?_
      show X 100 (85, [(0, .ref 0), (1, .int x1), (2, .int x2), (3, .int x3)], [], wd s5 rest, 0, 0) _
      refine xs tn_X5_fillGaps [(85, .aload_n 0, 1), (86, .dup, 1), (87, .getfield 144, 3), (90, .iconst 1, 1), (91, .iadd, 1)] (st' := (92, [(0, .ref 0), (1, .int x1), (2, .int x2), (3, .int x3)], [.int ((gI s5 6) + (nI 1)), .ref 0], wd s5 rest, 0, 0)) (List.forall_mem_cons.mpr ⟨dX5_fillGaps_85, List.forall_mem_cons.mpr ⟨dX5_fillGaps_86, List.forall_mem_cons.mpr ⟨dX5_fillGaps_87, List.forall_mem_cons.mpr ⟨dX5_fillGaps_90, List.forall_mem_cons.mpr ⟨dX5_fillGaps_91, fun _ h => absurd h List.not_mem_nil⟩⟩⟩⟩⟩) rfl ?_
      refine xput_a6 tn_X5_fillGaps dX5_fillGaps_92 rfl h (fun s7 h => ?_)
      refine xs tn_X5_fillGaps [(95, .iinc 2 1, 3), (98, .goto (-88), 3)] (st' := (10, [(0, .ref 0), (1, .int x1), (2, .int (x2 + (nI 1))), (3, .int x3)], [], wd s7 rest, 0, 0)) (List.forall_mem_cons.mpr ⟨dX5_fillGaps_95, List.forall_mem_cons.mpr ⟨dX5_fillGaps_98, fun _ h => absurd h List.not_mem_nil⟩⟩) rfl ?_
      refine xwk [0, 1, 2] rfl rfl ?_
      exact hK _ _ _ _ h
    · refine xs tn_X5_fillGaps [(34, .aload_n 0, 1), (35, .getfield 28, 3), (38, .iload_n 3, 1), (39, .aload_n 0, 1), (40, .getfield 35, 3), (43, .iload_n 2, 1), (44, .iload_n 3, 1)] (st' := (45, [(0, .ref 0), (1, .int x1), (2, .int x2), (3, .int x3)], [.int x3, .int x2, .ref 11, .int x3, .ref 9], wd s rest, 0, 0)) (List.forall_mem_cons.mpr ⟨dX5_fillGaps_34, List.forall_mem_cons.mpr ⟨dX5_fillGaps_35, List.forall_mem_cons.mpr ⟨dX5_fillGaps_38, List.forall_mem_cons.mpr ⟨dX5_fillGaps_39, List.forall_mem_cons.mpr ⟨dX5_fillGaps_40, List.forall_mem_cons.mpr ⟨dX5_fillGaps_43, List.forall_mem_cons.mpr ⟨dX5_fillGaps_44, fun _ h => absurd h List.not_mem_nil⟩⟩⟩⟩⟩⟩⟩) rfl ?_
      obtain ⟨v8, h9, h⟩ := obind h
      refine xcall tn_X5_fillGaps dX5_fillGaps_45 rfl rfl (w_X2_filling h9) ?_
      show X 100 (48, [(0, .ref 0), (1, .int x1), (2, .int x2), (3, .int x3)], [.int v8, .int x3, .ref 9], wd s rest, 0, 0) _
      obtain ⟨s10, h11, h⟩ := obind h
      refine xcall tn_X5_fillGaps dX5_fillGaps_48 rfl rfl (w_X0_setContent h11) ?_
      show X 100 (51, [(0, .ref 0), (1, .int x1), (2, .int x2), (3, .int x3)], [], wd s10 rest, 0, 0) _
      refine xs tn_X5_fillGaps [(51, .iinc 3 1, 3), (54, .goto (-26), 3)] (st' := (28, [(0, .ref 0), (1, .int x1), (2, .int x2), (3, .int (x3 + (nI 1)))], [], wd s10 rest, 0, 0)) (List.forall_mem_cons.mpr ⟨dX5_fillGaps_51, List.forall_mem_cons.mpr ⟨dX5_fillGaps_54, fun _ h => absurd h List.not_mem_nil⟩⟩) rfl ?_
      refine xwk [0, 1, 2, 3] rfl rfl ?_
      exact ih _ _ _ _ _ h
def F_X5_fillGaps_10 (N : Nat) : Nat → St → Int32 → Int32 → Option (St)
  | 0, _, _, _ => none
  | f + 1, s, x1, x2 => bif mx_cnd .ge x2 x1 then (some s) else ((F_X0_begin N s (nI 2) (nI 0) (nI 0) (nI 0)).bind fun s1 => F_X5_fillGaps_28 N (F_X5_fillGaps_10 N f) N s1 x1 x2 (nI 0))
set_option maxRecDepth 100000 in
set_option maxHeartbeats 4000000 in
theorem w_X5_fillGaps_10 {rest : mx_W} {N : Nat} : ∀ (f : Nat) (s : St) (x1 : Int32) (x2 : Int32) (r : St), F_X5_fillGaps_10 N f s x1 x2 = some r → X 100 (10, [(0, .ref 0), (1, .int x1), (2, .int x2)], [], wd s rest, 0, 0) (none, wd r rest, 0, 0) := by
  intro f
  induction f with
  | zero => intro s x1 x2 r h; rw [F_X5_fillGaps_10.eq_1] at h; cases h
  | succ f ih =>
    intro s x1 x2 r h
    rw [F_X5_fillGaps_10.eq_2] at h
    refine xs tn_X5_fillGaps [(10, .iload_n 2, 1), (11, .iload_n 1, 1)] (st' := (12, [(0, .ref 0), (1, .int x1), (2, .int x2)], [.int x1, .int x2], wd s rest, 0, 0)) (List.forall_mem_cons.mpr ⟨dX5_fillGaps_10, List.forall_mem_cons.mpr ⟨dX5_fillGaps_11, fun _ h => absurd h List.not_mem_nil⟩⟩) rfl ?_
    refine xcmpF (t := 101) tn_X5_fillGaps dX5_fillGaps_12 (by decide) h (fun h => ?_) (fun h => ?_)
    · cases h
      exact xretv tn_X5_fillGaps rfl dX5_fillGaps_101
    · refine xs tn_X5_fillGaps [(15, .aload_n 0, 1), (16, .getfield 28, 3), (19, .iconst 2, 1), (20, .iconst 0, 1), (21, .iconst 0, 1), (22, .iconst 0, 1)] (st' := (23, [(0, .ref 0), (1, .int x1), (2, .int x2)], [.int (nI 0), .int (nI 0), .int (nI 0), .int (nI 2), .ref 9], wd s rest, 0, 0)) (List.forall_mem_cons.mpr ⟨dX5_fillGaps_15, List.forall_mem_cons.mpr ⟨dX5_fillGaps_16, List.forall_mem_cons.mpr ⟨dX5_fillGaps_19, List.forall_mem_cons.mpr ⟨dX5_fillGaps_20, List.forall_mem_cons.mpr ⟨dX5_fillGaps_21, List.forall_mem_cons.mpr ⟨dX5_fillGaps_22, fun _ h => absurd h List.not_mem_nil⟩⟩⟩⟩⟩⟩) rfl ?_
      obtain ⟨s1, h2, h⟩ := obind h
      refine xcall tn_X5_fillGaps dX5_fillGaps_23 rfl rfl (w_X0_begin h2) ?_
      show X 100 (26, [(0, .ref 0), (1, .int x1), (2, .int x2)], [], wd s1 rest, 0, 0) _
      refine xs tn_X5_fillGaps [(26, .iconst 0, 1), (27, .istore_n 3, 1)] (st' := (28, [(3, .int (nI 0)), (0, .ref 0), (1, .int x1), (2, .int x2)], [], wd s1 rest, 0, 0)) (List.forall_mem_cons.mpr ⟨dX5_fillGaps_26, List.forall_mem_cons.mpr ⟨dX5_fillGaps_27, fun _ h => absurd h List.not_mem_nil⟩⟩) rfl ?_
      refine xwk [0, 1, 2, 3] rfl rfl ?_
      exact w_X5_fillGaps_28 ih N _ _ _ _ _ h
def F_X5_fillGaps (N : Nat) (s : St) : Option (St) := (F_X2_size s).bind fun v1 => F_X5_fillGaps_10 N N s v1 (nI 0)
set_option maxRecDepth 100000 in
set_option maxHeartbeats 4000000 in
theorem w_X5_fillGaps {rest : mx_W} {N : Nat} {s : St} {r : St} (h : F_X5_fillGaps N s = some r) : X 100 (0, [(0, .ref 0)], [], wd s rest, 0, 0) (none, wd r rest, 0, 0) := by
  unfold F_X5_fillGaps at h
  refine xs tn_X5_fillGaps [(0, .aload_n 0, 1), (1, .getfield 35, 3)] (st' := (4, [(0, .ref 0)], [.ref 11], wd s rest, 0, 0)) (List.forall_mem_cons.mpr ⟨dX5_fillGaps_0, List.forall_mem_cons.mpr ⟨dX5_fillGaps_1, fun _ h => absurd h List.not_mem_nil⟩⟩) rfl ?_
  obtain ⟨v1, h2, h⟩ := obind h
  refine xcall tn_X5_fillGaps dX5_fillGaps_4 rfl rfl (w_X2_size h2) ?_
  show X 100 (7, [(0, .ref 0)], [.int v1], wd s rest, 0, 0) _
  refine xs tn_X5_fillGaps [(7, .istore_n 1, 1), (8, .iconst 0, 1), (9, .istore_n 2, 1)] (st' := (10, [(2, .int (nI 0)), (1, .int v1), (0, .ref 0)], [], wd s rest, 0, 0)) (List.forall_mem_cons.mpr ⟨dX5_fillGaps_7, List.forall_mem_cons.mpr ⟨dX5_fillGaps_8, List.forall_mem_cons.mpr ⟨dX5_fillGaps_9, fun _ h => absurd h List.not_mem_nil⟩⟩⟩) rfl ?_
  refine xwk [0, 1, 2] rfl rfl ?_
  exact w_X5_fillGaps_10 N _ _ _ _ h
def F_X2_solve_124 (N : Nat) (s : St) (x1 : Int32) (x2 : Int32) (x3 : Int32) (x4 : Int32) : Option (Int32 × St) := stA s 10 48 x1 x4 fun s1 => ldA (gA s1 8) 4 (nI 0) fun v2 => (F_X1_times N v2 x4).bind fun v3 => bif mx_cnd .ne v3 x2 then (some (nI 0, s1)) else (ldA (gA s1 9) 4 (nI 0) fun v5 => (F_X1_times N v5 x4).bind fun v6 => bif mx_cnd .ne v6 x3 then (some (nI 0, s1)) else (some (nI 1, s1)))
set_option maxRecDepth 100000 in
set_option maxHeartbeats 4000000 in
theorem w_X2_solve_124 {rest : mx_W} {N : Nat} {s : St} {x1 : Int32} {x2 : Int32} {x3 : Int32} {x4 : Int32} {r : Int32} {t : St} (h : F_X2_solve_124 N s x1 x2 x3 x4 = some (r, t)) : X 67 (124, [(0, .ref 11), (1, .int x1), (2, .int x2), (3, .int x3), (4, .int x4)], [], wd s rest, 0, 0) (some (.int r), wd t rest, 0, 0) := by
  unfold F_X2_solve_124 at h
  refine xs tn_X2_solve [(124, .aload_n 0, 1), (125, .getfield 21, 3), (128, .iload_n 1, 1), (129, .iload 4, 2)] (st' := (131, [(0, .ref 11), (1, .int x1), (2, .int x2), (3, .int x3), (4, .int x4)], [.int x4, .int x1, .ref 15], wd s rest, 0, 0)) (List.forall_mem_cons.mpr ⟨dX2_solve_124, List.forall_mem_cons.mpr ⟨dX2_solve_125, List.forall_mem_cons.mpr ⟨dX2_solve_128, List.forall_mem_cons.mpr ⟨dX2_solve_129, fun _ h => absurd h List.not_mem_nil⟩⟩⟩⟩) rfl ?_
  refine xstF (W := fun s => wd s rest) tn_X2_solve dX2_solve_131 at_15 (fun _ => set_15) h (fun s1 h => ?_)
  refine xs tn_X2_solve [(132, .aload_n 0, 1), (133, .getfield 15, 3), (136, .iconst 0, 1)] (st' := (137, [(0, .ref 11), (1, .int x1), (2, .int x2), (3, .int x3), (4, .int x4)], [.int (nI 0), .ref 13], wd s1 rest, 0, 0)) (List.forall_mem_cons.mpr ⟨dX2_solve_132, List.forall_mem_cons.mpr ⟨dX2_solve_133, List.forall_mem_cons.mpr ⟨dX2_solve_136, fun _ h => absurd h List.not_mem_nil⟩⟩⟩) rfl ?_
  refine xldF tn_X2_solve dX2_solve_137 at_13 h (fun v2 h => ?_)
  refine xs tn_X2_solve [(138, .iload 4, 2)] (st' := (140, [(0, .ref 11), (1, .int x1), (2, .int x2), (3, .int x3), (4, .int x4)], [.int x4, .int v2], wd s1 rest, 0, 0)) (List.forall_mem_cons.mpr ⟨dX2_solve_138, fun _ h => absurd h List.not_mem_nil⟩) rfl ?_
  obtain ⟨v3, h4, h⟩ := obind h
  refine xcall tn_X2_solve dX2_solve_140 rfl rfl (w_X1_times h4) ?_
  show X 67 (143, [(0, .ref 11), (1, .int x1), (2, .int x2), (3, .int x3), (4, .int x4)], [.int v3], wd s1 rest, 0, 0) _
  refine xs tn_X2_solve [(143, .iload_n 2, 1)] (st' := (144, [(0, .ref 11), (1, .int x1), (2, .int x2), (3, .int x3), (4, .int x4)], [.int x2, .int v3], wd s1 rest, 0, 0)) (List.forall_mem_cons.mpr ⟨dX2_solve_143, fun _ h => absurd h List.not_mem_nil⟩) rfl ?_
  refine xcmpF (t := 166) tn_X2_solve dX2_solve_144 (by decide) h (fun h => ?_) (fun h => ?_)
  · refine xs tn_X2_solve [(166, .iconst 0, 1)] (st' := (167, [(0, .ref 11), (1, .int x1), (2, .int x2), (3, .int x3), (4, .int x4)], [.int (nI 0)], wd s1 rest, 0, 0)) (List.forall_mem_cons.mpr ⟨dX2_solve_166, fun _ h => absurd h List.not_mem_nil⟩) rfl ?_
    cases h
    exact xretz tn_X2_solve rfl (by decide) dX2_solve_167
  · refine xs tn_X2_solve [(147, .aload_n 0, 1), (148, .getfield 18, 3), (151, .iconst 0, 1)] (st' := (152, [(0, .ref 11), (1, .int x1), (2, .int x2), (3, .int x3), (4, .int x4)], [.int (nI 0), .ref 14], wd s1 rest, 0, 0)) (List.forall_mem_cons.mpr ⟨dX2_solve_147, List.forall_mem_cons.mpr ⟨dX2_solve_148, List.forall_mem_cons.mpr ⟨dX2_solve_151, fun _ h => absurd h List.not_mem_nil⟩⟩⟩) rfl ?_
    refine xldF tn_X2_solve dX2_solve_152 at_14 h (fun v5 h => ?_)
    refine xs tn_X2_solve [(153, .iload 4, 2)] (st' := (155, [(0, .ref 11), (1, .int x1), (2, .int x2), (3, .int x3), (4, .int x4)], [.int x4, .int v5], wd s1 rest, 0, 0)) (List.forall_mem_cons.mpr ⟨dX2_solve_153, fun _ h => absurd h List.not_mem_nil⟩) rfl ?_
    obtain ⟨v6, h7, h⟩ := obind h
    refine xcall tn_X2_solve dX2_solve_155 rfl rfl (w_X1_times h7) ?_
    show X 67 (158, [(0, .ref 11), (1, .int x1), (2, .int x2), (3, .int x3), (4, .int x4)], [.int v6], wd s1 rest, 0, 0) _
    refine xs tn_X2_solve [(158, .iload_n 3, 1)] (st' := (159, [(0, .ref 11), (1, .int x1), (2, .int x2), (3, .int x3), (4, .int x4)], [.int x3, .int v6], wd s1 rest, 0, 0)) (List.forall_mem_cons.mpr ⟨dX2_solve_158, fun _ h => absurd h List.not_mem_nil⟩) rfl ?_
    refine xcmpF (t := 166) tn_X2_solve dX2_solve_159 (by decide) h (fun h => ?_) (fun h => ?_)
    · refine xs tn_X2_solve [(166, .iconst 0, 1)] (st' := (167, [(0, .ref 11), (1, .int x1), (2, .int x2), (3, .int x3), (4, .int x4)], [.int (nI 0)], wd s1 rest, 0, 0)) (List.forall_mem_cons.mpr ⟨dX2_solve_166, fun _ h => absurd h List.not_mem_nil⟩) rfl ?_
      cases h
      exact xretz tn_X2_solve rfl (by decide) dX2_solve_167
    · refine xs tn_X2_solve [(162, .iconst 1, 1), (163, .goto 4, 3)] (st' := (167, [(0, .ref 11), (1, .int x1), (2, .int x2), (3, .int x3), (4, .int x4)], [.int (nI 1)], wd s1 rest, 0, 0)) (List.forall_mem_cons.mpr ⟨dX2_solve_162, List.forall_mem_cons.mpr ⟨dX2_solve_163, fun _ h => absurd h List.not_mem_nil⟩⟩) rfl ?_
      cases h
      exact xretz tn_X2_solve rfl (by decide) dX2_solve_167
def F_X2_solve (N : Nat) (s : St) (x1 : Int32) (x2 : Int32) (x3 : Int32) : Option (Int32 × St) := bif mx_cnd .lt x1 0 then (some (nI 0, s)) else (bif mx_cnd .lt x1 (nI 24) then (bif mx_cnd .ne (gI s 9) (nI 2) then (ldA (gA s 8) 4 (nI 0) fun v1 => bif mx_cnd .eq v1 0 then ((F_X1_times N x3 (gI s 10)).bind fun v2 => F_X2_solve_124 N s x1 x2 x3 v2) else ((F_X1_times N x2 (gI s 10)).bind fun v4 => F_X2_solve_124 N s x1 x2 x3 v4)) else (ldA (gA s 9) 4 (nI 1) fun v6 => (F_X1_times N x2 v6).bind fun v7 => ldA (gA s 8) 4 (nI 1) fun v9 => (F_X1_times N x3 v9).bind fun v10 => ldA (gA s 8) 4 (nI 0) fun v12 => (F_X1_times N x3 v12).bind fun v13 => ldA (gA s 9) 4 (nI 0) fun v15 => (F_X1_times N x2 v15).bind fun v16 => (F_X1_times N (v7 ^^^ v10) (gI s 10)).bind fun v18 => stA s 10 48 x1 v18 fun s20 => (F_X1_times N (v13 ^^^ v16) (gI s20 10)).bind fun v21 => stA s20 10 48 ((nI 24) + x1) v21 fun s23 => some (nI 1, s23))) else (some (nI 0, s)))
set_option maxRecDepth 100000 in
set_option maxHeartbeats 4000000 in
theorem w_X2_solve {rest : mx_W} {N : Nat} {s : St} {x1 : Int32} {x2 : Int32} {x3 : Int32} {r : Int32} {t : St} (h : F_X2_solve N s x1 x2 x3 = some (r, t)) : X 67 (0, [(0, .ref 11), (1, .int x1), (2, .int x2), (3, .int x3)], [], wd s rest, 0, 0) (some (.int r), wd t rest, 0, 0) := by
  unfold F_X2_solve at h
  refine xs tn_X2_solve [(0, .iload_n 1, 1)] (st' := (1, [(0, .ref 11), (1, .int x1), (2, .int x2), (3, .int x3)], [.int x1], wd s rest, 0, 0)) (List.forall_mem_cons.mpr ⟨dX2_solve_0, fun _ h => absurd h List.not_mem_nil⟩) rfl ?_
  refine xifF (t := 10) tn_X2_solve dX2_solve_1 (by decide) h (fun h => ?_) (fun h => ?_)
  · refine xs tn_X2_solve [(10, .iconst 0, 1)] (st' := (11, [(0, .ref 11), (1, .int x1), (2, .int x2), (3, .int x3)], [.int (nI 0)], wd s rest, 0, 0)) (List.forall_mem_cons.mpr ⟨dX2_solve_10, fun _ h => absurd h List.not_mem_nil⟩) rfl ?_
    cases h
    exact xretz tn_X2_solve rfl (by decide) dX2_solve_11
  · refine xs tn_X2_solve [(4, .iload_n 1, 1), (5, .bipush 24, 2)] (st' := (7, [(0, .ref 11), (1, .int x1), (2, .int x2), (3, .int x3)], [.int (nI 24), .int x1], wd s rest, 0, 0)) (List.forall_mem_cons.mpr ⟨dX2_solve_4, List.forall_mem_cons.mpr ⟨dX2_solve_5, fun _ h => absurd h List.not_mem_nil⟩⟩) rfl ?_
    refine xcmpF (t := 12) tn_X2_solve dX2_solve_7 (by decide) h (fun h => ?_) (fun h => ?_)
    · refine xs tn_X2_solve [(12, .aload_n 0, 1), (13, .getfield 24, 3), (16, .iconst 2, 1)] (st' := (17, [(0, .ref 11), (1, .int x1), (2, .int x2), (3, .int x3)], [.int (nI 2), .int (gI s 9)], wd s rest, 0, 0)) (List.forall_mem_cons.mpr ⟨dX2_solve_12, List.forall_mem_cons.mpr ⟨dX2_solve_13, List.forall_mem_cons.mpr ⟨dX2_solve_16, fun _ h => absurd h List.not_mem_nil⟩⟩⟩) rfl ?_
      refine xcmpF (t := 101) tn_X2_solve dX2_solve_17 (by decide) h (fun h => ?_) (fun h => ?_)
      · refine xs tn_X2_solve [(101, .aload_n 0, 1), (102, .getfield 15, 3), (105, .iconst 0, 1)] (st' := (106, [(0, .ref 11), (1, .int x1), (2, .int x2), (3, .int x3)], [.int (nI 0), .ref 13], wd s rest, 0, 0)) (List.forall_mem_cons.mpr ⟨dX2_solve_101, List.forall_mem_cons.mpr ⟨dX2_solve_102, List.forall_mem_cons.mpr ⟨dX2_solve_105, fun _ h => absurd h List.not_mem_nil⟩⟩⟩) rfl ?_
        refine xldF tn_X2_solve dX2_solve_106 at_13 h (fun v1 h => ?_)
        refine xifF (t := 114) tn_X2_solve dX2_solve_107 (by decide) h (fun h => ?_) (fun h => ?_)
        · refine xs tn_X2_solve [(114, .iload_n 3, 1), (115, .aload_n 0, 1), (116, .getfield 44, 3)] (st' := (119, [(0, .ref 11), (1, .int x1), (2, .int x2), (3, .int x3)], [.int (gI s 10), .int x3], wd s rest, 0, 0)) (List.forall_mem_cons.mpr ⟨dX2_solve_114, List.forall_mem_cons.mpr ⟨dX2_solve_115, List.forall_mem_cons.mpr ⟨dX2_solve_116, fun _ h => absurd h List.not_mem_nil⟩⟩⟩) rfl ?_
          obtain ⟨v2, h3, h⟩ := obind h
          refine xcall tn_X2_solve dX2_solve_119 rfl rfl (w_X1_times h3) ?_
          show X 67 (122, [(0, .ref 11), (1, .int x1), (2, .int x2), (3, .int x3)], [.int v2], wd s rest, 0, 0) _
          refine xs tn_X2_solve [(122, .istore 4, 2)] (st' := (124, [(4, .int v2), (0, .ref 11), (1, .int x1), (2, .int x2), (3, .int x3)], [], wd s rest, 0, 0)) (List.forall_mem_cons.mpr ⟨dX2_solve_122, fun _ h => absurd h List.not_mem_nil⟩) rfl ?_
          refine xwk [0, 1, 2, 3, 4] rfl rfl ?_
          exact w_X2_solve_124 h
        · refine xs tn_X2_solve [(110, .iload_n 2, 1), (111, .goto 4, 3), (115, .aload_n 0, 1), (116, .getfield 44, 3)] (st' := (119, [(0, .ref 11), (1, .int x1), (2, .int x2), (3, .int x3)], [.int (gI s 10), .int x2], wd s rest, 0, 0)) (List.forall_mem_cons.mpr ⟨dX2_solve_110, List.forall_mem_cons.mpr ⟨dX2_solve_111, List.forall_mem_cons.mpr ⟨dX2_solve_115, List.forall_mem_cons.mpr ⟨dX2_solve_116, fun _ h => absurd h List.not_mem_nil⟩⟩⟩⟩) rfl ?_
          obtain ⟨v4, h5, h⟩ := obind h
          refine xcall tn_X2_solve dX2_solve_119 rfl rfl (w_X1_times h5) ?_
          show X 67 (122, [(0, .ref 11), (1, .int x1), (2, .int x2), (3, .int x3)], [.int v4], wd s rest, 0, 0) _
          refine xs tn_X2_solve [(122, .istore 4, 2)] (st' := (124, [(4, .int v4), (0, .ref 11), (1, .int x1), (2, .int x2), (3, .int x3)], [], wd s rest, 0, 0)) (List.forall_mem_cons.mpr ⟨dX2_solve_122, fun _ h => absurd h List.not_mem_nil⟩) rfl ?_
          refine xwk [0, 1, 2, 3, 4] rfl rfl ?_
          exact w_X2_solve_124 h
      · refine xs tn_X2_solve [(20, .iload_n 2, 1), (21, .aload_n 0, 1), (22, .getfield 18, 3), (25, .iconst 1, 1)] (st' := (26, [(0, .ref 11), (1, .int x1), (2, .int x2), (3, .int x3)], [.int (nI 1), .ref 14, .int x2], wd s rest, 0, 0)) (List.forall_mem_cons.mpr ⟨dX2_solve_20, List.forall_mem_cons.mpr ⟨dX2_solve_21, List.forall_mem_cons.mpr ⟨dX2_solve_22, List.forall_mem_cons.mpr ⟨dX2_solve_25, fun _ h => absurd h List.not_mem_nil⟩⟩⟩⟩) rfl ?_
        refine xldF tn_X2_solve dX2_solve_26 at_14 h (fun v6 h => ?_)
        obtain ⟨v7, h8, h⟩ := obind h
        refine xcall tn_X2_solve dX2_solve_27 rfl rfl (w_X1_times h8) ?_
        show X 67 (30, [(0, .ref 11), (1, .int x1), (2, .int x2), (3, .int x3)], [.int v7], wd s rest, 0, 0) _
        refine xs tn_X2_solve [(30, .iload_n 3, 1), (31, .aload_n 0, 1), (32, .getfield 15, 3), (35, .iconst 1, 1)] (st' := (36, [(0, .ref 11), (1, .int x1), (2, .int x2), (3, .int x3)], [.int (nI 1), .ref 13, .int x3, .int v7], wd s rest, 0, 0)) (List.forall_mem_cons.mpr ⟨dX2_solve_30, List.forall_mem_cons.mpr ⟨dX2_solve_31, List.forall_mem_cons.mpr ⟨dX2_solve_32, List.forall_mem_cons.mpr ⟨dX2_solve_35, fun _ h => absurd h List.not_mem_nil⟩⟩⟩⟩) rfl ?_
        refine xldF tn_X2_solve dX2_solve_36 at_13 h (fun v9 h => ?_)
        obtain ⟨v10, h11, h⟩ := obind h
        refine xcall tn_X2_solve dX2_solve_37 rfl rfl (w_X1_times h11) ?_
        show X 67 (40, [(0, .ref 11), (1, .int x1), (2, .int x2), (3, .int x3)], [.int v10, .int v7], wd s rest, 0, 0) _
        refine xs tn_X2_solve [(40, .ixor, 1), (41, .istore 4, 2), (43, .iload_n 3, 1), (44, .aload_n 0, 1), (45, .getfield 15, 3), (48, .iconst 0, 1)] (st' := (49, [(4, .int (v7 ^^^ v10)), (0, .ref 11), (1, .int x1), (2, .int x2), (3, .int x3)], [.int (nI 0), .ref 13, .int x3], wd s rest, 0, 0)) (List.forall_mem_cons.mpr ⟨dX2_solve_40, List.forall_mem_cons.mpr ⟨dX2_solve_41, List.forall_mem_cons.mpr ⟨dX2_solve_43, List.forall_mem_cons.mpr ⟨dX2_solve_44, List.forall_mem_cons.mpr ⟨dX2_solve_45, List.forall_mem_cons.mpr ⟨dX2_solve_48, fun _ h => absurd h List.not_mem_nil⟩⟩⟩⟩⟩⟩) rfl ?_
        refine xldF tn_X2_solve dX2_solve_49 at_13 h (fun v12 h => ?_)
        obtain ⟨v13, h14, h⟩ := obind h
        refine xcall tn_X2_solve dX2_solve_50 rfl rfl (w_X1_times h14) ?_
        show X 67 (53, [(4, .int (v7 ^^^ v10)), (0, .ref 11), (1, .int x1), (2, .int x2), (3, .int x3)], [.int v13], wd s rest, 0, 0) _
        refine xs tn_X2_solve [(53, .iload_n 2, 1), (54, .aload_n 0, 1), (55, .getfield 18, 3), (58, .iconst 0, 1)] (st' := (59, [(4, .int (v7 ^^^ v10)), (0, .ref 11), (1, .int x1), (2, .int x2), (3, .int x3)], [.int (nI 0), .ref 14, .int x2, .int v13], wd s rest, 0, 0)) (List.forall_mem_cons.mpr ⟨dX2_solve_53, List.forall_mem_cons.mpr ⟨dX2_solve_54, List.forall_mem_cons.mpr ⟨dX2_solve_55, List.forall_mem_cons.mpr ⟨dX2_solve_58, fun _ h => absurd h List.not_mem_nil⟩⟩⟩⟩) rfl ?_
        refine xldF tn_X2_solve dX2_solve_59 at_14 h (fun v15 h => ?_)
        obtain ⟨v16, h17, h⟩ := obind h
        refine xcall tn_X2_solve dX2_solve_60 rfl rfl (w_X1_times h17) ?_
        show X 67 (63, [(4, .int (v7 ^^^ v10)), (0, .ref 11), (1, .int x1), (2, .int x2), (3, .int x3)], [.int v16, .int v13], wd s rest, 0, 0) _
        refine xs tn_X2_solve [(63, .ixor, 1), (64, .istore 5, 2), (66, .aload_n 0, 1), (67, .getfield 21, 3), (70, .iload_n 1, 1), (71, .iload 4, 2), (73, .aload_n 0, 1), (74, .getfield 44, 3)] (st' := (77, [(5, .int (v13 ^^^ v16)), (4, .int (v7 ^^^ v10)), (0, .ref 11), (1, .int x1), (2, .int x2), (3, .int x3)], [.int (gI s 10), .int (v7 ^^^ v10), .int x1, .ref 15], wd s rest, 0, 0)) (List.forall_mem_cons.mpr ⟨dX2_solve_63, List.forall_mem_cons.mpr ⟨dX2_solve_64, List.forall_mem_cons.mpr ⟨dX2_solve_66, List.forall_mem_cons.mpr ⟨dX2_solve_67, List.forall_mem_cons.mpr ⟨dX2_solve_70, List.forall_mem_cons.mpr ⟨dX2_solve_71, List.forall_mem_cons.mpr ⟨dX2_solve_73, List.forall_mem_cons.mpr ⟨dX2_solve_74, fun _ h => absurd h List.not_mem_nil⟩⟩⟩⟩⟩⟩⟩⟩) rfl ?_
        obtain ⟨v18, h19, h⟩ := obind h
        refine xcall tn_X2_solve dX2_solve_77 rfl rfl (w_X1_times h19) ?_
        show X 67 (80, [(5, .int (v13 ^^^ v16)), (4, .int (v7 ^^^ v10)), (0, .ref 11), (1, .int x1), (2, .int x2), (3, .int x3)], [.int v18, .int x1, .ref 15], wd s rest, 0, 0) _
        refine xstF (W := fun s => wd s rest) tn_X2_solve dX2_solve_80 at_15 (fun _ => set_15) h (fun s20 h => ?_)
        refine xs tn_X2_solve [(81, .aload_n 0, 1), (82, .getfield 21, 3), (85, .bipush 24, 2), (87, .iload_n 1, 1), (88, .iadd, 1), (89, .iload 5, 2), (91, .aload_n 0, 1), (92, .getfield 44, 3)] (st' := (95, [(5, .int (v13 ^^^ v16)), (4, .int (v7 ^^^ v10)), (0, .ref 11), (1, .int x1), (2, .int x2), (3, .int x3)], [.int (gI s20 10), .int (v13 ^^^ v16), .int ((nI 24) + x1), .ref 15], wd s20 rest, 0, 0)) (List.forall_mem_cons.mpr ⟨dX2_solve_81, List.forall_mem_cons.mpr ⟨dX2_solve_82, List.forall_mem_cons.mpr ⟨dX2_solve_85, List.forall_mem_cons.mpr ⟨dX2_solve_87, List.forall_mem_cons.mpr ⟨dX2_solve_88, List.forall_mem_cons.mpr ⟨dX2_solve_89, List.forall_mem_cons.mpr ⟨dX2_solve_91, List.forall_mem_cons.mpr ⟨dX2_solve_92, fun _ h => absurd h List.not_mem_nil⟩⟩⟩⟩⟩⟩⟩⟩) rfl ?_
        obtain ⟨v21, h22, h⟩ := obind h
        refine xcall tn_X2_solve dX2_solve_95 rfl rfl (w_X1_times h22) ?_
        show X 67 (98, [(5, .int (v13 ^^^ v16)), (4, .int (v7 ^^^ v10)), (0, .ref 11), (1, .int x1), (2, .int x2), (3, .int x3)], [.int v21, .int ((nI 24) + x1), .ref 15], wd s20 rest, 0, 0) _
        refine xstF (W := fun s => wd s rest) tn_X2_solve dX2_solve_98 at_15 (fun _ => set_15) h (fun s23 h => ?_)
        refine xs tn_X2_solve [(99, .iconst 1, 1)] (st' := (100, [(5, .int (v13 ^^^ v16)), (4, .int (v7 ^^^ v10)), (0, .ref 11), (1, .int x1), (2, .int x2), (3, .int x3)], [.int (nI 1)], wd s23 rest, 0, 0)) (List.forall_mem_cons.mpr ⟨dX2_solve_99, fun _ h => absurd h List.not_mem_nil⟩) rfl ?_
        cases h
        exact xretz tn_X2_solve rfl (by decide) dX2_solve_100
    · refine xs tn_X2_solve [(10, .iconst 0, 1)] (st' := (11, [(0, .ref 11), (1, .int x1), (2, .int x2), (3, .int x3)], [.int (nI 0)], wd s rest, 0, 0)) (List.forall_mem_cons.mpr ⟨dX2_solve_10, fun _ h => absurd h List.not_mem_nil⟩) rfl ?_
      cases h
      exact xretz tn_X2_solve rfl (by decide) dX2_solve_11
def F_X5_repairRow_70 (N : Nat) : Nat → St → Int32 → Int32 → Int32 → Int32 → Option (St)
  | 0, _, _, _, _, _ => none
  | f + 1, s, x2, x3, x4, x5 => bif mx_cnd .ge x5 (nI 24) then ((F_X5_fillGaps N s).bind fun s1 => some s1) else (bif mx_cnd .ne x3 (-nI 1) then ((F_X4_content s x3 x5).bind fun v3 => (F_X5_symbolByte N s x2 (nI 0) x5).bind fun v5 => bif mx_cnd .ne x4 (-nI 1) then ((F_X4_content s x4 x5).bind fun v7 => (F_X5_symbolByte N s x2 (nI 1) x5).bind fun v9 => bindP (F_X2_solve N s x5 (v3 ^^^ v5) (v7 ^^^ v9)) fun v11 s12 => bif mx_cnd .ne v11 0 then (F_X5_repairRow_70 N f s12 x2 x3 x4 (x5 + (nI 1))) else (some s12)) else (bindP (F_X2_solve N s x5 (v3 ^^^ v5) (nI 0)) fun v14 s15 => bif mx_cnd .ne v14 0 then (F_X5_repairRow_70 N f s15 x2 x3 x4 (x5 + (nI 1))) else (some s15))) else (bif mx_cnd .ne x4 (-nI 1) then ((F_X4_content s x4 x5).bind fun v17 => (F_X5_symbolByte N s x2 (nI 1) x5).bind fun v19 => bindP (F_X2_solve N s x5 (nI 0) (v17 ^^^ v19)) fun v21 s22 => bif mx_cnd .ne v21 0 then (F_X5_repairRow_70 N f s22 x2 x3 x4 (x5 + (nI 1))) else (some s22)) else (bindP (F_X2_solve N s x5 (nI 0) (nI 0)) fun v24 s25 => bif mx_cnd .ne v24 0 then (F_X5_repairRow_70 N f s25 x2 x3 x4 (x5 + (nI 1))) else (some s25))))
set_option maxRecDepth 100000 in
set_option maxHeartbeats 4000000 in
theorem w_X5_repairRow_70 {rest : mx_W} {N : Nat} : ∀ (f : Nat) (s : St) (x2 : Int32) (x3 : Int32) (x4 : Int32) (x5 : Int32) (r : St), F_X5_repairRow_70 N f s x2 x3 x4 x5 = some r → X 121 (70, [(0, .ref 0), (2, .int x2), (3, .int x3), (4, .int x4), (5, .int x5)], [], wd s rest, 0, 0) (none, wd r rest, 0, 0) := by
  intro f
  induction f with
  | zero => intro s x2 x3 x4 x5 r h; rw [F_X5_repairRow_70.eq_1] at h; cases h
  | succ f ih =>
    intro s x2 x3 x4 x5 r h
    rw [F_X5_repairRow_70.eq_2] at h
    refine xs tn_X5_repairRow [(70, .iload 5, 2), (72, .bipush 24, 2)] (st' := (74, [(0, .ref 0), (2, .int x2), (3, .int x3), (4, .int x4), (5, .int x5)], [.int (nI 24), .int x5], wd s rest, 0, 0)) (List.forall_mem_cons.mpr ⟨dX5_repairRow_70, List.forall_mem_cons.mpr ⟨dX5_repairRow_72, fun _ h => absurd h List.not_mem_nil⟩⟩) rfl ?_
    refine xcmpF (t := 162) tn_X5_repairRow dX5_repairRow_74 (by decide) h (fun h => ?_) (fun h => ?_)
    · refine xs tn_X5_repairRow [(162, .aload_n 0, 1)] (st' := (163, [(0, .ref 0), (2, .int x2), (3, .int x3), (4, .int x4), (5, .int x5)], [.ref 0], wd s rest, 0, 0)) (List.forall_mem_cons.mpr ⟨dX5_repairRow_162, fun _ h => absurd h List.not_mem_nil⟩) rfl ?_
      obtain ⟨s1, h2, h⟩ := obind h
      refine xcall tn_X5_repairRow dX5_repairRow_163 rfl rfl (w_X5_fillGaps h2) ?_
      show X 121 (166, [(0, .ref 0), (2, .int x2), (3, .int x3), (4, .int x4), (5, .int x5)], [], wd s1 rest, 0, 0) _
      cases h
      exact xretv tn_X5_repairRow rfl dX5_repairRow_166
    · refine xs tn_X5_repairRow [(77, .iload_n 3, 1), (78, .iconst (-1), 1)] (st' := (79, [(0, .ref 0), (2, .int x2), (3, .int x3), (4, .int x4), (5, .int x5)], [.int (-nI 1), .int x3], wd s rest, 0, 0)) (List.forall_mem_cons.mpr ⟨dX5_repairRow_77, List.forall_mem_cons.mpr ⟨dX5_repairRow_78, fun _ h => absurd h List.not_mem_nil⟩⟩) rfl ?_
      refine xcmpF (t := 86) tn_X5_repairRow dX5_repairRow_79 (by decide) h (fun h => ?_) (fun h => ?_)
      · refine xs tn_X5_repairRow [(86, .aload_n 0, 1), (87, .getfield 12, 3), (90, .iload_n 3, 1), (91, .iload 5, 2)] (st' := (93, [(0, .ref 0), (2, .int x2), (3, .int x3), (4, .int x4), (5, .int x5)], [.int x5, .int x3, .ref 1], wd s rest, 0, 0)) (List.forall_mem_cons.mpr ⟨dX5_repairRow_86, List.forall_mem_cons.mpr ⟨dX5_repairRow_87, List.forall_mem_cons.mpr ⟨dX5_repairRow_90, List.forall_mem_cons.mpr ⟨dX5_repairRow_91, fun _ h => absurd h List.not_mem_nil⟩⟩⟩⟩) rfl ?_
        obtain ⟨v3, h4, h⟩ := obind h
        refine xcall tn_X5_repairRow dX5_repairRow_93 rfl rfl (w_X4_content h4) ?_
        show X 121 (96, [(0, .ref 0), (2, .int x2), (3, .int x3), (4, .int x4), (5, .int x5)], [.int v3], wd s rest, 0, 0) _
        refine xs tn_X5_repairRow [(96, .aload_n 0, 1), (97, .iload_n 2, 1), (98, .iconst 0, 1), (99, .iload 5, 2)] (st' := (101, [(0, .ref 0), (2, .int x2), (3, .int x3), (4, .int x4), (5, .int x5)], [.int x5, .int (nI 0), .int x2, .ref 0, .int v3], wd s rest, 0, 0)) (List.forall_mem_cons.mpr ⟨dX5_repairRow_96, List.forall_mem_cons.mpr ⟨dX5_repairRow_97, List.forall_mem_cons.mpr ⟨dX5_repairRow_98, List.forall_mem_cons.mpr ⟨dX5_repairRow_99, fun _ h => absurd h List.not_mem_nil⟩⟩⟩⟩) rfl ?_
        obtain ⟨v5, h6, h⟩ := obind h
        refine xcall tn_X5_repairRow dX5_repairRow_101 rfl rfl (w_X5_symbolByte h6) ?_
        show X 121 (104, [(0, .ref 0), (2, .int x2), (3, .int x3), (4, .int x4), (5, .int x5)], [.int v5, .int v3], wd s rest, 0, 0) _
        refine xs tn_X5_repairRow [(104, .ixor, 1), (105, .istore 6, 2), (107, .iload 4, 2), (109, .iconst (-1), 1)] (st' := (110, [(6, .int (v3 ^^^ v5)), (0, .ref 0), (2, .int x2), (3, .int x3), (4, .int x4), (5, .int x5)], [.int (-nI 1), .int x4], wd s rest, 0, 0)) (List.forall_mem_cons.mpr ⟨dX5_repairRow_104, List.forall_mem_cons.mpr ⟨dX5_repairRow_105, List.forall_mem_cons.mpr ⟨dX5_repairRow_107, List.forall_mem_cons.mpr ⟨dX5_repairRow_109, fun _ h => absurd h List.not_mem_nil⟩⟩⟩⟩) rfl ?_
        refine xcmpF (t := 117) tn_X5_repairRow dX5_repairRow_110 (by decide) h (fun h => ?_) (fun h => ?_)
        · refine xs tn_X5_repairRow [(117, .aload_n 0, 1), (118, .getfield 12, 3), (121, .iload 4, 2), (123, .iload 5, 2)] (st' := (125, [(6, .int (v3 ^^^ v5)), (0, .ref 0), (2, .int x2), (3, .int x3), (4, .int x4), (5, .int x5)], [.int x5, .int x4, .ref 1], wd s rest, 0, 0)) (List.forall_mem_cons.mpr ⟨dX5_repairRow_117, List.forall_mem_cons.mpr ⟨dX5_repairRow_118, List.forall_mem_cons.mpr ⟨dX5_repairRow_121, List.forall_mem_cons.mpr ⟨dX5_repairRow_123, fun _ h => absurd h List.not_mem_nil⟩⟩⟩⟩) rfl ?_
          obtain ⟨v7, h8, h⟩ := obind h
          refine xcall tn_X5_repairRow dX5_repairRow_125 rfl rfl (w_X4_content h8) ?_
          show X 121 (128, [(6, .int (v3 ^^^ v5)), (0, .ref 0), (2, .int x2), (3, .int x3), (4, .int x4), (5, .int x5)], [.int v7], wd s rest, 0, 0) _
          refine xs tn_X5_repairRow [(128, .aload_n 0, 1), (129, .iload_n 2, 1), (130, .iconst 1, 1), (131, .iload 5, 2)] (st' := (133, [(6, .int (v3 ^^^ v5)), (0, .ref 0), (2, .int x2), (3, .int x3), (4, .int x4), (5, .int x5)], [.int x5, .int (nI 1), .int x2, .ref 0, .int v7], wd s rest, 0, 0)) (List.forall_mem_cons.mpr ⟨dX5_repairRow_128, List.forall_mem_cons.mpr ⟨dX5_repairRow_129, List.forall_mem_cons.mpr ⟨dX5_repairRow_130, List.forall_mem_cons.mpr ⟨dX5_repairRow_131, fun _ h => absurd h List.not_mem_nil⟩⟩⟩⟩) rfl ?_
          obtain ⟨v9, h10, h⟩ := obind h
          refine xcall tn_X5_repairRow dX5_repairRow_133 rfl rfl (w_X5_symbolByte h10) ?_
          show X 121 (136, [(6, .int (v3 ^^^ v5)), (0, .ref 0), (2, .int x2), (3, .int x3), (4, .int x4), (5, .int x5)], [.int v9, .int v7], wd s rest, 0, 0) _
          refine xs tn_X5_repairRow [(136, .ixor, 1), (137, .istore 7, 2), (139, .aload_n 0, 1), (140, .getfield 35, 3), (143, .iload 5, 2), (145, .iload 6, 2), (147, .iload 7, 2)] (st' := (149, [(7, .int (v7 ^^^ v9)), (6, .int (v3 ^^^ v5)), (0, .ref 0), (2, .int x2), (3, .int x3), (4, .int x4), (5, .int x5)], [.int (v7 ^^^ v9), .int (v3 ^^^ v5), .int x5, .ref 11], wd s rest, 0, 0)) (List.forall_mem_cons.mpr ⟨dX5_repairRow_136, List.forall_mem_cons.mpr ⟨dX5_repairRow_137, List.forall_mem_cons.mpr ⟨dX5_repairRow_139, List.forall_mem_cons.mpr ⟨dX5_repairRow_140, List.forall_mem_cons.mpr ⟨dX5_repairRow_143, List.forall_mem_cons.mpr ⟨dX5_repairRow_145, List.forall_mem_cons.mpr ⟨dX5_repairRow_147, fun _ h => absurd h List.not_mem_nil⟩⟩⟩⟩⟩⟩⟩) rfl ?_
          obtain ⟨v11, s12, h13, h⟩ := obindP h
          refine xcall tn_X5_repairRow dX5_repairRow_149 rfl rfl (w_X2_solve h13) ?_
          show X 121 (152, [(7, .int (v7 ^^^ v9)), (6, .int (v3 ^^^ v5)), (0, .ref 0), (2, .int x2), (3, .int x3), (4, .int x4), (5, .int x5)], [.int v11], wd s12 rest, 0, 0) _
          refine xifF (t := 156) tn_X5_repairRow dX5_repairRow_152 (by decide) h (fun h => ?_) (fun h => ?_)
          · refine xs tn_X5_repairRow [(156, .iinc 5 1, 3), (159, .goto (-89), 3)] (st' := (70, [(7, .int (v7 ^^^ v9)), (6, .int (v3 ^^^ v5)), (0, .ref 0), (2, .int x2), (3, .int x3), (4, .int x4), (5, .int (x5 + (nI 1)))], [], wd s12 rest, 0, 0)) (List.forall_mem_cons.mpr ⟨dX5_repairRow_156, List.forall_mem_cons.mpr ⟨dX5_repairRow_159, fun _ h => absurd h List.not_mem_nil⟩⟩) rfl ?_
            refine xwk [0, 2, 3, 4, 5] rfl rfl ?_
            exact ih _ _ _ _ _ _ h
          · cases h
            exact xretv tn_X5_repairRow rfl dX5_repairRow_155
        · refine xs tn_X5_repairRow [(113, .iconst 0, 1), (114, .goto 23, 3), (137, .istore 7, 2), (139, .aload_n 0, 1), (140, .getfield 35, 3), (143, .iload 5, 2), (145, .iload 6, 2), (147, .iload 7, 2)] (st' := (149, [(7, .int (nI 0)), (6, .int (v3 ^^^ v5)), (0, .ref 0), (2, .int x2), (3, .int x3), (4, .int x4), (5, .int x5)], [.int (nI 0), .int (v3 ^^^ v5), .int x5, .ref 11], wd s rest, 0, 0)) (List.forall_mem_cons.mpr ⟨dX5_repairRow_113, List.forall_mem_cons.mpr ⟨dX5_repairRow_114, List.forall_mem_cons.mpr ⟨dX5_repairRow_137, List.forall_mem_cons.mpr ⟨dX5_repairRow_139, List.forall_mem_cons.mpr ⟨dX5_repairRow_140, List.forall_mem_cons.mpr ⟨dX5_repairRow_143, List.forall_mem_cons.mpr ⟨dX5_repairRow_145, List.forall_mem_cons.mpr ⟨dX5_repairRow_147, fun _ h => absurd h List.not_mem_nil⟩⟩⟩⟩⟩⟩⟩⟩) rfl ?_
          obtain ⟨v14, s15, h16, h⟩ := obindP h
          refine xcall tn_X5_repairRow dX5_repairRow_149 rfl rfl (w_X2_solve h16) ?_
          show X 121 (152, [(7, .int (nI 0)), (6, .int (v3 ^^^ v5)), (0, .ref 0), (2, .int x2), (3, .int x3), (4, .int x4), (5, .int x5)], [.int v14], wd s15 rest, 0, 0) _
          refine xifF (t := 156) tn_X5_repairRow dX5_repairRow_152 (by decide) h (fun h => ?_) (fun h => ?_)
          · refine xs tn_X5_repairRow [(156, .iinc 5 1, 3), (159, .goto (-89), 3)] (st' := (70, [(7, .int (nI 0)), (6, .int (v3 ^^^ v5)), (0, .ref 0), (2, .int x2), (3, .int x3), (4, .int x4), (5, .int (x5 + (nI 1)))], [], wd s15 rest, 0, 0)) (List.forall_mem_cons.mpr ⟨dX5_repairRow_156, List.forall_mem_cons.mpr ⟨dX5_repairRow_159, fun _ h => absurd h List.not_mem_nil⟩⟩) rfl ?_
            refine xwk [0, 2, 3, 4, 5] rfl rfl ?_
            exact ih _ _ _ _ _ _ h
          · cases h
            exact xretv tn_X5_repairRow rfl dX5_repairRow_155
      · refine xs tn_X5_repairRow [(82, .iconst 0, 1), (83, .goto 22, 3), (105, .istore 6, 2), (107, .iload 4, 2), (109, .iconst (-1), 1)] (st' := (110, [(6, .int (nI 0)), (0, .ref 0), (2, .int x2), (3, .int x3), (4, .int x4), (5, .int x5)], [.int (-nI 1), .int x4], wd s rest, 0, 0)) (List.forall_mem_cons.mpr ⟨dX5_repairRow_82, List.forall_mem_cons.mpr ⟨dX5_repairRow_83, List.forall_mem_cons.mpr ⟨dX5_repairRow_105, List.forall_mem_cons.mpr ⟨dX5_repairRow_107, List.forall_mem_cons.mpr ⟨dX5_repairRow_109, fun _ h => absurd h List.not_mem_nil⟩⟩⟩⟩⟩) rfl ?_
        refine xcmpF (t := 117) tn_X5_repairRow dX5_repairRow_110 (by decide) h (fun h => ?_) (fun h => ?_)
        · refine xs tn_X5_repairRow [(117, .aload_n 0, 1), (118, .getfield 12, 3), (121, .iload 4, 2), (123, .iload 5, 2)] (st' := (125, [(6, .int (nI 0)), (0, .ref 0), (2, .int x2), (3, .int x3), (4, .int x4), (5, .int x5)], [.int x5, .int x4, .ref 1], wd s rest, 0, 0)) (List.forall_mem_cons.mpr ⟨dX5_repairRow_117, List.forall_mem_cons.mpr ⟨dX5_repairRow_118, List.forall_mem_cons.mpr ⟨dX5_repairRow_121, List.forall_mem_cons.mpr ⟨dX5_repairRow_123, fun _ h => absurd h List.not_mem_nil⟩⟩⟩⟩) rfl ?_
          obtain ⟨v17, h18, h⟩ := obind h
          refine xcall tn_X5_repairRow dX5_repairRow_125 rfl rfl (w_X4_content h18) ?_
          show X 121 (128, [(6, .int (nI 0)), (0, .ref 0), (2, .int x2), (3, .int x3), (4, .int x4), (5, .int x5)], [.int v17], wd s rest, 0, 0) _
          refine xs tn_X5_repairRow [(128, .aload_n 0, 1), (129, .iload_n 2, 1), (130, .iconst 1, 1), (131, .iload 5, 2)] (st' := (133, [(6, .int (nI 0)), (0, .ref 0), (2, .int x2), (3, .int x3), (4, .int x4), (5, .int x5)], [.int x5, .int (nI 1), .int x2, .ref 0, .int v17], wd s rest, 0, 0)) (List.forall_mem_cons.mpr ⟨dX5_repairRow_128, List.forall_mem_cons.mpr ⟨dX5_repairRow_129, List.forall_mem_cons.mpr ⟨dX5_repairRow_130, List.forall_mem_cons.mpr ⟨dX5_repairRow_131, fun _ h => absurd h List.not_mem_nil⟩⟩⟩⟩) rfl ?_
          obtain ⟨v19, h20, h⟩ := obind h
          refine xcall tn_X5_repairRow dX5_repairRow_133 rfl rfl (w_X5_symbolByte h20) ?_
          show X 121 (136, [(6, .int (nI 0)), (0, .ref 0), (2, .int x2), (3, .int x3), (4, .int x4), (5, .int x5)], [.int v19, .int v17], wd s rest, 0, 0) _
          refine xs tn_X5_repairRow [(136, .ixor, 1), (137, .istore 7, 2), (139, .aload_n 0, 1), (140, .getfield 35, 3), (143, .iload 5, 2), (145, .iload 6, 2), (147, .iload 7, 2)] (st' := (149, [(7, .int (v17 ^^^ v19)), (6, .int (nI 0)), (0, .ref 0), (2, .int x2), (3, .int x3), (4, .int x4), (5, .int x5)], [.int (v17 ^^^ v19), .int (nI 0), .int x5, .ref 11], wd s rest, 0, 0)) (List.forall_mem_cons.mpr ⟨dX5_repairRow_136, List.forall_mem_cons.mpr ⟨dX5_repairRow_137, List.forall_mem_cons.mpr ⟨dX5_repairRow_139, List.forall_mem_cons.mpr ⟨dX5_repairRow_140, List.forall_mem_cons.mpr ⟨dX5_repairRow_143, List.forall_mem_cons.mpr ⟨dX5_repairRow_145, List.forall_mem_cons.mpr ⟨dX5_repairRow_147, fun _ h => absurd h List.not_mem_nil⟩⟩⟩⟩⟩⟩⟩) rfl ?_
          obtain ⟨v21, s22, h23, h⟩ := obindP h
          refine xcall tn_X5_repairRow dX5_repairRow_149 rfl rfl (w_X2_solve h23) ?_
          show X 121 (152, [(7, .int (v17 ^^^ v19)), (6, .int (nI 0)), (0, .ref 0), (2, .int x2), (3, .int x3), (4, .int x4), (5, .int x5)], [.int v21], wd s22 rest, 0, 0) _
          refine xifF (t := 156) tn_X5_repairRow dX5_repairRow_152 (by decide) h (fun h => ?_) (fun h => ?_)
          · refine xs tn_X5_repairRow [(156, .iinc 5 1, 3), (159, .goto (-89), 3)] (st' := (70, [(7, .int (v17 ^^^ v19)), (6, .int (nI 0)), (0, .ref 0), (2, .int x2), (3, .int x3), (4, .int x4), (5, .int (x5 + (nI 1)))], [], wd s22 rest, 0, 0)) (List.forall_mem_cons.mpr ⟨dX5_repairRow_156, List.forall_mem_cons.mpr ⟨dX5_repairRow_159, fun _ h => absurd h List.not_mem_nil⟩⟩) rfl ?_
            refine xwk [0, 2, 3, 4, 5] rfl rfl ?_
            exact ih _ _ _ _ _ _ h
          · cases h
            exact xretv tn_X5_repairRow rfl dX5_repairRow_155
        · refine xs tn_X5_repairRow [(113, .iconst 0, 1), (114, .goto 23, 3), (137, .istore 7, 2), (139, .aload_n 0, 1), (140, .getfield 35, 3), (143, .iload 5, 2), (145, .iload 6, 2), (147, .iload 7, 2)] (st' := (149, [(7, .int (nI 0)), (6, .int (nI 0)), (0, .ref 0), (2, .int x2), (3, .int x3), (4, .int x4), (5, .int x5)], [.int (nI 0), .int (nI 0), .int x5, .ref 11], wd s rest, 0, 0)) (List.forall_mem_cons.mpr ⟨dX5_repairRow_113, List.forall_mem_cons.mpr ⟨dX5_repairRow_114, List.forall_mem_cons.mpr ⟨dX5_repairRow_137, List.forall_mem_cons.mpr ⟨dX5_repairRow_139, List.forall_mem_cons.mpr ⟨dX5_repairRow_140, List.forall_mem_cons.mpr ⟨dX5_repairRow_143, List.forall_mem_cons.mpr ⟨dX5_repairRow_145, List.forall_mem_cons.mpr ⟨dX5_repairRow_147, fun _ h => absurd h List.not_mem_nil⟩⟩⟩⟩⟩⟩⟩⟩) rfl ?_
          obtain ⟨v24, s25, h26, h⟩ := obindP h
          refine xcall tn_X5_repairRow dX5_repairRow_149 rfl rfl (w_X2_solve h26) ?_
          show X 121 (152, [(7, .int (nI 0)), (6, .int (nI 0)), (0, .ref 0), (2, .int x2), (3, .int x3), (4, .int x4), (5, .int x5)], [.int v24], wd s25 rest, 0, 0) _
          refine xifF (t := 156) tn_X5_repairRow dX5_repairRow_152 (by decide) h (fun h => ?_) (fun h => ?_)
          · refine xs tn_X5_repairRow [(156, .iinc 5 1, 3), (159, .goto (-89), 3)] (st' := (70, [(7, .int (nI 0)), (6, .int (nI 0)), (0, .ref 0), (2, .int x2), (3, .int x3), (4, .int x4), (5, .int (x5 + (nI 1)))], [], wd s25 rest, 0, 0)) (List.forall_mem_cons.mpr ⟨dX5_repairRow_156, List.forall_mem_cons.mpr ⟨dX5_repairRow_159, fun _ h => absurd h List.not_mem_nil⟩⟩) rfl ?_
            refine xwk [0, 2, 3, 4, 5] rfl rfl ?_
            exact ih _ _ _ _ _ _ h
          · cases h
            exact xretv tn_X5_repairRow rfl dX5_repairRow_155
def F_X5_repairRow (N : Nat) (s : St) (x1 : Int32) : Option (St) := (F_X5_findRow N s x1).bind fun v1 => bif mx_cnd .eq v1 (-nI 1) then (some s) else (bindP (F_X5_collectGaps N s v1) fun v3 s4 => bif mx_cnd .ne v3 0 then ((F_X5_findSymbol N s4 x1 (nI 0)).bind fun v6 => (F_X5_findSymbol N s4 x1 (nI 1)).bind fun v8 => bif mx_cnd .eq v6 (-nI 1) then (bif mx_cnd .eq v8 (-nI 1) then (bindP (F_X2_prepare N s4 (nI 0) (nI 0)) fun v10 s11 => bif mx_cnd .ne v10 0 then (F_X5_repairRow_70 N N s11 v1 v6 v8 (nI 0)) else (some s11)) else (bindP (F_X2_prepare N s4 (nI 0) (nI 1)) fun v13 s14 => bif mx_cnd .ne v13 0 then (F_X5_repairRow_70 N N s14 v1 v6 v8 (nI 0)) else (some s14))) else (bif mx_cnd .eq v8 (-nI 1) then (bindP (F_X2_prepare N s4 (nI 1) (nI 0)) fun v16 s17 => bif mx_cnd .ne v16 0 then (F_X5_repairRow_70 N N s17 v1 v6 v8 (nI 0)) else (some s17)) else (bindP (F_X2_prepare N s4 (nI 1) (nI 1)) fun v19 s20 => bif mx_cnd .ne v19 0 then (F_X5_repairRow_70 N N s20 v1 v6 v8 (nI 0)) else (some s20)))) else (some s4))
set_option maxRecDepth 100000 in
set_option maxHeartbeats 4000000 in
theorem w_X5_repairRow {rest : mx_W} {N : Nat} {s : St} {x1 : Int32} {r : St} (h : F_X5_repairRow N s x1 = some r) : X 121 (0, [(0, .ref 0), (1, .int x1)], [], wd s rest, 0, 0) (none, wd r rest, 0, 0) := by
  unfold F_X5_repairRow at h
  refine xs tn_X5_repairRow [(0, .aload_n 0, 1), (1, .iload_n 1, 1)] (st' := (2, [(0, .ref 0), (1, .int x1)], [.int x1, .ref 0], wd s rest, 0, 0)) (List.forall_mem_cons.mpr ⟨dX5_repairRow_0, List.forall_mem_cons.mpr ⟨dX5_repairRow_1, fun _ h => absurd h List.not_mem_nil⟩⟩) rfl ?_
  obtain ⟨v1, h2, h⟩ := obind h
  refine xcall tn_X5_repairRow dX5_repairRow_2 rfl rfl (w_X5_findRow h2) ?_
  show X 121 (5, [(0, .ref 0), (1, .int x1)], [.int v1], wd s rest, 0, 0) _
  refine xs tn_X5_repairRow [(5, .istore_n 2, 1), (6, .iload_n 2, 1), (7, .iconst (-1), 1)] (st' := (8, [(2, .int v1), (0, .ref 0), (1, .int x1)], [.int (-nI 1), .int v1], wd s rest, 0, 0)) (List.forall_mem_cons.mpr ⟨dX5_repairRow_5, List.forall_mem_cons.mpr ⟨dX5_repairRow_6, List.forall_mem_cons.mpr ⟨dX5_repairRow_7, fun _ h => absurd h List.not_mem_nil⟩⟩⟩) rfl ?_
  refine xcmpF (t := 19) tn_X5_repairRow dX5_repairRow_8 (by decide) h (fun h => ?_) (fun h => ?_)
  · cases h
    exact xretv tn_X5_repairRow rfl dX5_repairRow_19
  · refine xs tn_X5_repairRow [(11, .aload_n 0, 1), (12, .iload_n 2, 1)] (st' := (13, [(2, .int v1), (0, .ref 0), (1, .int x1)], [.int v1, .ref 0], wd s rest, 0, 0)) (List.forall_mem_cons.mpr ⟨dX5_repairRow_11, List.forall_mem_cons.mpr ⟨dX5_repairRow_12, fun _ h => absurd h List.not_mem_nil⟩⟩) rfl ?_
    obtain ⟨v3, s4, h5, h⟩ := obindP h
    refine xcall tn_X5_repairRow dX5_repairRow_13 rfl rfl (w_X5_collectGaps h5) ?_
    show X 121 (16, [(2, .int v1), (0, .ref 0), (1, .int x1)], [.int v3], wd s4 rest, 0, 0) _
    refine xifF (t := 20) tn_X5_repairRow dX5_repairRow_16 (by decide) h (fun h => ?_) (fun h => ?_)
    · refine xs tn_X5_repairRow [(20, .aload_n 0, 1), (21, .iload_n 1, 1), (22, .iconst 0, 1)] (st' := (23, [(2, .int v1), (0, .ref 0), (1, .int x1)], [.int (nI 0), .int x1, .ref 0], wd s4 rest, 0, 0)) (List.forall_mem_cons.mpr ⟨dX5_repairRow_20, List.forall_mem_cons.mpr ⟨dX5_repairRow_21, List.forall_mem_cons.mpr ⟨dX5_repairRow_22, fun _ h => absurd h List.not_mem_nil⟩⟩⟩) rfl ?_
      obtain ⟨v6, h7, h⟩ := obind h
      refine xcall tn_X5_repairRow dX5_repairRow_23 rfl rfl (w_X5_findSymbol h7) ?_
      show X 121 (26, [(2, .int v1), (0, .ref 0), (1, .int x1)], [.int v6], wd s4 rest, 0, 0) _
      refine xs tn_X5_repairRow [(26, .istore_n 3, 1), (27, .aload_n 0, 1), (28, .iload_n 1, 1), (29, .iconst 1, 1)] (st' := (30, [(3, .int v6), (2, .int v1), (0, .ref 0), (1, .int x1)], [.int (nI 1), .int x1, .ref 0], wd s4 rest, 0, 0)) (List.forall_mem_cons.mpr ⟨dX5_repairRow_26, List.forall_mem_cons.mpr ⟨dX5_repairRow_27, List.forall_mem_cons.mpr ⟨dX5_repairRow_28, List.forall_mem_cons.mpr ⟨dX5_repairRow_29, fun _ h => absurd h List.not_mem_nil⟩⟩⟩⟩) rfl ?_
      obtain ⟨v8, h9, h⟩ := obind h
      refine xcall tn_X5_repairRow dX5_repairRow_30 rfl rfl (w_X5_findSymbol h9) ?_
      show X 121 (33, [(3, .int v6), (2, .int v1), (0, .ref 0), (1, .int x1)], [.int v8], wd s4 rest, 0, 0) _
      refine xs tn_X5_repairRow [(33, .istore 4, 2), (35, .aload_n 0, 1), (36, .getfield 35, 3), (39, .iload_n 3, 1), (40, .iconst (-1), 1)] (st' := (41, [(4, .int v8), (3, .int v6), (2, .int v1), (0, .ref 0), (1, .int x1)], [.int (-nI 1), .int v6, .ref 11], wd s4 rest, 0, 0)) (List.forall_mem_cons.mpr ⟨dX5_repairRow_33, List.forall_mem_cons.mpr ⟨dX5_repairRow_35, List.forall_mem_cons.mpr ⟨dX5_repairRow_36, List.forall_mem_cons.mpr ⟨dX5_repairRow_39, List.forall_mem_cons.mpr ⟨dX5_repairRow_40, fun _ h => absurd h List.not_mem_nil⟩⟩⟩⟩⟩) rfl ?_
      refine xcmpF (t := 48) tn_X5_repairRow dX5_repairRow_41 (by decide) h (fun h => ?_) (fun h => ?_)
      · refine xs tn_X5_repairRow [(48, .iconst 0, 1), (49, .iload 4, 2), (51, .iconst (-1), 1)] (st' := (52, [(4, .int v8), (3, .int v6), (2, .int v1), (0, .ref 0), (1, .int x1)], [.int (-nI 1), .int v8, .int (nI 0), .ref 11], wd s4 rest, 0, 0)) (List.forall_mem_cons.mpr ⟨dX5_repairRow_48, List.forall_mem_cons.mpr ⟨dX5_repairRow_49, List.forall_mem_cons.mpr ⟨dX5_repairRow_51, fun _ h => absurd h List.not_mem_nil⟩⟩⟩) rfl ?_
        refine xcmpF (t := 59) tn_X5_repairRow dX5_repairRow_52 (by decide) h (fun h => ?_) (fun h => ?_)
        · refine xs tn_X5_repairRow [(59, .iconst 0, 1)] (st' := (60, [(4, .int v8), (3, .int v6), (2, .int v1), (0, .ref 0), (1, .int x1)], [.int (nI 0), .int (nI 0), .ref 11], wd s4 rest, 0, 0)) (List.forall_mem_cons.mpr ⟨dX5_repairRow_59, fun _ h => absurd h List.not_mem_nil⟩) rfl ?_
          obtain ⟨v10, s11, h12, h⟩ := obindP h
          refine xcall tn_X5_repairRow dX5_repairRow_60 rfl rfl (w_X2_prepare h12) ?_
          show X 121 (63, [(4, .int v8), (3, .int v6), (2, .int v1), (0, .ref 0), (1, .int x1)], [.int v10], wd s11 rest, 0, 0) _
          refine xifF (t := 67) tn_X5_repairRow dX5_repairRow_63 (by decide) h (fun h => ?_) (fun h => ?_)
          · refine xs tn_X5_repairRow [(67, .iconst 0, 1), (68, .istore 5, 2)] (st' := (70, [(5, .int (nI 0)), (4, .int v8), (3, .int v6), (2, .int v1), (0, .ref 0), (1, .int x1)], [], wd s11 rest, 0, 0)) (List.forall_mem_cons.mpr ⟨dX5_repairRow_67, List.forall_mem_cons.mpr ⟨dX5_repairRow_68, fun _ h => absurd h List.not_mem_nil⟩⟩) rfl ?_
            refine xwk [0, 2, 3, 4, 5] rfl rfl ?_
            exact w_X5_repairRow_70 N _ _ _ _ _ _ h
          · cases h
            exact xretv tn_X5_repairRow rfl dX5_repairRow_66
        · refine xs tn_X5_repairRow [(55, .iconst 1, 1), (56, .goto 4, 3)] (st' := (60, [(4, .int v8), (3, .int v6), (2, .int v1), (0, .ref 0), (1, .int x1)], [.int (nI 1), .int (nI 0), .ref 11], wd s4 rest, 0, 0)) (List.forall_mem_cons.mpr ⟨dX5_repairRow_55, List.forall_mem_cons.mpr ⟨dX5_repairRow_56, fun _ h => absurd h List.not_mem_nil⟩⟩) rfl ?_
          obtain ⟨v13, s14, h15, h⟩ := obindP h
          refine xcall tn_X5_repairRow dX5_repairRow_60 rfl rfl (w_X2_prepare h15) ?_
          show X 121 (63, [(4, .int v8), (3, .int v6), (2, .int v1), (0, .ref 0), (1, .int x1)], [.int v13], wd s14 rest, 0, 0) _
          refine xifF (t := 67) tn_X5_repairRow dX5_repairRow_63 (by decide) h (fun h => ?_) (fun h => ?_)
          · refine xs tn_X5_repairRow [(67, .iconst 0, 1), (68, .istore 5, 2)] (st' := (70, [(5, .int (nI 0)), (4, .int v8), (3, .int v6), (2, .int v1), (0, .ref 0), (1, .int x1)], [], wd s14 rest, 0, 0)) (List.forall_mem_cons.mpr ⟨dX5_repairRow_67, List.forall_mem_cons.mpr ⟨dX5_repairRow_68, fun _ h => absurd h List.not_mem_nil⟩⟩) rfl ?_
            refine xwk [0, 2, 3, 4, 5] rfl rfl ?_
            exact w_X5_repairRow_70 N _ _ _ _ _ _ h
          · cases h
            exact xretv tn_X5_repairRow rfl dX5_repairRow_66
      · refine xs tn_X5_repairRow [(44, .iconst 1, 1), (45, .goto 4, 3), (49, .iload 4, 2), (51, .iconst (-1), 1)] (st' := (52, [(4, .int v8), (3, .int v6), (2, .int v1), (0, .ref 0), (1, .int x1)], [.int (-nI 1), .int v8, .int (nI 1), .ref 11], wd s4 rest, 0, 0)) (List.forall_mem_cons.mpr ⟨dX5_repairRow_44, List.forall_mem_cons.mpr ⟨dX5_repairRow_45, List.forall_mem_cons.mpr ⟨dX5_repairRow_49, List.forall_mem_cons.mpr ⟨dX5_repairRow_51, fun _ h => absurd h List.not_mem_nil⟩⟩⟩⟩) rfl ?_
        refine xcmpF (t := 59) tn_X5_repairRow dX5_repairRow_52 (by decide) h (fun h => ?_) (fun h => ?_)
        · refine xs tn_X5_repairRow [(59, .iconst 0, 1)] (st' := (60, [(4, .int v8), (3, .int v6), (2, .int v1), (0, .ref 0), (1, .int x1)], [.int (nI 0), .int (nI 1), .ref 11], wd s4 rest, 0, 0)) (List.forall_mem_cons.mpr ⟨dX5_repairRow_59, fun _ h => absurd h List.not_mem_nil⟩) rfl ?_
          obtain ⟨v16, s17, h18, h⟩ := obindP h
          refine xcall tn_X5_repairRow dX5_repairRow_60 rfl rfl (w_X2_prepare h18) ?_
          show X 121 (63, [(4, .int v8), (3, .int v6), (2, .int v1), (0, .ref 0), (1, .int x1)], [.int v16], wd s17 rest, 0, 0) _
          refine xifF (t := 67) tn_X5_repairRow dX5_repairRow_63 (by decide) h (fun h => ?_) (fun h => ?_)
          · refine xs tn_X5_repairRow [(67, .iconst 0, 1), (68, .istore 5, 2)] (st' := (70, [(5, .int (nI 0)), (4, .int v8), (3, .int v6), (2, .int v1), (0, .ref 0), (1, .int x1)], [], wd s17 rest, 0, 0)) (List.forall_mem_cons.mpr ⟨dX5_repairRow_67, List.forall_mem_cons.mpr ⟨dX5_repairRow_68, fun _ h => absurd h List.not_mem_nil⟩⟩) rfl ?_
            refine xwk [0, 2, 3, 4, 5] rfl rfl ?_
            exact w_X5_repairRow_70 N _ _ _ _ _ _ h
          · cases h
            exact xretv tn_X5_repairRow rfl dX5_repairRow_66
        · refine xs tn_X5_repairRow [(55, .iconst 1, 1), (56, .goto 4, 3)] (st' := (60, [(4, .int v8), (3, .int v6), (2, .int v1), (0, .ref 0), (1, .int x1)], [.int (nI 1), .int (nI 1), .ref 11], wd s4 rest, 0, 0)) (List.forall_mem_cons.mpr ⟨dX5_repairRow_55, List.forall_mem_cons.mpr ⟨dX5_repairRow_56, fun _ h => absurd h List.not_mem_nil⟩⟩) rfl ?_
          obtain ⟨v19, s20, h21, h⟩ := obindP h
          refine xcall tn_X5_repairRow dX5_repairRow_60 rfl rfl (w_X2_prepare h21) ?_
          show X 121 (63, [(4, .int v8), (3, .int v6), (2, .int v1), (0, .ref 0), (1, .int x1)], [.int v19], wd s20 rest, 0, 0) _
          refine xifF (t := 67) tn_X5_repairRow dX5_repairRow_63 (by decide) h (fun h => ?_) (fun h => ?_)
          · refine xs tn_X5_repairRow [(67, .iconst 0, 1), (68, .istore 5, 2)] (st' := (70, [(5, .int (nI 0)), (4, .int v8), (3, .int v6), (2, .int v1), (0, .ref 0), (1, .int x1)], [], wd s20 rest, 0, 0)) (List.forall_mem_cons.mpr ⟨dX5_repairRow_67, List.forall_mem_cons.mpr ⟨dX5_repairRow_68, fun _ h => absurd h List.not_mem_nil⟩⟩) rfl ?_
            refine xwk [0, 2, 3, 4, 5] rfl rfl ?_
            exact w_X5_repairRow_70 N _ _ _ _ _ _ h
          · cases h
            exact xretv tn_X5_repairRow rfl dX5_repairRow_66
    · cases h
      exact xretv tn_X5_repairRow rfl dX5_repairRow_19
