def F_X6_at (N : Nat) (s : St) (x1 : Int32) (x2 : Int32) : Option (Int32 × St) := bnd (sI s 0 (nI 0)) fun s1 => (F_X6_isRow s1 x1).bind fun v2 => bif mx_cnd .ne v2 0 then (bif mx_cnd .eq (gI s1 1) 0 then (some (-nI 3, s1)) else ((F_X6_sectorOf N s1 x1).bind fun v4 => bif mx_cnd .ne v4 (-nI 1) then (bif mx_cnd .lt x2 0 then (bnd (sI s1 0 (nI 1)) fun s6 => some (nI 0, s6)) else ((F_X6_sizeAt s1 v4).bind fun v7 => bif mx_cnd .lt x2 v7 then ((F_X6_blockAt s1 v4 (x2 / (nI 24))).bind fun v9 => (F_X6_isBlock N s1 v9).bind fun v11 => bif mx_cnd .eq v11 0 then (some (-nI 5, s1)) else (ldA (gA s1 0) 1920 ((((nI 32) * v9) + (nI 4)) + (x2 - x2 / (nI 24) * (nI 24))) fun v13 => some (v13, s1))) else (bnd (sI s1 0 (nI 1)) fun s14 => some (nI 0, s14)))) else (some (-nI 3, s1)))) else (some (-nI 2, s1))
set_option maxRecDepth 100000 in
set_option maxHeartbeats 4000000 in
theorem w_X6_at {d : St} {rest : mx_W} {N : Nat} {s : St} {x1 : Int32} {x2 : Int32} {r : Int32} {t : St} (h : F_X6_at N s x1 x2 = some (r, t)) : X 108 (0, [(0, .ref 18), (1, .int x1), (2, .int x2)], [], wd d (wm s rest), 0, 0) (some (.int r), wd d (wm t rest), 0, 0) := by
  unfold F_X6_at at h
  refine xs tn_X6_at [(0, .aload_n 0, 1), (1, .iconst 0, 1)] (st' := (2, [(0, .ref 18), (1, .int x1), (2, .int x2)], [.int (nI 0), .ref 18], wd d (wm s rest), 0, 0)) (List.forall_mem_cons.mpr ⟨dX6_at_0, List.forall_mem_cons.mpr ⟨dX6_at_1, fun _ h => absurd h List.not_mem_nil⟩⟩) rfl ?_
  refine xput_b0 tn_X6_at dX6_at_2 rfl h (fun s1 h => ?_)
  refine xs tn_X6_at [(5, .aload_n 0, 1), (6, .iload_n 1, 1)] (st' := (7, [(0, .ref 18), (1, .int x1), (2, .int x2)], [.int x1, .ref 18], wd d (wm s1 rest), 0, 0)) (List.forall_mem_cons.mpr ⟨dX6_at_5, List.forall_mem_cons.mpr ⟨dX6_at_6, fun _ h => absurd h List.not_mem_nil⟩⟩) rfl ?_
  obtain ⟨v2, h3, h⟩ := obind h
  refine xcall tn_X6_at dX6_at_7 rfl rfl (w_X6_isRow h3) ?_
  show X 108 (10, [(0, .ref 18), (1, .int x1), (2, .int x2)], [.int v2], wd d (wm s1 rest), 0, 0) _
  refine xifF (t := 16) tn_X6_at dX6_at_10 (by decide) h (fun h => ?_) (fun h => ?_)
  · refine xs tn_X6_at [(16, .aload_n 0, 1), (17, .getfield 17, 3)] (st' := (20, [(0, .ref 18), (1, .int x1), (2, .int x2)], [.int (gI s1 1)], wd d (wm s1 rest), 0, 0)) (List.forall_mem_cons.mpr ⟨dX6_at_16, List.forall_mem_cons.mpr ⟨dX6_at_17, fun _ h => absurd h List.not_mem_nil⟩⟩) rfl ?_
    refine xifF (t := 31) tn_X6_at dX6_at_20 (by decide) h (fun h => ?_) (fun h => ?_)
    · refine xs tn_X6_at [(31, .iconst (-1), 1), (32, .istore_n 3, 1), (33, .iload_n 3, 1), (34, .iconst (-1), 1)] (st' := (35, [(3, .int (-nI 1)), (0, .ref 18), (1, .int x1), (2, .int x2)], [.int (-nI 1), .int (-nI 1)], wd d (wm s1 rest), 0, 0)) (List.forall_mem_cons.mpr ⟨dX6_at_31, List.forall_mem_cons.mpr ⟨dX6_at_32, List.forall_mem_cons.mpr ⟨dX6_at_33, List.forall_mem_cons.mpr ⟨dX6_at_34, fun _ h => absurd h List.not_mem_nil⟩⟩⟩⟩) rfl ?_
      refine xcmpN (t := 41) tn_X6_at dX6_at_35 (by decide) (by decide) ?_
      refine xs tn_X6_at [(38, .bipush (-3), 2)] (st' := (40, [(3, .int (-nI 1)), (0, .ref 18), (1, .int x1), (2, .int x2)], [.int (-nI 3)], wd d (wm s1 rest), 0, 0)) (List.forall_mem_cons.mpr ⟨dX6_at_38, fun _ h => absurd h List.not_mem_nil⟩) rfl ?_
      cases h
      exact xret tn_X6_at rfl dX6_at_40
    · refine xs tn_X6_at [(23, .aload_n 0, 1), (24, .iload_n 1, 1)] (st' := (25, [(0, .ref 18), (1, .int x1), (2, .int x2)], [.int x1, .ref 18], wd d (wm s1 rest), 0, 0)) (List.forall_mem_cons.mpr ⟨dX6_at_23, List.forall_mem_cons.mpr ⟨dX6_at_24, fun _ h => absurd h List.not_mem_nil⟩⟩) rfl ?_
      obtain ⟨v4, h5, h⟩ := obind h
      refine xcall tn_X6_at dX6_at_25 rfl rfl (w_X6_sectorOf h5) ?_
      show X 108 (28, [(0, .ref 18), (1, .int x1), (2, .int x2)], [.int v4], wd d (wm s1 rest), 0, 0) _
      refine xs tn_X6_at [(28, .goto 4, 3), (32, .istore_n 3, 1), (33, .iload_n 3, 1), (34, .iconst (-1), 1)] (st' := (35, [(3, .int v4), (0, .ref 18), (1, .int x1), (2, .int x2)], [.int (-nI 1), .int v4], wd d (wm s1 rest), 0, 0)) (List.forall_mem_cons.mpr ⟨dX6_at_28, List.forall_mem_cons.mpr ⟨dX6_at_32, List.forall_mem_cons.mpr ⟨dX6_at_33, List.forall_mem_cons.mpr ⟨dX6_at_34, fun _ h => absurd h List.not_mem_nil⟩⟩⟩⟩) rfl ?_
      refine xcmpF (t := 41) tn_X6_at dX6_at_35 (by decide) h (fun h => ?_) (fun h => ?_)
      · refine xs tn_X6_at [(41, .iload_n 2, 1)] (st' := (42, [(3, .int v4), (0, .ref 18), (1, .int x1), (2, .int x2)], [.int x2], wd d (wm s1 rest), 0, 0)) (List.forall_mem_cons.mpr ⟨dX6_at_41, fun _ h => absurd h List.not_mem_nil⟩) rfl ?_
        refine xifF (t := 54) tn_X6_at dX6_at_42 (by decide) h (fun h => ?_) (fun h => ?_)
        · refine xs tn_X6_at [(54, .aload_n 0, 1), (55, .iconst 1, 1)] (st' := (56, [(3, .int v4), (0, .ref 18), (1, .int x1), (2, .int x2)], [.int (nI 1), .ref 18], wd d (wm s1 rest), 0, 0)) (List.forall_mem_cons.mpr ⟨dX6_at_54, List.forall_mem_cons.mpr ⟨dX6_at_55, fun _ h => absurd h List.not_mem_nil⟩⟩) rfl ?_
          refine xput_b0 tn_X6_at dX6_at_56 rfl h (fun s6 h => ?_)
          refine xs tn_X6_at [(59, .iconst 0, 1)] (st' := (60, [(3, .int v4), (0, .ref 18), (1, .int x1), (2, .int x2)], [.int (nI 0)], wd d (wm s6 rest), 0, 0)) (List.forall_mem_cons.mpr ⟨dX6_at_59, fun _ h => absurd h List.not_mem_nil⟩) rfl ?_
          cases h
          exact xret tn_X6_at rfl dX6_at_60
        · refine xs tn_X6_at [(45, .iload_n 2, 1), (46, .aload_n 0, 1), (47, .iload_n 3, 1)] (st' := (48, [(3, .int v4), (0, .ref 18), (1, .int x1), (2, .int x2)], [.int v4, .ref 18, .int x2], wd d (wm s1 rest), 0, 0)) (List.forall_mem_cons.mpr ⟨dX6_at_45, List.forall_mem_cons.mpr ⟨dX6_at_46, List.forall_mem_cons.mpr ⟨dX6_at_47, fun _ h => absurd h List.not_mem_nil⟩⟩⟩) rfl ?_
          obtain ⟨v7, h8, h⟩ := obind h
          refine xcall tn_X6_at dX6_at_48 rfl rfl (w_X6_sizeAt h8) ?_
          show X 108 (51, [(3, .int v4), (0, .ref 18), (1, .int x1), (2, .int x2)], [.int v7, .int x2], wd d (wm s1 rest), 0, 0) _
          refine xcmpF (t := 61) tn_X6_at dX6_at_51 (by decide) h (fun h => ?_) (fun h => ?_)
          · refine xs tn_X6_at [(61, .aload_n 0, 1), (62, .iload_n 3, 1), (63, .iload_n 2, 1), (64, .bipush 24, 2)] (st' := (66, [(3, .int v4), (0, .ref 18), (1, .int x1), (2, .int x2)], [.int (nI 24), .int x2, .int v4, .ref 18], wd d (wm s1 rest), 0, 0)) (List.forall_mem_cons.mpr ⟨dX6_at_61, List.forall_mem_cons.mpr ⟨dX6_at_62, List.forall_mem_cons.mpr ⟨dX6_at_63, List.forall_mem_cons.mpr ⟨dX6_at_64, fun _ h => absurd h List.not_mem_nil⟩⟩⟩⟩) rfl ?_
            refine xdivF tn_X6_at dX6_at_66 (by decide) ?_
            obtain ⟨v9, h10, h⟩ := obind h
            refine xcall tn_X6_at dX6_at_67 rfl rfl (w_X6_blockAt h10) ?_
            show X 108 (70, [(3, .int v4), (0, .ref 18), (1, .int x1), (2, .int x2)], [.int v9], wd d (wm s1 rest), 0, 0) _
            refine xs tn_X6_at [(70, .istore 4, 2), (72, .aload_n 0, 1), (73, .iload 4, 2)] (st' := (75, [(4, .int v9), (3, .int v4), (0, .ref 18), (1, .int x1), (2, .int x2)], [.int v9, .ref 18], wd d (wm s1 rest), 0, 0)) (List.forall_mem_cons.mpr ⟨dX6_at_70, List.forall_mem_cons.mpr ⟨dX6_at_72, List.forall_mem_cons.mpr ⟨dX6_at_73, fun _ h => absurd h List.not_mem_nil⟩⟩⟩) rfl ?_
            obtain ⟨v11, h12, h⟩ := obind h
            refine xcall tn_X6_at dX6_at_75 rfl rfl (w_X6_isBlock h12) ?_
            show X 108 (78, [(4, .int v9), (3, .int v4), (0, .ref 18), (1, .int x1), (2, .int x2)], [.int v11], wd d (wm s1 rest), 0, 0) _
            refine xifF (t := 101) tn_X6_at dX6_at_78 (by decide) h (fun h => ?_) (fun h => ?_)
            · refine xs tn_X6_at [(101, .bipush (-5), 2)] (st' := (103, [(4, .int v9), (3, .int v4), (0, .ref 18), (1, .int x1), (2, .int x2)], [.int (-nI 5)], wd d (wm s1 rest), 0, 0)) (List.forall_mem_cons.mpr ⟨dX6_at_101, fun _ h => absurd h List.not_mem_nil⟩) rfl ?_
              cases h
              exact xret tn_X6_at rfl dX6_at_103
            · refine xs tn_X6_at [(81, .aload_n 0, 1), (82, .getfield 7, 3), (85, .bipush 32, 2), (87, .iload 4, 2), (89, .imul, 1), (90, .iconst 4, 1), (91, .iadd, 1), (92, .iload_n 2, 1), (93, .bipush 24, 2)] (st' := (95, [(4, .int v9), (3, .int v4), (0, .ref 18), (1, .int x1), (2, .int x2)], [.int (nI 24), .int x2, .int (((nI 32) * v9) + (nI 4)), .ref 19], wd d (wm s1 rest), 0, 0)) (List.forall_mem_cons.mpr ⟨dX6_at_81, List.forall_mem_cons.mpr ⟨dX6_at_82, List.forall_mem_cons.mpr ⟨dX6_at_85, List.forall_mem_cons.mpr ⟨dX6_at_87, List.forall_mem_cons.mpr ⟨dX6_at_89, List.forall_mem_cons.mpr ⟨dX6_at_90, List.forall_mem_cons.mpr ⟨dX6_at_91, List.forall_mem_cons.mpr ⟨dX6_at_92, List.forall_mem_cons.mpr ⟨dX6_at_93, fun _ h => absurd h List.not_mem_nil⟩⟩⟩⟩⟩⟩⟩⟩⟩) rfl ?_
              refine xremF tn_X6_at dX6_at_95 (by decide) ?_
              refine xs tn_X6_at [(96, .iadd, 1)] (st' := (97, [(4, .int v9), (3, .int v4), (0, .ref 18), (1, .int x1), (2, .int x2)], [.int ((((nI 32) * v9) + (nI 4)) + (x2 - x2 / (nI 24) * (nI 24))), .ref 19], wd d (wm s1 rest), 0, 0)) (List.forall_mem_cons.mpr ⟨dX6_at_96, fun _ h => absurd h List.not_mem_nil⟩) rfl ?_
              refine xldF tn_X6_at dX6_at_97 at_19 h (fun v13 h => ?_)
              refine xs tn_X6_at [(98, .goto 5, 3)] (st' := (103, [(4, .int v9), (3, .int v4), (0, .ref 18), (1, .int x1), (2, .int x2)], [.int v13], wd d (wm s1 rest), 0, 0)) (List.forall_mem_cons.mpr ⟨dX6_at_98, fun _ h => absurd h List.not_mem_nil⟩) rfl ?_
              cases h
              exact xret tn_X6_at rfl dX6_at_103
          · refine xs tn_X6_at [(54, .aload_n 0, 1), (55, .iconst 1, 1)] (st' := (56, [(3, .int v4), (0, .ref 18), (1, .int x1), (2, .int x2)], [.int (nI 1), .ref 18], wd d (wm s1 rest), 0, 0)) (List.forall_mem_cons.mpr ⟨dX6_at_54, List.forall_mem_cons.mpr ⟨dX6_at_55, fun _ h => absurd h List.not_mem_nil⟩⟩) rfl ?_
            refine xput_b0 tn_X6_at dX6_at_56 rfl h (fun s14 h => ?_)
            refine xs tn_X6_at [(59, .iconst 0, 1)] (st' := (60, [(3, .int v4), (0, .ref 18), (1, .int x1), (2, .int x2)], [.int (nI 0)], wd d (wm s14 rest), 0, 0)) (List.forall_mem_cons.mpr ⟨dX6_at_59, fun _ h => absurd h List.not_mem_nil⟩) rfl ?_
            cases h
            exact xret tn_X6_at rfl dX6_at_60
      · refine xs tn_X6_at [(38, .bipush (-3), 2)] (st' := (40, [(3, .int v4), (0, .ref 18), (1, .int x1), (2, .int x2)], [.int (-nI 3)], wd d (wm s1 rest), 0, 0)) (List.forall_mem_cons.mpr ⟨dX6_at_38, fun _ h => absurd h List.not_mem_nil⟩) rfl ?_
        cases h
        exact xret tn_X6_at rfl dX6_at_40
  · refine xs tn_X6_at [(13, .bipush (-2), 2)] (st' := (15, [(0, .ref 18), (1, .int x1), (2, .int x2)], [.int (-nI 2)], wd d (wm s1 rest), 0, 0)) (List.forall_mem_cons.mpr ⟨dX6_at_13, fun _ h => absurd h List.not_mem_nil⟩) rfl ?_
    cases h
    exact xret tn_X6_at rfl dX6_at_15
def F_X6_row_60 (N : Nat) (s : St) (x1 : Int32) (x2 : Int32) (x3 : Int32) : Option (Int32 × St) := bif decide (x2 = nI 0) then (ldA (gA s 0) 1920 (((nI 32) * x3) + (nI 1)) fun v2 => some (v2, s)) else (bif decide (x2 = nI 1) then ((F_X6_sizeAt s x3).bind fun v4 => some (v4, s)) else (bif decide (x2 = nI 2) then (some (x3, s)) else (bif decide (x2 = nI 3) then ((F_X6_symbolOf N s x1 (nI 0)).bind fun v8 => some (v8, s)) else (bif decide (x2 = nI 4) then ((F_X6_symbolOf N s x1 (nI 1)).bind fun v11 => some (v11, s)) else (bif decide (x2 = nI 5) then ((F_X6_blocksAt s x3).bind fun v14 => some (v14, s)) else (bif decide (x2 = nI 6) then ((F_X6_missingAt N s x3).bind fun v17 => some (v17, s)) else ((F_X6_blocksAt s x3).bind fun v19 => bif mx_cnd .ge (x2 - (nI 10)) v19 then (some (-nI 1, s)) else ((F_X6_blockAt s x3 (x2 - (nI 10))).bind fun v21 => some (v21, s)))))))))
set_option maxRecDepth 100000 in
set_option maxHeartbeats 4000000 in
theorem w_X6_row_60 {d : St} {rest : mx_W} {N : Nat} {s : St} {x1 : Int32} {x2 : Int32} {x3 : Int32} {r : Int32} {t : St} (h : F_X6_row_60 N s x1 x2 x3 = some (r, t)) : X 128 (60, [(0, .ref 18), (1, .int x1), (2, .int x2), (3, .int x3)], [], wd d (wm s rest), 0, 0) (some (.int r), wd d (wm t rest), 0, 0) := by
  unfold F_X6_row_60 at h
  refine xs tn_X6_row [(60, .iload_n 2, 1)] (st' := (61, [(0, .ref 18), (1, .int x1), (2, .int x2), (3, .int x3)], [.int x2], wd d (wm s rest), 0, 0)) (List.forall_mem_cons.mpr ⟨dX6_row_60, fun _ h => absurd h List.not_mem_nil⟩) rfl ?_
  rcases osw h with ⟨c1, h⟩ | ⟨c1, h⟩
  · refine xtabI (t := 104) (v := 0) (off := 43) tn_X6_row dX6_row_61 ((congrArg Int32.toInt c1).trans (by decide)) (by decide) (by decide) rfl (by decide) ?_
    refine xs tn_X6_row [(104, .aload_n 0, 1), (105, .getfield 7, 3), (108, .bipush 32, 2), (110, .iload_n 3, 1), (111, .imul, 1), (112, .iconst 1, 1), (113, .iadd, 1)] (st' := (114, [(0, .ref 18), (1, .int x1), (2, .int x2), (3, .int x3)], [.int (((nI 32) * x3) + (nI 1)), .ref 19], wd d (wm s rest), 0, 0)) (List.forall_mem_cons.mpr ⟨dX6_row_104, List.forall_mem_cons.mpr ⟨dX6_row_105, List.forall_mem_cons.mpr ⟨dX6_row_108, List.forall_mem_cons.mpr ⟨dX6_row_110, List.forall_mem_cons.mpr ⟨dX6_row_111, List.forall_mem_cons.mpr ⟨dX6_row_112, List.forall_mem_cons.mpr ⟨dX6_row_113, fun _ h => absurd h List.not_mem_nil⟩⟩⟩⟩⟩⟩⟩) rfl ?_
    refine xldF tn_X6_row dX6_row_114 at_19 h (fun v2 h => ?_)
    cases h
    exact xret tn_X6_row rfl dX6_row_115
  rcases osw h with ⟨c3, h⟩ | ⟨c3, h⟩
  · refine xtabI (t := 116) (v := 1) (off := 55) tn_X6_row dX6_row_61 ((congrArg Int32.toInt c3).trans (by decide)) (by decide) (by decide) rfl (by decide) ?_
    refine xs tn_X6_row [(116, .aload_n 0, 1), (117, .iload_n 3, 1)] (st' := (118, [(0, .ref 18), (1, .int x1), (2, .int x2), (3, .int x3)], [.int x3, .ref 18], wd d (wm s rest), 0, 0)) (List.forall_mem_cons.mpr ⟨dX6_row_116, List.forall_mem_cons.mpr ⟨dX6_row_117, fun _ h => absurd h List.not_mem_nil⟩⟩) rfl ?_
    obtain ⟨v4, h5, h⟩ := obind h
    refine xcall tn_X6_row dX6_row_118 rfl rfl (w_X6_sizeAt h5) ?_
    show X 128 (121, [(0, .ref 18), (1, .int x1), (2, .int x2), (3, .int x3)], [.int v4], wd d (wm s rest), 0, 0) _
    cases h
    exact xret tn_X6_row rfl dX6_row_121
  rcases osw h with ⟨c6, h⟩ | ⟨c6, h⟩
  · refine xtabI (t := 122) (v := 2) (off := 61) tn_X6_row dX6_row_61 ((congrArg Int32.toInt c6).trans (by decide)) (by decide) (by decide) rfl (by decide) ?_
    refine xs tn_X6_row [(122, .iload_n 3, 1)] (st' := (123, [(0, .ref 18), (1, .int x1), (2, .int x2), (3, .int x3)], [.int x3], wd d (wm s rest), 0, 0)) (List.forall_mem_cons.mpr ⟨dX6_row_122, fun _ h => absurd h List.not_mem_nil⟩) rfl ?_
    cases h
    exact xret tn_X6_row rfl dX6_row_123
  rcases osw h with ⟨c7, h⟩ | ⟨c7, h⟩
  · refine xtabI (t := 124) (v := 3) (off := 63) tn_X6_row dX6_row_61 ((congrArg Int32.toInt c7).trans (by decide)) (by decide) (by decide) rfl (by decide) ?_
    refine xs tn_X6_row [(124, .aload_n 0, 1), (125, .iload_n 1, 1), (126, .iconst 0, 1)] (st' := (127, [(0, .ref 18), (1, .int x1), (2, .int x2), (3, .int x3)], [.int (nI 0), .int x1, .ref 18], wd d (wm s rest), 0, 0)) (List.forall_mem_cons.mpr ⟨dX6_row_124, List.forall_mem_cons.mpr ⟨dX6_row_125, List.forall_mem_cons.mpr ⟨dX6_row_126, fun _ h => absurd h List.not_mem_nil⟩⟩⟩) rfl ?_
    obtain ⟨v8, h9, h⟩ := obind h
    refine xcall tn_X6_row dX6_row_127 rfl rfl (w_X6_symbolOf h9) ?_
    show X 128 (130, [(0, .ref 18), (1, .int x1), (2, .int x2), (3, .int x3)], [.int v8], wd d (wm s rest), 0, 0) _
    cases h
    exact xret tn_X6_row rfl dX6_row_130
  rcases osw h with ⟨c10, h⟩ | ⟨c10, h⟩
  · refine xtabI (t := 131) (v := 4) (off := 70) tn_X6_row dX6_row_61 ((congrArg Int32.toInt c10).trans (by decide)) (by decide) (by decide) rfl (by decide) ?_
    refine xs tn_X6_row [(131, .aload_n 0, 1), (132, .iload_n 1, 1), (133, .iconst 1, 1)] (st' := (134, [(0, .ref 18), (1, .int x1), (2, .int x2), (3, .int x3)], [.int (nI 1), .int x1, .ref 18], wd d (wm s rest), 0, 0)) (List.forall_mem_cons.mpr ⟨dX6_row_131, List.forall_mem_cons.mpr ⟨dX6_row_132, List.forall_mem_cons.mpr ⟨dX6_row_133, fun _ h => absurd h List.not_mem_nil⟩⟩⟩) rfl ?_
    obtain ⟨v11, h12, h⟩ := obind h
    refine xcall tn_X6_row dX6_row_134 rfl rfl (w_X6_symbolOf h12) ?_
    show X 128 (137, [(0, .ref 18), (1, .int x1), (2, .int x2), (3, .int x3)], [.int v11], wd d (wm s rest), 0, 0) _
    cases h
    exact xret tn_X6_row rfl dX6_row_137
  rcases osw h with ⟨c13, h⟩ | ⟨c13, h⟩
  · refine xtabI (t := 138) (v := 5) (off := 77) tn_X6_row dX6_row_61 ((congrArg Int32.toInt c13).trans (by decide)) (by decide) (by decide) rfl (by decide) ?_
    refine xs tn_X6_row [(138, .aload_n 0, 1), (139, .iload_n 3, 1)] (st' := (140, [(0, .ref 18), (1, .int x1), (2, .int x2), (3, .int x3)], [.int x3, .ref 18], wd d (wm s rest), 0, 0)) (List.forall_mem_cons.mpr ⟨dX6_row_138, List.forall_mem_cons.mpr ⟨dX6_row_139, fun _ h => absurd h List.not_mem_nil⟩⟩) rfl ?_
    obtain ⟨v14, h15, h⟩ := obind h
    refine xcall tn_X6_row dX6_row_140 rfl rfl (w_X6_blocksAt h15) ?_
    show X 128 (143, [(0, .ref 18), (1, .int x1), (2, .int x2), (3, .int x3)], [.int v14], wd d (wm s rest), 0, 0) _
    cases h
    exact xret tn_X6_row rfl dX6_row_143
  rcases osw h with ⟨c16, h⟩ | ⟨c16, h⟩
  · refine xtabI (t := 144) (v := 6) (off := 83) tn_X6_row dX6_row_61 ((congrArg Int32.toInt c16).trans (by decide)) (by decide) (by decide) rfl (by decide) ?_
    refine xs tn_X6_row [(144, .aload_n 0, 1), (145, .iload_n 3, 1)] (st' := (146, [(0, .ref 18), (1, .int x1), (2, .int x2), (3, .int x3)], [.int x3, .ref 18], wd d (wm s rest), 0, 0)) (List.forall_mem_cons.mpr ⟨dX6_row_144, List.forall_mem_cons.mpr ⟨dX6_row_145, fun _ h => absurd h List.not_mem_nil⟩⟩) rfl ?_
    obtain ⟨v17, h18, h⟩ := obind h
    refine xcall tn_X6_row dX6_row_146 rfl rfl (w_X6_missingAt h18) ?_
    show X 128 (149, [(0, .ref 18), (1, .int x1), (2, .int x2), (3, .int x3)], [.int v17], wd d (wm s rest), 0, 0) _
    cases h
    exact xret tn_X6_row rfl dX6_row_149
  have c1 := sw_ne (i := 0) (by decide) c1
  have c3 := sw_ne (i := 1) (by decide) c3
  have c6 := sw_ne (i := 2) (by decide) c6
  have c7 := sw_ne (i := 3) (by decide) c7
  have c10 := sw_ne (i := 4) (by decide) c10
  have c13 := sw_ne (i := 5) (by decide) c13
  have c16 := sw_ne (i := 6) (by decide) c16
  refine xtabO (t := 150) tn_X6_row dX6_row_61 (by omega) (by decide) ?_
  refine xs tn_X6_row [(150, .iload_n 2, 1), (151, .bipush 10, 2), (153, .isub, 1), (154, .aload_n 0, 1), (155, .iload_n 3, 1)] (st' := (156, [(0, .ref 18), (1, .int x1), (2, .int x2), (3, .int x3)], [.int x3, .ref 18, .int (x2 - (nI 10))], wd d (wm s rest), 0, 0)) (List.forall_mem_cons.mpr ⟨dX6_row_150, List.forall_mem_cons.mpr ⟨dX6_row_151, List.forall_mem_cons.mpr ⟨dX6_row_153, List.forall_mem_cons.mpr ⟨dX6_row_154, List.forall_mem_cons.mpr ⟨dX6_row_155, fun _ h => absurd h List.not_mem_nil⟩⟩⟩⟩⟩) rfl ?_
  obtain ⟨v19, h20, h⟩ := obind h
  refine xcall tn_X6_row dX6_row_156 rfl rfl (w_X6_blocksAt h20) ?_
  show X 128 (159, [(0, .ref 18), (1, .int x1), (2, .int x2), (3, .int x3)], [.int v19, .int (x2 - (nI 10))], wd d (wm s rest), 0, 0) _
  refine xcmpF (t := 174) tn_X6_row dX6_row_159 (by decide) h (fun h => ?_) (fun h => ?_)
  · refine xs tn_X6_row [(174, .iconst (-1), 1)] (st' := (175, [(0, .ref 18), (1, .int x1), (2, .int x2), (3, .int x3)], [.int (-nI 1)], wd d (wm s rest), 0, 0)) (List.forall_mem_cons.mpr ⟨dX6_row_174, fun _ h => absurd h List.not_mem_nil⟩) rfl ?_
    cases h
    exact xret tn_X6_row rfl dX6_row_175
  · refine xs tn_X6_row [(162, .aload_n 0, 1), (163, .iload_n 3, 1), (164, .iload_n 2, 1), (165, .bipush 10, 2), (167, .isub, 1)] (st' := (168, [(0, .ref 18), (1, .int x1), (2, .int x2), (3, .int x3)], [.int (x2 - (nI 10)), .int x3, .ref 18], wd d (wm s rest), 0, 0)) (List.forall_mem_cons.mpr ⟨dX6_row_162, List.forall_mem_cons.mpr ⟨dX6_row_163, List.forall_mem_cons.mpr ⟨dX6_row_164, List.forall_mem_cons.mpr ⟨dX6_row_165, List.forall_mem_cons.mpr ⟨dX6_row_167, fun _ h => absurd h List.not_mem_nil⟩⟩⟩⟩⟩) rfl ?_
    obtain ⟨v21, h22, h⟩ := obind h
    refine xcall tn_X6_row dX6_row_168 rfl rfl (w_X6_blockAt h22) ?_
    show X 128 (171, [(0, .ref 18), (1, .int x1), (2, .int x2), (3, .int x3)], [.int v21], wd d (wm s rest), 0, 0) _
    refine xs tn_X6_row [(171, .goto 4, 3)] (st' := (175, [(0, .ref 18), (1, .int x1), (2, .int x2), (3, .int x3)], [.int v21], wd d (wm s rest), 0, 0)) (List.forall_mem_cons.mpr ⟨dX6_row_171, fun _ h => absurd h List.not_mem_nil⟩) rfl ?_
    cases h
    exact xret tn_X6_row rfl dX6_row_175
def F_X6_row_37 (N : Nat) (s : St) (x1 : Int32) (x2 : Int32) : Option (Int32 × St) := bif mx_cnd .ne (gI s 1) 0 then ((F_X6_sectorOf N s x1).bind fun v1 => bif mx_cnd .ne v1 (-nI 1) then (F_X6_row_60 N s x1 x2 v1) else (some (-nI 1, s))) else (some (-nI 3, s))
set_option maxRecDepth 100000 in
set_option maxHeartbeats 4000000 in
theorem w_X6_row_37 {d : St} {rest : mx_W} {N : Nat} {s : St} {x1 : Int32} {x2 : Int32} {r : Int32} {t : St} (h : F_X6_row_37 N s x1 x2 = some (r, t)) : X 128 (37, [(0, .ref 18), (1, .int x1), (2, .int x2)], [], wd d (wm s rest), 0, 0) (some (.int r), wd d (wm t rest), 0, 0) := by
  unfold F_X6_row_37 at h
  refine xs tn_X6_row [(37, .aload_n 0, 1), (38, .getfield 17, 3)] (st' := (41, [(0, .ref 18), (1, .int x1), (2, .int x2)], [.int (gI s 1)], wd d (wm s rest), 0, 0)) (List.forall_mem_cons.mpr ⟨dX6_row_37, List.forall_mem_cons.mpr ⟨dX6_row_38, fun _ h => absurd h List.not_mem_nil⟩⟩) rfl ?_
  refine xifF (t := 47) tn_X6_row dX6_row_41 (by decide) h (fun h => ?_) (fun h => ?_)
  · refine xs tn_X6_row [(47, .aload_n 0, 1), (48, .iload_n 1, 1)] (st' := (49, [(0, .ref 18), (1, .int x1), (2, .int x2)], [.int x1, .ref 18], wd d (wm s rest), 0, 0)) (List.forall_mem_cons.mpr ⟨dX6_row_47, List.forall_mem_cons.mpr ⟨dX6_row_48, fun _ h => absurd h List.not_mem_nil⟩⟩) rfl ?_
    obtain ⟨v1, h2, h⟩ := obind h
    refine xcall tn_X6_row dX6_row_49 rfl rfl (w_X6_sectorOf h2) ?_
    show X 128 (52, [(0, .ref 18), (1, .int x1), (2, .int x2)], [.int v1], wd d (wm s rest), 0, 0) _
    refine xs tn_X6_row [(52, .istore_n 3, 1), (53, .iload_n 3, 1), (54, .iconst (-1), 1)] (st' := (55, [(3, .int v1), (0, .ref 18), (1, .int x1), (2, .int x2)], [.int (-nI 1), .int v1], wd d (wm s rest), 0, 0)) (List.forall_mem_cons.mpr ⟨dX6_row_52, List.forall_mem_cons.mpr ⟨dX6_row_53, List.forall_mem_cons.mpr ⟨dX6_row_54, fun _ h => absurd h List.not_mem_nil⟩⟩⟩) rfl ?_
    refine xcmpF (t := 60) tn_X6_row dX6_row_55 (by decide) h (fun h => ?_) (fun h => ?_)
    · refine xwk [0, 1, 2, 3] rfl rfl ?_
      exact w_X6_row_60 h
    · refine xs tn_X6_row [(58, .iconst (-1), 1)] (st' := (59, [(3, .int v1), (0, .ref 18), (1, .int x1), (2, .int x2)], [.int (-nI 1)], wd d (wm s rest), 0, 0)) (List.forall_mem_cons.mpr ⟨dX6_row_58, fun _ h => absurd h List.not_mem_nil⟩) rfl ?_
      cases h
      exact xret tn_X6_row rfl dX6_row_59
  · refine xs tn_X6_row [(44, .bipush (-3), 2)] (st' := (46, [(0, .ref 18), (1, .int x1), (2, .int x2)], [.int (-nI 3)], wd d (wm s rest), 0, 0)) (List.forall_mem_cons.mpr ⟨dX6_row_44, fun _ h => absurd h List.not_mem_nil⟩) rfl ?_
    cases h
    exact xret tn_X6_row rfl dX6_row_46
def F_X6_row (N : Nat) (s : St) (x1 : Int32) (x2 : Int32) : Option (Int32 × St) := bnd (sI s 0 (nI 0)) fun s1 => (F_X6_isRow s1 x1).bind fun v2 => bif mx_cnd .eq v2 0 then (some (-nI 2, s1)) else ((F_X6_in x2 (nI 0) (nI 6)).bind fun v4 => bif mx_cnd .ne v4 0 then (F_X6_row_37 N s1 x1 x2) else ((F_X6_in x2 (nI 10) (nI 13)).bind fun v6 => bif mx_cnd .ne v6 0 then (F_X6_row_37 N s1 x1 x2) else (some (-nI 2, s1))))
set_option maxRecDepth 100000 in
set_option maxHeartbeats 4000000 in
theorem w_X6_row {d : St} {rest : mx_W} {N : Nat} {s : St} {x1 : Int32} {x2 : Int32} {r : Int32} {t : St} (h : F_X6_row N s x1 x2 = some (r, t)) : X 128 (0, [(0, .ref 18), (1, .int x1), (2, .int x2)], [], wd d (wm s rest), 0, 0) (some (.int r), wd d (wm t rest), 0, 0) := by
  unfold F_X6_row at h
  refine xs tn_X6_row [(0, .aload_n 0, 1), (1, .iconst 0, 1)] (st' := (2, [(0, .ref 18), (1, .int x1), (2, .int x2)], [.int (nI 0), .ref 18], wd d (wm s rest), 0, 0)) (List.forall_mem_cons.mpr ⟨dX6_row_0, List.forall_mem_cons.mpr ⟨dX6_row_1, fun _ h => absurd h List.not_mem_nil⟩⟩) rfl ?_
  refine xput_b0 tn_X6_row dX6_row_2 rfl h (fun s1 h => ?_)
  refine xs tn_X6_row [(5, .aload_n 0, 1), (6, .iload_n 1, 1)] (st' := (7, [(0, .ref 18), (1, .int x1), (2, .int x2)], [.int x1, .ref 18], wd d (wm s1 rest), 0, 0)) (List.forall_mem_cons.mpr ⟨dX6_row_5, List.forall_mem_cons.mpr ⟨dX6_row_6, fun _ h => absurd h List.not_mem_nil⟩⟩) rfl ?_
  obtain ⟨v2, h3, h⟩ := obind h
  refine xcall tn_X6_row dX6_row_7 rfl rfl (w_X6_isRow h3) ?_
  show X 128 (10, [(0, .ref 18), (1, .int x1), (2, .int x2)], [.int v2], wd d (wm s1 rest), 0, 0) _
  refine xifF (t := 34) tn_X6_row dX6_row_10 (by decide) h (fun h => ?_) (fun h => ?_)
  · refine xs tn_X6_row [(34, .bipush (-2), 2)] (st' := (36, [(0, .ref 18), (1, .int x1), (2, .int x2)], [.int (-nI 2)], wd d (wm s1 rest), 0, 0)) (List.forall_mem_cons.mpr ⟨dX6_row_34, fun _ h => absurd h List.not_mem_nil⟩) rfl ?_
    cases h
    exact xret tn_X6_row rfl dX6_row_36
  · refine xs tn_X6_row [(13, .iload_n 2, 1), (14, .iconst 0, 1), (15, .bipush 6, 2)] (st' := (17, [(0, .ref 18), (1, .int x1), (2, .int x2)], [.int (nI 6), .int (nI 0), .int x2], wd d (wm s1 rest), 0, 0)) (List.forall_mem_cons.mpr ⟨dX6_row_13, List.forall_mem_cons.mpr ⟨dX6_row_14, List.forall_mem_cons.mpr ⟨dX6_row_15, fun _ h => absurd h List.not_mem_nil⟩⟩⟩) rfl ?_
    obtain ⟨v4, h5, h⟩ := obind h
    refine xcall tn_X6_row dX6_row_17 rfl rfl (w_X6_in h5) ?_
    show X 128 (20, [(0, .ref 18), (1, .int x1), (2, .int x2)], [.int v4], wd d (wm s1 rest), 0, 0) _
    refine xifF (t := 37) tn_X6_row dX6_row_20 (by decide) h (fun h => ?_) (fun h => ?_)
    · refine xwk [0, 1, 2] rfl rfl ?_
      exact w_X6_row_37 h
    · refine xs tn_X6_row [(23, .iload_n 2, 1), (24, .bipush 10, 2), (26, .bipush 13, 2)] (st' := (28, [(0, .ref 18), (1, .int x1), (2, .int x2)], [.int (nI 13), .int (nI 10), .int x2], wd d (wm s1 rest), 0, 0)) (List.forall_mem_cons.mpr ⟨dX6_row_23, List.forall_mem_cons.mpr ⟨dX6_row_24, List.forall_mem_cons.mpr ⟨dX6_row_26, fun _ h => absurd h List.not_mem_nil⟩⟩⟩) rfl ?_
      obtain ⟨v6, h7, h⟩ := obind h
      refine xcall tn_X6_row dX6_row_28 rfl rfl (w_X6_in h7) ?_
      show X 128 (31, [(0, .ref 18), (1, .int x1), (2, .int x2)], [.int v6], wd d (wm s1 rest), 0, 0) _
      refine xifF (t := 37) tn_X6_row dX6_row_31 (by decide) h (fun h => ?_) (fun h => ?_)
      · refine xwk [0, 1, 2] rfl rfl ?_
        exact w_X6_row_37 h
      · refine xs tn_X6_row [(34, .bipush (-2), 2)] (st' := (36, [(0, .ref 18), (1, .int x1), (2, .int x2)], [.int (-nI 2)], wd d (wm s1 rest), 0, 0)) (List.forall_mem_cons.mpr ⟨dX6_row_34, fun _ h => absurd h List.not_mem_nil⟩) rfl ?_
        cases h
        exact xret tn_X6_row rfl dX6_row_36
def F_X6_isSector (s : St) (x1 : Int32) : Option (Int32) := (F_X6_in x1 (nI 0) ((nI (gN s)) - (nI 1))).bind fun v1 => rz v1 (some v1)
set_option maxRecDepth 100000 in
set_option maxHeartbeats 4000000 in
theorem w_X6_isSector {d : St} {rest : mx_W} {s : St} {x1 : Int32} {r : Int32} (h : F_X6_isSector s x1 = some r) : X 61 (0, [(0, .ref 18), (1, .int x1)], [], wd d (wm s rest), 0, 0) (some (.int r), wd d (wm s rest), 0, 0) := by
  unfold F_X6_isSector at h
  refine xs tn_X6_isSector [(0, .iload_n 1, 1), (1, .iconst 0, 1), (2, .aload_n 0, 1), (3, .getfield 67, 3), (6, .iconst 1, 1), (7, .isub, 1)] (st' := (8, [(0, .ref 18), (1, .int x1)], [.int ((nI (gN s)) - (nI 1)), .int (nI 0), .int x1], wd d (wm s rest), 0, 0)) (List.forall_mem_cons.mpr ⟨dX6_isSector_0, List.forall_mem_cons.mpr ⟨dX6_isSector_1, List.forall_mem_cons.mpr ⟨dX6_isSector_2, List.forall_mem_cons.mpr ⟨dX6_isSector_3, List.forall_mem_cons.mpr ⟨dX6_isSector_6, List.forall_mem_cons.mpr ⟨dX6_isSector_7, fun _ h => absurd h List.not_mem_nil⟩⟩⟩⟩⟩⟩) rfl ?_
  obtain ⟨v1, h2, h⟩ := obind h
  refine xcall tn_X6_isSector dX6_isSector_8 rfl rfl (w_X6_in h2) ?_
  show X 61 (11, [(0, .ref 18), (1, .int x1)], [.int v1], wd d (wm s rest), 0, 0) _
  obtain ⟨hz, h⟩ := orz h
  cases h
  exact xretz tn_X6_isSector rfl hz dX6_isSector_11
def F_X6_lose (s : St) (x1 : Int32) : Option (Int32 × St) := bnd (sI s 0 (nI 0)) fun s1 => (F_X6_isSector s1 x1).bind fun v2 => bif mx_cnd .ne v2 0 then (ldA (gA s1 1) 60 x1 fun v4 => bif mx_cnd .eq v4 0 then (stA s1 1 60 x1 (vp_nar .boolean (nI 1)) fun s5 => some (nI 1, s5)) else (stA s1 1 60 x1 (vp_nar .boolean (nI 1)) fun s6 => some (nI 0, s6))) else (some (-nI 2, s1))
set_option maxRecDepth 100000 in
set_option maxHeartbeats 4000000 in
theorem w_X6_lose {d : St} {rest : mx_W} {s : St} {x1 : Int32} {r : Int32} {t : St} (h : F_X6_lose s x1 = some (r, t)) : X 85 (0, [(0, .ref 18), (1, .int x1)], [], wd d (wm s rest), 0, 0) (some (.int r), wd d (wm t rest), 0, 0) := by
  unfold F_X6_lose at h
  refine xs tn_X6_lose [(0, .aload_n 0, 1), (1, .iconst 0, 1)] (st' := (2, [(0, .ref 18), (1, .int x1)], [.int (nI 0), .ref 18], wd d (wm s rest), 0, 0)) (List.forall_mem_cons.mpr ⟨dX6_lose_0, List.forall_mem_cons.mpr ⟨dX6_lose_1, fun _ h => absurd h List.not_mem_nil⟩⟩) rfl ?_
  refine xput_b0 tn_X6_lose dX6_lose_2 rfl h (fun s1 h => ?_)
  refine xs tn_X6_lose [(5, .aload_n 0, 1), (6, .iload_n 1, 1)] (st' := (7, [(0, .ref 18), (1, .int x1)], [.int x1, .ref 18], wd d (wm s1 rest), 0, 0)) (List.forall_mem_cons.mpr ⟨dX6_lose_5, List.forall_mem_cons.mpr ⟨dX6_lose_6, fun _ h => absurd h List.not_mem_nil⟩⟩) rfl ?_
  obtain ⟨v2, h3, h⟩ := obind h
  refine xcall tn_X6_lose dX6_lose_7 rfl rfl (w_X6_isSector h3) ?_
  show X 85 (10, [(0, .ref 18), (1, .int x1)], [.int v2], wd d (wm s1 rest), 0, 0) _
  refine xifF (t := 16) tn_X6_lose dX6_lose_10 (by decide) h (fun h => ?_) (fun h => ?_)
  · refine xs tn_X6_lose [(16, .aload_n 0, 1), (17, .getfield 13, 3), (20, .iload_n 1, 1)] (st' := (21, [(0, .ref 18), (1, .int x1)], [.int x1, .ref 20], wd d (wm s1 rest), 0, 0)) (List.forall_mem_cons.mpr ⟨dX6_lose_16, List.forall_mem_cons.mpr ⟨dX6_lose_17, List.forall_mem_cons.mpr ⟨dX6_lose_20, fun _ h => absurd h List.not_mem_nil⟩⟩⟩) rfl ?_
    refine xzldF tn_X6_lose dX6_lose_21 at_20 h (fun v4 h => ?_)
    refine xifF (t := 29) tn_X6_lose dX6_lose_22 (by decide) h (fun h => ?_) (fun h => ?_)
    · refine xs tn_X6_lose [(29, .iconst 1, 1), (30, .istore_n 2, 1), (31, .aload_n 0, 1), (32, .getfield 13, 3), (35, .iload_n 1, 1), (36, .iconst 1, 1)] (st' := (37, [(2, .int (nI 1)), (0, .ref 18), (1, .int x1)], [.int (nI 1), .int x1, .ref 20], wd d (wm s1 rest), 0, 0)) (List.forall_mem_cons.mpr ⟨dX6_lose_29, List.forall_mem_cons.mpr ⟨dX6_lose_30, List.forall_mem_cons.mpr ⟨dX6_lose_31, List.forall_mem_cons.mpr ⟨dX6_lose_32, List.forall_mem_cons.mpr ⟨dX6_lose_35, List.forall_mem_cons.mpr ⟨dX6_lose_36, fun _ h => absurd h List.not_mem_nil⟩⟩⟩⟩⟩⟩) rfl ?_
      refine xzstF (W := fun s => wd d (wm s rest)) tn_X6_lose dX6_lose_37 at_20 (fun _ => set_20) h (fun s5 h => ?_)
      refine xs tn_X6_lose [(38, .iload_n 2, 1)] (st' := (39, [(2, .int (nI 1)), (0, .ref 18), (1, .int x1)], [.int (nI 1)], wd d (wm s5 rest), 0, 0)) (List.forall_mem_cons.mpr ⟨dX6_lose_38, fun _ h => absurd h List.not_mem_nil⟩) rfl ?_
      cases h
      exact xret tn_X6_lose rfl dX6_lose_39
    · refine xs tn_X6_lose [(25, .iconst 0, 1), (26, .goto 4, 3), (30, .istore_n 2, 1), (31, .aload_n 0, 1), (32, .getfield 13, 3), (35, .iload_n 1, 1), (36, .iconst 1, 1)] (st' := (37, [(2, .int (nI 0)), (0, .ref 18), (1, .int x1)], [.int (nI 1), .int x1, .ref 20], wd d (wm s1 rest), 0, 0)) (List.forall_mem_cons.mpr ⟨dX6_lose_25, List.forall_mem_cons.mpr ⟨dX6_lose_26, List.forall_mem_cons.mpr ⟨dX6_lose_30, List.forall_mem_cons.mpr ⟨dX6_lose_31, List.forall_mem_cons.mpr ⟨dX6_lose_32, List.forall_mem_cons.mpr ⟨dX6_lose_35, List.forall_mem_cons.mpr ⟨dX6_lose_36, fun _ h => absurd h List.not_mem_nil⟩⟩⟩⟩⟩⟩⟩) rfl ?_
      refine xzstF (W := fun s => wd d (wm s rest)) tn_X6_lose dX6_lose_37 at_20 (fun _ => set_20) h (fun s6 h => ?_)
      refine xs tn_X6_lose [(38, .iload_n 2, 1)] (st' := (39, [(2, .int (nI 0)), (0, .ref 18), (1, .int x1)], [.int (nI 0)], wd d (wm s6 rest), 0, 0)) (List.forall_mem_cons.mpr ⟨dX6_lose_38, fun _ h => absurd h List.not_mem_nil⟩) rfl ?_
      cases h
      exact xret tn_X6_lose rfl dX6_lose_39
  · refine xs tn_X6_lose [(13, .bipush (-2), 2)] (st' := (15, [(0, .ref 18), (1, .int x1)], [.int (-nI 2)], wd d (wm s1 rest), 0, 0)) (List.forall_mem_cons.mpr ⟨dX6_lose_13, fun _ h => absurd h List.not_mem_nil⟩) rfl ?_
    cases h
    exact xret tn_X6_lose rfl dX6_lose_15
def F_X6_poke (s : St) (x1 : Int32) (x2 : Int32) (x3 : Int32) : Option (Int32 × St) := bnd (sI s 0 (nI 0)) fun s1 => (F_X6_isSector s1 x1).bind fun v2 => bif mx_cnd .eq v2 0 then (some (-nI 2, s1)) else ((F_X6_in x2 (nI 0) (nI 31)).bind fun v4 => bif mx_cnd .eq v4 0 then (some (-nI 2, s1)) else ((F_X6_in x3 (nI 0) (nI 255)).bind fun v6 => bif mx_cnd .ne v6 0 then (ldA (gA s1 0) 1920 (((nI 32) * x1) + x2) fun v8 => stA s1 0 1920 (((nI 32) * x1) + x2) (v8 ^^^ x3) fun s9 => ldA (gA s9 0) 1920 (((nI 32) * x1) + x2) fun v10 => some (v10, s9)) else (some (-nI 2, s1))))
set_option maxRecDepth 100000 in
set_option maxHeartbeats 4000000 in
theorem w_X6_poke {d : St} {rest : mx_W} {s : St} {x1 : Int32} {x2 : Int32} {x3 : Int32} {r : Int32} {t : St} (h : F_X6_poke s x1 x2 x3 = some (r, t)) : X 87 (0, [(0, .ref 18), (1, .int x1), (2, .int x2), (3, .int x3)], [], wd d (wm s rest), 0, 0) (some (.int r), wd d (wm t rest), 0, 0) := by
  unfold F_X6_poke at h
  refine xs tn_X6_poke [(0, .aload_n 0, 1), (1, .iconst 0, 1)] (st' := (2, [(0, .ref 18), (1, .int x1), (2, .int x2), (3, .int x3)], [.int (nI 0), .ref 18], wd d (wm s rest), 0, 0)) (List.forall_mem_cons.mpr ⟨dX6_poke_0, List.forall_mem_cons.mpr ⟨dX6_poke_1, fun _ h => absurd h List.not_mem_nil⟩⟩) rfl ?_
  refine xput_b0 tn_X6_poke dX6_poke_2 rfl h (fun s1 h => ?_)
  refine xs tn_X6_poke [(5, .aload_n 0, 1), (6, .iload_n 1, 1)] (st' := (7, [(0, .ref 18), (1, .int x1), (2, .int x2), (3, .int x3)], [.int x1, .ref 18], wd d (wm s1 rest), 0, 0)) (List.forall_mem_cons.mpr ⟨dX6_poke_5, List.forall_mem_cons.mpr ⟨dX6_poke_6, fun _ h => absurd h List.not_mem_nil⟩⟩) rfl ?_
  obtain ⟨v2, h3, h⟩ := obind h
  refine xcall tn_X6_poke dX6_poke_7 rfl rfl (w_X6_isSector h3) ?_
  show X 87 (10, [(0, .ref 18), (1, .int x1), (2, .int x2), (3, .int x3)], [.int v2], wd d (wm s1 rest), 0, 0) _
  refine xifF (t := 34) tn_X6_poke dX6_poke_10 (by decide) h (fun h => ?_) (fun h => ?_)
  · refine xs tn_X6_poke [(34, .bipush (-2), 2)] (st' := (36, [(0, .ref 18), (1, .int x1), (2, .int x2), (3, .int x3)], [.int (-nI 2)], wd d (wm s1 rest), 0, 0)) (List.forall_mem_cons.mpr ⟨dX6_poke_34, fun _ h => absurd h List.not_mem_nil⟩) rfl ?_
    cases h
    exact xret tn_X6_poke rfl dX6_poke_36
  · refine xs tn_X6_poke [(13, .iload_n 2, 1), (14, .iconst 0, 1), (15, .bipush 31, 2)] (st' := (17, [(0, .ref 18), (1, .int x1), (2, .int x2), (3, .int x3)], [.int (nI 31), .int (nI 0), .int x2], wd d (wm s1 rest), 0, 0)) (List.forall_mem_cons.mpr ⟨dX6_poke_13, List.forall_mem_cons.mpr ⟨dX6_poke_14, List.forall_mem_cons.mpr ⟨dX6_poke_15, fun _ h => absurd h List.not_mem_nil⟩⟩⟩) rfl ?_
    obtain ⟨v4, h5, h⟩ := obind h
    refine xcall tn_X6_poke dX6_poke_17 rfl rfl (w_X6_in h5) ?_
    show X 87 (20, [(0, .ref 18), (1, .int x1), (2, .int x2), (3, .int x3)], [.int v4], wd d (wm s1 rest), 0, 0) _
    refine xifF (t := 34) tn_X6_poke dX6_poke_20 (by decide) h (fun h => ?_) (fun h => ?_)
    · refine xs tn_X6_poke [(34, .bipush (-2), 2)] (st' := (36, [(0, .ref 18), (1, .int x1), (2, .int x2), (3, .int x3)], [.int (-nI 2)], wd d (wm s1 rest), 0, 0)) (List.forall_mem_cons.mpr ⟨dX6_poke_34, fun _ h => absurd h List.not_mem_nil⟩) rfl ?_
      cases h
      exact xret tn_X6_poke rfl dX6_poke_36
    · refine xs tn_X6_poke [(23, .iload_n 3, 1), (24, .iconst 0, 1), (25, .sipush 255, 3)] (st' := (28, [(0, .ref 18), (1, .int x1), (2, .int x2), (3, .int x3)], [.int (nI 255), .int (nI 0), .int x3], wd d (wm s1 rest), 0, 0)) (List.forall_mem_cons.mpr ⟨dX6_poke_23, List.forall_mem_cons.mpr ⟨dX6_poke_24, List.forall_mem_cons.mpr ⟨dX6_poke_25, fun _ h => absurd h List.not_mem_nil⟩⟩⟩) rfl ?_
      obtain ⟨v6, h7, h⟩ := obind h
      refine xcall tn_X6_poke dX6_poke_28 rfl rfl (w_X6_in h7) ?_
      show X 87 (31, [(0, .ref 18), (1, .int x1), (2, .int x2), (3, .int x3)], [.int v6], wd d (wm s1 rest), 0, 0) _
      refine xifF (t := 37) tn_X6_poke dX6_poke_31 (by decide) h (fun h => ?_) (fun h => ?_)
      · refine xs tn_X6_poke [(37, .aload_n 0, 1), (38, .getfield 7, 3), (41, .bipush 32, 2), (43, .iload_n 1, 1), (44, .imul, 1), (45, .iload_n 2, 1), (46, .iadd, 1), (47, .aload_n 0, 1), (48, .getfield 7, 3), (51, .bipush 32, 2), (53, .iload_n 1, 1), (54, .imul, 1), (55, .iload_n 2, 1), (56, .iadd, 1)] (st' := (57, [(0, .ref 18), (1, .int x1), (2, .int x2), (3, .int x3)], [.int (((nI 32) * x1) + x2), .ref 19, .int (((nI 32) * x1) + x2), .ref 19], wd d (wm s1 rest), 0, 0)) (List.forall_mem_cons.mpr ⟨dX6_poke_37, List.forall_mem_cons.mpr ⟨dX6_poke_38, List.forall_mem_cons.mpr ⟨dX6_poke_41, List.forall_mem_cons.mpr ⟨dX6_poke_43, List.forall_mem_cons.mpr ⟨dX6_poke_44, List.forall_mem_cons.mpr ⟨dX6_poke_45, List.forall_mem_cons.mpr ⟨dX6_poke_46, List.forall_mem_cons.mpr ⟨dX6_poke_47, List.forall_mem_cons.mpr ⟨dX6_poke_48, List.forall_mem_cons.mpr ⟨dX6_poke_51, List.forall_mem_cons.mpr ⟨dX6_poke_53, List.forall_mem_cons.mpr ⟨dX6_poke_54, List.forall_mem_cons.mpr ⟨dX6_poke_55, List.forall_mem_cons.mpr ⟨dX6_poke_56, fun _ h => absurd h List.not_mem_nil⟩⟩⟩⟩⟩⟩⟩⟩⟩⟩⟩⟩⟩⟩) rfl ?_
        refine xldF tn_X6_poke dX6_poke_57 at_19 h (fun v8 h => ?_)
        refine xs tn_X6_poke [(58, .iload_n 3, 1), (59, .ixor, 1)] (st' := (60, [(0, .ref 18), (1, .int x1), (2, .int x2), (3, .int x3)], [.int (v8 ^^^ x3), .int (((nI 32) * x1) + x2), .ref 19], wd d (wm s1 rest), 0, 0)) (List.forall_mem_cons.mpr ⟨dX6_poke_58, List.forall_mem_cons.mpr ⟨dX6_poke_59, fun _ h => absurd h List.not_mem_nil⟩⟩) rfl ?_
        refine xstF (W := fun s => wd d (wm s rest)) tn_X6_poke dX6_poke_60 at_19 (fun _ => set_19) h (fun s9 h => ?_)
        refine xs tn_X6_poke [(61, .aload_n 0, 1), (62, .getfield 7, 3), (65, .bipush 32, 2), (67, .iload_n 1, 1), (68, .imul, 1), (69, .iload_n 2, 1), (70, .iadd, 1)] (st' := (71, [(0, .ref 18), (1, .int x1), (2, .int x2), (3, .int x3)], [.int (((nI 32) * x1) + x2), .ref 19], wd d (wm s9 rest), 0, 0)) (List.forall_mem_cons.mpr ⟨dX6_poke_61, List.forall_mem_cons.mpr ⟨dX6_poke_62, List.forall_mem_cons.mpr ⟨dX6_poke_65, List.forall_mem_cons.mpr ⟨dX6_poke_67, List.forall_mem_cons.mpr ⟨dX6_poke_68, List.forall_mem_cons.mpr ⟨dX6_poke_69, List.forall_mem_cons.mpr ⟨dX6_poke_70, fun _ h => absurd h List.not_mem_nil⟩⟩⟩⟩⟩⟩⟩) rfl ?_
        refine xldF tn_X6_poke dX6_poke_71 at_19 h (fun v10 h => ?_)
        cases h
        exact xret tn_X6_poke rfl dX6_poke_72
      · refine xs tn_X6_poke [(34, .bipush (-2), 2)] (st' := (36, [(0, .ref 18), (1, .int x1), (2, .int x2), (3, .int x3)], [.int (-nI 2)], wd d (wm s1 rest), 0, 0)) (List.forall_mem_cons.mpr ⟨dX6_poke_34, fun _ h => absurd h List.not_mem_nil⟩) rfl ?_
        cases h
        exact xret tn_X6_poke rfl dX6_poke_36
def F_X6_octet (s : St) (x1 : Int32) (x2 : Int32) : Option (Int32 × St) := bnd (sI s 0 (nI 0)) fun s1 => (F_X6_isSector s1 x1).bind fun v2 => bif mx_cnd .eq v2 0 then (some (-nI 2, s1)) else ((F_X6_in x2 (nI 0) (nI 31)).bind fun v4 => bif mx_cnd .eq v4 0 then (some (-nI 2, s1)) else (ldA (gA s1 0) 1920 (((nI 32) * x1) + x2) fun v6 => some (v6, s1)))
set_option maxRecDepth 100000 in
set_option maxHeartbeats 4000000 in
theorem w_X6_octet {d : St} {rest : mx_W} {s : St} {x1 : Int32} {x2 : Int32} {r : Int32} {t : St} (h : F_X6_octet s x1 x2 = some (r, t)) : X 86 (0, [(0, .ref 18), (1, .int x1), (2, .int x2)], [], wd d (wm s rest), 0, 0) (some (.int r), wd d (wm t rest), 0, 0) := by
  unfold F_X6_octet at h
  refine xs tn_X6_octet [(0, .aload_n 0, 1), (1, .iconst 0, 1)] (st' := (2, [(0, .ref 18), (1, .int x1), (2, .int x2)], [.int (nI 0), .ref 18], wd d (wm s rest), 0, 0)) (List.forall_mem_cons.mpr ⟨dX6_octet_0, List.forall_mem_cons.mpr ⟨dX6_octet_1, fun _ h => absurd h List.not_mem_nil⟩⟩) rfl ?_
  refine xput_b0 tn_X6_octet dX6_octet_2 rfl h (fun s1 h => ?_)
  refine xs tn_X6_octet [(5, .aload_n 0, 1), (6, .iload_n 1, 1)] (st' := (7, [(0, .ref 18), (1, .int x1), (2, .int x2)], [.int x1, .ref 18], wd d (wm s1 rest), 0, 0)) (List.forall_mem_cons.mpr ⟨dX6_octet_5, List.forall_mem_cons.mpr ⟨dX6_octet_6, fun _ h => absurd h List.not_mem_nil⟩⟩) rfl ?_
  obtain ⟨v2, h3, h⟩ := obind h
  refine xcall tn_X6_octet dX6_octet_7 rfl rfl (w_X6_isSector h3) ?_
  show X 86 (10, [(0, .ref 18), (1, .int x1), (2, .int x2)], [.int v2], wd d (wm s1 rest), 0, 0) _
  refine xifF (t := 37) tn_X6_octet dX6_octet_10 (by decide) h (fun h => ?_) (fun h => ?_)
  · refine xs tn_X6_octet [(37, .bipush (-2), 2)] (st' := (39, [(0, .ref 18), (1, .int x1), (2, .int x2)], [.int (-nI 2)], wd d (wm s1 rest), 0, 0)) (List.forall_mem_cons.mpr ⟨dX6_octet_37, fun _ h => absurd h List.not_mem_nil⟩) rfl ?_
    cases h
    exact xret tn_X6_octet rfl dX6_octet_39
  · refine xs tn_X6_octet [(13, .iload_n 2, 1), (14, .iconst 0, 1), (15, .bipush 31, 2)] (st' := (17, [(0, .ref 18), (1, .int x1), (2, .int x2)], [.int (nI 31), .int (nI 0), .int x2], wd d (wm s1 rest), 0, 0)) (List.forall_mem_cons.mpr ⟨dX6_octet_13, List.forall_mem_cons.mpr ⟨dX6_octet_14, List.forall_mem_cons.mpr ⟨dX6_octet_15, fun _ h => absurd h List.not_mem_nil⟩⟩⟩) rfl ?_
    obtain ⟨v4, h5, h⟩ := obind h
    refine xcall tn_X6_octet dX6_octet_17 rfl rfl (w_X6_in h5) ?_
    show X 86 (20, [(0, .ref 18), (1, .int x1), (2, .int x2)], [.int v4], wd d (wm s1 rest), 0, 0) _
    refine xifF (t := 37) tn_X6_octet dX6_octet_20 (by decide) h (fun h => ?_) (fun h => ?_)
    · refine xs tn_X6_octet [(37, .bipush (-2), 2)] (st' := (39, [(0, .ref 18), (1, .int x1), (2, .int x2)], [.int (-nI 2)], wd d (wm s1 rest), 0, 0)) (List.forall_mem_cons.mpr ⟨dX6_octet_37, fun _ h => absurd h List.not_mem_nil⟩) rfl ?_
      cases h
      exact xret tn_X6_octet rfl dX6_octet_39
    · refine xs tn_X6_octet [(23, .aload_n 0, 1), (24, .getfield 7, 3), (27, .bipush 32, 2), (29, .iload_n 1, 1), (30, .imul, 1), (31, .iload_n 2, 1), (32, .iadd, 1)] (st' := (33, [(0, .ref 18), (1, .int x1), (2, .int x2)], [.int (((nI 32) * x1) + x2), .ref 19], wd d (wm s1 rest), 0, 0)) (List.forall_mem_cons.mpr ⟨dX6_octet_23, List.forall_mem_cons.mpr ⟨dX6_octet_24, List.forall_mem_cons.mpr ⟨dX6_octet_27, List.forall_mem_cons.mpr ⟨dX6_octet_29, List.forall_mem_cons.mpr ⟨dX6_octet_30, List.forall_mem_cons.mpr ⟨dX6_octet_31, List.forall_mem_cons.mpr ⟨dX6_octet_32, fun _ h => absurd h List.not_mem_nil⟩⟩⟩⟩⟩⟩⟩) rfl ?_
      refine xldF tn_X6_octet dX6_octet_33 at_19 h (fun v6 h => ?_)
      refine xs tn_X6_octet [(34, .goto 5, 3)] (st' := (39, [(0, .ref 18), (1, .int x1), (2, .int x2)], [.int v6], wd d (wm s1 rest), 0, 0)) (List.forall_mem_cons.mpr ⟨dX6_octet_34, fun _ h => absurd h List.not_mem_nil⟩) rfl ?_
      cases h
      exact xret tn_X6_octet rfl dX6_octet_39
def F_X6_whole (N : Nat) (s : St) (x1 : Int32) : Option (Int32 × St) := bnd (sI s 0 (nI 0)) fun s1 => (F_X6_isSector s1 x1).bind fun v2 => bif mx_cnd .eq v2 0 then (some (-nI 2, s1)) else ((F_X6_sortOf N s1 x1).bind fun v4 => some (v4, s1))
set_option maxRecDepth 100000 in
set_option maxHeartbeats 4000000 in
theorem w_X6_whole {d : St} {rest : mx_W} {N : Nat} {s : St} {x1 : Int32} {r : Int32} {t : St} (h : F_X6_whole N s x1 = some (r, t)) : X 91 (0, [(0, .ref 18), (1, .int x1)], [], wd d (wm s rest), 0, 0) (some (.int r), wd d (wm t rest), 0, 0) := by
  unfold F_X6_whole at h
  refine xs tn_X6_whole [(0, .aload_n 0, 1), (1, .iconst 0, 1)] (st' := (2, [(0, .ref 18), (1, .int x1)], [.int (nI 0), .ref 18], wd d (wm s rest), 0, 0)) (List.forall_mem_cons.mpr ⟨dX6_whole_0, List.forall_mem_cons.mpr ⟨dX6_whole_1, fun _ h => absurd h List.not_mem_nil⟩⟩) rfl ?_
  refine xput_b0 tn_X6_whole dX6_whole_2 rfl h (fun s1 h => ?_)
  refine xs tn_X6_whole [(5, .aload_n 0, 1), (6, .iload_n 1, 1)] (st' := (7, [(0, .ref 18), (1, .int x1)], [.int x1, .ref 18], wd d (wm s1 rest), 0, 0)) (List.forall_mem_cons.mpr ⟨dX6_whole_5, List.forall_mem_cons.mpr ⟨dX6_whole_6, fun _ h => absurd h List.not_mem_nil⟩⟩) rfl ?_
  obtain ⟨v2, h3, h⟩ := obind h
  refine xcall tn_X6_whole dX6_whole_7 rfl rfl (w_X6_isSector h3) ?_
  show X 91 (10, [(0, .ref 18), (1, .int x1)], [.int v2], wd d (wm s1 rest), 0, 0) _
  refine xifF (t := 21) tn_X6_whole dX6_whole_10 (by decide) h (fun h => ?_) (fun h => ?_)
  · refine xs tn_X6_whole [(21, .bipush (-2), 2)] (st' := (23, [(0, .ref 18), (1, .int x1)], [.int (-nI 2)], wd d (wm s1 rest), 0, 0)) (List.forall_mem_cons.mpr ⟨dX6_whole_21, fun _ h => absurd h List.not_mem_nil⟩) rfl ?_
    cases h
    exact xret tn_X6_whole rfl dX6_whole_23
  · refine xs tn_X6_whole [(13, .aload_n 0, 1), (14, .iload_n 1, 1)] (st' := (15, [(0, .ref 18), (1, .int x1)], [.int x1, .ref 18], wd d (wm s1 rest), 0, 0)) (List.forall_mem_cons.mpr ⟨dX6_whole_13, List.forall_mem_cons.mpr ⟨dX6_whole_14, fun _ h => absurd h List.not_mem_nil⟩⟩) rfl ?_
    obtain ⟨v4, h5, h⟩ := obind h
    refine xcall tn_X6_whole dX6_whole_15 rfl rfl (w_X6_sortOf h5) ?_
    show X 91 (18, [(0, .ref 18), (1, .int x1)], [.int v4], wd d (wm s1 rest), 0, 0) _
    refine xs tn_X6_whole [(18, .goto 5, 3)] (st' := (23, [(0, .ref 18), (1, .int x1)], [.int v4], wd d (wm s1 rest), 0, 0)) (List.forall_mem_cons.mpr ⟨dX6_whole_18, fun _ h => absurd h List.not_mem_nil⟩) rfl ?_
    cases h
    exact xret tn_X6_whole rfl dX6_whole_23
def F_X6_listed_9 (N : Nat) : Nat → St → Int32 → Int32 → Int32 → Option (Int32 × St)
  | 0, _, _, _, _ => none
  | f + 1, s, x1, x2, x3 => bif mx_cnd .ge x3 (gI s 3) then (some (-nI 1, s)) else (bif mx_cnd .eq (gI s 1) 0 then (some (-nI 1, s)) else ((F_X6_sectorOf N s x3).bind fun v1 => bif mx_cnd .eq v1 (-nI 1) then (bif mx_cnd .ne x2 x1 then (F_X6_listed_9 N f s x1 (x2 + (nI 1)) (x3 + (nI 1))) else (some (x3, s))) else ((F_X6_missingAt N s v1).bind fun v3 => bif mx_cnd .le v3 0 then (F_X6_listed_9 N f s x1 x2 (x3 + (nI 1))) else (bif mx_cnd .ne x2 x1 then (F_X6_listed_9 N f s x1 (x2 + (nI 1)) (x3 + (nI 1))) else (some (x3, s))))))
set_option maxRecDepth 100000 in
set_option maxHeartbeats 4000000 in
theorem w_X6_listed_9 {d : St} {rest : mx_W} {N : Nat} : ∀ (f : Nat) (s : St) (x1 : Int32) (x2 : Int32) (x3 : Int32) (r : Int32) (t : St), F_X6_listed_9 N f s x1 x2 x3 = some (r, t) → X 125 (9, [(0, .ref 18), (1, .int x1), (2, .int x2), (3, .int x3)], [], wd d (wm s rest), 0, 0) (some (.int r), wd d (wm t rest), 0, 0) := by
  intro f
  induction f with
  | zero => intro s x1 x2 x3 r t h; rw [F_X6_listed_9.eq_1] at h; cases h
  | succ f ih =>
    intro s x1 x2 x3 r t h
    rw [F_X6_listed_9.eq_2] at h
    refine xs tn_X6_listed [(9, .iload_n 3, 1), (10, .aload_n 0, 1), (11, .getfield 100, 3)] (st' := (14, [(0, .ref 18), (1, .int x1), (2, .int x2), (3, .int x3)], [.int (gI s 3), .int x3], wd d (wm s rest), 0, 0)) (List.forall_mem_cons.mpr ⟨dX6_listed_9, List.forall_mem_cons.mpr ⟨dX6_listed_10, List.forall_mem_cons.mpr ⟨dX6_listed_11, fun _ h => absurd h List.not_mem_nil⟩⟩⟩) rfl ?_
    refine xcmpF (t := 62) tn_X6_listed dX6_listed_14 (by decide) h (fun h => ?_) (fun h => ?_)
    · refine xs tn_X6_listed [(62, .iconst (-1), 1)] (st' := (63, [(0, .ref 18), (1, .int x1), (2, .int x2), (3, .int x3)], [.int (-nI 1)], wd d (wm s rest), 0, 0)) (List.forall_mem_cons.mpr ⟨dX6_listed_62, fun _ h => absurd h List.not_mem_nil⟩) rfl ?_
      cases h
      exact xret tn_X6_listed rfl dX6_listed_63
    · refine xs tn_X6_listed [(17, .aload_n 0, 1), (18, .getfield 17, 3)] (st' := (21, [(0, .ref 18), (1, .int x1), (2, .int x2), (3, .int x3)], [.int (gI s 1)], wd d (wm s rest), 0, 0)) (List.forall_mem_cons.mpr ⟨dX6_listed_17, List.forall_mem_cons.mpr ⟨dX6_listed_18, fun _ h => absurd h List.not_mem_nil⟩⟩) rfl ?_
      refine xifF (t := 62) tn_X6_listed dX6_listed_21 (by decide) h (fun h => ?_) (fun h => ?_)
      · refine xs tn_X6_listed [(62, .iconst (-1), 1)] (st' := (63, [(0, .ref 18), (1, .int x1), (2, .int x2), (3, .int x3)], [.int (-nI 1)], wd d (wm s rest), 0, 0)) (List.forall_mem_cons.mpr ⟨dX6_listed_62, fun _ h => absurd h List.not_mem_nil⟩) rfl ?_
        cases h
        exact xret tn_X6_listed rfl dX6_listed_63
      · refine xs tn_X6_listed [(24, .aload_n 0, 1), (25, .iload_n 3, 1)] (st' := (26, [(0, .ref 18), (1, .int x1), (2, .int x2), (3, .int x3)], [.int x3, .ref 18], wd d (wm s rest), 0, 0)) (List.forall_mem_cons.mpr ⟨dX6_listed_24, List.forall_mem_cons.mpr ⟨dX6_listed_25, fun _ h => absurd h List.not_mem_nil⟩⟩) rfl ?_
        obtain ⟨v1, h2, h⟩ := obind h
        refine xcall tn_X6_listed dX6_listed_26 rfl rfl (w_X6_sectorOf h2) ?_
        show X 125 (29, [(0, .ref 18), (1, .int x1), (2, .int x2), (3, .int x3)], [.int v1], wd d (wm s rest), 0, 0) _
        refine xs tn_X6_listed [(29, .istore 4, 2), (31, .iload 4, 2), (33, .iconst (-1), 1)] (st' := (34, [(4, .int v1), (0, .ref 18), (1, .int x1), (2, .int x2), (3, .int x3)], [.int (-nI 1), .int v1], wd d (wm s rest), 0, 0)) (List.forall_mem_cons.mpr ⟨dX6_listed_29, List.forall_mem_cons.mpr ⟨dX6_listed_31, List.forall_mem_cons.mpr ⟨dX6_listed_33, fun _ h => absurd h List.not_mem_nil⟩⟩⟩) rfl ?_
        refine xcmpF (t := 46) tn_X6_listed dX6_listed_34 (by decide) h (fun h => ?_) (fun h => ?_)
        · refine xs tn_X6_listed [(46, .iload_n 2, 1), (47, .iload_n 1, 1)] (st' := (48, [(4, .int v1), (0, .ref 18), (1, .int x1), (2, .int x2), (3, .int x3)], [.int x1, .int x2], wd d (wm s rest), 0, 0)) (List.forall_mem_cons.mpr ⟨dX6_listed_46, List.forall_mem_cons.mpr ⟨dX6_listed_47, fun _ h => absurd h List.not_mem_nil⟩⟩) rfl ?_
          refine xcmpF (t := 53) tn_X6_listed dX6_listed_48 (by decide) h (fun h => ?_) (fun h => ?_)
          · refine xs tn_X6_listed [(53, .iinc 2 1, 3), (56, .iinc 3 1, 3), (59, .goto (-50), 3)] (st' := (9, [(4, .int v1), (0, .ref 18), (1, .int x1), (2, .int (x2 + (nI 1))), (3, .int (x3 + (nI 1)))], [], wd d (wm s rest), 0, 0)) (List.forall_mem_cons.mpr ⟨dX6_listed_53, List.forall_mem_cons.mpr ⟨dX6_listed_56, List.forall_mem_cons.mpr ⟨dX6_listed_59, fun _ h => absurd h List.not_mem_nil⟩⟩⟩) rfl ?_
            refine xwk [0, 1, 2, 3] rfl rfl ?_
            exact ih _ _ _ _ _ _ h
          · refine xs tn_X6_listed [(51, .iload_n 3, 1)] (st' := (52, [(4, .int v1), (0, .ref 18), (1, .int x1), (2, .int x2), (3, .int x3)], [.int x3], wd d (wm s rest), 0, 0)) (List.forall_mem_cons.mpr ⟨dX6_listed_51, fun _ h => absurd h List.not_mem_nil⟩) rfl ?_
            cases h
            exact xret tn_X6_listed rfl dX6_listed_52
        · refine xs tn_X6_listed [(37, .aload_n 0, 1), (38, .iload 4, 2)] (st' := (40, [(4, .int v1), (0, .ref 18), (1, .int x1), (2, .int x2), (3, .int x3)], [.int v1, .ref 18], wd d (wm s rest), 0, 0)) (List.forall_mem_cons.mpr ⟨dX6_listed_37, List.forall_mem_cons.mpr ⟨dX6_listed_38, fun _ h => absurd h List.not_mem_nil⟩⟩) rfl ?_
          obtain ⟨v3, h4, h⟩ := obind h
          refine xcall tn_X6_listed dX6_listed_40 rfl rfl (w_X6_missingAt h4) ?_
          show X 125 (43, [(4, .int v1), (0, .ref 18), (1, .int x1), (2, .int x2), (3, .int x3)], [.int v3], wd d (wm s rest), 0, 0) _
          refine xifF (t := 56) tn_X6_listed dX6_listed_43 (by decide) h (fun h => ?_) (fun h => ?_)
          · refine xs tn_X6_listed [(56, .iinc 3 1, 3), (59, .goto (-50), 3)] (st' := (9, [(4, .int v1), (0, .ref 18), (1, .int x1), (2, .int x2), (3, .int (x3 + (nI 1)))], [], wd d (wm s rest), 0, 0)) (List.forall_mem_cons.mpr ⟨dX6_listed_56, List.forall_mem_cons.mpr ⟨dX6_listed_59, fun _ h => absurd h List.not_mem_nil⟩⟩) rfl ?_
            refine xwk [0, 1, 2, 3] rfl rfl ?_
            exact ih _ _ _ _ _ _ h
          · refine xs tn_X6_listed [(46, .iload_n 2, 1), (47, .iload_n 1, 1)] (st' := (48, [(4, .int v1), (0, .ref 18), (1, .int x1), (2, .int x2), (3, .int x3)], [.int x1, .int x2], wd d (wm s rest), 0, 0)) (List.forall_mem_cons.mpr ⟨dX6_listed_46, List.forall_mem_cons.mpr ⟨dX6_listed_47, fun _ h => absurd h List.not_mem_nil⟩⟩) rfl ?_
            refine xcmpF (t := 53) tn_X6_listed dX6_listed_48 (by decide) h (fun h => ?_) (fun h => ?_)
            · refine xs tn_X6_listed [(53, .iinc 2 1, 3), (56, .iinc 3 1, 3), (59, .goto (-50), 3)] (st' := (9, [(4, .int v1), (0, .ref 18), (1, .int x1), (2, .int (x2 + (nI 1))), (3, .int (x3 + (nI 1)))], [], wd d (wm s rest), 0, 0)) (List.forall_mem_cons.mpr ⟨dX6_listed_53, List.forall_mem_cons.mpr ⟨dX6_listed_56, List.forall_mem_cons.mpr ⟨dX6_listed_59, fun _ h => absurd h List.not_mem_nil⟩⟩⟩) rfl ?_
              refine xwk [0, 1, 2, 3] rfl rfl ?_
              exact ih _ _ _ _ _ _ h
            · refine xs tn_X6_listed [(51, .iload_n 3, 1)] (st' := (52, [(4, .int v1), (0, .ref 18), (1, .int x1), (2, .int x2), (3, .int x3)], [.int x3], wd d (wm s rest), 0, 0)) (List.forall_mem_cons.mpr ⟨dX6_listed_51, fun _ h => absurd h List.not_mem_nil⟩) rfl ?_
              cases h
              exact xret tn_X6_listed rfl dX6_listed_52
def F_X6_listed (N : Nat) (s : St) (x1 : Int32) : Option (Int32 × St) := bnd (sI s 0 (nI 0)) fun s1 => F_X6_listed_9 N N s1 x1 (nI 0) (nI 0)
set_option maxRecDepth 100000 in
set_option maxHeartbeats 4000000 in
theorem w_X6_listed {d : St} {rest : mx_W} {N : Nat} {s : St} {x1 : Int32} {r : Int32} {t : St} (h : F_X6_listed N s x1 = some (r, t)) : X 125 (0, [(0, .ref 18), (1, .int x1)], [], wd d (wm s rest), 0, 0) (some (.int r), wd d (wm t rest), 0, 0) := by
  unfold F_X6_listed at h
  refine xs tn_X6_listed [(0, .aload_n 0, 1), (1, .iconst 0, 1)] (st' := (2, [(0, .ref 18), (1, .int x1)], [.int (nI 0), .ref 18], wd d (wm s rest), 0, 0)) (List.forall_mem_cons.mpr ⟨dX6_listed_0, List.forall_mem_cons.mpr ⟨dX6_listed_1, fun _ h => absurd h List.not_mem_nil⟩⟩) rfl ?_
  refine xput_b0 tn_X6_listed dX6_listed_2 rfl h (fun s1 h => ?_)
  refine xs tn_X6_listed [(5, .iconst 0, 1), (6, .istore_n 2, 1), (7, .iconst 0, 1), (8, .istore_n 3, 1)] (st' := (9, [(3, .int (nI 0)), (2, .int (nI 0)), (0, .ref 18), (1, .int x1)], [], wd d (wm s1 rest), 0, 0)) (List.forall_mem_cons.mpr ⟨dX6_listed_5, List.forall_mem_cons.mpr ⟨dX6_listed_6, List.forall_mem_cons.mpr ⟨dX6_listed_7, List.forall_mem_cons.mpr ⟨dX6_listed_8, fun _ h => absurd h List.not_mem_nil⟩⟩⟩⟩) rfl ?_
  refine xwk [0, 1, 2, 3] rfl rfl ?_
  exact w_X6_listed_9 N _ _ _ _ _ _ h
def F_X6_told_124 (N : Nat) : Nat → St → Int32 → Int32 → Option (Int32 × St)
  | 0, _, _, _ => none
  | f + 1, s, x2, x3 => bif mx_cnd .ge x3 (nI (gN s)) then (some (x2, s)) else (ldA (gA s 1) 60 x3 fun v1 => bif mx_cnd .eq v1 0 then (F_X6_told_124 N f s (x2 + (nI 0)) (x3 + (nI 1))) else (F_X6_told_124 N f s (x2 + (nI 1)) (x3 + (nI 1))))
set_option maxRecDepth 100000 in
set_option maxHeartbeats 4000000 in
theorem w_X6_told_124 {d : St} {rest : mx_W} {N : Nat} : ∀ (f : Nat) (s : St) (x2 : Int32) (x3 : Int32) (r : Int32) (t : St), F_X6_told_124 N f s x2 x3 = some (r, t) → X 37 (124, [(0, .ref 18), (2, .int x2), (3, .int x3)], [], wd d (wm s rest), 0, 0) (some (.int r), wd d (wm t rest), 0, 0) := by
  intro f
  induction f with
  | zero => intro s x2 x3 r t h; rw [F_X6_told_124.eq_1] at h; cases h
  | succ f ih =>
    intro s x2 x3 r t h
    rw [F_X6_told_124.eq_2] at h
    refine xs tn_X6_told [(124, .iload_n 3, 1), (125, .aload_n 0, 1), (126, .getfield 67, 3)] (st' := (129, [(0, .ref 18), (2, .int x2), (3, .int x3)], [.int (nI (gN s)), .int x3], wd d (wm s rest), 0, 0)) (List.forall_mem_cons.mpr ⟨dX6_told_124, List.forall_mem_cons.mpr ⟨dX6_told_125, List.forall_mem_cons.mpr ⟨dX6_told_126, fun _ h => absurd h List.not_mem_nil⟩⟩⟩) rfl ?_
    refine xcmpF (t := 155) tn_X6_told dX6_told_129 (by decide) h (fun h => ?_) (fun h => ?_)
    · refine xs tn_X6_told [(155, .iload_n 2, 1)] (st' := (156, [(0, .ref 18), (2, .int x2), (3, .int x3)], [.int x2], wd d (wm s rest), 0, 0)) (List.forall_mem_cons.mpr ⟨dX6_told_155, fun _ h => absurd h List.not_mem_nil⟩) rfl ?_
      cases h
      exact xret tn_X6_told rfl dX6_told_156
    · refine xs tn_X6_told [(132, .iload_n 2, 1), (133, .aload_n 0, 1), (134, .getfield 13, 3), (137, .iload_n 3, 1)] (st' := (138, [(0, .ref 18), (2, .int x2), (3, .int x3)], [.int x3, .ref 20, .int x2], wd d (wm s rest), 0, 0)) (List.forall_mem_cons.mpr ⟨dX6_told_132, List.forall_mem_cons.mpr ⟨dX6_told_133, List.forall_mem_cons.mpr ⟨dX6_told_134, List.forall_mem_cons.mpr ⟨dX6_told_137, fun _ h => absurd h List.not_mem_nil⟩⟩⟩⟩) rfl ?_
      refine xzldF tn_X6_told dX6_told_138 at_20 h (fun v1 h => ?_)
      refine xifF (t := 146) tn_X6_told dX6_told_139 (by decide) h (fun h => ?_) (fun h => ?_)
      · refine xs tn_X6_told [(146, .iconst 0, 1), (147, .iadd, 1), (148, .istore_n 2, 1), (149, .iinc 3 1, 3), (152, .goto (-28), 3)] (st' := (124, [(0, .ref 18), (2, .int (x2 + (nI 0))), (3, .int (x3 + (nI 1)))], [], wd d (wm s rest), 0, 0)) (List.forall_mem_cons.mpr ⟨dX6_told_146, List.forall_mem_cons.mpr ⟨dX6_told_147, List.forall_mem_cons.mpr ⟨dX6_told_148, List.forall_mem_cons.mpr ⟨dX6_told_149, List.forall_mem_cons.mpr ⟨dX6_told_152, fun _ h => absurd h List.not_mem_nil⟩⟩⟩⟩⟩) rfl ?_
        refine xwk [0, 2, 3] rfl rfl ?_
        exact ih _ _ _ _ _ h
      · refine xs tn_X6_told [(142, .iconst 1, 1), (143, .goto 4, 3), (147, .iadd, 1), (148, .istore_n 2, 1), (149, .iinc 3 1, 3), (152, .goto (-28), 3)] (st' := (124, [(0, .ref 18), (2, .int (x2 + (nI 1))), (3, .int (x3 + (nI 1)))], [], wd d (wm s rest), 0, 0)) (List.forall_mem_cons.mpr ⟨dX6_told_142, List.forall_mem_cons.mpr ⟨dX6_told_143, List.forall_mem_cons.mpr ⟨dX6_told_147, List.forall_mem_cons.mpr ⟨dX6_told_148, List.forall_mem_cons.mpr ⟨dX6_told_149, List.forall_mem_cons.mpr ⟨dX6_told_152, fun _ h => absurd h List.not_mem_nil⟩⟩⟩⟩⟩⟩) rfl ?_
        refine xwk [0, 2, 3] rfl rfl ?_
        exact ih _ _ _ _ _ h
def F_X6_told (N : Nat) (s : St) (x1 : Int32) : Option (Int32 × St) := bnd (sI s 0 (nI 0)) fun s1 => bif decide (x1 = nI 0) then (bif mx_cnd .eq (gI s1 1) 0 then (some (nI 0, s1)) else (some (nI 1, s1))) else (bif decide (x1 = nI 1) then (some (gI s1 2, s1)) else (bif decide (x1 = nI 2) then (some (gI s1 3, s1)) else (bif decide (x1 = nI 3) then (some (gI s1 4, s1)) else (bif decide (x1 = nI 4) then (some (gI s1 9, s1)) else (bif decide (x1 = nI 5) then (some (gI s1 5, s1)) else (bif decide (x1 = nI 6) then (some (gI s1 6, s1)) else (bif decide (x1 = nI 7) then (bif mx_cnd .ne (gI s1 7) (-nI 1) then (some (gI s1 8, s1)) else (some (-nI 1, s1))) else (bif decide (x1 = nI 8) then (F_X6_told_124 N N s1 (nI 0) (nI 0)) else (bif decide (x1 = nI 9) then (some (nI (gN s1), s1)) else (some (-nI 2, s1)))))))))))
set_option maxRecDepth 100000 in
set_option maxHeartbeats 4000000 in
theorem w_X6_told {d : St} {rest : mx_W} {N : Nat} {s : St} {x1 : Int32} {r : Int32} {t : St} (h : F_X6_told N s x1 = some (r, t)) : X 37 (0, [(0, .ref 18), (1, .int x1)], [], wd d (wm s rest), 0, 0) (some (.int r), wd d (wm t rest), 0, 0) := by
  unfold F_X6_told at h
  refine xs tn_X6_told [(0, .aload_n 0, 1), (1, .iconst 0, 1)] (st' := (2, [(0, .ref 18), (1, .int x1)], [.int (nI 0), .ref 18], wd d (wm s rest), 0, 0)) (List.forall_mem_cons.mpr ⟨dX6_told_0, List.forall_mem_cons.mpr ⟨dX6_told_1, fun _ h => absurd h List.not_mem_nil⟩⟩) rfl ?_
  refine xput_b0 tn_X6_told dX6_told_2 rfl h (fun s1 h => ?_)
  refine xs tn_X6_told [(5, .iload_n 1, 1)] (st' := (6, [(0, .ref 18), (1, .int x1)], [.int x1], wd d (wm s1 rest), 0, 0)) (List.forall_mem_cons.mpr ⟨dX6_told_5, fun _ h => absurd h List.not_mem_nil⟩) rfl ?_
  rcases osw h with ⟨c2, h⟩ | ⟨c2, h⟩
  · refine xtabI (t := 60) (v := 0) (off := 54) tn_X6_told dX6_told_6 ((congrArg Int32.toInt c2).trans (by decide)) (by decide) (by decide) rfl (by decide) ?_
    refine xs tn_X6_told [(60, .aload_n 0, 1), (61, .getfield 17, 3)] (st' := (64, [(0, .ref 18), (1, .int x1)], [.int (gI s1 1)], wd d (wm s1 rest), 0, 0)) (List.forall_mem_cons.mpr ⟨dX6_told_60, List.forall_mem_cons.mpr ⟨dX6_told_61, fun _ h => absurd h List.not_mem_nil⟩⟩) rfl ?_
    refine xifF (t := 71) tn_X6_told dX6_told_64 (by decide) h (fun h => ?_) (fun h => ?_)
    · refine xs tn_X6_told [(71, .iconst 0, 1)] (st' := (72, [(0, .ref 18), (1, .int x1)], [.int (nI 0)], wd d (wm s1 rest), 0, 0)) (List.forall_mem_cons.mpr ⟨dX6_told_71, fun _ h => absurd h List.not_mem_nil⟩) rfl ?_
      cases h
      exact xret tn_X6_told rfl dX6_told_72
    · refine xs tn_X6_told [(67, .iconst 1, 1), (68, .goto 4, 3)] (st' := (72, [(0, .ref 18), (1, .int x1)], [.int (nI 1)], wd d (wm s1 rest), 0, 0)) (List.forall_mem_cons.mpr ⟨dX6_told_67, List.forall_mem_cons.mpr ⟨dX6_told_68, fun _ h => absurd h List.not_mem_nil⟩⟩) rfl ?_
      cases h
      exact xret tn_X6_told rfl dX6_told_72
  rcases osw h with ⟨c3, h⟩ | ⟨c3, h⟩
  · refine xtabI (t := 73) (v := 1) (off := 67) tn_X6_told dX6_told_6 ((congrArg Int32.toInt c3).trans (by decide)) (by decide) (by decide) rfl (by decide) ?_
    refine xs tn_X6_told [(73, .aload_n 0, 1), (74, .getfield 21, 3)] (st' := (77, [(0, .ref 18), (1, .int x1)], [.int (gI s1 2)], wd d (wm s1 rest), 0, 0)) (List.forall_mem_cons.mpr ⟨dX6_told_73, List.forall_mem_cons.mpr ⟨dX6_told_74, fun _ h => absurd h List.not_mem_nil⟩⟩) rfl ?_
    cases h
    exact xret tn_X6_told rfl dX6_told_77
  rcases osw h with ⟨c4, h⟩ | ⟨c4, h⟩
  · refine xtabI (t := 78) (v := 2) (off := 72) tn_X6_told dX6_told_6 ((congrArg Int32.toInt c4).trans (by decide)) (by decide) (by decide) rfl (by decide) ?_
    refine xs tn_X6_told [(78, .aload_n 0, 1), (79, .getfield 100, 3)] (st' := (82, [(0, .ref 18), (1, .int x1)], [.int (gI s1 3)], wd d (wm s1 rest), 0, 0)) (List.forall_mem_cons.mpr ⟨dX6_told_78, List.forall_mem_cons.mpr ⟨dX6_told_79, fun _ h => absurd h List.not_mem_nil⟩⟩) rfl ?_
    cases h
    exact xret tn_X6_told rfl dX6_told_82
  rcases osw h with ⟨c5, h⟩ | ⟨c5, h⟩
  · refine xtabI (t := 83) (v := 3) (off := 77) tn_X6_told dX6_told_6 ((congrArg Int32.toInt c5).trans (by decide)) (by decide) (by decide) rfl (by decide) ?_
    refine xs tn_X6_told [(83, .aload_n 0, 1), (84, .getfield 153, 3)] (st' := (87, [(0, .ref 18), (1, .int x1)], [.int (gI s1 4)], wd d (wm s1 rest), 0, 0)) (List.forall_mem_cons.mpr ⟨dX6_told_83, List.forall_mem_cons.mpr ⟨dX6_told_84, fun _ h => absurd h List.not_mem_nil⟩⟩) rfl ?_
    cases h
    exact xret tn_X6_told rfl dX6_told_87
  rcases osw h with ⟨c6, h⟩ | ⟨c6, h⟩
  · refine xtabI (t := 88) (v := 4) (off := 82) tn_X6_told dX6_told_6 ((congrArg Int32.toInt c6).trans (by decide)) (by decide) (by decide) rfl (by decide) ?_
    refine xs tn_X6_told [(88, .aload_n 0, 1), (89, .getfield 93, 3)] (st' := (92, [(0, .ref 18), (1, .int x1)], [.int (gI s1 9)], wd d (wm s1 rest), 0, 0)) (List.forall_mem_cons.mpr ⟨dX6_told_88, List.forall_mem_cons.mpr ⟨dX6_told_89, fun _ h => absurd h List.not_mem_nil⟩⟩) rfl ?_
    cases h
    exact xret tn_X6_told rfl dX6_told_92
  rcases osw h with ⟨c7, h⟩ | ⟨c7, h⟩
  · refine xtabI (t := 93) (v := 5) (off := 87) tn_X6_told dX6_told_6 ((congrArg Int32.toInt c7).trans (by decide)) (by decide) (by decide) rfl (by decide) ?_
    refine xs tn_X6_told [(93, .aload_n 0, 1), (94, .getfield 165, 3)] (st' := (97, [(0, .ref 18), (1, .int x1)], [.int (gI s1 5)], wd d (wm s1 rest), 0, 0)) (List.forall_mem_cons.mpr ⟨dX6_told_93, List.forall_mem_cons.mpr ⟨dX6_told_94, fun _ h => absurd h List.not_mem_nil⟩⟩) rfl ?_
    cases h
    exact xret tn_X6_told rfl dX6_told_97
  rcases osw h with ⟨c8, h⟩ | ⟨c8, h⟩
  · refine xtabI (t := 98) (v := 6) (off := 92) tn_X6_told dX6_told_6 ((congrArg Int32.toInt c8).trans (by decide)) (by decide) (by decide) rfl (by decide) ?_
    refine xs tn_X6_told [(98, .aload_n 0, 1), (99, .getfield 125, 3)] (st' := (102, [(0, .ref 18), (1, .int x1)], [.int (gI s1 6)], wd d (wm s1 rest), 0, 0)) (List.forall_mem_cons.mpr ⟨dX6_told_98, List.forall_mem_cons.mpr ⟨dX6_told_99, fun _ h => absurd h List.not_mem_nil⟩⟩) rfl ?_
    cases h
    exact xret tn_X6_told rfl dX6_told_102
  rcases osw h with ⟨c9, h⟩ | ⟨c9, h⟩
  · refine xtabI (t := 103) (v := 7) (off := 97) tn_X6_told dX6_told_6 ((congrArg Int32.toInt c9).trans (by decide)) (by decide) (by decide) rfl (by decide) ?_
    refine xs tn_X6_told [(103, .aload_n 0, 1), (104, .getfield 25, 3), (107, .iconst (-1), 1)] (st' := (108, [(0, .ref 18), (1, .int x1)], [.int (-nI 1), .int (gI s1 7)], wd d (wm s1 rest), 0, 0)) (List.forall_mem_cons.mpr ⟨dX6_told_103, List.forall_mem_cons.mpr ⟨dX6_told_104, List.forall_mem_cons.mpr ⟨dX6_told_107, fun _ h => absurd h List.not_mem_nil⟩⟩⟩) rfl ?_
    refine xcmpF (t := 115) tn_X6_told dX6_told_108 (by decide) h (fun h => ?_) (fun h => ?_)
    · refine xs tn_X6_told [(115, .aload_n 0, 1), (116, .getfield 116, 3)] (st' := (119, [(0, .ref 18), (1, .int x1)], [.int (gI s1 8)], wd d (wm s1 rest), 0, 0)) (List.forall_mem_cons.mpr ⟨dX6_told_115, List.forall_mem_cons.mpr ⟨dX6_told_116, fun _ h => absurd h List.not_mem_nil⟩⟩) rfl ?_
      cases h
      exact xret tn_X6_told rfl dX6_told_119
    · refine xs tn_X6_told [(111, .iconst (-1), 1), (112, .goto 7, 3)] (st' := (119, [(0, .ref 18), (1, .int x1)], [.int (-nI 1)], wd d (wm s1 rest), 0, 0)) (List.forall_mem_cons.mpr ⟨dX6_told_111, List.forall_mem_cons.mpr ⟨dX6_told_112, fun _ h => absurd h List.not_mem_nil⟩⟩) rfl ?_
      cases h
      exact xret tn_X6_told rfl dX6_told_119
  rcases osw h with ⟨c10, h⟩ | ⟨c10, h⟩
  · refine xtabI (t := 120) (v := 8) (off := 114) tn_X6_told dX6_told_6 ((congrArg Int32.toInt c10).trans (by decide)) (by decide) (by decide) rfl (by decide) ?_
    refine xs tn_X6_told [(120, .iconst 0, 1), (121, .istore_n 2, 1), (122, .iconst 0, 1), (123, .istore_n 3, 1)] (st' := (124, [(3, .int (nI 0)), (2, .int (nI 0)), (0, .ref 18), (1, .int x1)], [], wd d (wm s1 rest), 0, 0)) (List.forall_mem_cons.mpr ⟨dX6_told_120, List.forall_mem_cons.mpr ⟨dX6_told_121, List.forall_mem_cons.mpr ⟨dX6_told_122, List.forall_mem_cons.mpr ⟨dX6_told_123, fun _ h => absurd h List.not_mem_nil⟩⟩⟩⟩) rfl ?_
    refine xwk [0, 2, 3] rfl rfl ?_
    exact w_X6_told_124 N _ _ _ _ _ h
  rcases osw h with ⟨c11, h⟩ | ⟨c11, h⟩
  · refine xtabI (t := 157) (v := 9) (off := 151) tn_X6_told dX6_told_6 ((congrArg Int32.toInt c11).trans (by decide)) (by decide) (by decide) rfl (by decide) ?_
    refine xs tn_X6_told [(157, .aload_n 0, 1), (158, .getfield 67, 3)] (st' := (161, [(0, .ref 18), (1, .int x1)], [.int (nI (gN s1))], wd d (wm s1 rest), 0, 0)) (List.forall_mem_cons.mpr ⟨dX6_told_157, List.forall_mem_cons.mpr ⟨dX6_told_158, fun _ h => absurd h List.not_mem_nil⟩⟩) rfl ?_
    cases h
    exact xret tn_X6_told rfl dX6_told_161
  have c2 := sw_ne (i := 0) (by decide) c2
  have c3 := sw_ne (i := 1) (by decide) c3
  have c4 := sw_ne (i := 2) (by decide) c4
  have c5 := sw_ne (i := 3) (by decide) c5
  have c6 := sw_ne (i := 4) (by decide) c6
  have c7 := sw_ne (i := 5) (by decide) c7
  have c8 := sw_ne (i := 6) (by decide) c8
  have c9 := sw_ne (i := 7) (by decide) c9
  have c10 := sw_ne (i := 8) (by decide) c10
  have c11 := sw_ne (i := 9) (by decide) c11
  refine xtabO (t := 162) tn_X6_told dX6_told_6 (by omega) (by decide) ?_
  refine xs tn_X6_told [(162, .bipush (-2), 2)] (st' := (164, [(0, .ref 18), (1, .int x1)], [.int (-nI 2)], wd d (wm s1 rest), 0, 0)) (List.forall_mem_cons.mpr ⟨dX6_told_162, fun _ h => absurd h List.not_mem_nil⟩) rfl ?_
  cases h
  exact xret tn_X6_told rfl dX6_told_164
