def F_X6_told_124 (N : Nat) : Nat → St → Int32 → Int32 → Option (Int32 × St)
  | 0, _, _, _ => none
  | f + 1, s, x2, x3 => bif mx_cnd .ge x3 (nI (gN s)) then (some (x2, s)) else (ldA (gA s 1) 60 x3 fun v1 => bif mx_cnd .eq v1 0 then (F_X6_told_124 N f s (x2 + (nI 0)) (x3 + (nI 1))) else (F_X6_told_124 N f s (x2 + (nI 1)) (x3 + (nI 1))))
set_option maxRecDepth 100000 in
set_option maxHeartbeats 4000000 in
theorem w_X6_told_124 {d : St} {rest : mx_W} {N : Nat} : ∀ (f : Nat) (s : St) (x2 : Int32) (x3 : Int32) (r : Int32) (t : St), F_X6_told_124 N f s x2 x3 = some (r, t) → X 37 (124, [(0, .ref 18), (2, .int x2), (3, .int x3)], [], wd d (wm s rest), 0, 0) (some (.int r), wd d (wm t rest), 0, 0) := by
  intro f
  induction f with
  | zero => intro s x2 x3 r t h; rw [F_X6_told_124.eq_1] at h; cases h
  | succ f ih =>
    intro s x2 x3 r t h
    rw [F_X6_told_124.eq_2] at h
    refine xs tn_X6_told [(124, .iload_n 3, 1), (125, .aload_n 0, 1), (126, .getfield 67, 3)] (st' := (129, [(0, .ref 18), (2, .int x2), (3, .int x3)], [.int (nI (gN s)), .int x3], wd d (wm s rest), 0, 0)) (List.forall_mem_cons.mpr ⟨dX6_told_124, List.forall_mem_cons.mpr ⟨dX6_told_125, List.forall_mem_cons.mpr ⟨dX6_told_126, fun _ h => absurd h List.not_mem_nil⟩⟩⟩) rfl ?_
    refine xcmpF (t := 155) tn_X6_told dX6_told_129 (by decide) h (fun h => ?_) (fun h => ?_)
    · refine xs tn_X6_told [(155, .iload_n 2, 1)] (st' := (156, [(0, .ref 18), (2, .int x2), (3, .int x3)], [.int x2], wd d (wm s rest), 0, 0)) (List.forall_mem_cons.mpr ⟨dX6_told_155, fun _ h => absurd h List.not_mem_nil⟩) rfl ?_
      cases h
      exact xret tn_X6_told rfl dX6_told_156
    · refine xs tn_X6_told [(132, .iload_n 2, 1), (133, .aload_n 0, 1), (134, .getfield 13, 3), (137, .iload_n 3, 1)] (st' := (138, [(0, .ref 18), (2, .int x2), (3, .int x3)], [.int x3, .ref 20, .int x2], wd d (wm s rest), 0, 0)) (List.forall_mem_cons.mpr ⟨dX6_told_132, List.forall_mem_cons.mpr ⟨dX6_told_133, List.forall_mem_cons.mpr ⟨dX6_told_134, List.forall_mem_cons.mpr ⟨dX6_told_137, fun _ h => absurd h List.not_mem_nil⟩⟩⟩⟩) rfl ?_
      refine xzldF tn_X6_told dX6_told_138 at_20 h (fun v1 h => ?_)
      refine xifF (t := 146) tn_X6_told dX6_told_139 (by decide) h (fun h => ?_) (fun h => ?_)
      · refine xs tn_X6_told [(146, .iconst 0, 1), (147, .iadd, 1), (148, .istore_n 2, 1), (149, .iinc 3 1, 3), (152, .goto (-28), 3)] (st' := (124, [(0, .ref 18), (2, .int (x2 + (nI 0))), (3, .int (x3 + (nI 1)))], [], wd d (wm s rest), 0, 0)) (List.forall_mem_cons.mpr ⟨dX6_told_146, List.forall_mem_cons.mpr ⟨dX6_told_147, List.forall_mem_cons.mpr ⟨dX6_told_148, List.forall_mem_cons.mpr ⟨dX6_told_149, List.forall_mem_cons.mpr ⟨dX6_told_152, fun _ h => absurd h List.not_mem_nil⟩⟩⟩⟩⟩) rfl ?_
        refine xwk [0, 2, 3] rfl rfl ?_
        exact ih _ _ _ _ _ h
      · refine xs tn_X6_told [(142, .iconst 1, 1), (143, .goto 4, 3), (147, .iadd, 1), (148, .istore_n 2, 1), (149, .iinc 3 1, 3), (152, .goto (-28), 3)] (st' := (124, [(0, .ref 18), (2, .int (x2 + (nI 1))), (3, .int (x3 + (nI 1)))], [], wd d (wm s rest), 0, 0)) (List.forall_mem_cons.mpr ⟨dX6_told_142, List.forall_mem_cons.mpr ⟨dX6_told_143, List.forall_mem_cons.mpr ⟨dX6_told_147, List.forall_mem_cons.mpr ⟨dX6_told_148, List.forall_mem_cons.mpr ⟨dX6_told_149, List.forall_mem_cons.mpr ⟨dX6_told_152, fun _ h => absurd h List.not_mem_nil⟩⟩⟩⟩⟩⟩) rfl ?_
        refine xwk [0, 2, 3] rfl rfl ?_
        exact ih _ _ _ _ _ h
def F_X6_told (N : Nat) (s : St) (x1 : Int32) : Option (Int32 × St) := bnd (sI s 0 (nI 0)) fun s1 => bif decide (x1 = nI 0) then (bif mx_cnd .eq (gI s1 1) 0 then (some (nI 0, s1)) else (some (nI 1, s1))) else (bif decide (x1 = nI 1) then (some (gI s1 2, s1)) else (bif decide (x1 = nI 2) then (some (gI s1 3, s1)) else (bif decide (x1 = nI 3) then (some (gI s1 4, s1)) else (bif decide (x1 = nI 4) then (some (gI s1 9, s1)) else (bif decide (x1 = nI 5) then (some (gI s1 5, s1)) else (bif decide (x1 = nI 6) then (some (gI s1 6, s1)) else (bif decide (x1 = nI 7) then (bif mx_cnd .ne (gI s1 7) (-nI 1) then (some (gI s1 8, s1)) else (some (-nI 1, s1))) else (bif decide (x1 = nI 8) then (F_X6_told_124 N N s1 (nI 0) (nI 0)) else (bif decide (x1 = nI 9) then (some (nI (gN s1), s1)) else (some (-nI 2, s1)))))))))))
set_option maxRecDepth 100000 in
set_option maxHeartbeats 4000000 in
theorem w_X6_told {d : St} {rest : mx_W} {N : Nat} {s : St} {x1 : Int32} {r : Int32} {t : St} (h : F_X6_told N s x1 = some (r, t)) : X 37 (0, [(0, .ref 18), (1, .int x1)], [], wd d (wm s rest), 0, 0) (some (.int r), wd d (wm t rest), 0, 0) := by
  unfold F_X6_told at h
  refine xs tn_X6_told [(0, .aload_n 0, 1), (1, .iconst 0, 1)] (st' := (2, [(0, .ref 18), (1, .int x1)], [.int (nI 0), .ref 18], wd d (wm s rest), 0, 0)) (List.forall_mem_cons.mpr ⟨dX6_told_0, List.forall_mem_cons.mpr ⟨dX6_told_1, fun _ h => absurd h List.not_mem_nil⟩⟩) rfl ?_
  refine xput_b0 tn_X6_told dX6_told_2 rfl h (fun s1 h => ?_)
  refine xs tn_X6_told [(5, .iload_n 1, 1)] (st' := (6, [(0, .ref 18), (1, .int x1)], [.int x1], wd d (wm s1 rest), 0, 0)) (List.forall_mem_cons.mpr ⟨dX6_told_5, fun _ h => absurd h List.not_mem_nil⟩) rfl ?_
  rcases osw h with ⟨c2, h⟩ | ⟨c2, h⟩
  · refine xtabI (t := 60) (v := 0) (off := 54) tn_X6_told dX6_told_6 ((congrArg Int32.toInt c2).trans (by decide)) (by decide) (by decide) rfl (by decide) ?_
    refine xs tn_X6_told [(60, .aload_n 0, 1), (61, .getfield 17, 3)] (st' := (64, [(0, .ref 18), (1, .int x1)], [.int (gI s1 1)], wd d (wm s1 rest), 0, 0)) (List.forall_mem_cons.mpr ⟨dX6_told_60, List.forall_mem_cons.mpr ⟨dX6_told_61, fun _ h => absurd h List.not_mem_nil⟩⟩) rfl ?_
    refine xifF (t := 71) tn_X6_told dX6_told_64 (by decide) h (fun h => ?_) (fun h => ?_)
    · refine xs tn_X6_told [(71, .iconst 0, 1)] (st' := (72, [(0, .ref 18), (1, .int x1)], [.int (nI 0)], wd d (wm s1 rest), 0, 0)) (List.forall_mem_cons.mpr ⟨dX6_told_71, fun _ h => absurd h List.not_mem_nil⟩) rfl ?_
      cases h
      exact xret tn_X6_told rfl dX6_told_72
    · refine xs tn_X6_told [(67, .iconst 1, 1), (68, .goto 4, 3)] (st' := (72, [(0, .ref 18), (1, .int x1)], [.int (nI 1)], wd d (wm s1 rest), 0, 0)) (List.forall_mem_cons.mpr ⟨dX6_told_67, List.forall_mem_cons.mpr ⟨dX6_told_68, fun _ h => absurd h List.not_mem_nil⟩⟩) rfl ?_
      cases h
      exact xret tn_X6_told rfl dX6_told_72
  rcases osw h with ⟨c3, h⟩ | ⟨c3, h⟩
  · refine xtabI (t := 73) (v := 1) (off := 67) tn_X6_told dX6_told_6 ((congrArg Int32.toInt c3).trans (by decide)) (by decide) (by decide) rfl (by decide) ?_
    refine xs tn_X6_told [(73, .aload_n 0, 1), (74, .getfield 21, 3)] (st' := (77, [(0, .ref 18), (1, .int x1)], [.int (gI s1 2)], wd d (wm s1 rest), 0, 0)) (List.forall_mem_cons.mpr ⟨dX6_told_73, List.forall_mem_cons.mpr ⟨dX6_told_74, fun _ h => absurd h List.not_mem_nil⟩⟩) rfl ?_
    cases h
    exact xret tn_X6_told rfl dX6_told_77
  rcases osw h with ⟨c4, h⟩ | ⟨c4, h⟩
  · refine xtabI (t := 78) (v := 2) (off := 72) tn_X6_told dX6_told_6 ((congrArg Int32.toInt c4).trans (by decide)) (by decide) (by decide) rfl (by decide) ?_
    refine xs tn_X6_told [(78, .aload_n 0, 1), (79, .getfield 100, 3)] (st' := (82, [(0, .ref 18), (1, .int x1)], [.int (gI s1 3)], wd d (wm s1 rest), 0, 0)) (List.forall_mem_cons.mpr ⟨dX6_told_78, List.forall_mem_cons.mpr ⟨dX6_told_79, fun _ h => absurd h List.not_mem_nil⟩⟩) rfl ?_
    cases h
    exact xret tn_X6_told rfl dX6_told_82
  rcases osw h with ⟨c5, h⟩ | ⟨c5, h⟩
  · refine xtabI (t := 83) (v := 3) (off := 77) tn_X6_told dX6_told_6 ((congrArg Int32.toInt c5).trans (by decide)) (by decide) (by decide) rfl (by decide) ?_
    refine xs tn_X6_told [(83, .aload_n 0, 1), (84, .getfield 153, 3)] (st' := (87, [(0, .ref 18), (1, .int x1)], [.int (gI s1 4)], wd d (wm s1 rest), 0, 0)) (List.forall_mem_cons.mpr ⟨dX6_told_83, List.forall_mem_cons.mpr ⟨dX6_told_84, fun _ h => absurd h List.not_mem_nil⟩⟩) rfl ?_
    cases h
    exact xret tn_X6_told rfl dX6_told_87
  rcases osw h with ⟨c6, h⟩ | ⟨c6, h⟩
  · refine xtabI (t := 88) (v := 4) (off := 82) tn_X6_told dX6_told_6 ((congrArg Int32.toInt c6).trans (by decide)) (by decide) (by decide) rfl (by decide) ?_
    refine xs tn_X6_told [(88, .aload_n 0, 1), (89, .getfield 93, 3)] (st' := (92, [(0, .ref 18), (1, .int x1)], [.int (gI s1 9)], wd d (wm s1 rest), 0, 0)) (List.forall_mem_cons.mpr ⟨dX6_told_88, List.forall_mem_cons.mpr ⟨dX6_told_89, fun _ h => absurd h List.not_mem_nil⟩⟩) rfl ?_
    cases h
    exact xret tn_X6_told rfl dX6_told_92
  rcases osw h with ⟨c7, h⟩ | ⟨c7, h⟩
  · refine xtabI (t := 93) (v := 5) (off := 87) tn_X6_told dX6_told_6 ((congrArg Int32.toInt c7).trans (by decide)) (by decide) (by decide) rfl (by decide) ?_
    refine xs tn_X6_told [(93, .aload_n 0, 1), (94, .getfield 165, 3)] (st' := (97, [(0, .ref 18), (1, .int x1)], [.int (gI s1 5)], wd d (wm s1 rest), 0, 0)) (List.forall_mem_cons.mpr ⟨dX6_told_93, List.forall_mem_cons.mpr ⟨dX6_told_94, fun _ h => absurd h List.not_mem_nil⟩⟩) rfl ?_
    cases h
    exact xret tn_X6_told rfl dX6_told_97
  rcases osw h with ⟨c8, h⟩ | ⟨c8, h⟩
  · refine xtabI (t := 98) (v := 6) (off := 92) tn_X6_told dX6_told_6 ((congrArg Int32.toInt c8).trans (by decide)) (by decide) (by decide) rfl (by decide) ?_
    refine xs tn_X6_told [(98, .aload_n 0, 1), (99, .getfield 125, 3)] (st' := (102, [(0, .ref 18), (1, .int x1)], [.int (gI s1 6)], wd d (wm s1 rest), 0, 0)) (List.forall_mem_cons.mpr ⟨dX6_told_98, List.forall_mem_cons.mpr ⟨dX6_told_99, fun _ h => absurd h List.not_mem_nil⟩⟩) rfl ?_
    cases h
    exact xret tn_X6_told rfl dX6_told_102
  rcases osw h with ⟨c9, h⟩ | ⟨c9, h⟩
  · refine xtabI (t := 103) (v := 7) (off := 97) tn_X6_told dX6_told_6 ((congrArg Int32.toInt c9).trans (by decide)) (by decide) (by decide) rfl (by decide) ?_
    refine xs tn_X6_told [(103, .aload_n 0, 1), (104, .getfield 25, 3), (107, .iconst (-1), 1)] (st' := (108, [(0, .ref 18), (1, .int x1)], [.int (-nI 1), .int (gI s1 7)], wd d (wm s1 rest), 0, 0)) (List.forall_mem_cons.mpr ⟨dX6_told_103, List.forall_mem_cons.mpr ⟨dX6_told_104, List.forall_mem_cons.mpr ⟨dX6_told_107, fun _ h => absurd h List.not_mem_nil⟩⟩⟩) rfl ?_
    refine xcmpF (t := 115) tn_X6_told dX6_told_108 (by decide) h (fun h => ?_) (fun h => ?_)
    · refine xs tn_X6_told [(115, .aload_n 0, 1), (116, .getfield 116, 3)] (st' := (119, [(0, .ref 18), (1, .int x1)], [.int (gI s1 8)], wd d (wm s1 rest), 0, 0)) (List.forall_mem_cons.mpr ⟨dX6_told_115, List.forall_mem_cons.mpr ⟨dX6_told_116, fun _ h => absurd h List.not_mem_nil⟩⟩) rfl ?_
      cases h
      exact xret tn_X6_told rfl dX6_told_119
    · refine xs tn_X6_told [(111, .iconst (-1), 1), (112, .goto 7, 3)] (st' := (119, [(0, .ref 18), (1, .int x1)], [.int (-nI 1)], wd d (wm s1 rest), 0, 0)) (List.forall_mem_cons.mpr ⟨dX6_told_111, List.forall_mem_cons.mpr ⟨dX6_told_112, fun _ h => absurd h List.not_mem_nil⟩⟩) rfl ?_
      cases h
      exact xret tn_X6_told rfl dX6_told_119
  rcases osw h with ⟨c10, h⟩ | ⟨c10, h⟩
  · refine xtabI (t := 120) (v := 8) (off := 114) tn_X6_told dX6_told_6 ((congrArg Int32.toInt c10).trans (by decide)) (by decide) (by decide) rfl (by decide) ?_
    refine xs tn_X6_told [(120, .iconst 0, 1), (121, .istore_n 2, 1), (122, .iconst 0, 1), (123, .istore_n 3, 1)] (st' := (124, [(3, .int (nI 0)), (2, .int (nI 0)), (0, .ref 18), (1, .int x1)], [], wd d (wm s1 rest), 0, 0)) (List.forall_mem_cons.mpr ⟨dX6_told_120, List.forall_mem_cons.mpr ⟨dX6_told_121, List.forall_mem_cons.mpr ⟨dX6_told_122, List.forall_mem_cons.mpr ⟨dX6_told_123, fun _ h => absurd h List.not_mem_nil⟩⟩⟩⟩) rfl ?_
    refine xwk [0, 2, 3] rfl rfl ?_
    exact w_X6_told_124 N _ _ _ _ _ h
  rcases osw h with ⟨c11, h⟩ | ⟨c11, h⟩
  · refine xtabI (t := 157) (v := 9) (off := 151) tn_X6_told dX6_told_6 ((congrArg Int32.toInt c11).trans (by decide)) (by decide) (by decide) rfl (by decide) ?_
    refine xs tn_X6_told [(157, .aload_n 0, 1), (158, .getfield 67, 3)] (st' := (161, [(0, .ref 18), (1, .int x1)], [.int (nI (gN s1))], wd d (wm s1 rest), 0, 0)) (List.forall_mem_cons.mpr ⟨dX6_told_157, List.forall_mem_cons.mpr ⟨dX6_told_158, fun _ h => absurd h List.not_mem_nil⟩⟩) rfl ?_
    cases h
    exact xret tn_X6_told rfl dX6_told_161
  have c2 := sw_ne (i := 0) (by decide) c2
  have c3 := sw_ne (i := 1) (by decide) c3
  have c4 := sw_ne (i := 2) (by decide) c4
  have c5 := sw_ne (i := 3) (by decide) c5
  have c6 := sw_ne (i := 4) (by decide) c6
  have c7 := sw_ne (i := 5) (by decide) c7
  have c8 := sw_ne (i := 6) (by decide) c8
  have c9 := sw_ne (i := 7) (by decide) c9
  have c10 := sw_ne (i := 8) (by decide) c10
  have c11 := sw_ne (i := 9) (by decide) c11
  refine xtabO (t := 162) tn_X6_told dX6_told_6 (by omega) (by decide) ?_
  refine xs tn_X6_told [(162, .bipush (-2), 2)] (st' := (164, [(0, .ref 18), (1, .int x1)], [.int (-nI 2)], wd d (wm s1 rest), 0, 0)) (List.forall_mem_cons.mpr ⟨dX6_told_162, fun _ h => absurd h List.not_mem_nil⟩) rfl ?_
  cases h
  exact xret tn_X6_told rfl dX6_told_164
