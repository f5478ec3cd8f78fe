def F_X4_countLost_4 (N : Nat) : Nat → St → Int32 → Int32 → Option (Int32)
  | 0, _, _, _ => none
  | f + 1, s, x1, x2 => bif mx_cnd .ge x2 (nI (gN s)) then (some x1) else (ldA (gA s 1) (gN s) x2 fun v1 => bif mx_cnd .eq v1 0 then (F_X4_countLost_4 N f s x1 (x2 + (nI 1))) else (F_X4_countLost_4 N f s (x1 + (nI 1)) (x2 + (nI 1))))
set_option maxRecDepth 100000 in
set_option maxHeartbeats 4000000 in
theorem w_X4_countLost_4 {rest : mx_W} {N : Nat} : ∀ (f : Nat) (s : St) (x1 : Int32) (x2 : Int32) (r : Int32), F_X4_countLost_4 N f s x1 x2 = some r → X 19 (4, [(0, .ref 1), (1, .int x1), (2, .int x2)], [], wd s rest, 0, 0) (some (.int r), wd s rest, 0, 0) := by
  intro f
  induction f with
  | zero => intro s x1 x2 r h; rw [F_X4_countLost_4.eq_1] at h; cases h
  | succ f ih =>
    intro s x1 x2 r h
    rw [F_X4_countLost_4.eq_2] at h
    refine xs tn_X4_countLost [(4, .iload_n 2, 1), (5, .aload_n 0, 1), (6, .getfield 18, 3)] (st' := (9, [(0, .ref 1), (1, .int x1), (2, .int x2)], [.int (nI (gN s)), .int x2], wd s rest, 0, 0)) (List.forall_mem_cons.mpr ⟨dX4_countLost_4, List.forall_mem_cons.mpr ⟨dX4_countLost_5, List.forall_mem_cons.mpr ⟨dX4_countLost_6, fun _ h => absurd h List.not_mem_nil⟩⟩⟩) rfl ?_
    refine xcmpF (t := 30) tn_X4_countLost dX4_countLost_9 (by decide) h (fun h => ?_) (fun h => ?_)
    · refine xs tn_X4_countLost [(30, .iload_n 1, 1)] (st' := (31, [(0, .ref 1), (1, .int x1), (2, .int x2)], [.int x1], wd s rest, 0, 0)) (List.forall_mem_cons.mpr ⟨dX4_countLost_30, fun _ h => absurd h List.not_mem_nil⟩) rfl ?_
      cases h
      exact xret tn_X4_countLost rfl dX4_countLost_31
    · refine xs tn_X4_countLost [(12, .aload_n 0, 1), (13, .getfield 28, 3), (16, .iload_n 2, 1)] (st' := (17, [(0, .ref 1), (1, .int x1), (2, .int x2)], [.int x2, .ref 3], wd s rest, 0, 0)) (List.forall_mem_cons.mpr ⟨dX4_countLost_12, List.forall_mem_cons.mpr ⟨dX4_countLost_13, List.forall_mem_cons.mpr ⟨dX4_countLost_16, fun _ h => absurd h List.not_mem_nil⟩⟩⟩) rfl ?_
      refine xzldF tn_X4_countLost dX4_countLost_17 at_3 h (fun v1 h => ?_)
      refine xifF (t := 24) tn_X4_countLost dX4_countLost_18 (by decide) h (fun h => ?_) (fun h => ?_)
      · refine xs tn_X4_countLost [(24, .iinc 2 1, 3), (27, .goto (-23), 3)] (st' := (4, [(0, .ref 1), (1, .int x1), (2, .int (x2 + (nI 1)))], [], wd s rest, 0, 0)) (List.forall_mem_cons.mpr ⟨dX4_countLost_24, List.forall_mem_cons.mpr ⟨dX4_countLost_27, fun _ h => absurd h List.not_mem_nil⟩⟩) rfl ?_
        refine xwk [0, 1, 2] rfl rfl ?_
        exact ih _ _ _ _ h
      · refine xs tn_X4_countLost [(21, .iinc 1 1, 3), (24, .iinc 2 1, 3), (27, .goto (-23), 3)] (st' := (4, [(0, .ref 1), (1, .int (x1 + (nI 1))), (2, .int (x2 + (nI 1)))], [], wd s rest, 0, 0)) (List.forall_mem_cons.mpr ⟨dX4_countLost_21, List.forall_mem_cons.mpr ⟨dX4_countLost_24, List.forall_mem_cons.mpr ⟨dX4_countLost_27, fun _ h => absurd h List.not_mem_nil⟩⟩⟩) rfl ?_
        refine xwk [0, 1, 2] rfl rfl ?_
        exact ih _ _ _ _ h
def F_X4_countLost (N : Nat) (s : St) : Option (Int32) := F_X4_countLost_4 N N s (nI 0) (nI 0)
set_option maxRecDepth 100000 in
set_option maxHeartbeats 4000000 in
theorem w_X4_countLost {rest : mx_W} {N : Nat} {s : St} {r : Int32} (h : F_X4_countLost N s = some r) : X 19 (0, [(0, .ref 1)], [], wd s rest, 0, 0) (some (.int r), wd s rest, 0, 0) := by
  unfold F_X4_countLost at h
  refine xs tn_X4_countLost [(0, .iconst 0, 1), (1, .istore_n 1, 1), (2, .iconst 0, 1), (3, .istore_n 2, 1)] (st' := (4, [(2, .int (nI 0)), (1, .int (nI 0)), (0, .ref 1)], [], wd s rest, 0, 0)) (List.forall_mem_cons.mpr ⟨dX4_countLost_0, List.forall_mem_cons.mpr ⟨dX4_countLost_1, List.forall_mem_cons.mpr ⟨dX4_countLost_2, List.forall_mem_cons.mpr ⟨dX4_countLost_3, fun _ h => absurd h List.not_mem_nil⟩⟩⟩⟩) rfl ?_
  refine xwk [0, 1, 2] rfl rfl ?_
  exact w_X4_countLost_4 N _ _ _ _ h
def F_X5_told (N : Nat) (s : St) (x1 : Int32) : Option (Int32) := bif decide (x1 = nI 0) then (bif mx_cnd .eq (gI s 0) 0 then (some (nI 0)) else (some (nI 1))) else (bif decide (x1 = nI 1) then (some (gI s 1)) else (bif decide (x1 = nI 2) then (some (gI s 2)) else (bif decide (x1 = nI 3) then (some (gI s 3)) else (bif decide (x1 = nI 4) then ((F_X3_size s).bind fun v6 => some v6) else (bif decide (x1 = nI 5) then (some (gI s 6)) else (bif decide (x1 = nI 6) then (some (gI s 7)) else (bif decide (x1 = nI 7) then (some (gI s 5)) else (bif decide (x1 = nI 8) then ((F_X4_countLost N s).bind fun v12 => some v12) else (bif decide (x1 = nI 9) then ((F_X4_count s).bind fun v15 => some v15) else (some (-nI 2)))))))))))
set_option maxRecDepth 100000 in
set_option maxHeartbeats 4000000 in
theorem w_X5_told {rest : mx_W} {N : Nat} {s : St} {x1 : Int32} {r : Int32} (h : F_X5_told N s x1 = some r) : X 56 (0, [(0, .ref 0), (1, .int x1)], [], wd s rest, 0, 0) (some (.int r), wd s rest, 0, 0) := by
  unfold F_X5_told at h
  refine xs tn_X5_told [(0, .iload_n 1, 1)] (st' := (1, [(0, .ref 0), (1, .int x1)], [.int x1], wd s rest, 0, 0)) (List.forall_mem_cons.mpr ⟨dX5_told_0, fun _ h => absurd h List.not_mem_nil⟩) rfl ?_
  rcases osw h with ⟨c1, h⟩ | ⟨c1, h⟩
  · refine xtabI (t := 56) (v := 0) (off := 55) tn_X5_told dX5_told_1 ((congrArg Int32.toInt c1).trans (by decide)) (by decide) (by decide) rfl (by decide) ?_
    refine xs tn_X5_told [(56, .aload_n 0, 1), (57, .getfield 46, 3)] (st' := (60, [(0, .ref 0), (1, .int x1)], [.int (gI s 0)], wd s rest, 0, 0)) (List.forall_mem_cons.mpr ⟨dX5_told_56, List.forall_mem_cons.mpr ⟨dX5_told_57, fun _ h => absurd h List.not_mem_nil⟩⟩) rfl ?_
    refine xifF (t := 67) tn_X5_told dX5_told_60 (by decide) h (fun h => ?_) (fun h => ?_)
    · refine xs tn_X5_told [(67, .iconst 0, 1)] (st' := (68, [(0, .ref 0), (1, .int x1)], [.int (nI 0)], wd s rest, 0, 0)) (List.forall_mem_cons.mpr ⟨dX5_told_67, fun _ h => absurd h List.not_mem_nil⟩) rfl ?_
      cases h
      exact xret tn_X5_told rfl dX5_told_68
    · refine xs tn_X5_told [(63, .iconst 1, 1), (64, .goto 4, 3)] (st' := (68, [(0, .ref 0), (1, .int x1)], [.int (nI 1)], wd s rest, 0, 0)) (List.forall_mem_cons.mpr ⟨dX5_told_63, List.forall_mem_cons.mpr ⟨dX5_told_64, fun _ h => absurd h List.not_mem_nil⟩⟩) rfl ?_
      cases h
      exact xret tn_X5_told rfl dX5_told_68
  rcases osw h with ⟨c2, h⟩ | ⟨c2, h⟩
  · refine xtabI (t := 69) (v := 1) (off := 68) tn_X5_told dX5_told_1 ((congrArg Int32.toInt c2).trans (by decide)) (by decide) (by decide) rfl (by decide) ?_
    refine xs tn_X5_told [(69, .aload_n 0, 1), (70, .getfield 50, 3)] (st' := (73, [(0, .ref 0), (1, .int x1)], [.int (gI s 1)], wd s rest, 0, 0)) (List.forall_mem_cons.mpr ⟨dX5_told_69, List.forall_mem_cons.mpr ⟨dX5_told_70, fun _ h => absurd h List.not_mem_nil⟩⟩) rfl ?_
    cases h
    exact xret tn_X5_told rfl dX5_told_73
  rcases osw h with ⟨c3, h⟩ | ⟨c3, h⟩
  · refine xtabI (t := 74) (v := 2) (off := 73) tn_X5_told dX5_told_1 ((congrArg Int32.toInt c3).trans (by decide)) (by decide) (by decide) rfl (by decide) ?_
    refine xs tn_X5_told [(74, .aload_n 0, 1), (75, .getfield 65, 3)] (st' := (78, [(0, .ref 0), (1, .int x1)], [.int (gI s 2)], wd s rest, 0, 0)) (List.forall_mem_cons.mpr ⟨dX5_told_74, List.forall_mem_cons.mpr ⟨dX5_told_75, fun _ h => absurd h List.not_mem_nil⟩⟩) rfl ?_
    cases h
    exact xret tn_X5_told rfl dX5_told_78
  rcases osw h with ⟨c4, h⟩ | ⟨c4, h⟩
  · refine xtabI (t := 79) (v := 3) (off := 78) tn_X5_told dX5_told_1 ((congrArg Int32.toInt c4).trans (by decide)) (by decide) (by decide) rfl (by decide) ?_
    refine xs tn_X5_told [(79, .aload_n 0, 1), (80, .getfield 109, 3)] (st' := (83, [(0, .ref 0), (1, .int x1)], [.int (gI s 3)], wd s rest, 0, 0)) (List.forall_mem_cons.mpr ⟨dX5_told_79, List.forall_mem_cons.mpr ⟨dX5_told_80, fun _ h => absurd h List.not_mem_nil⟩⟩) rfl ?_
    cases h
    exact xret tn_X5_told rfl dX5_told_83
  rcases osw h with ⟨c5, h⟩ | ⟨c5, h⟩
  · refine xtabI (t := 84) (v := 4) (off := 83) tn_X5_told dX5_told_1 ((congrArg Int32.toInt c5).trans (by decide)) (by decide) (by decide) rfl (by decide) ?_
    refine xs tn_X5_told [(84, .aload_n 0, 1), (85, .getfield 21, 3)] (st' := (88, [(0, .ref 0), (1, .int x1)], [.ref 5], wd s rest, 0, 0)) (List.forall_mem_cons.mpr ⟨dX5_told_84, List.forall_mem_cons.mpr ⟨dX5_told_85, fun _ h => absurd h List.not_mem_nil⟩⟩) rfl ?_
    obtain ⟨v6, h7, h⟩ := obind h
    refine xcall tn_X5_told dX5_told_88 rfl rfl (w_X3_size h7) ?_
    show X 56 (91, [(0, .ref 0), (1, .int x1)], [.int v6], wd s rest, 0, 0) _
    cases h
    exact xret tn_X5_told rfl dX5_told_91
  rcases osw h with ⟨c8, h⟩ | ⟨c8, h⟩
  · refine xtabI (t := 92) (v := 5) (off := 91) tn_X5_told dX5_told_1 ((congrArg Int32.toInt c8).trans (by decide)) (by decide) (by decide) rfl (by decide) ?_
    refine xs tn_X5_told [(92, .aload_n 0, 1), (93, .getfield 144, 3)] (st' := (96, [(0, .ref 0), (1, .int x1)], [.int (gI s 6)], wd s rest, 0, 0)) (List.forall_mem_cons.mpr ⟨dX5_told_92, List.forall_mem_cons.mpr ⟨dX5_told_93, fun _ h => absurd h List.not_mem_nil⟩⟩) rfl ?_
    cases h
    exact xret tn_X5_told rfl dX5_told_96
  rcases osw h with ⟨c9, h⟩ | ⟨c9, h⟩
  · refine xtabI (t := 97) (v := 6) (off := 96) tn_X5_told dX5_told_1 ((congrArg Int32.toInt c9).trans (by decide)) (by decide) (by decide) rfl (by decide) ?_
    refine xs tn_X5_told [(97, .aload_n 0, 1), (98, .getfield 199, 3)] (st' := (101, [(0, .ref 0), (1, .int x1)], [.int (gI s 7)], wd s rest, 0, 0)) (List.forall_mem_cons.mpr ⟨dX5_told_97, List.forall_mem_cons.mpr ⟨dX5_told_98, fun _ h => absurd h List.not_mem_nil⟩⟩) rfl ?_
    cases h
    exact xret tn_X5_told rfl dX5_told_101
  rcases osw h with ⟨c10, h⟩ | ⟨c10, h⟩
  · refine xtabI (t := 102) (v := 7) (off := 101) tn_X5_told dX5_told_1 ((congrArg Int32.toInt c10).trans (by decide)) (by decide) (by decide) rfl (by decide) ?_
    refine xs tn_X5_told [(102, .aload_n 0, 1), (103, .getfield 54, 3)] (st' := (106, [(0, .ref 0), (1, .int x1)], [.int (gI s 5)], wd s rest, 0, 0)) (List.forall_mem_cons.mpr ⟨dX5_told_102, List.forall_mem_cons.mpr ⟨dX5_told_103, fun _ h => absurd h List.not_mem_nil⟩⟩) rfl ?_
    cases h
    exact xret tn_X5_told rfl dX5_told_106
  rcases osw h with ⟨c11, h⟩ | ⟨c11, h⟩
  · refine xtabI (t := 107) (v := 8) (off := 106) tn_X5_told dX5_told_1 ((congrArg Int32.toInt c11).trans (by decide)) (by decide) (by decide) rfl (by decide) ?_
    refine xs tn_X5_told [(107, .aload_n 0, 1), (108, .getfield 12, 3)] (st' := (111, [(0, .ref 0), (1, .int x1)], [.ref 1], wd s rest, 0, 0)) (List.forall_mem_cons.mpr ⟨dX5_told_107, List.forall_mem_cons.mpr ⟨dX5_told_108, fun _ h => absurd h List.not_mem_nil⟩⟩) rfl ?_
    obtain ⟨v12, h13, h⟩ := obind h
    refine xcall tn_X5_told dX5_told_111 rfl rfl (w_X4_countLost h13) ?_
    show X 56 (114, [(0, .ref 0), (1, .int x1)], [.int v12], wd s rest, 0, 0) _
    cases h
    exact xret tn_X5_told rfl dX5_told_114
  rcases osw h with ⟨c14, h⟩ | ⟨c14, h⟩
  · refine xtabI (t := 115) (v := 9) (off := 114) tn_X5_told dX5_told_1 ((congrArg Int32.toInt c14).trans (by decide)) (by decide) (by decide) rfl (by decide) ?_
    refine xs tn_X5_told [(115, .aload_n 0, 1), (116, .getfield 12, 3)] (st' := (119, [(0, .ref 0), (1, .int x1)], [.ref 1], wd s rest, 0, 0)) (List.forall_mem_cons.mpr ⟨dX5_told_115, List.forall_mem_cons.mpr ⟨dX5_told_116, fun _ h => absurd h List.not_mem_nil⟩⟩) rfl ?_
    obtain ⟨v15, h16, h⟩ := obind h
    refine xcall tn_X5_told dX5_told_119 rfl rfl (w_X4_count h16) ?_
    show X 56 (122, [(0, .ref 0), (1, .int x1)], [.int v15], wd s rest, 0, 0) _
    cases h
    exact xret tn_X5_told rfl dX5_told_122
  have c1 := sw_ne (i := 0) (by decide) c1
  have c2 := sw_ne (i := 1) (by decide) c2
  have c3 := sw_ne (i := 2) (by decide) c3
  have c4 := sw_ne (i := 3) (by decide) c4
  have c5 := sw_ne (i := 4) (by decide) c5
  have c8 := sw_ne (i := 5) (by decide) c8
  have c9 := sw_ne (i := 6) (by decide) c9
  have c10 := sw_ne (i := 7) (by decide) c10
  have c11 := sw_ne (i := 8) (by decide) c11
  have c14 := sw_ne (i := 9) (by decide) c14
  refine xtabO (t := 123) tn_X5_told dX5_told_1 (by omega) (by decide) ?_
  refine xs tn_X5_told [(123, .bipush (-2), 2)] (st' := (125, [(0, .ref 0), (1, .int x1)], [.int (-nI 2)], wd s rest, 0, 0)) (List.forall_mem_cons.mpr ⟨dX5_told_123, fun _ h => absurd h List.not_mem_nil⟩) rfl ?_
  cases h
  exact xret tn_X5_told rfl dX5_told_125
