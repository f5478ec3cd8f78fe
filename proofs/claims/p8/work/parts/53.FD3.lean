def F_X3_clear (s : St) : Option (St) := bnd (sI s 8 (nI 0)) fun s1 => some s1
set_option maxRecDepth 100000 in
set_option maxHeartbeats 4000000 in
theorem w_X3_clear {rest : mx_W} {s : St} {r : St} (h : F_X3_clear s = some r) : X 14 (0, [(0, .ref 5)], [], wd s rest, 0, 0) (none, wd r rest, 0, 0) := by
  unfold F_X3_clear at h
  refine xs tn_X3_clear [(0, .aload_n 0, 1), (1, .iconst 0, 1)] (st' := (2, [(0, .ref 5)], [.int (nI 0), .ref 5], wd s rest, 0, 0)) (List.forall_mem_cons.mpr ⟨dX3_clear_0, List.forall_mem_cons.mpr ⟨dX3_clear_1, fun _ h => absurd h List.not_mem_nil⟩⟩) rfl ?_
  refine xput_a8 tn_X3_clear dX3_clear_2 rfl h (fun s1 h => ?_)
  cases h
  exact xretv tn_X3_clear rfl dX3_clear_5
def F_X5_sync (N : Nat) (s : St) : Option (Int32 × St) := bif mx_cnd .ne (gI s 0) 0 then (bnd (sI s 3 ((gI s 3) + (nI 1))) fun s1 => (F_X5_draftHead N s1 (gI s1 3)).bind fun s2 => (F_X5_headSector (gI s2 3)).bind fun v4 => (F_X4_store N s2 v4 (nI 32)).bind fun s6 => (F_X3_clear s6).bind fun s8 => some (gI s8 3, s8)) else (some (-nI 3, s))
set_option maxRecDepth 100000 in
set_option maxHeartbeats 4000000 in
theorem w_X5_sync {rest : mx_W} {N : Nat} {s : St} {r : Int32} {t : St} (h : F_X5_sync N s = some (r, t)) : X 104 (0, [(0, .ref 0)], [], wd s rest, 0, 0) (some (.int r), wd t rest, 0, 0) := by
  unfold F_X5_sync at h
  refine xs tn_X5_sync [(0, .aload_n 0, 1), (1, .getfield 46, 3)] (st' := (4, [(0, .ref 0)], [.int (gI s 0)], wd s rest, 0, 0)) (List.forall_mem_cons.mpr ⟨dX5_sync_0, List.forall_mem_cons.mpr ⟨dX5_sync_1, fun _ h => absurd h List.not_mem_nil⟩⟩) rfl ?_
  refine xifF (t := 10) tn_X5_sync dX5_sync_4 (by decide) h (fun h => ?_) (fun h => ?_)
  · refine xs tn_X5_sync [(10, .aload_n 0, 1), (11, .dup, 1), (12, .getfield 109, 3), (15, .iconst 1, 1), (16, .iadd, 1)] (st' := (17, [(0, .ref 0)], [.int ((gI s 3) + (nI 1)), .ref 0], wd s rest, 0, 0)) (List.forall_mem_cons.mpr ⟨dX5_sync_10, List.forall_mem_cons.mpr ⟨dX5_sync_11, List.forall_mem_cons.mpr ⟨dX5_sync_12, List.forall_mem_cons.mpr ⟨dX5_sync_15, List.forall_mem_cons.mpr ⟨dX5_sync_16, fun _ h => absurd h List.not_mem_nil⟩⟩⟩⟩⟩) rfl ?_
    refine xput_a3 tn_X5_sync dX5_sync_17 rfl h (fun s1 h => ?_)
    refine xs tn_X5_sync [(20, .aload_n 0, 1), (21, .aload_n 0, 1), (22, .getfield 109, 3)] (st' := (25, [(0, .ref 0)], [.int (gI s1 3), .ref 0], wd s1 rest, 0, 0)) (List.forall_mem_cons.mpr ⟨dX5_sync_20, List.forall_mem_cons.mpr ⟨dX5_sync_21, List.forall_mem_cons.mpr ⟨dX5_sync_22, fun _ h => absurd h List.not_mem_nil⟩⟩⟩) rfl ?_
    obtain ⟨s2, h3, h⟩ := obind h
    refine xcall tn_X5_sync dX5_sync_25 rfl rfl (w_X5_draftHead h3) ?_
    show X 104 (28, [(0, .ref 0)], [], wd s2 rest, 0, 0) _
    refine xs tn_X5_sync [(28, .aload_n 0, 1), (29, .getfield 12, 3), (32, .aload_n 0, 1), (33, .getfield 109, 3)] (st' := (36, [(0, .ref 0)], [.int (gI s2 3), .ref 1], wd s2 rest, 0, 0)) (List.forall_mem_cons.mpr ⟨dX5_sync_28, List.forall_mem_cons.mpr ⟨dX5_sync_29, List.forall_mem_cons.mpr ⟨dX5_sync_32, List.forall_mem_cons.mpr ⟨dX5_sync_33, fun _ h => absurd h List.not_mem_nil⟩⟩⟩⟩) rfl ?_
    obtain ⟨v4, h5, h⟩ := obind h
    refine xcall tn_X5_sync dX5_sync_36 rfl rfl (w_X5_headSector h5) ?_
    show X 104 (39, [(0, .ref 0)], [.int v4, .ref 1], wd s2 rest, 0, 0) _
    refine xs tn_X5_sync [(39, .aload_n 0, 1), (40, .getfield 28, 3), (43, .bipush 32, 2)] (st' := (45, [(0, .ref 0)], [.int (nI 32), .ref 9, .int v4, .ref 1], wd s2 rest, 0, 0)) (List.forall_mem_cons.mpr ⟨dX5_sync_39, List.forall_mem_cons.mpr ⟨dX5_sync_40, List.forall_mem_cons.mpr ⟨dX5_sync_43, fun _ h => absurd h List.not_mem_nil⟩⟩⟩) rfl ?_
    obtain ⟨s6, h7, h⟩ := obind h
    refine xcall tn_X5_sync dX5_sync_45 rfl rfl (w_X4_store h7) ?_
    show X 104 (48, [(0, .ref 0)], [], wd s6 rest, 0, 0) _
    refine xs tn_X5_sync [(48, .aload_n 0, 1), (49, .getfield 21, 3)] (st' := (52, [(0, .ref 0)], [.ref 5], wd s6 rest, 0, 0)) (List.forall_mem_cons.mpr ⟨dX5_sync_48, List.forall_mem_cons.mpr ⟨dX5_sync_49, fun _ h => absurd h List.not_mem_nil⟩⟩) rfl ?_
    obtain ⟨s8, h9, h⟩ := obind h
    refine xcall tn_X5_sync dX5_sync_52 rfl rfl (w_X3_clear h9) ?_
    show X 104 (55, [(0, .ref 0)], [], wd s8 rest, 0, 0) _
    refine xs tn_X5_sync [(55, .aload_n 0, 1), (56, .getfield 109, 3)] (st' := (59, [(0, .ref 0)], [.int (gI s8 3)], wd s8 rest, 0, 0)) (List.forall_mem_cons.mpr ⟨dX5_sync_55, List.forall_mem_cons.mpr ⟨dX5_sync_56, fun _ h => absurd h List.not_mem_nil⟩⟩) rfl ?_
    cases h
    exact xret tn_X5_sync rfl dX5_sync_59
  · refine xs tn_X5_sync [(7, .bipush (-3), 2)] (st' := (9, [(0, .ref 0)], [.int (-nI 3)], wd s rest, 0, 0)) (List.forall_mem_cons.mpr ⟨dX5_sync_7, fun _ h => absurd h List.not_mem_nil⟩) rfl ?_
    cases h
    exact xret tn_X5_sync rfl dX5_sync_9
def F_X3_size (s : St) : Option (Int32) := some (gI s 8)
set_option maxRecDepth 100000 in
set_option maxHeartbeats 4000000 in
theorem w_X3_size {rest : mx_W} {s : St} {r : Int32} (h : F_X3_size s = some r) : X 16 (0, [(0, .ref 5)], [], wd s rest, 0, 0) (some (.int r), wd s rest, 0, 0) := by
  unfold F_X3_size at h
  refine xs tn_X3_size [(0, .aload_n 0, 1), (1, .getfield 22, 3)] (st' := (4, [(0, .ref 5)], [.int (gI s 8)], wd s rest, 0, 0)) (List.forall_mem_cons.mpr ⟨dX3_size_0, List.forall_mem_cons.mpr ⟨dX3_size_1, fun _ h => absurd h List.not_mem_nil⟩⟩) rfl ?_
  cases h
  exact xret tn_X3_size rfl dX3_size_4
def F_X4_hasCell (s : St) (x1 : Int32) (x2 : Int32) : Option (Int32) := bif mx_cnd .lt x1 0 then (some (nI 0)) else (bif mx_cnd .ge x1 (nI (gN s)) then (some (nI 0)) else (bif mx_cnd .lt x2 0 then (some (nI 0)) else (bif mx_cnd .ge x2 (nI 32) then (some (nI 0)) else (some (nI 1)))))
set_option maxRecDepth 100000 in
set_option maxHeartbeats 4000000 in
theorem w_X4_hasCell {rest : mx_W} {s : St} {x1 : Int32} {x2 : Int32} {r : Int32} (h : F_X4_hasCell s x1 x2 = some r) : X 21 (0, [(0, .ref 1), (1, .int x1), (2, .int x2)], [], wd s rest, 0, 0) (some (.int r), wd s rest, 0, 0) := by
  unfold F_X4_hasCell at h
  refine xs tn_X4_hasCell [(0, .iload_n 1, 1)] (st' := (1, [(0, .ref 1), (1, .int x1), (2, .int x2)], [.int x1], wd s rest, 0, 0)) (List.forall_mem_cons.mpr ⟨dX4_hasCell_0, fun _ h => absurd h List.not_mem_nil⟩) rfl ?_
  refine xifF (t := 26) tn_X4_hasCell dX4_hasCell_1 (by decide) h (fun h => ?_) (fun h => ?_)
  · refine xs tn_X4_hasCell [(26, .iconst 0, 1)] (st' := (27, [(0, .ref 1), (1, .int x1), (2, .int x2)], [.int (nI 0)], wd s rest, 0, 0)) (List.forall_mem_cons.mpr ⟨dX4_hasCell_26, fun _ h => absurd h List.not_mem_nil⟩) rfl ?_
    cases h
    exact xretz tn_X4_hasCell rfl (by decide) dX4_hasCell_27
  · refine xs tn_X4_hasCell [(4, .iload_n 1, 1), (5, .aload_n 0, 1), (6, .getfield 18, 3)] (st' := (9, [(0, .ref 1), (1, .int x1), (2, .int x2)], [.int (nI (gN s)), .int x1], wd s rest, 0, 0)) (List.forall_mem_cons.mpr ⟨dX4_hasCell_4, List.forall_mem_cons.mpr ⟨dX4_hasCell_5, List.forall_mem_cons.mpr ⟨dX4_hasCell_6, fun _ h => absurd h List.not_mem_nil⟩⟩⟩) rfl ?_
    refine xcmpF (t := 26) tn_X4_hasCell dX4_hasCell_9 (by decide) h (fun h => ?_) (fun h => ?_)
    · refine xs tn_X4_hasCell [(26, .iconst 0, 1)] (st' := (27, [(0, .ref 1), (1, .int x1), (2, .int x2)], [.int (nI 0)], wd s rest, 0, 0)) (List.forall_mem_cons.mpr ⟨dX4_hasCell_26, fun _ h => absurd h List.not_mem_nil⟩) rfl ?_
      cases h
      exact xretz tn_X4_hasCell rfl (by decide) dX4_hasCell_27
    · refine xs tn_X4_hasCell [(12, .iload_n 2, 1)] (st' := (13, [(0, .ref 1), (1, .int x1), (2, .int x2)], [.int x2], wd s rest, 0, 0)) (List.forall_mem_cons.mpr ⟨dX4_hasCell_12, fun _ h => absurd h List.not_mem_nil⟩) rfl ?_
      refine xifF (t := 26) tn_X4_hasCell dX4_hasCell_13 (by decide) h (fun h => ?_) (fun h => ?_)
      · refine xs tn_X4_hasCell [(26, .iconst 0, 1)] (st' := (27, [(0, .ref 1), (1, .int x1), (2, .int x2)], [.int (nI 0)], wd s rest, 0, 0)) (List.forall_mem_cons.mpr ⟨dX4_hasCell_26, fun _ h => absurd h List.not_mem_nil⟩) rfl ?_
        cases h
        exact xretz tn_X4_hasCell rfl (by decide) dX4_hasCell_27
      · refine xs tn_X4_hasCell [(16, .iload_n 2, 1), (17, .bipush 32, 2)] (st' := (19, [(0, .ref 1), (1, .int x1), (2, .int x2)], [.int (nI 32), .int x2], wd s rest, 0, 0)) (List.forall_mem_cons.mpr ⟨dX4_hasCell_16, List.forall_mem_cons.mpr ⟨dX4_hasCell_17, fun _ h => absurd h List.not_mem_nil⟩⟩) rfl ?_
        refine xcmpF (t := 26) tn_X4_hasCell dX4_hasCell_19 (by decide) h (fun h => ?_) (fun h => ?_)
        · refine xs tn_X4_hasCell [(26, .iconst 0, 1)] (st' := (27, [(0, .ref 1), (1, .int x1), (2, .int x2)], [.int (nI 0)], wd s rest, 0, 0)) (List.forall_mem_cons.mpr ⟨dX4_hasCell_26, fun _ h => absurd h List.not_mem_nil⟩) rfl ?_
          cases h
          exact xretz tn_X4_hasCell rfl (by decide) dX4_hasCell_27
        · refine xs tn_X4_hasCell [(22, .iconst 1, 1), (23, .goto 4, 3)] (st' := (27, [(0, .ref 1), (1, .int x1), (2, .int x2)], [.int (nI 1)], wd s rest, 0, 0)) (List.forall_mem_cons.mpr ⟨dX4_hasCell_22, List.forall_mem_cons.mpr ⟨dX4_hasCell_23, fun _ h => absurd h List.not_mem_nil⟩⟩) rfl ?_
          cases h
          exact xretz tn_X4_hasCell rfl (by decide) dX4_hasCell_27
def F_X4_takeBack (N : Nat) (s : St) (x1 : Int32) (x2 : Int32) (x4 : Int32) (x5 : Int32) : Option (St) := (F_X4_hasCell s x1 x2).bind fun v1 => bif mx_cnd .eq v1 0 then (some s) else (bif mx_cnd .lt x4 0 then (some s) else (bif mx_cnd .le x4 ((nI 1920) - (nI 32)) then (cpA s 4 1920 0 (32 * gN s) (x4 + x2) ((x1 * (nI 32)) + x2) ((nI 32) - x2) fun s3 => stA s3 1 (gN s3) x1 (vp_nar .boolean x5) fun s4 => (F_X4_judge N s4 x1).bind fun s5 => some s5) else (some s)))
set_option maxRecDepth 100000 in
set_option maxHeartbeats 4000000 in
theorem w_X4_takeBack {rest : mx_W} {N : Nat} {s : St} {x1 : Int32} {x2 : Int32} {x4 : Int32} {x5 : Int32} {r : St} (h : F_X4_takeBack N s x1 x2 x4 x5 = some r) : X 71 (0, [(0, .ref 1), (1, .int x1), (2, .int x2), (3, .ref 7), (4, .int x4), (5, .int x5)], [], wd s rest, 0, 0) (none, wd r rest, 0, 0) := by
  unfold F_X4_takeBack at h
  refine xs tn_X4_takeBack [(0, .aload_n 0, 1), (1, .iload_n 1, 1), (2, .iload_n 2, 1)] (st' := (3, [(0, .ref 1), (1, .int x1), (2, .int x2), (3, .ref 7), (4, .int x4), (5, .int x5)], [.int x2, .int x1, .ref 1], wd s rest, 0, 0)) (List.forall_mem_cons.mpr ⟨dX4_takeBack_0, List.forall_mem_cons.mpr ⟨dX4_takeBack_1, List.forall_mem_cons.mpr ⟨dX4_takeBack_2, fun _ h => absurd h List.not_mem_nil⟩⟩⟩) rfl ?_
  obtain ⟨v1, h2, h⟩ := obind h
  refine xcall tn_X4_takeBack dX4_takeBack_3 rfl rfl (w_X4_hasCell h2) ?_
  show X 71 (6, [(0, .ref 1), (1, .int x1), (2, .int x2), (3, .ref 7), (4, .int x4), (5, .int x5)], [.int v1], wd s rest, 0, 0) _
  refine xifF (t := 24) tn_X4_takeBack dX4_takeBack_6 (by decide) h (fun h => ?_) (fun h => ?_)
  · cases h
    exact xretv tn_X4_takeBack rfl dX4_takeBack_24
  · refine xs tn_X4_takeBack [(9, .iload 4, 2)] (st' := (11, [(0, .ref 1), (1, .int x1), (2, .int x2), (3, .ref 7), (4, .int x4), (5, .int x5)], [.int x4], wd s rest, 0, 0)) (List.forall_mem_cons.mpr ⟨dX4_takeBack_9, fun _ h => absurd h List.not_mem_nil⟩) rfl ?_
    refine xifF (t := 24) tn_X4_takeBack dX4_takeBack_11 (by decide) h (fun h => ?_) (fun h => ?_)
    · cases h
      exact xretv tn_X4_takeBack rfl dX4_takeBack_24
    · refine xs tn_X4_takeBack [(14, .iload 4, 2), (16, .aload_n 3, 1), (17, .arraylength, 1), (18, .bipush 32, 2), (20, .isub, 1)] (st' := (21, [(0, .ref 1), (1, .int x1), (2, .int x2), (3, .ref 7), (4, .int x4), (5, .int x5)], [.int ((nI 1920) - (nI 32)), .int x4], wd s rest, 0, 0)) (List.forall_mem_cons.mpr ⟨dX4_takeBack_14, List.forall_mem_cons.mpr ⟨dX4_takeBack_16, List.forall_mem_cons.mpr ⟨dX4_takeBack_17, List.forall_mem_cons.mpr ⟨dX4_takeBack_18, List.forall_mem_cons.mpr ⟨dX4_takeBack_20, fun _ h => absurd h List.not_mem_nil⟩⟩⟩⟩⟩) rfl ?_
      refine xcmpF (t := 25) tn_X4_takeBack dX4_takeBack_21 (by decide) h (fun h => ?_) (fun h => ?_)
      · refine xs tn_X4_takeBack [(25, .aload_n 3, 1), (26, .iload 4, 2), (28, .iload_n 2, 1), (29, .iadd, 1), (30, .aload_n 0, 1), (31, .getfield 24, 3), (34, .iload_n 1, 1), (35, .bipush 32, 2), (37, .imul, 1), (38, .iload_n 2, 1), (39, .iadd, 1), (40, .bipush 32, 2), (42, .iload_n 2, 1), (43, .isub, 1)] (st' := (44, [(0, .ref 1), (1, .int x1), (2, .int x2), (3, .ref 7), (4, .int x4), (5, .int x5)], [.int ((nI 32) - x2), .int ((x1 * (nI 32)) + x2), .ref 2, .int (x4 + x2), .ref 7], wd s rest, 0, 0)) (List.forall_mem_cons.mpr ⟨dX4_takeBack_25, List.forall_mem_cons.mpr ⟨dX4_takeBack_26, List.forall_mem_cons.mpr ⟨dX4_takeBack_28, List.forall_mem_cons.mpr ⟨dX4_takeBack_29, List.forall_mem_cons.mpr ⟨dX4_takeBack_30, List.forall_mem_cons.mpr ⟨dX4_takeBack_31, List.forall_mem_cons.mpr ⟨dX4_takeBack_34, List.forall_mem_cons.mpr ⟨dX4_takeBack_35, List.forall_mem_cons.mpr ⟨dX4_takeBack_37, List.forall_mem_cons.mpr ⟨dX4_takeBack_38, List.forall_mem_cons.mpr ⟨dX4_takeBack_39, List.forall_mem_cons.mpr ⟨dX4_takeBack_40, List.forall_mem_cons.mpr ⟨dX4_takeBack_42, List.forall_mem_cons.mpr ⟨dX4_takeBack_43, fun _ h => absurd h List.not_mem_nil⟩⟩⟩⟩⟩⟩⟩⟩⟩⟩⟩⟩⟩⟩) rfl ?_
        refine xcpF (W := fun s => wd s rest) tn_X4_takeBack dX4_takeBack_44 rfl at_7 at_2 (fun _ => set_2) rfl h (fun s3 h => ?_)
        refine xs tn_X4_takeBack [(47, .aload_n 0, 1), (48, .getfield 28, 3), (51, .iload_n 1, 1), (52, .iload 5, 2)] (st' := (54, [(0, .ref 1), (1, .int x1), (2, .int x2), (3, .ref 7), (4, .int x4), (5, .int x5)], [.int x5, .int x1, .ref 3], wd s3 rest, 0, 0)) (List.forall_mem_cons.mpr ⟨dX4_takeBack_47, List.forall_mem_cons.mpr ⟨dX4_takeBack_48, List.forall_mem_cons.mpr ⟨dX4_takeBack_51, List.forall_mem_cons.mpr ⟨dX4_takeBack_52, fun _ h => absurd h List.not_mem_nil⟩⟩⟩⟩) rfl ?_
        refine xzstF (W := fun s => wd s rest) tn_X4_takeBack dX4_takeBack_54 at_3 (fun _ => set_3) h (fun s4 h => ?_)
        refine xs tn_X4_takeBack [(55, .aload_n 0, 1), (56, .iload_n 1, 1)] (st' := (57, [(0, .ref 1), (1, .int x1), (2, .int x2), (3, .ref 7), (4, .int x4), (5, .int x5)], [.int x1, .ref 1], wd s4 rest, 0, 0)) (List.forall_mem_cons.mpr ⟨dX4_takeBack_55, List.forall_mem_cons.mpr ⟨dX4_takeBack_56, fun _ h => absurd h List.not_mem_nil⟩⟩) rfl ?_
        obtain ⟨s5, h6, h⟩ := obind h
        refine xcall tn_X4_takeBack dX4_takeBack_57 rfl rfl (w_X4_judge h6) ?_
        show X 71 (60, [(0, .ref 1), (1, .int x1), (2, .int x2), (3, .ref 7), (4, .int x4), (5, .int x5)], [], wd s5 rest, 0, 0) _
        cases h
        exact xretv tn_X4_takeBack rfl dX4_takeBack_60
      · cases h
        exact xretv tn_X4_takeBack rfl dX4_takeBack_24
def F_X3_undoBehind_8 (N : Nat) : Nat → St → Int32 → Int32 → Int32 → Option (St)
  | 0, _, _, _, _ => none
  | f + 1, s, x1, x2, x4 => bif mx_cnd .le x4 x1 then (bif mx_cnd .lt x1 0 then (some s) else (bif mx_cnd .ge x1 (gI s 8) then (some s) else (ldA (gA s 3) 60 x1 fun v1 => (F_X4_takeBack N s v1 x2 (x1 * (nI 32)) (nI 0)).bind fun s2 => some s2))) else (bif mx_cnd .lt x4 0 then (bif mx_cnd .lt x1 0 then (some s) else (bif mx_cnd .ge x1 (gI s 8) then (some s) else (ldA (gA s 3) 60 x1 fun v4 => (F_X4_takeBack N s v4 x2 (x1 * (nI 32)) (nI 0)).bind fun s5 => some s5))) else (ldA (gA s 3) 60 x4 fun v7 => ldA (gA s 5) 60 x4 fun v8 => (F_X4_takeBack N s v7 (nI 0) (x4 * (nI 32)) v8).bind fun s9 => F_X3_undoBehind_8 N f s9 x1 x2 (x4 + (-nI 1))))
set_option maxRecDepth 100000 in
set_option maxHeartbeats 4000000 in
theorem w_X3_undoBehind_8 {rest : mx_W} {N : Nat} : ∀ (f : Nat) (s : St) (x1 : Int32) (x2 : Int32) (x4 : Int32) (r : St), F_X3_undoBehind_8 N f s x1 x2 x4 = some r → X 94 (8, [(0, .ref 5), (1, .int x1), (2, .int x2), (3, .ref 1), (4, .int x4)], [], wd s rest, 0, 0) (none, wd r rest, 0, 0) := by
  intro f
  induction f with
  | zero => intro s x1 x2 x4 r h; rw [F_X3_undoBehind_8.eq_1] at h; cases h
  | succ f ih =>
    intro s x1 x2 x4 r h
    rw [F_X3_undoBehind_8.eq_2] at h
    refine xs tn_X3_undoBehind [(8, .iload 4, 2), (10, .iload_n 1, 1)] (st' := (11, [(0, .ref 5), (1, .int x1), (2, .int x2), (3, .ref 1), (4, .int x4)], [.int x1, .int x4], wd s rest, 0, 0)) (List.forall_mem_cons.mpr ⟨dX3_undoBehind_8, List.forall_mem_cons.mpr ⟨dX3_undoBehind_10, fun _ h => absurd h List.not_mem_nil⟩⟩) rfl ?_
    refine xcmpF (t := 53) tn_X3_undoBehind dX3_undoBehind_11 (by decide) h (fun h => ?_) (fun h => ?_)
    · refine xs tn_X3_undoBehind [(53, .iload_n 1, 1)] (st' := (54, [(0, .ref 5), (1, .int x1), (2, .int x2), (3, .ref 1), (4, .int x4)], [.int x1], wd s rest, 0, 0)) (List.forall_mem_cons.mpr ⟨dX3_undoBehind_53, fun _ h => absurd h List.not_mem_nil⟩) rfl ?_
      refine xifF (t := 85) tn_X3_undoBehind dX3_undoBehind_54 (by decide) h (fun h => ?_) (fun h => ?_)
      · cases h
        exact xretv tn_X3_undoBehind rfl dX3_undoBehind_85
      · refine xs tn_X3_undoBehind [(57, .iload_n 1, 1), (58, .aload_n 0, 1), (59, .getfield 22, 3)] (st' := (62, [(0, .ref 5), (1, .int x1), (2, .int x2), (3, .ref 1), (4, .int x4)], [.int (gI s 8), .int x1], wd s rest, 0, 0)) (List.forall_mem_cons.mpr ⟨dX3_undoBehind_57, List.forall_mem_cons.mpr ⟨dX3_undoBehind_58, List.forall_mem_cons.mpr ⟨dX3_undoBehind_59, fun _ h => absurd h List.not_mem_nil⟩⟩⟩) rfl ?_
        refine xcmpF (t := 85) tn_X3_undoBehind dX3_undoBehind_62 (by decide) h (fun h => ?_) (fun h => ?_)
        · cases h
          exact xretv tn_X3_undoBehind rfl dX3_undoBehind_85
        · refine xs tn_X3_undoBehind [(65, .aload_n 3, 1), (66, .aload_n 0, 1), (67, .getfield 9, 3), (70, .iload_n 1, 1)] (st' := (71, [(0, .ref 5), (1, .int x1), (2, .int x2), (3, .ref 1), (4, .int x4)], [.int x1, .ref 6, .ref 1], wd s rest, 0, 0)) (List.forall_mem_cons.mpr ⟨dX3_undoBehind_65, List.forall_mem_cons.mpr ⟨dX3_undoBehind_66, List.forall_mem_cons.mpr ⟨dX3_undoBehind_67, List.forall_mem_cons.mpr ⟨dX3_undoBehind_70, fun _ h => absurd h List.not_mem_nil⟩⟩⟩⟩) rfl ?_
          refine xldF tn_X3_undoBehind dX3_undoBehind_71 at_6 h (fun v1 h => ?_)
          refine xs tn_X3_undoBehind [(72, .iload_n 2, 1), (73, .aload_n 0, 1), (74, .getfield 15, 3), (77, .iload_n 1, 1), (78, .bipush 32, 2), (80, .imul, 1), (81, .iconst 0, 1)] (st' := (82, [(0, .ref 5), (1, .int x1), (2, .int x2), (3, .ref 1), (4, .int x4)], [.int (nI 0), .int (x1 * (nI 32)), .ref 7, .int x2, .int v1, .ref 1], wd s rest, 0, 0)) (List.forall_mem_cons.mpr ⟨dX3_undoBehind_72, List.forall_mem_cons.mpr ⟨dX3_undoBehind_73, List.forall_mem_cons.mpr ⟨dX3_undoBehind_74, List.forall_mem_cons.mpr ⟨dX3_undoBehind_77, List.forall_mem_cons.mpr ⟨dX3_undoBehind_78, List.forall_mem_cons.mpr ⟨dX3_undoBehind_80, List.forall_mem_cons.mpr ⟨dX3_undoBehind_81, fun _ h => absurd h List.not_mem_nil⟩⟩⟩⟩⟩⟩⟩) rfl ?_
          obtain ⟨s2, h3, h⟩ := obind h
          refine xcall tn_X3_undoBehind dX3_undoBehind_82 rfl rfl (w_X4_takeBack h3) ?_
          show X 94 (85, [(0, .ref 5), (1, .int x1), (2, .int x2), (3, .ref 1), (4, .int x4)], [], wd s2 rest, 0, 0) _
          cases h
          exact xretv tn_X3_undoBehind rfl dX3_undoBehind_85
    · refine xs tn_X3_undoBehind [(14, .iload 4, 2)] (st' := (16, [(0, .ref 5), (1, .int x1), (2, .int x2), (3, .ref 1), (4, .int x4)], [.int x4], wd s rest, 0, 0)) (List.forall_mem_cons.mpr ⟨dX3_undoBehind_14, fun _ h => absurd h List.not_mem_nil⟩) rfl ?_
      refine xifF (t := 53) tn_X3_undoBehind dX3_undoBehind_16 (by decide) h (fun h => ?_) (fun h => ?_)
      · refine xs tn_X3_undoBehind [(53, .iload_n 1, 1)] (st' := (54, [(0, .ref 5), (1, .int x1), (2, .int x2), (3, .ref 1), (4, .int x4)], [.int x1], wd s rest, 0, 0)) (List.forall_mem_cons.mpr ⟨dX3_undoBehind_53, fun _ h => absurd h List.not_mem_nil⟩) rfl ?_
        refine xifF (t := 85) tn_X3_undoBehind dX3_undoBehind_54 (by decide) h (fun h => ?_) (fun h => ?_)
        · cases h
          exact xretv tn_X3_undoBehind rfl dX3_undoBehind_85
        · refine xs tn_X3_undoBehind [(57, .iload_n 1, 1), (58, .aload_n 0, 1), (59, .getfield 22, 3)] (st' := (62, [(0, .ref 5), (1, .int x1), (2, .int x2), (3, .ref 1), (4, .int x4)], [.int (gI s 8), .int x1], wd s rest, 0, 0)) (List.forall_mem_cons.mpr ⟨dX3_undoBehind_57, List.forall_mem_cons.mpr ⟨dX3_undoBehind_58, List.forall_mem_cons.mpr ⟨dX3_undoBehind_59, fun _ h => absurd h List.not_mem_nil⟩⟩⟩) rfl ?_
          refine xcmpF (t := 85) tn_X3_undoBehind dX3_undoBehind_62 (by decide) h (fun h => ?_) (fun h => ?_)
          · cases h
            exact xretv tn_X3_undoBehind rfl dX3_undoBehind_85
          · refine xs tn_X3_undoBehind [(65, .aload_n 3, 1), (66, .aload_n 0, 1), (67, .getfield 9, 3), (70, .iload_n 1, 1)] (st' := (71, [(0, .ref 5), (1, .int x1), (2, .int x2), (3, .ref 1), (4, .int x4)], [.int x1, .ref 6, .ref 1], wd s rest, 0, 0)) (List.forall_mem_cons.mpr ⟨dX3_undoBehind_65, List.forall_mem_cons.mpr ⟨dX3_undoBehind_66, List.forall_mem_cons.mpr ⟨dX3_undoBehind_67, List.forall_mem_cons.mpr ⟨dX3_undoBehind_70, fun _ h => absurd h List.not_mem_nil⟩⟩⟩⟩) rfl ?_
            refine xldF tn_X3_undoBehind dX3_undoBehind_71 at_6 h (fun v4 h => ?_)
            refine xs tn_X3_undoBehind [(72, .iload_n 2, 1), (73, .aload_n 0, 1), (74, .getfield 15, 3), (77, .iload_n 1, 1), (78, .bipush 32, 2), (80, .imul, 1), (81, .iconst 0, 1)] (st' := (82, [(0, .ref 5), (1, .int x1), (2, .int x2), (3, .ref 1), (4, .int x4)], [.int (nI 0), .int (x1 * (nI 32)), .ref 7, .int x2, .int v4, .ref 1], wd s rest, 0, 0)) (List.forall_mem_cons.mpr ⟨dX3_undoBehind_72, List.forall_mem_cons.mpr ⟨dX3_undoBehind_73, List.forall_mem_cons.mpr ⟨dX3_undoBehind_74, List.forall_mem_cons.mpr ⟨dX3_undoBehind_77, List.forall_mem_cons.mpr ⟨dX3_undoBehind_78, List.forall_mem_cons.mpr ⟨dX3_undoBehind_80, List.forall_mem_cons.mpr ⟨dX3_undoBehind_81, fun _ h => absurd h List.not_mem_nil⟩⟩⟩⟩⟩⟩⟩) rfl ?_
            obtain ⟨s5, h6, h⟩ := obind h
            refine xcall tn_X3_undoBehind dX3_undoBehind_82 rfl rfl (w_X4_takeBack h6) ?_
            show X 94 (85, [(0, .ref 5), (1, .int x1), (2, .int x2), (3, .ref 1), (4, .int x4)], [], wd s5 rest, 0, 0) _
            cases h
            exact xretv tn_X3_undoBehind rfl dX3_undoBehind_85
      · refine xs tn_X3_undoBehind [(19, .aload_n 3, 1), (20, .aload_n 0, 1), (21, .getfield 9, 3), (24, .iload 4, 2)] (st' := (26, [(0, .ref 5), (1, .int x1), (2, .int x2), (3, .ref 1), (4, .int x4)], [.int x4, .ref 6, .ref 1], wd s rest, 0, 0)) (List.forall_mem_cons.mpr ⟨dX3_undoBehind_19, List.forall_mem_cons.mpr ⟨dX3_undoBehind_20, List.forall_mem_cons.mpr ⟨dX3_undoBehind_21, List.forall_mem_cons.mpr ⟨dX3_undoBehind_24, fun _ h => absurd h List.not_mem_nil⟩⟩⟩⟩) rfl ?_
        refine xldF tn_X3_undoBehind dX3_undoBehind_26 at_6 h (fun v7 h => ?_)
        refine xs tn_X3_undoBehind [(27, .iconst 0, 1), (28, .aload_n 0, 1), (29, .getfield 15, 3), (32, .iload 4, 2), (34, .bipush 32, 2), (36, .imul, 1), (37, .aload_n 0, 1), (38, .getfield 18, 3), (41, .iload 4, 2)] (st' := (43, [(0, .ref 5), (1, .int x1), (2, .int x2), (3, .ref 1), (4, .int x4)], [.int x4, .ref 8, .int (x4 * (nI 32)), .ref 7, .int (nI 0), .int v7, .ref 1], wd s rest, 0, 0)) (List.forall_mem_cons.mpr ⟨dX3_undoBehind_27, List.forall_mem_cons.mpr ⟨dX3_undoBehind_28, List.forall_mem_cons.mpr ⟨dX3_undoBehind_29, List.forall_mem_cons.mpr ⟨dX3_undoBehind_32, List.forall_mem_cons.mpr ⟨dX3_undoBehind_34, List.forall_mem_cons.mpr ⟨dX3_undoBehind_36, List.forall_mem_cons.mpr ⟨dX3_undoBehind_37, List.forall_mem_cons.mpr ⟨dX3_undoBehind_38, List.forall_mem_cons.mpr ⟨dX3_undoBehind_41, fun _ h => absurd h List.not_mem_nil⟩⟩⟩⟩⟩⟩⟩⟩⟩) rfl ?_
        refine xzldF tn_X3_undoBehind dX3_undoBehind_43 at_8 h (fun v8 h => ?_)
        obtain ⟨s9, h10, h⟩ := obind h
        refine xcall tn_X3_undoBehind dX3_undoBehind_44 rfl rfl (w_X4_takeBack h10) ?_
        show X 94 (47, [(0, .ref 5), (1, .int x1), (2, .int x2), (3, .ref 1), (4, .int x4)], [], wd s9 rest, 0, 0) _
        refine xs tn_X3_undoBehind [(47, .iinc 4 (-1), 3), (50, .goto (-42), 3)] (st' := (8, [(0, .ref 5), (1, .int x1), (2, .int x2), (3, .ref 1), (4, .int (x4 + (-nI 1)))], [], wd s9 rest, 0, 0)) (List.forall_mem_cons.mpr ⟨dX3_undoBehind_47, List.forall_mem_cons.mpr ⟨dX3_undoBehind_50, fun _ h => absurd h List.not_mem_nil⟩⟩) rfl ?_
        refine xwk [0, 1, 2, 3, 4] rfl rfl ?_
        exact ih _ _ _ _ _ h
def F_X3_undoBehind (N : Nat) (s : St) (x1 : Int32) (x2 : Int32) : Option (St) := F_X3_undoBehind_8 N N s x1 x2 ((gI s 8) - (nI 1))
set_option maxRecDepth 100000 in
set_option maxHeartbeats 4000000 in
theorem w_X3_undoBehind {rest : mx_W} {N : Nat} {s : St} {x1 : Int32} {x2 : Int32} {r : St} (h : F_X3_undoBehind N s x1 x2 = some r) : X 94 (0, [(0, .ref 5), (1, .int x1), (2, .int x2), (3, .ref 1)], [], wd s rest, 0, 0) (none, wd r rest, 0, 0) := by
  unfold F_X3_undoBehind at h
  refine xs tn_X3_undoBehind [(0, .aload_n 0, 1), (1, .getfield 22, 3), (4, .iconst 1, 1), (5, .isub, 1), (6, .istore 4, 2)] (st' := (8, [(4, .int ((gI s 8) - (nI 1))), (0, .ref 5), (1, .int x1), (2, .int x2), (3, .ref 1)], [], wd s rest, 0, 0)) (List.forall_mem_cons.mpr ⟨dX3_undoBehind_0, List.forall_mem_cons.mpr ⟨dX3_undoBehind_1, List.forall_mem_cons.mpr ⟨dX3_undoBehind_4, List.forall_mem_cons.mpr ⟨dX3_undoBehind_5, List.forall_mem_cons.mpr ⟨dX3_undoBehind_6, fun _ h => absurd h List.not_mem_nil⟩⟩⟩⟩⟩) rfl ?_
  refine xwk [0, 1, 2, 3, 4] rfl rfl ?_
  exact w_X3_undoBehind_8 N _ _ _ _ _ h
def F_X5_tearHead (N : Nat) (s : St) (x1 : Int32) : Option (St) := (F_X5_draftHead N s ((gI s 3) + (nI 1))).bind fun s1 => (F_X5_headSector ((gI s 3) + (nI 1))).bind fun v3 => (F_X4_store N s1 v3 x1).bind fun s5 => some s5
set_option maxRecDepth 100000 in
set_option maxHeartbeats 4000000 in
theorem w_X5_tearHead {rest : mx_W} {N : Nat} {s : St} {x1 : Int32} {r : St} (h : F_X5_tearHead N s x1 = some r) : X 105 (0, [(0, .ref 0), (1, .int x1)], [], wd s rest, 0, 0) (none, wd r rest, 0, 0) := by
  unfold F_X5_tearHead at h
  refine xs tn_X5_tearHead [(0, .aload_n 0, 1), (1, .getfield 109, 3), (4, .iconst 1, 1), (5, .iadd, 1), (6, .istore_n 2, 1), (7, .aload_n 0, 1), (8, .iload_n 2, 1)] (st' := (9, [(2, .int ((gI s 3) + (nI 1))), (0, .ref 0), (1, .int x1)], [.int ((gI s 3) + (nI 1)), .ref 0], wd s rest, 0, 0)) (List.forall_mem_cons.mpr ⟨dX5_tearHead_0, List.forall_mem_cons.mpr ⟨dX5_tearHead_1, List.forall_mem_cons.mpr ⟨dX5_tearHead_4, List.forall_mem_cons.mpr ⟨dX5_tearHead_5, List.forall_mem_cons.mpr ⟨dX5_tearHead_6, List.forall_mem_cons.mpr ⟨dX5_tearHead_7, List.forall_mem_cons.mpr ⟨dX5_tearHead_8, fun _ h => absurd h List.not_mem_nil⟩⟩⟩⟩⟩⟩⟩) rfl ?_
  obtain ⟨s1, h2, h⟩ := obind h
  refine xcall tn_X5_tearHead dX5_tearHead_9 rfl rfl (w_X5_draftHead h2) ?_
  show X 105 (12, [(2, .int ((gI s 3) + (nI 1))), (0, .ref 0), (1, .int x1)], [], wd s1 rest, 0, 0) _
  refine xs tn_X5_tearHead [(12, .aload_n 0, 1), (13, .getfield 12, 3), (16, .iload_n 2, 1)] (st' := (17, [(2, .int ((gI s 3) + (nI 1))), (0, .ref 0), (1, .int x1)], [.int ((gI s 3) + (nI 1)), .ref 1], wd s1 rest, 0, 0)) (List.forall_mem_cons.mpr ⟨dX5_tearHead_12, List.forall_mem_cons.mpr ⟨dX5_tearHead_13, List.forall_mem_cons.mpr ⟨dX5_tearHead_16, fun _ h => absurd h List.not_mem_nil⟩⟩⟩) rfl ?_
  obtain ⟨v3, h4, h⟩ := obind h
  refine xcall tn_X5_tearHead dX5_tearHead_17 rfl rfl (w_X5_headSector h4) ?_
  show X 105 (20, [(2, .int ((gI s 3) + (nI 1))), (0, .ref 0), (1, .int x1)], [.int v3, .ref 1], wd s1 rest, 0, 0) _
  refine xs tn_X5_tearHead [(20, .aload_n 0, 1), (21, .getfield 28, 3), (24, .iload_n 1, 1)] (st' := (25, [(2, .int ((gI s 3) + (nI 1))), (0, .ref 0), (1, .int x1)], [.int x1, .ref 9, .int v3, .ref 1], wd s1 rest, 0, 0)) (List.forall_mem_cons.mpr ⟨dX5_tearHead_20, List.forall_mem_cons.mpr ⟨dX5_tearHead_21, List.forall_mem_cons.mpr ⟨dX5_tearHead_24, fun _ h => absurd h List.not_mem_nil⟩⟩⟩) rfl ?_
  obtain ⟨s5, h6, h⟩ := obind h
  refine xcall tn_X5_tearHead dX5_tearHead_25 rfl rfl (w_X4_store h6) ?_
  show X 105 (28, [(2, .int ((gI s 3) + (nI 1))), (0, .ref 0), (1, .int x1)], [], wd s5 rest, 0, 0) _
  cases h
  exact xretv tn_X5_tearHead rfl dX5_tearHead_28
def F_X5_cut (N : Nat) (s : St) (x1 : Int32) (x2 : Int32) : Option (Int32 × St) := bif mx_cnd .lt x2 (nI 1) then (some (-nI 2, s)) else (bif mx_cnd .ge x2 (nI 32) then (some (-nI 2, s)) else (bif mx_cnd .lt x1 0 then (some (-nI 2, s)) else ((F_X3_size s).bind fun v1 => bif mx_cnd .le x1 v1 then (bif mx_cnd .ne (gI s 0) 0 then ((F_X3_size s).bind fun v3 => bif mx_cnd .ne x1 v3 then ((F_X3_undoBehind N s x1 x2).bind fun s5 => bnd (sI s5 5 (-nI 1)) fun s7 => bnd (sI s7 0 (nI 0)) fun s8 => some (nI 1, s8)) else ((F_X5_tearHead N s x2).bind fun s9 => bnd (sI s9 5 (-nI 1)) fun s11 => bnd (sI s11 0 (nI 0)) fun s12 => some (nI 1, s12))) else (some (-nI 3, s))) else (some (-nI 2, s)))))
set_option maxRecDepth 100000 in
set_option maxHeartbeats 4000000 in
theorem w_X5_cut {rest : mx_W} {N : Nat} {s : St} {x1 : Int32} {x2 : Int32} {r : Int32} {t : St} (h : F_X5_cut N s x1 x2 = some (r, t)) : X 117 (0, [(0, .ref 0), (1, .int x1), (2, .int x2)], [], wd s rest, 0, 0) (some (.int r), wd t rest, 0, 0) := by
  unfold F_X5_cut at h
  refine xs tn_X5_cut [(0, .iload_n 2, 1), (1, .iconst 1, 1)] (st' := (2, [(0, .ref 0), (1, .int x1), (2, .int x2)], [.int (nI 1), .int x2], wd s rest, 0, 0)) (List.forall_mem_cons.mpr ⟨dX5_cut_0, List.forall_mem_cons.mpr ⟨dX5_cut_1, fun _ h => absurd h List.not_mem_nil⟩⟩) rfl ?_
  refine xcmpF (t := 26) tn_X5_cut dX5_cut_2 (by decide) h (fun h => ?_) (fun h => ?_)
  · refine xs tn_X5_cut [(26, .bipush (-2), 2)] (st' := (28, [(0, .ref 0), (1, .int x1), (2, .int x2)], [.int (-nI 2)], wd s rest, 0, 0)) (List.forall_mem_cons.mpr ⟨dX5_cut_26, fun _ h => absurd h List.not_mem_nil⟩) rfl ?_
    cases h
    exact xret tn_X5_cut rfl dX5_cut_28
  · refine xs tn_X5_cut [(5, .iload_n 2, 1), (6, .bipush 32, 2)] (st' := (8, [(0, .ref 0), (1, .int x1), (2, .int x2)], [.int (nI 32), .int x2], wd s rest, 0, 0)) (List.forall_mem_cons.mpr ⟨dX5_cut_5, List.forall_mem_cons.mpr ⟨dX5_cut_6, fun _ h => absurd h List.not_mem_nil⟩⟩) rfl ?_
    refine xcmpF (t := 26) tn_X5_cut dX5_cut_8 (by decide) h (fun h => ?_) (fun h => ?_)
    · refine xs tn_X5_cut [(26, .bipush (-2), 2)] (st' := (28, [(0, .ref 0), (1, .int x1), (2, .int x2)], [.int (-nI 2)], wd s rest, 0, 0)) (List.forall_mem_cons.mpr ⟨dX5_cut_26, fun _ h => absurd h List.not_mem_nil⟩) rfl ?_
      cases h
      exact xret tn_X5_cut rfl dX5_cut_28
    · refine xs tn_X5_cut [(11, .iload_n 1, 1)] (st' := (12, [(0, .ref 0), (1, .int x1), (2, .int x2)], [.int x1], wd s rest, 0, 0)) (List.forall_mem_cons.mpr ⟨dX5_cut_11, fun _ h => absurd h List.not_mem_nil⟩) rfl ?_
      refine xifF (t := 26) tn_X5_cut dX5_cut_12 (by decide) h (fun h => ?_) (fun h => ?_)
      · refine xs tn_X5_cut [(26, .bipush (-2), 2)] (st' := (28, [(0, .ref 0), (1, .int x1), (2, .int x2)], [.int (-nI 2)], wd s rest, 0, 0)) (List.forall_mem_cons.mpr ⟨dX5_cut_26, fun _ h => absurd h List.not_mem_nil⟩) rfl ?_
        cases h
        exact xret tn_X5_cut rfl dX5_cut_28
      · refine xs tn_X5_cut [(15, .iload_n 1, 1), (16, .aload_n 0, 1), (17, .getfield 21, 3)] (st' := (20, [(0, .ref 0), (1, .int x1), (2, .int x2)], [.ref 5, .int x1], wd s rest, 0, 0)) (List.forall_mem_cons.mpr ⟨dX5_cut_15, List.forall_mem_cons.mpr ⟨dX5_cut_16, List.forall_mem_cons.mpr ⟨dX5_cut_17, fun _ h => absurd h List.not_mem_nil⟩⟩⟩) rfl ?_
        obtain ⟨v1, h2, h⟩ := obind h
        refine xcall tn_X5_cut dX5_cut_20 rfl rfl (w_X3_size h2) ?_
        show X 117 (23, [(0, .ref 0), (1, .int x1), (2, .int x2)], [.int v1, .int x1], wd s rest, 0, 0) _
        refine xcmpF (t := 29) tn_X5_cut dX5_cut_23 (by decide) h (fun h => ?_) (fun h => ?_)
        · refine xs tn_X5_cut [(29, .aload_n 0, 1), (30, .getfield 46, 3)] (st' := (33, [(0, .ref 0), (1, .int x1), (2, .int x2)], [.int (gI s 0)], wd s rest, 0, 0)) (List.forall_mem_cons.mpr ⟨dX5_cut_29, List.forall_mem_cons.mpr ⟨dX5_cut_30, fun _ h => absurd h List.not_mem_nil⟩⟩) rfl ?_
          refine xifF (t := 39) tn_X5_cut dX5_cut_33 (by decide) h (fun h => ?_) (fun h => ?_)
          · refine xs tn_X5_cut [(39, .iload_n 1, 1), (40, .aload_n 0, 1), (41, .getfield 21, 3)] (st' := (44, [(0, .ref 0), (1, .int x1), (2, .int x2)], [.ref 5, .int x1], wd s rest, 0, 0)) (List.forall_mem_cons.mpr ⟨dX5_cut_39, List.forall_mem_cons.mpr ⟨dX5_cut_40, List.forall_mem_cons.mpr ⟨dX5_cut_41, fun _ h => absurd h List.not_mem_nil⟩⟩⟩) rfl ?_
            obtain ⟨v3, h4, h⟩ := obind h
            refine xcall tn_X5_cut dX5_cut_44 rfl rfl (w_X3_size h4) ?_
            show X 117 (47, [(0, .ref 0), (1, .int x1), (2, .int x2)], [.int v3, .int x1], wd s rest, 0, 0) _
            refine xcmpF (t := 58) tn_X5_cut dX5_cut_47 (by decide) h (fun h => ?_) (fun h => ?_)
            · refine xs tn_X5_cut [(58, .aload_n 0, 1), (59, .getfield 21, 3), (62, .iload_n 1, 1), (63, .iload_n 2, 1), (64, .aload_n 0, 1), (65, .getfield 12, 3)] (st' := (68, [(0, .ref 0), (1, .int x1), (2, .int x2)], [.ref 1, .int x2, .int x1, .ref 5], wd s rest, 0, 0)) (List.forall_mem_cons.mpr ⟨dX5_cut_58, List.forall_mem_cons.mpr ⟨dX5_cut_59, List.forall_mem_cons.mpr ⟨dX5_cut_62, List.forall_mem_cons.mpr ⟨dX5_cut_63, List.forall_mem_cons.mpr ⟨dX5_cut_64, List.forall_mem_cons.mpr ⟨dX5_cut_65, fun _ h => absurd h List.not_mem_nil⟩⟩⟩⟩⟩⟩) rfl ?_
              obtain ⟨s5, h6, h⟩ := obind h
              refine xcall tn_X5_cut dX5_cut_68 rfl rfl (w_X3_undoBehind h6) ?_
              show X 117 (71, [(0, .ref 0), (1, .int x1), (2, .int x2)], [], wd s5 rest, 0, 0) _
              refine xs tn_X5_cut [(71, .aload_n 0, 1), (72, .iconst (-1), 1)] (st' := (73, [(0, .ref 0), (1, .int x1), (2, .int x2)], [.int (-nI 1), .ref 0], wd s5 rest, 0, 0)) (List.forall_mem_cons.mpr ⟨dX5_cut_71, List.forall_mem_cons.mpr ⟨dX5_cut_72, fun _ h => absurd h List.not_mem_nil⟩⟩) rfl ?_
              refine xput_a5 tn_X5_cut dX5_cut_73 rfl h (fun s7 h => ?_)
              refine xs tn_X5_cut [(76, .aload_n 0, 1), (77, .iconst 0, 1)] (st' := (78, [(0, .ref 0), (1, .int x1), (2, .int x2)], [.int (nI 0), .ref 0], wd s7 rest, 0, 0)) (List.forall_mem_cons.mpr ⟨dX5_cut_76, List.forall_mem_cons.mpr ⟨dX5_cut_77, fun _ h => absurd h List.not_mem_nil⟩⟩) rfl ?_
              refine xput_a0 tn_X5_cut dX5_cut_78 rfl (by decide) h (fun s8 h => ?_)
              refine xs tn_X5_cut [(81, .iconst 1, 1)] (st' := (82, [(0, .ref 0), (1, .int x1), (2, .int x2)], [.int (nI 1)], wd s8 rest, 0, 0)) (List.forall_mem_cons.mpr ⟨dX5_cut_81, fun _ h => absurd h List.not_mem_nil⟩) rfl ?_
              cases h
              exact xret tn_X5_cut rfl dX5_cut_82
            · refine xs tn_X5_cut [(50, .aload_n 0, 1), (51, .iload_n 2, 1)] (st' := (52, [(0, .ref 0), (1, .int x1), (2, .int x2)], [.int x2, .ref 0], wd s rest, 0, 0)) (List.forall_mem_cons.mpr ⟨dX5_cut_50, List.forall_mem_cons.mpr ⟨dX5_cut_51, fun _ h => absurd h List.not_mem_nil⟩⟩) rfl ?_
              obtain ⟨s9, h10, h⟩ := obind h
              refine xcall tn_X5_cut dX5_cut_52 rfl rfl (w_X5_tearHead h10) ?_
              show X 117 (55, [(0, .ref 0), (1, .int x1), (2, .int x2)], [], wd s9 rest, 0, 0) _
              refine xs tn_X5_cut [(55, .goto 16, 3), (71, .aload_n 0, 1), (72, .iconst (-1), 1)] (st' := (73, [(0, .ref 0), (1, .int x1), (2, .int x2)], [.int (-nI 1), .ref 0], wd s9 rest, 0, 0)) (List.forall_mem_cons.mpr ⟨dX5_cut_55, List.forall_mem_cons.mpr ⟨dX5_cut_71, List.forall_mem_cons.mpr ⟨dX5_cut_72, fun _ h => absurd h List.not_mem_nil⟩⟩⟩) rfl ?_
              refine xput_a5 tn_X5_cut dX5_cut_73 rfl h (fun s11 h => ?_)
              refine xs tn_X5_cut [(76, .aload_n 0, 1), (77, .iconst 0, 1)] (st' := (78, [(0, .ref 0), (1, .int x1), (2, .int x2)], [.int (nI 0), .ref 0], wd s11 rest, 0, 0)) (List.forall_mem_cons.mpr ⟨dX5_cut_76, List.forall_mem_cons.mpr ⟨dX5_cut_77, fun _ h => absurd h List.not_mem_nil⟩⟩) rfl ?_
              refine xput_a0 tn_X5_cut dX5_cut_78 rfl (by decide) h (fun s12 h => ?_)
              refine xs tn_X5_cut [(81, .iconst 1, 1)] (st' := (82, [(0, .ref 0), (1, .int x1), (2, .int x2)], [.int (nI 1)], wd s12 rest, 0, 0)) (List.forall_mem_cons.mpr ⟨dX5_cut_81, fun _ h => absurd h List.not_mem_nil⟩) rfl ?_
              cases h
              exact xret tn_X5_cut rfl dX5_cut_82
          · refine xs tn_X5_cut [(36, .bipush (-3), 2)] (st' := (38, [(0, .ref 0), (1, .int x1), (2, .int x2)], [.int (-nI 3)], wd s rest, 0, 0)) (List.forall_mem_cons.mpr ⟨dX5_cut_36, fun _ h => absurd h List.not_mem_nil⟩) rfl ?_
            cases h
            exact xret tn_X5_cut rfl dX5_cut_38
        · refine xs tn_X5_cut [(26, .bipush (-2), 2)] (st' := (28, [(0, .ref 0), (1, .int x1), (2, .int x2)], [.int (-nI 2)], wd s rest, 0, 0)) (List.forall_mem_cons.mpr ⟨dX5_cut_26, fun _ h => absurd h List.not_mem_nil⟩) rfl ?_
          cases h
          exact xret tn_X5_cut rfl dX5_cut_28
def F_X5_isHead (s : St) (x1 : Int32) : Option (Int32) := (F_X4_content s x1 (nI 4)).bind fun v1 => (F_X4_wholeSort s x1).bind fun v3 => bif mx_cnd .ne v3 (nI 1) then (some (nI 0)) else (bif mx_cnd .lt v1 (nI 2) then (some (nI 0)) else ((F_X4_count s).bind fun v5 => bif mx_cnd .gt v1 v5 then (some (nI 0)) else ((F_X4_content s x1 (nI 5)).bind fun v7 => bif mx_cnd .gt v7 (nI 60) then (some (nI 0)) else (some (nI 1)))))
set_option maxRecDepth 100000 in
set_option maxHeartbeats 4000000 in
theorem w_X5_isHead {rest : mx_W} {s : St} {x1 : Int32} {r : Int32} (h : F_X5_isHead s x1 = some r) : X 79 (0, [(0, .ref 0), (1, .int x1)], [], wd s rest, 0, 0) (some (.int r), wd s rest, 0, 0) := by
  unfold F_X5_isHead at h
  refine xs tn_X5_isHead [(0, .aload_n 0, 1), (1, .getfield 12, 3), (4, .iload_n 1, 1), (5, .iconst 4, 1)] (st' := (6, [(0, .ref 0), (1, .int x1)], [.int (nI 4), .int x1, .ref 1], wd s rest, 0, 0)) (List.forall_mem_cons.mpr ⟨dX5_isHead_0, List.forall_mem_cons.mpr ⟨dX5_isHead_1, List.forall_mem_cons.mpr ⟨dX5_isHead_4, List.forall_mem_cons.mpr ⟨dX5_isHead_5, fun _ h => absurd h List.not_mem_nil⟩⟩⟩⟩) rfl ?_
  obtain ⟨v1, h2, h⟩ := obind h
  refine xcall tn_X5_isHead dX5_isHead_6 rfl rfl (w_X4_content h2) ?_
  show X 79 (9, [(0, .ref 0), (1, .int x1)], [.int v1], wd s rest, 0, 0) _
  refine xs tn_X5_isHead [(9, .istore_n 2, 1), (10, .aload_n 0, 1), (11, .getfield 12, 3), (14, .iload_n 1, 1)] (st' := (15, [(2, .int v1), (0, .ref 0), (1, .int x1)], [.int x1, .ref 1], wd s rest, 0, 0)) (List.forall_mem_cons.mpr ⟨dX5_isHead_9, List.forall_mem_cons.mpr ⟨dX5_isHead_10, List.forall_mem_cons.mpr ⟨dX5_isHead_11, List.forall_mem_cons.mpr ⟨dX5_isHead_14, fun _ h => absurd h List.not_mem_nil⟩⟩⟩⟩) rfl ?_
  obtain ⟨v3, h4, h⟩ := obind h
  refine xcall tn_X5_isHead dX5_isHead_15 rfl rfl (w_X4_wholeSort h4) ?_
  show X 79 (18, [(2, .int v1), (0, .ref 0), (1, .int x1)], [.int v3], wd s rest, 0, 0) _
  refine xs tn_X5_isHead [(18, .iconst 1, 1)] (st' := (19, [(2, .int v1), (0, .ref 0), (1, .int x1)], [.int (nI 1), .int v3], wd s rest, 0, 0)) (List.forall_mem_cons.mpr ⟨dX5_isHead_18, fun _ h => absurd h List.not_mem_nil⟩) rfl ?_
  refine xcmpF (t := 56) tn_X5_isHead dX5_isHead_19 (by decide) h (fun h => ?_) (fun h => ?_)
  · refine xs tn_X5_isHead [(56, .iconst 0, 1)] (st' := (57, [(2, .int v1), (0, .ref 0), (1, .int x1)], [.int (nI 0)], wd s rest, 0, 0)) (List.forall_mem_cons.mpr ⟨dX5_isHead_56, fun _ h => absurd h List.not_mem_nil⟩) rfl ?_
    cases h
    exact xretz tn_X5_isHead rfl (by decide) dX5_isHead_57
  · refine xs tn_X5_isHead [(22, .iload_n 2, 1), (23, .iconst 2, 1)] (st' := (24, [(2, .int v1), (0, .ref 0), (1, .int x1)], [.int (nI 2), .int v1], wd s rest, 0, 0)) (List.forall_mem_cons.mpr ⟨dX5_isHead_22, List.forall_mem_cons.mpr ⟨dX5_isHead_23, fun _ h => absurd h List.not_mem_nil⟩⟩) rfl ?_
    refine xcmpF (t := 56) tn_X5_isHead dX5_isHead_24 (by decide) h (fun h => ?_) (fun h => ?_)
    · refine xs tn_X5_isHead [(56, .iconst 0, 1)] (st' := (57, [(2, .int v1), (0, .ref 0), (1, .int x1)], [.int (nI 0)], wd s rest, 0, 0)) (List.forall_mem_cons.mpr ⟨dX5_isHead_56, fun _ h => absurd h List.not_mem_nil⟩) rfl ?_
      cases h
      exact xretz tn_X5_isHead rfl (by decide) dX5_isHead_57
    · refine xs tn_X5_isHead [(27, .iload_n 2, 1), (28, .aload_n 0, 1), (29, .getfield 12, 3)] (st' := (32, [(2, .int v1), (0, .ref 0), (1, .int x1)], [.ref 1, .int v1], wd s rest, 0, 0)) (List.forall_mem_cons.mpr ⟨dX5_isHead_27, List.forall_mem_cons.mpr ⟨dX5_isHead_28, List.forall_mem_cons.mpr ⟨dX5_isHead_29, fun _ h => absurd h List.not_mem_nil⟩⟩⟩) rfl ?_
      obtain ⟨v5, h6, h⟩ := obind h
      refine xcall tn_X5_isHead dX5_isHead_32 rfl rfl (w_X4_count h6) ?_
      show X 79 (35, [(2, .int v1), (0, .ref 0), (1, .int x1)], [.int v5, .int v1], wd s rest, 0, 0) _
      refine xcmpF (t := 56) tn_X5_isHead dX5_isHead_35 (by decide) h (fun h => ?_) (fun h => ?_)
      · refine xs tn_X5_isHead [(56, .iconst 0, 1)] (st' := (57, [(2, .int v1), (0, .ref 0), (1, .int x1)], [.int (nI 0)], wd s rest, 0, 0)) (List.forall_mem_cons.mpr ⟨dX5_isHead_56, fun _ h => absurd h List.not_mem_nil⟩) rfl ?_
        cases h
        exact xretz tn_X5_isHead rfl (by decide) dX5_isHead_57
      · refine xs tn_X5_isHead [(38, .aload_n 0, 1), (39, .getfield 12, 3), (42, .iload_n 1, 1), (43, .iconst 5, 1)] (st' := (44, [(2, .int v1), (0, .ref 0), (1, .int x1)], [.int (nI 5), .int x1, .ref 1], wd s rest, 0, 0)) (List.forall_mem_cons.mpr ⟨dX5_isHead_38, List.forall_mem_cons.mpr ⟨dX5_isHead_39, List.forall_mem_cons.mpr ⟨dX5_isHead_42, List.forall_mem_cons.mpr ⟨dX5_isHead_43, fun _ h => absurd h List.not_mem_nil⟩⟩⟩⟩) rfl ?_
        obtain ⟨v7, h8, h⟩ := obind h
        refine xcall tn_X5_isHead dX5_isHead_44 rfl rfl (w_X4_content h8) ?_
        show X 79 (47, [(2, .int v1), (0, .ref 0), (1, .int x1)], [.int v7], wd s rest, 0, 0) _
        refine xs tn_X5_isHead [(47, .bipush 60, 2)] (st' := (49, [(2, .int v1), (0, .ref 0), (1, .int x1)], [.int (nI 60), .int v7], wd s rest, 0, 0)) (List.forall_mem_cons.mpr ⟨dX5_isHead_47, fun _ h => absurd h List.not_mem_nil⟩) rfl ?_
        refine xcmpF (t := 56) tn_X5_isHead dX5_isHead_49 (by decide) h (fun h => ?_) (fun h => ?_)
        · refine xs tn_X5_isHead [(56, .iconst 0, 1)] (st' := (57, [(2, .int v1), (0, .ref 0), (1, .int x1)], [.int (nI 0)], wd s rest, 0, 0)) (List.forall_mem_cons.mpr ⟨dX5_isHead_56, fun _ h => absurd h List.not_mem_nil⟩) rfl ?_
          cases h
          exact xretz tn_X5_isHead rfl (by decide) dX5_isHead_57
        · refine xs tn_X5_isHead [(52, .iconst 1, 1), (53, .goto 4, 3)] (st' := (57, [(2, .int v1), (0, .ref 0), (1, .int x1)], [.int (nI 1)], wd s rest, 0, 0)) (List.forall_mem_cons.mpr ⟨dX5_isHead_52, List.forall_mem_cons.mpr ⟨dX5_isHead_53, fun _ h => absurd h List.not_mem_nil⟩⟩) rfl ?_
          cases h
          exact xretz tn_X5_isHead rfl (by decide) dX5_isHead_57
def F_X5_generationIn_4 (N : Nat) : Nat → St → Int32 → Int32 → Int32 → Option (Int32)
  | 0, _, _, _, _ => none
  | f + 1, s, x1, x2, x3 => bif mx_cnd .ge x3 (nI 4) then (some x2) else ((F_X4_content s x1 x3).bind fun v1 => F_X5_generationIn_4 N f s x1 ((x2 <<< ((nI 8) &&& 31)) ||| v1) (x3 + (nI 1)))
set_option maxRecDepth 100000 in
set_option maxHeartbeats 4000000 in
theorem w_X5_generationIn_4 {rest : mx_W} {N : Nat} : ∀ (f : Nat) (s : St) (x1 : Int32) (x2 : Int32) (x3 : Int32) (r : Int32), F_X5_generationIn_4 N f s x1 x2 x3 = some r → X 77 (4, [(0, .ref 0), (1, .int x1), (2, .int x2), (3, .int x3)], [], wd s rest, 0, 0) (some (.int r), wd s rest, 0, 0) := by
  intro f
  induction f with
  | zero => intro s x1 x2 x3 r h; rw [F_X5_generationIn_4.eq_1] at h; cases h
  | succ f ih =>
    intro s x1 x2 x3 r h
    rw [F_X5_generationIn_4.eq_2] at h
    refine xs tn_X5_generationIn [(4, .iload_n 3, 1), (5, .iconst 4, 1)] (st' := (6, [(0, .ref 0), (1, .int x1), (2, .int x2), (3, .int x3)], [.int (nI 4), .int x3], wd s rest, 0, 0)) (List.forall_mem_cons.mpr ⟨dX5_generationIn_4, List.forall_mem_cons.mpr ⟨dX5_generationIn_5, fun _ h => absurd h List.not_mem_nil⟩⟩) rfl ?_
    refine xcmpF (t := 30) tn_X5_generationIn dX5_generationIn_6 (by decide) h (fun h => ?_) (fun h => ?_)
    · refine xs tn_X5_generationIn [(30, .iload_n 2, 1)] (st' := (31, [(0, .ref 0), (1, .int x1), (2, .int x2), (3, .int x3)], [.int x2], wd s rest, 0, 0)) (List.forall_mem_cons.mpr ⟨dX5_generationIn_30, fun _ h => absurd h List.not_mem_nil⟩) rfl ?_
      cases h
      exact xret tn_X5_generationIn rfl dX5_generationIn_31
    · refine xs tn_X5_generationIn [(9, .iload_n 2, 1), (10, .bipush 8, 2), (12, .ishl, 1), (13, .aload_n 0, 1), (14, .getfield 12, 3), (17, .iload_n 1, 1), (18, .iload_n 3, 1)] (st' := (19, [(0, .ref 0), (1, .int x1), (2, .int x2), (3, .int x3)], [.int x3, .int x1, .ref 1, .int (x2 <<< ((nI 8) &&& 31))], wd s rest, 0, 0)) (List.forall_mem_cons.mpr ⟨dX5_generationIn_9, List.forall_mem_cons.mpr ⟨dX5_generationIn_10, List.forall_mem_cons.mpr ⟨dX5_generationIn_12, List.forall_mem_cons.mpr ⟨dX5_generationIn_13, List.forall_mem_cons.mpr ⟨dX5_generationIn_14, List.forall_mem_cons.mpr ⟨dX5_generationIn_17, List.forall_mem_cons.mpr ⟨dX5_generationIn_18, fun _ h => absurd h List.not_mem_nil⟩⟩⟩⟩⟩⟩⟩) rfl ?_
      obtain ⟨v1, h2, h⟩ := obind h
      refine xcall tn_X5_generationIn dX5_generationIn_19 rfl rfl (w_X4_content h2) ?_
      show X 77 (22, [(0, .ref 0), (1, .int x1), (2, .int x2), (3, .int x3)], [.int v1, .int (x2 <<< ((nI 8) &&& 31))], wd s rest, 0, 0) _
      refine xs tn_X5_generationIn [(22, .ior, 1), (23, .istore_n 2, 1), (24, .iinc 3 1, 3), (27, .goto (-23), 3)] (st' := (4, [(0, .ref 0), (1, .int x1), (2, .int ((x2 <<< ((nI 8) &&& 31)) ||| v1)), (3, .int (x3 + (nI 1)))], [], wd s rest, 0, 0)) (List.forall_mem_cons.mpr ⟨dX5_generationIn_22, List.forall_mem_cons.mpr ⟨dX5_generationIn_23, List.forall_mem_cons.mpr ⟨dX5_generationIn_24, List.forall_mem_cons.mpr ⟨dX5_generationIn_27, fun _ h => absurd h List.not_mem_nil⟩⟩⟩⟩) rfl ?_
      refine xwk [0, 1, 2, 3] rfl rfl ?_
      exact ih _ _ _ _ _ h
def F_X5_generationIn (N : Nat) (s : St) (x1 : Int32) : Option (Int32) := F_X5_generationIn_4 N N s x1 (nI 0) (nI 0)
set_option maxRecDepth 100000 in
set_option maxHeartbeats 4000000 in
theorem w_X5_generationIn {rest : mx_W} {N : Nat} {s : St} {x1 : Int32} {r : Int32} (h : F_X5_generationIn N s x1 = some r) : X 77 (0, [(0, .ref 0), (1, .int x1)], [], wd s rest, 0, 0) (some (.int r), wd s rest, 0, 0) := by
  unfold F_X5_generationIn at h
  refine xs tn_X5_generationIn [(0, .iconst 0, 1), (1, .istore_n 2, 1), (2, .iconst 0, 1), (3, .istore_n 3, 1)] (st' := (4, [(3, .int (nI 0)), (2, .int (nI 0)), (0, .ref 0), (1, .int x1)], [], wd s rest, 0, 0)) (List.forall_mem_cons.mpr ⟨dX5_generationIn_0, List.forall_mem_cons.mpr ⟨dX5_generationIn_1, List.forall_mem_cons.mpr ⟨dX5_generationIn_2, List.forall_mem_cons.mpr ⟨dX5_generationIn_3, fun _ h => absurd h List.not_mem_nil⟩⟩⟩⟩) rfl ?_
  refine xwk [0, 1, 2, 3] rfl rfl ?_
  exact w_X5_generationIn_4 N _ _ _ _ _ h
def F_X5_chooseHead (N : Nat) (s : St) : Option (Int32) := (F_X5_isHead s (nI 0)).bind fun v1 => bif mx_cnd .ne v1 0 then ((F_X5_isHead s (nI 1)).bind fun v3 => bif mx_cnd .eq v3 0 then (some (nI 0)) else ((F_X5_generationIn N s (nI 1)).bind fun v5 => (F_X5_generationIn N s (nI 0)).bind fun v7 => bif mx_cnd .le v5 v7 then (some (nI 0)) else (some (nI 1)))) else ((F_X5_isHead s (nI 1)).bind fun v9 => bif mx_cnd .eq v9 0 then (some (-nI 1)) else (some (nI 1)))
set_option maxRecDepth 100000 in
set_option maxHeartbeats 4000000 in
theorem w_X5_chooseHead {rest : mx_W} {N : Nat} {s : St} {r : Int32} (h : F_X5_chooseHead N s = some r) : X 96 (0, [(0, .ref 0)], [], wd s rest, 0, 0) (some (.int r), wd s rest, 0, 0) := by
  unfold F_X5_chooseHead at h
  refine xs tn_X5_chooseHead [(0, .aload_n 0, 1), (1, .iconst 0, 1)] (st' := (2, [(0, .ref 0)], [.int (nI 0), .ref 0], wd s rest, 0, 0)) (List.forall_mem_cons.mpr ⟨dX5_chooseHead_0, List.forall_mem_cons.mpr ⟨dX5_chooseHead_1, fun _ h => absurd h List.not_mem_nil⟩⟩) rfl ?_
  obtain ⟨v1, h2, h⟩ := obind h
  refine xcall tn_X5_chooseHead dX5_chooseHead_2 rfl rfl (w_X5_isHead h2) ?_
  show X 96 (5, [(0, .ref 0)], [.int v1], wd s rest, 0, 0) _
  refine xifF (t := 22) tn_X5_chooseHead dX5_chooseHead_5 (by decide) h (fun h => ?_) (fun h => ?_)
  · refine xs tn_X5_chooseHead [(22, .aload_n 0, 1), (23, .iconst 1, 1)] (st' := (24, [(0, .ref 0)], [.int (nI 1), .ref 0], wd s rest, 0, 0)) (List.forall_mem_cons.mpr ⟨dX5_chooseHead_22, List.forall_mem_cons.mpr ⟨dX5_chooseHead_23, fun _ h => absurd h List.not_mem_nil⟩⟩) rfl ?_
    obtain ⟨v3, h4, h⟩ := obind h
    refine xcall tn_X5_chooseHead dX5_chooseHead_24 rfl rfl (w_X5_isHead h4) ?_
    show X 96 (27, [(0, .ref 0)], [.int v3], wd s rest, 0, 0) _
    refine xifF (t := 47) tn_X5_chooseHead dX5_chooseHead_27 (by decide) h (fun h => ?_) (fun h => ?_)
    · refine xs tn_X5_chooseHead [(47, .iconst 0, 1)] (st' := (48, [(0, .ref 0)], [.int (nI 0)], wd s rest, 0, 0)) (List.forall_mem_cons.mpr ⟨dX5_chooseHead_47, fun _ h => absurd h List.not_mem_nil⟩) rfl ?_
      cases h
      exact xret tn_X5_chooseHead rfl dX5_chooseHead_48
    · refine xs tn_X5_chooseHead [(30, .aload_n 0, 1), (31, .iconst 1, 1)] (st' := (32, [(0, .ref 0)], [.int (nI 1), .ref 0], wd s rest, 0, 0)) (List.forall_mem_cons.mpr ⟨dX5_chooseHead_30, List.forall_mem_cons.mpr ⟨dX5_chooseHead_31, fun _ h => absurd h List.not_mem_nil⟩⟩) rfl ?_
      obtain ⟨v5, h6, h⟩ := obind h
      refine xcall tn_X5_chooseHead dX5_chooseHead_32 rfl rfl (w_X5_generationIn h6) ?_
      show X 96 (35, [(0, .ref 0)], [.int v5], wd s rest, 0, 0) _
      refine xs tn_X5_chooseHead [(35, .aload_n 0, 1), (36, .iconst 0, 1)] (st' := (37, [(0, .ref 0)], [.int (nI 0), .ref 0, .int v5], wd s rest, 0, 0)) (List.forall_mem_cons.mpr ⟨dX5_chooseHead_35, List.forall_mem_cons.mpr ⟨dX5_chooseHead_36, fun _ h => absurd h List.not_mem_nil⟩⟩) rfl ?_
      obtain ⟨v7, h8, h⟩ := obind h
      refine xcall tn_X5_chooseHead dX5_chooseHead_37 rfl rfl (w_X5_generationIn h8) ?_
      show X 96 (40, [(0, .ref 0)], [.int v7, .int v5], wd s rest, 0, 0) _
      refine xcmpF (t := 47) tn_X5_chooseHead dX5_chooseHead_40 (by decide) h (fun h => ?_) (fun h => ?_)
      · refine xs tn_X5_chooseHead [(47, .iconst 0, 1)] (st' := (48, [(0, .ref 0)], [.int (nI 0)], wd s rest, 0, 0)) (List.forall_mem_cons.mpr ⟨dX5_chooseHead_47, fun _ h => absurd h List.not_mem_nil⟩) rfl ?_
        cases h
        exact xret tn_X5_chooseHead rfl dX5_chooseHead_48
      · refine xs tn_X5_chooseHead [(43, .iconst 1, 1), (44, .goto 4, 3)] (st' := (48, [(0, .ref 0)], [.int (nI 1)], wd s rest, 0, 0)) (List.forall_mem_cons.mpr ⟨dX5_chooseHead_43, List.forall_mem_cons.mpr ⟨dX5_chooseHead_44, fun _ h => absurd h List.not_mem_nil⟩⟩) rfl ?_
        cases h
        exact xret tn_X5_chooseHead rfl dX5_chooseHead_48
  · refine xs tn_X5_chooseHead [(8, .aload_n 0, 1), (9, .iconst 1, 1)] (st' := (10, [(0, .ref 0)], [.int (nI 1), .ref 0], wd s rest, 0, 0)) (List.forall_mem_cons.mpr ⟨dX5_chooseHead_8, List.forall_mem_cons.mpr ⟨dX5_chooseHead_9, fun _ h => absurd h List.not_mem_nil⟩⟩) rfl ?_
    obtain ⟨v9, h10, h⟩ := obind h
    refine xcall tn_X5_chooseHead dX5_chooseHead_10 rfl rfl (w_X5_isHead h10) ?_
    show X 96 (13, [(0, .ref 0)], [.int v9], wd s rest, 0, 0) _
    refine xifF (t := 20) tn_X5_chooseHead dX5_chooseHead_13 (by decide) h (fun h => ?_) (fun h => ?_)
    · refine xs tn_X5_chooseHead [(20, .iconst (-1), 1)] (st' := (21, [(0, .ref 0)], [.int (-nI 1)], wd s rest, 0, 0)) (List.forall_mem_cons.mpr ⟨dX5_chooseHead_20, fun _ h => absurd h List.not_mem_nil⟩) rfl ?_
      cases h
      exact xret tn_X5_chooseHead rfl dX5_chooseHead_21
    · refine xs tn_X5_chooseHead [(16, .iconst 1, 1), (17, .goto 4, 3)] (st' := (21, [(0, .ref 0)], [.int (nI 1)], wd s rest, 0, 0)) (List.forall_mem_cons.mpr ⟨dX5_chooseHead_16, List.forall_mem_cons.mpr ⟨dX5_chooseHead_17, fun _ h => absurd h List.not_mem_nil⟩⟩) rfl ?_
      cases h
      exact xret tn_X5_chooseHead rfl dX5_chooseHead_21
def F_X5_readHead (N : Nat) (s : St) : Option (St) := (F_X5_chooseHead N s).bind fun v1 => bif mx_cnd .ne v1 (-nI 1) then ((F_X5_generationIn N s v1).bind fun v3 => bnd (sI s 3 v3) fun s5 => bif mx_cnd .ne v1 (-nI 1) then ((F_X4_content s5 v1 (nI 4)).bind fun v6 => bnd (sI s5 1 v6) fun s8 => bif mx_cnd .ne v1 (-nI 1) then ((F_X4_content s8 v1 (nI 5)).bind fun v9 => bnd (sI s8 2 v9) fun s11 => some s11) else (bnd (sI s8 2 (nI 0)) fun s12 => some s12)) else (bnd (sI s5 1 (nI 2)) fun s13 => bif mx_cnd .ne v1 (-nI 1) then ((F_X4_content s13 v1 (nI 5)).bind fun v14 => bnd (sI s13 2 v14) fun s16 => some s16) else (bnd (sI s13 2 (nI 0)) fun s17 => some s17))) else (bnd (sI s 3 (nI 0)) fun s18 => bif mx_cnd .ne v1 (-nI 1) then ((F_X4_content s18 v1 (nI 4)).bind fun v19 => bnd (sI s18 1 v19) fun s21 => bif mx_cnd .ne v1 (-nI 1) then ((F_X4_content s21 v1 (nI 5)).bind fun v22 => bnd (sI s21 2 v22) fun s24 => some s24) else (bnd (sI s21 2 (nI 0)) fun s25 => some s25)) else (bnd (sI s18 1 (nI 2)) fun s26 => bif mx_cnd .ne v1 (-nI 1) then ((F_X4_content s26 v1 (nI 5)).bind fun v27 => bnd (sI s26 2 v27) fun s29 => some s29) else (bnd (sI s26 2 (nI 0)) fun s30 => some s30)))
set_option maxRecDepth 100000 in
set_option maxHeartbeats 4000000 in
theorem w_X5_readHead {rest : mx_W} {N : Nat} {s : St} {r : St} (h : F_X5_readHead N s = some r) : X 120 (0, [(0, .ref 0)], [], wd s rest, 0, 0) (none, wd r rest, 0, 0) := by
  unfold F_X5_readHead at h
  refine xs tn_X5_readHead [(0, .aload_n 0, 1)] (st' := (1, [(0, .ref 0)], [.ref 0], wd s rest, 0, 0)) (List.forall_mem_cons.mpr ⟨dX5_readHead_0, fun _ h => absurd h List.not_mem_nil⟩) rfl ?_
  obtain ⟨v1, h2, h⟩ := obind h
  refine xcall tn_X5_readHead dX5_readHead_1 rfl rfl (w_X5_chooseHead h2) ?_
  show X 120 (4, [(0, .ref 0)], [.int v1], wd s rest, 0, 0) _
  refine xs tn_X5_readHead [(4, .istore_n 1, 1), (5, .aload_n 0, 1), (6, .iload_n 1, 1), (7, .iconst (-1), 1)] (st' := (8, [(1, .int v1), (0, .ref 0)], [.int (-nI 1), .int v1, .ref 0], wd s rest, 0, 0)) (List.forall_mem_cons.mpr ⟨dX5_readHead_4, List.forall_mem_cons.mpr ⟨dX5_readHead_5, List.forall_mem_cons.mpr ⟨dX5_readHead_6, List.forall_mem_cons.mpr ⟨dX5_readHead_7, fun _ h => absurd h List.not_mem_nil⟩⟩⟩⟩) rfl ?_
  refine xcmpF (t := 15) tn_X5_readHead dX5_readHead_8 (by decide) h (fun h => ?_) (fun h => ?_)
  · refine xs tn_X5_readHead [(15, .aload_n 0, 1), (16, .iload_n 1, 1)] (st' := (17, [(1, .int v1), (0, .ref 0)], [.int v1, .ref 0, .ref 0], wd s rest, 0, 0)) (List.forall_mem_cons.mpr ⟨dX5_readHead_15, List.forall_mem_cons.mpr ⟨dX5_readHead_16, fun _ h => absurd h List.not_mem_nil⟩⟩) rfl ?_
    obtain ⟨v3, h4, h⟩ := obind h
    refine xcall tn_X5_readHead dX5_readHead_17 rfl rfl (w_X5_generationIn h4) ?_
    show X 120 (20, [(1, .int v1), (0, .ref 0)], [.int v3, .ref 0], wd s rest, 0, 0) _
    refine xput_a3 tn_X5_readHead dX5_readHead_20 rfl h (fun s5 h => ?_)
    refine xs tn_X5_readHead [(23, .aload_n 0, 1), (24, .iload_n 1, 1), (25, .iconst (-1), 1)] (st' := (26, [(1, .int v1), (0, .ref 0)], [.int (-nI 1), .int v1, .ref 0], wd s5 rest, 0, 0)) (List.forall_mem_cons.mpr ⟨dX5_readHead_23, List.forall_mem_cons.mpr ⟨dX5_readHead_24, List.forall_mem_cons.mpr ⟨dX5_readHead_25, fun _ h => absurd h List.not_mem_nil⟩⟩⟩) rfl ?_
    refine xcmpF (t := 33) tn_X5_readHead dX5_readHead_26 (by decide) h (fun h => ?_) (fun h => ?_)
    · refine xs tn_X5_readHead [(33, .aload_n 0, 1), (34, .getfield 12, 3), (37, .iload_n 1, 1), (38, .iconst 4, 1)] (st' := (39, [(1, .int v1), (0, .ref 0)], [.int (nI 4), .int v1, .ref 1, .ref 0], wd s5 rest, 0, 0)) (List.forall_mem_cons.mpr ⟨dX5_readHead_33, List.forall_mem_cons.mpr ⟨dX5_readHead_34, List.forall_mem_cons.mpr ⟨dX5_readHead_37, List.forall_mem_cons.mpr ⟨dX5_readHead_38, fun _ h => absurd h List.not_mem_nil⟩⟩⟩⟩) rfl ?_
      obtain ⟨v6, h7, h⟩ := obind h
      refine xcall tn_X5_readHead dX5_readHead_39 rfl rfl (w_X4_content h7) ?_
      show X 120 (42, [(1, .int v1), (0, .ref 0)], [.int v6, .ref 0], wd s5 rest, 0, 0) _
      refine xput_a1 tn_X5_readHead dX5_readHead_42 rfl h (fun s8 h => ?_)
      refine xs tn_X5_readHead [(45, .aload_n 0, 1), (46, .iload_n 1, 1), (47, .iconst (-1), 1)] (st' := (48, [(1, .int v1), (0, .ref 0)], [.int (-nI 1), .int v1, .ref 0], wd s8 rest, 0, 0)) (List.forall_mem_cons.mpr ⟨dX5_readHead_45, List.forall_mem_cons.mpr ⟨dX5_readHead_46, List.forall_mem_cons.mpr ⟨dX5_readHead_47, fun _ h => absurd h List.not_mem_nil⟩⟩⟩) rfl ?_
      refine xcmpF (t := 55) tn_X5_readHead dX5_readHead_48 (by decide) h (fun h => ?_) (fun h => ?_)
      · refine xs tn_X5_readHead [(55, .aload_n 0, 1), (56, .getfield 12, 3), (59, .iload_n 1, 1), (60, .iconst 5, 1)] (st' := (61, [(1, .int v1), (0, .ref 0)], [.int (nI 5), .int v1, .ref 1, .ref 0], wd s8 rest, 0, 0)) (List.forall_mem_cons.mpr ⟨dX5_readHead_55, List.forall_mem_cons.mpr ⟨dX5_readHead_56, List.forall_mem_cons.mpr ⟨dX5_readHead_59, List.forall_mem_cons.mpr ⟨dX5_readHead_60, fun _ h => absurd h List.not_mem_nil⟩⟩⟩⟩) rfl ?_
        obtain ⟨v9, h10, h⟩ := obind h
        refine xcall tn_X5_readHead dX5_readHead_61 rfl rfl (w_X4_content h10) ?_
        show X 120 (64, [(1, .int v1), (0, .ref 0)], [.int v9, .ref 0], wd s8 rest, 0, 0) _
        refine xput_a2 tn_X5_readHead dX5_readHead_64 rfl h (fun s11 h => ?_)
        cases h
        exact xretv tn_X5_readHead rfl dX5_readHead_67
      · refine xs tn_X5_readHead [(51, .iconst 0, 1), (52, .goto 12, 3)] (st' := (64, [(1, .int v1), (0, .ref 0)], [.int (nI 0), .ref 0], wd s8 rest, 0, 0)) (List.forall_mem_cons.mpr ⟨dX5_readHead_51, List.forall_mem_cons.mpr ⟨dX5_readHead_52, fun _ h => absurd h List.not_mem_nil⟩⟩) rfl ?_
        refine xput_a2 tn_X5_readHead dX5_readHead_64 rfl h (fun s12 h => ?_)
        cases h
        exact xretv tn_X5_readHead rfl dX5_readHead_67
    · refine xs tn_X5_readHead [(29, .iconst 2, 1), (30, .goto 12, 3)] (st' := (42, [(1, .int v1), (0, .ref 0)], [.int (nI 2), .ref 0], wd s5 rest, 0, 0)) (List.forall_mem_cons.mpr ⟨dX5_readHead_29, List.forall_mem_cons.mpr ⟨dX5_readHead_30, fun _ h => absurd h List.not_mem_nil⟩⟩) rfl ?_
      refine xput_a1 tn_X5_readHead dX5_readHead_42 rfl h (fun s13 h => ?_)
      refine xs tn_X5_readHead [(45, .aload_n 0, 1), (46, .iload_n 1, 1), (47, .iconst (-1), 1)] (st' := (48, [(1, .int v1), (0, .ref 0)], [.int (-nI 1), .int v1, .ref 0], wd s13 rest, 0, 0)) (List.forall_mem_cons.mpr ⟨dX5_readHead_45, List.forall_mem_cons.mpr ⟨dX5_readHead_46, List.forall_mem_cons.mpr ⟨dX5_readHead_47, fun _ h => absurd h List.not_mem_nil⟩⟩⟩) rfl ?_
      refine xcmpF (t := 55) tn_X5_readHead dX5_readHead_48 (by decide) h (fun h => ?_) (fun h => ?_)
      · refine xs tn_X5_readHead [(55, .aload_n 0, 1), (56, .getfield 12, 3), (59, .iload_n 1, 1), (60, .iconst 5, 1)] (st' := (61, [(1, .int v1), (0, .ref 0)], [.int (nI 5), .int v1, .ref 1, .ref 0], wd s13 rest, 0, 0)) (List.forall_mem_cons.mpr ⟨dX5_readHead_55, List.forall_mem_cons.mpr ⟨dX5_readHead_56, List.forall_mem_cons.mpr ⟨dX5_readHead_59, List.forall_mem_cons.mpr ⟨dX5_readHead_60, fun _ h => absurd h List.not_mem_nil⟩⟩⟩⟩) rfl ?_
        obtain ⟨v14, h15, h⟩ := obind h
        refine xcall tn_X5_readHead dX5_readHead_61 rfl rfl (w_X4_content h15) ?_
        show X 120 (64, [(1, .int v1), (0, .ref 0)], [.int v14, .ref 0], wd s13 rest, 0, 0) _
        refine xput_a2 tn_X5_readHead dX5_readHead_64 rfl h (fun s16 h => ?_)
        cases h
        exact xretv tn_X5_readHead rfl dX5_readHead_67
      · refine xs tn_X5_readHead [(51, .iconst 0, 1), (52, .goto 12, 3)] (st' := (64, [(1, .int v1), (0, .ref 0)], [.int (nI 0), .ref 0], wd s13 rest, 0, 0)) (List.forall_mem_cons.mpr ⟨dX5_readHead_51, List.forall_mem_cons.mpr ⟨dX5_readHead_52, fun _ h => absurd h List.not_mem_nil⟩⟩) rfl ?_
        refine xput_a2 tn_X5_readHead dX5_readHead_64 rfl h (fun s17 h => ?_)
        cases h
        exact xretv tn_X5_readHead rfl dX5_readHead_67
  · refine xs tn_X5_readHead [(11, .iconst 0, 1), (12, .goto 8, 3)] (st' := (20, [(1, .int v1), (0, .ref 0)], [.int (nI 0), .ref 0], wd s rest, 0, 0)) (List.forall_mem_cons.mpr ⟨dX5_readHead_11, List.forall_mem_cons.mpr ⟨dX5_readHead_12, fun _ h => absurd h List.not_mem_nil⟩⟩) rfl ?_
    refine xput_a3 tn_X5_readHead dX5_readHead_20 rfl h (fun s18 h => ?_)
    refine xs tn_X5_readHead [(23, .aload_n 0, 1), (24, .iload_n 1, 1), (25, .iconst (-1), 1)] (st' := (26, [(1, .int v1), (0, .ref 0)], [.int (-nI 1), .int v1, .ref 0], wd s18 rest, 0, 0)) (List.forall_mem_cons.mpr ⟨dX5_readHead_23, List.forall_mem_cons.mpr ⟨dX5_readHead_24, List.forall_mem_cons.mpr ⟨dX5_readHead_25, fun _ h => absurd h List.not_mem_nil⟩⟩⟩) rfl ?_
    refine xcmpF (t := 33) tn_X5_readHead dX5_readHead_26 (by decide) h (fun h => ?_) (fun h => ?_)
    · refine xs tn_X5_readHead [(33, .aload_n 0, 1), (34, .getfield 12, 3), (37, .iload_n 1, 1), (38, .iconst 4, 1)] (st' := (39, [(1, .int v1), (0, .ref 0)], [.int (nI 4), .int v1, .ref 1, .ref 0], wd s18 rest, 0, 0)) (List.forall_mem_cons.mpr ⟨dX5_readHead_33, List.forall_mem_cons.mpr ⟨dX5_readHead_34, List.forall_mem_cons.mpr ⟨dX5_readHead_37, List.forall_mem_cons.mpr ⟨dX5_readHead_38, fun _ h => absurd h List.not_mem_nil⟩⟩⟩⟩) rfl ?_
      obtain ⟨v19, h20, h⟩ := obind h
      refine xcall tn_X5_readHead dX5_readHead_39 rfl rfl (w_X4_content h20) ?_
      show X 120 (42, [(1, .int v1), (0, .ref 0)], [.int v19, .ref 0], wd s18 rest, 0, 0) _
      refine xput_a1 tn_X5_readHead dX5_readHead_42 rfl h (fun s21 h => ?_)
      refine xs tn_X5_readHead [(45, .aload_n 0, 1), (46, .iload_n 1, 1), (47, .iconst (-1), 1)] (st' := (48, [(1, .int v1), (0, .ref 0)], [.int (-nI 1), .int v1, .ref 0], wd s21 rest, 0, 0)) (List.forall_mem_cons.mpr ⟨dX5_readHead_45, List.forall_mem_cons.mpr ⟨dX5_readHead_46, List.forall_mem_cons.mpr ⟨dX5_readHead_47, fun _ h => absurd h List.not_mem_nil⟩⟩⟩) rfl ?_
      refine xcmpF (t := 55) tn_X5_readHead dX5_readHead_48 (by decide) h (fun h => ?_) (fun h => ?_)
      · refine xs tn_X5_readHead [(55, .aload_n 0, 1), (56, .getfield 12, 3), (59, .iload_n 1, 1), (60, .iconst 5, 1)] (st' := (61, [(1, .int v1), (0, .ref 0)], [.int (nI 5), .int v1, .ref 1, .ref 0], wd s21 rest, 0, 0)) (List.forall_mem_cons.mpr ⟨dX5_readHead_55, List.forall_mem_cons.mpr ⟨dX5_readHead_56, List.forall_mem_cons.mpr ⟨dX5_readHead_59, List.forall_mem_cons.mpr ⟨dX5_readHead_60, fun _ h => absurd h List.not_mem_nil⟩⟩⟩⟩) rfl ?_
        obtain ⟨v22, h23, h⟩ := obind h
        refine xcall tn_X5_readHead dX5_readHead_61 rfl rfl (w_X4_content h23) ?_
        show X 120 (64, [(1, .int v1), (0, .ref 0)], [.int v22, .ref 0], wd s21 rest, 0, 0) _
        refine xput_a2 tn_X5_readHead dX5_readHead_64 rfl h (fun s24 h => ?_)
        cases h
        exact xretv tn_X5_readHead rfl dX5_readHead_67
      · refine xs tn_X5_readHead [(51, .iconst 0, 1), (52, .goto 12, 3)] (st' := (64, [(1, .int v1), (0, .ref 0)], [.int (nI 0), .ref 0], wd s21 rest, 0, 0)) (List.forall_mem_cons.mpr ⟨dX5_readHead_51, List.forall_mem_cons.mpr ⟨dX5_readHead_52, fun _ h => absurd h List.not_mem_nil⟩⟩) rfl ?_
        refine xput_a2 tn_X5_readHead dX5_readHead_64 rfl h (fun s25 h => ?_)
        cases h
        exact xretv tn_X5_readHead rfl dX5_readHead_67
    · refine xs tn_X5_readHead [(29, .iconst 2, 1), (30, .goto 12, 3)] (st' := (42, [(1, .int v1), (0, .ref 0)], [.int (nI 2), .ref 0], wd s18 rest, 0, 0)) (List.forall_mem_cons.mpr ⟨dX5_readHead_29, List.forall_mem_cons.mpr ⟨dX5_readHead_30, fun _ h => absurd h List.not_mem_nil⟩⟩) rfl ?_
      refine xput_a1 tn_X5_readHead dX5_readHead_42 rfl h (fun s26 h => ?_)
      refine xs tn_X5_readHead [(45, .aload_n 0, 1), (46, .iload_n 1, 1), (47, .iconst (-1), 1)] (st' := (48, [(1, .int v1), (0, .ref 0)], [.int (-nI 1), .int v1, .ref 0], wd s26 rest, 0, 0)) (List.forall_mem_cons.mpr ⟨dX5_readHead_45, List.forall_mem_cons.mpr ⟨dX5_readHead_46, List.forall_mem_cons.mpr ⟨dX5_readHead_47, fun _ h => absurd h List.not_mem_nil⟩⟩⟩) rfl ?_
      refine xcmpF (t := 55) tn_X5_readHead dX5_readHead_48 (by decide) h (fun h => ?_) (fun h => ?_)
      · refine xs tn_X5_readHead [(55, .aload_n 0, 1), (56, .getfield 12, 3), (59, .iload_n 1, 1), (60, .iconst 5, 1)] (st' := (61, [(1, .int v1), (0, .ref 0)], [.int (nI 5), .int v1, .ref 1, .ref 0], wd s26 rest, 0, 0)) (List.forall_mem_cons.mpr ⟨dX5_readHead_55, List.forall_mem_cons.mpr ⟨dX5_readHead_56, List.forall_mem_cons.mpr ⟨dX5_readHead_59, List.forall_mem_cons.mpr ⟨dX5_readHead_60, fun _ h => absurd h List.not_mem_nil⟩⟩⟩⟩) rfl ?_
        obtain ⟨v27, h28, h⟩ := obind h
        refine xcall tn_X5_readHead dX5_readHead_61 rfl rfl (w_X4_content h28) ?_
        show X 120 (64, [(1, .int v1), (0, .ref 0)], [.int v27, .ref 0], wd s26 rest, 0, 0) _
        refine xput_a2 tn_X5_readHead dX5_readHead_64 rfl h (fun s29 h => ?_)
        cases h
        exact xretv tn_X5_readHead rfl dX5_readHead_67
      · refine xs tn_X5_readHead [(51, .iconst 0, 1), (52, .goto 12, 3)] (st' := (64, [(1, .int v1), (0, .ref 0)], [.int (nI 0), .ref 0], wd s26 rest, 0, 0)) (List.forall_mem_cons.mpr ⟨dX5_readHead_51, List.forall_mem_cons.mpr ⟨dX5_readHead_52, fun _ h => absurd h List.not_mem_nil⟩⟩) rfl ?_
        refine xput_a2 tn_X5_readHead dX5_readHead_64 rfl h (fun s30 h => ?_)
        cases h
        exact xretv tn_X5_readHead rfl dX5_readHead_67
