def F_X5_isRowNumber (s : St) (x1 : Int32) : Option (Int32) := bif mx_cnd .lt x1 0 then (some (nI 0)) else (bif mx_cnd .ge x1 (gI s 2) then (some (nI 0)) else (some (nI 1)))
set_option maxRecDepth 100000 in
set_option maxHeartbeats 4000000 in
theorem w_X5_isRowNumber {rest : mx_W} {s : St} {x1 : Int32} {r : Int32} (h : F_X5_isRowNumber s x1 = some r) : X 27 (0, [(0, .ref 0), (1, .int x1)], [], wd s rest, 0, 0) (some (.int r), wd s rest, 0, 0) := by
  unfold F_X5_isRowNumber at h
  refine xs tn_X5_isRowNumber [(0, .iload_n 1, 1)] (st' := (1, [(0, .ref 0), (1, .int x1)], [.int x1], wd s rest, 0, 0)) (List.forall_mem_cons.mpr ⟨dX5_isRowNumber_0, fun _ h => absurd h List.not_mem_nil⟩) rfl ?_
  refine xifF (t := 16) tn_X5_isRowNumber dX5_isRowNumber_1 (by decide) h (fun h => ?_) (fun h => ?_)
  · refine xs tn_X5_isRowNumber [(16, .iconst 0, 1)] (st' := (17, [(0, .ref 0), (1, .int x1)], [.int (nI 0)], wd s rest, 0, 0)) (List.forall_mem_cons.mpr ⟨dX5_isRowNumber_16, fun _ h => absurd h List.not_mem_nil⟩) rfl ?_
    cases h
    exact xretz tn_X5_isRowNumber rfl (by decide) dX5_isRowNumber_17
  · refine xs tn_X5_isRowNumber [(4, .iload_n 1, 1), (5, .aload_n 0, 1), (6, .getfield 65, 3)] (st' := (9, [(0, .ref 0), (1, .int x1)], [.int (gI s 2), .int x1], wd s rest, 0, 0)) (List.forall_mem_cons.mpr ⟨dX5_isRowNumber_4, List.forall_mem_cons.mpr ⟨dX5_isRowNumber_5, List.forall_mem_cons.mpr ⟨dX5_isRowNumber_6, fun _ h => absurd h List.not_mem_nil⟩⟩⟩) rfl ?_
    refine xcmpF (t := 16) tn_X5_isRowNumber dX5_isRowNumber_9 (by decide) h (fun h => ?_) (fun h => ?_)
    · refine xs tn_X5_isRowNumber [(16, .iconst 0, 1)] (st' := (17, [(0, .ref 0), (1, .int x1)], [.int (nI 0)], wd s rest, 0, 0)) (List.forall_mem_cons.mpr ⟨dX5_isRowNumber_16, fun _ h => absurd h List.not_mem_nil⟩) rfl ?_
      cases h
      exact xretz tn_X5_isRowNumber rfl (by decide) dX5_isRowNumber_17
    · refine xs tn_X5_isRowNumber [(12, .iconst 1, 1), (13, .goto 4, 3)] (st' := (17, [(0, .ref 0), (1, .int x1)], [.int (nI 1)], wd s rest, 0, 0)) (List.forall_mem_cons.mpr ⟨dX5_isRowNumber_12, List.forall_mem_cons.mpr ⟨dX5_isRowNumber_13, fun _ h => absurd h List.not_mem_nil⟩⟩) rfl ?_
      cases h
      exact xretz tn_X5_isRowNumber rfl (by decide) dX5_isRowNumber_17
def F_X5_lengthOfRow (s : St) (x1 : Int32) : Option (Int32) := (F_X4_cell s x1 (nI 3)).bind fun v1 => some v1
set_option maxRecDepth 100000 in
set_option maxHeartbeats 4000000 in
theorem w_X5_lengthOfRow {rest : mx_W} {s : St} {x1 : Int32} {r : Int32} (h : F_X5_lengthOfRow s x1 = some r) : X 53 (0, [(0, .ref 0), (1, .int x1)], [], wd s rest, 0, 0) (some (.int r), wd s rest, 0, 0) := by
  unfold F_X5_lengthOfRow at h
  refine xs tn_X5_lengthOfRow [(0, .aload_n 0, 1), (1, .getfield 12, 3), (4, .iload_n 1, 1), (5, .iconst 3, 1)] (st' := (6, [(0, .ref 0), (1, .int x1)], [.int (nI 3), .int x1, .ref 1], wd s rest, 0, 0)) (List.forall_mem_cons.mpr ⟨dX5_lengthOfRow_0, List.forall_mem_cons.mpr ⟨dX5_lengthOfRow_1, List.forall_mem_cons.mpr ⟨dX5_lengthOfRow_4, List.forall_mem_cons.mpr ⟨dX5_lengthOfRow_5, fun _ h => absurd h List.not_mem_nil⟩⟩⟩⟩) rfl ?_
  obtain ⟨v1, h2, h⟩ := obind h
  refine xcall tn_X5_lengthOfRow dX5_lengthOfRow_6 rfl rfl (w_X4_cell h2) ?_
  show X 53 (9, [(0, .ref 0), (1, .int x1)], [.int v1], wd s rest, 0, 0) _
  cases h
  exact xret tn_X5_lengthOfRow rfl dX5_lengthOfRow_9
def F_X5_findRow_7 (N : Nat) : Nat → St → Int32 → Int32 → Option (Int32)
  | 0, _, _, _ => none
  | f + 1, s, x1, x2 => bif mx_cnd .lt x2 (nI 2) then (some (-nI 1)) else ((F_X4_wholeSort s x2).bind fun v1 => bif mx_cnd .ne v1 (nI 3) then (F_X5_findRow_7 N f s x1 (x2 + (-nI 1))) else ((F_X4_cell s x2 (nI 2)).bind fun v3 => bif mx_cnd .ne v3 x1 then (F_X5_findRow_7 N f s x1 (x2 + (-nI 1))) else ((F_X5_lengthOfRow s x2).bind fun v5 => bif mx_cnd .gt v5 (nI 96) then (F_X5_findRow_7 N f s x1 (x2 + (-nI 1))) else (some x2))))
set_option maxRecDepth 100000 in
set_option maxHeartbeats 4000000 in
theorem w_X5_findRow_7 {rest : mx_W} {N : Nat} : ∀ (f : Nat) (s : St) (x1 : Int32) (x2 : Int32) (r : Int32), F_X5_findRow_7 N f s x1 x2 = some r → X 75 (7, [(0, .ref 0), (1, .int x1), (2, .int x2)], [], wd s rest, 0, 0) (some (.int r), wd s rest, 0, 0) := by
  intro f
  induction f with
  | zero => intro s x1 x2 r h; rw [F_X5_findRow_7.eq_1] at h; cases h
  | succ f ih =>
    intro s x1 x2 r h
    rw [F_X5_findRow_7.eq_2] at h
    refine xs tn_X5_findRow [(7, .iload_n 2, 1), (8, .iconst 2, 1)] (st' := (9, [(0, .ref 0), (1, .int x1), (2, .int x2)], [.int (nI 2), .int x2], wd s rest, 0, 0)) (List.forall_mem_cons.mpr ⟨dX5_findRow_7, List.forall_mem_cons.mpr ⟨dX5_findRow_8, fun _ h => absurd h List.not_mem_nil⟩⟩) rfl ?_
    refine xcmpF (t := 55) tn_X5_findRow dX5_findRow_9 (by decide) h (fun h => ?_) (fun h => ?_)
    · refine xs tn_X5_findRow [(55, .iconst (-1), 1)] (st' := (56, [(0, .ref 0), (1, .int x1), (2, .int x2)], [.int (-nI 1)], wd s rest, 0, 0)) (List.forall_mem_cons.mpr ⟨dX5_findRow_55, fun _ h => absurd h List.not_mem_nil⟩) rfl ?_
      cases h
      exact xret tn_X5_findRow rfl dX5_findRow_56
    · refine xs tn_X5_findRow [(12, .aload_n 0, 1), (13, .getfield 12, 3), (16, .iload_n 2, 1)] (st' := (17, [(0, .ref 0), (1, .int x1), (2, .int x2)], [.int x2, .ref 1], wd s rest, 0, 0)) (List.forall_mem_cons.mpr ⟨dX5_findRow_12, List.forall_mem_cons.mpr ⟨dX5_findRow_13, List.forall_mem_cons.mpr ⟨dX5_findRow_16, fun _ h => absurd h List.not_mem_nil⟩⟩⟩) rfl ?_
      obtain ⟨v1, h2, h⟩ := obind h
      refine xcall tn_X5_findRow dX5_findRow_17 rfl rfl (w_X4_wholeSort h2) ?_
      show X 75 (20, [(0, .ref 0), (1, .int x1), (2, .int x2)], [.int v1], wd s rest, 0, 0) _
      refine xs tn_X5_findRow [(20, .iconst 3, 1)] (st' := (21, [(0, .ref 0), (1, .int x1), (2, .int x2)], [.int (nI 3), .int v1], wd s rest, 0, 0)) (List.forall_mem_cons.mpr ⟨dX5_findRow_20, fun _ h => absurd h List.not_mem_nil⟩) rfl ?_
      refine xcmpF (t := 49) tn_X5_findRow dX5_findRow_21 (by decide) h (fun h => ?_) (fun h => ?_)
      · refine xs tn_X5_findRow [(49, .iinc 2 (-1), 3), (52, .goto (-45), 3)] (st' := (7, [(0, .ref 0), (1, .int x1), (2, .int (x2 + (-nI 1)))], [], wd s rest, 0, 0)) (List.forall_mem_cons.mpr ⟨dX5_findRow_49, List.forall_mem_cons.mpr ⟨dX5_findRow_52, fun _ h => absurd h List.not_mem_nil⟩⟩) rfl ?_
        refine xwk [0, 1, 2] rfl rfl ?_
        exact ih _ _ _ _ h
      · refine xs tn_X5_findRow [(24, .aload_n 0, 1), (25, .getfield 12, 3), (28, .iload_n 2, 1), (29, .iconst 2, 1)] (st' := (30, [(0, .ref 0), (1, .int x1), (2, .int x2)], [.int (nI 2), .int x2, .ref 1], wd s rest, 0, 0)) (List.forall_mem_cons.mpr ⟨dX5_findRow_24, List.forall_mem_cons.mpr ⟨dX5_findRow_25, List.forall_mem_cons.mpr ⟨dX5_findRow_28, List.forall_mem_cons.mpr ⟨dX5_findRow_29, fun _ h => absurd h List.not_mem_nil⟩⟩⟩⟩) rfl ?_
        obtain ⟨v3, h4, h⟩ := obind h
        refine xcall tn_X5_findRow dX5_findRow_30 rfl rfl (w_X4_cell h4) ?_
        show X 75 (33, [(0, .ref 0), (1, .int x1), (2, .int x2)], [.int v3], wd s rest, 0, 0) _
        refine xs tn_X5_findRow [(33, .iload_n 1, 1)] (st' := (34, [(0, .ref 0), (1, .int x1), (2, .int x2)], [.int x1, .int v3], wd s rest, 0, 0)) (List.forall_mem_cons.mpr ⟨dX5_findRow_33, fun _ h => absurd h List.not_mem_nil⟩) rfl ?_
        refine xcmpF (t := 49) tn_X5_findRow dX5_findRow_34 (by decide) h (fun h => ?_) (fun h => ?_)
        · refine xs tn_X5_findRow [(49, .iinc 2 (-1), 3), (52, .goto (-45), 3)] (st' := (7, [(0, .ref 0), (1, .int x1), (2, .int (x2 + (-nI 1)))], [], wd s rest, 0, 0)) (List.forall_mem_cons.mpr ⟨dX5_findRow_49, List.forall_mem_cons.mpr ⟨dX5_findRow_52, fun _ h => absurd h List.not_mem_nil⟩⟩) rfl ?_
          refine xwk [0, 1, 2] rfl rfl ?_
          exact ih _ _ _ _ h
        · refine xs tn_X5_findRow [(37, .aload_n 0, 1), (38, .iload_n 2, 1)] (st' := (39, [(0, .ref 0), (1, .int x1), (2, .int x2)], [.int x2, .ref 0], wd s rest, 0, 0)) (List.forall_mem_cons.mpr ⟨dX5_findRow_37, List.forall_mem_cons.mpr ⟨dX5_findRow_38, fun _ h => absurd h List.not_mem_nil⟩⟩) rfl ?_
          obtain ⟨v5, h6, h⟩ := obind h
          refine xcall tn_X5_findRow dX5_findRow_39 rfl rfl (w_X5_lengthOfRow h6) ?_
          show X 75 (42, [(0, .ref 0), (1, .int x1), (2, .int x2)], [.int v5], wd s rest, 0, 0) _
          refine xs tn_X5_findRow [(42, .bipush 96, 2)] (st' := (44, [(0, .ref 0), (1, .int x1), (2, .int x2)], [.int (nI 96), .int v5], wd s rest, 0, 0)) (List.forall_mem_cons.mpr ⟨dX5_findRow_42, fun _ h => absurd h List.not_mem_nil⟩) rfl ?_
          refine xcmpF (t := 49) tn_X5_findRow dX5_findRow_44 (by decide) h (fun h => ?_) (fun h => ?_)
          · refine xs tn_X5_findRow [(49, .iinc 2 (-1), 3), (52, .goto (-45), 3)] (st' := (7, [(0, .ref 0), (1, .int x1), (2, .int (x2 + (-nI 1)))], [], wd s rest, 0, 0)) (List.forall_mem_cons.mpr ⟨dX5_findRow_49, List.forall_mem_cons.mpr ⟨dX5_findRow_52, fun _ h => absurd h List.not_mem_nil⟩⟩) rfl ?_
            refine xwk [0, 1, 2] rfl rfl ?_
            exact ih _ _ _ _ h
          · refine xs tn_X5_findRow [(47, .iload_n 2, 1)] (st' := (48, [(0, .ref 0), (1, .int x1), (2, .int x2)], [.int x2], wd s rest, 0, 0)) (List.forall_mem_cons.mpr ⟨dX5_findRow_47, fun _ h => absurd h List.not_mem_nil⟩) rfl ?_
            cases h
            exact xret tn_X5_findRow rfl dX5_findRow_48
def F_X5_findRow (N : Nat) (s : St) (x1 : Int32) : Option (Int32) := F_X5_findRow_7 N N s x1 ((gI s 1) - (nI 1))
set_option maxRecDepth 100000 in
set_option maxHeartbeats 4000000 in
theorem w_X5_findRow {rest : mx_W} {N : Nat} {s : St} {x1 : Int32} {r : Int32} (h : F_X5_findRow N s x1 = some r) : X 75 (0, [(0, .ref 0), (1, .int x1)], [], wd s rest, 0, 0) (some (.int r), wd s rest, 0, 0) := by
  unfold F_X5_findRow at h
  refine xs tn_X5_findRow [(0, .aload_n 0, 1), (1, .getfield 50, 3), (4, .iconst 1, 1), (5, .isub, 1), (6, .istore_n 2, 1)] (st' := (7, [(2, .int ((gI s 1) - (nI 1))), (0, .ref 0), (1, .int x1)], [], wd s rest, 0, 0)) (List.forall_mem_cons.mpr ⟨dX5_findRow_0, List.forall_mem_cons.mpr ⟨dX5_findRow_1, List.forall_mem_cons.mpr ⟨dX5_findRow_4, List.forall_mem_cons.mpr ⟨dX5_findRow_5, List.forall_mem_cons.mpr ⟨dX5_findRow_6, fun _ h => absurd h List.not_mem_nil⟩⟩⟩⟩⟩) rfl ?_
  refine xwk [0, 1, 2] rfl rfl ?_
  exact w_X5_findRow_7 N _ _ _ _ h
def F_X5_blocksOfRow (s : St) (x1 : Int32) : Option (Int32) := (F_X5_lengthOfRow s x1).bind fun v1 => (F_X5_blocksForLength v1).bind fun v3 => some v3
set_option maxRecDepth 100000 in
set_option maxHeartbeats 4000000 in
theorem w_X5_blocksOfRow {rest : mx_W} {s : St} {x1 : Int32} {r : Int32} (h : F_X5_blocksOfRow s x1 = some r) : X 72 (0, [(0, .ref 0), (1, .int x1)], [], wd s rest, 0, 0) (some (.int r), wd s rest, 0, 0) := by
  unfold F_X5_blocksOfRow at h
  refine xs tn_X5_blocksOfRow [(0, .aload_n 0, 1), (1, .iload_n 1, 1)] (st' := (2, [(0, .ref 0), (1, .int x1)], [.int x1, .ref 0], wd s rest, 0, 0)) (List.forall_mem_cons.mpr ⟨dX5_blocksOfRow_0, List.forall_mem_cons.mpr ⟨dX5_blocksOfRow_1, fun _ h => absurd h List.not_mem_nil⟩⟩) rfl ?_
  obtain ⟨v1, h2, h⟩ := obind h
  refine xcall tn_X5_blocksOfRow dX5_blocksOfRow_2 rfl rfl (w_X5_lengthOfRow h2) ?_
  show X 72 (5, [(0, .ref 0), (1, .int x1)], [.int v1], wd s rest, 0, 0) _
  obtain ⟨v3, h4, h⟩ := obind h
  refine xcall tn_X5_blocksOfRow dX5_blocksOfRow_5 rfl rfl (w_X5_blocksForLength h4) ?_
  show X 72 (8, [(0, .ref 0), (1, .int x1)], [.int v3], wd s rest, 0, 0) _
  cases h
  exact xret tn_X5_blocksOfRow rfl dX5_blocksOfRow_8
def F_X4_content (s : St) (x1 : Int32) (x2 : Int32) : Option (Int32) := bif mx_cnd .lt x2 0 then (some (nI 0)) else (bif mx_cnd .ge x2 (nI 24) then (some (nI 0)) else ((F_X4_cell s x1 ((nI 4) + x2)).bind fun v1 => some v1))
set_option maxRecDepth 100000 in
set_option maxHeartbeats 4000000 in
theorem w_X4_content {rest : mx_W} {s : St} {x1 : Int32} {x2 : Int32} {r : Int32} (h : F_X4_content s x1 x2 = some r) : X 44 (0, [(0, .ref 1), (1, .int x1), (2, .int x2)], [], wd s rest, 0, 0) (some (.int r), wd s rest, 0, 0) := by
  unfold F_X4_content at h
  refine xs tn_X4_content [(0, .iload_n 2, 1)] (st' := (1, [(0, .ref 1), (1, .int x1), (2, .int x2)], [.int x2], wd s rest, 0, 0)) (List.forall_mem_cons.mpr ⟨dX4_content_0, fun _ h => absurd h List.not_mem_nil⟩) rfl ?_
  refine xifF (t := 21) tn_X4_content dX4_content_1 (by decide) h (fun h => ?_) (fun h => ?_)
  · refine xs tn_X4_content [(21, .iconst 0, 1)] (st' := (22, [(0, .ref 1), (1, .int x1), (2, .int x2)], [.int (nI 0)], wd s rest, 0, 0)) (List.forall_mem_cons.mpr ⟨dX4_content_21, fun _ h => absurd h List.not_mem_nil⟩) rfl ?_
    cases h
    exact xret tn_X4_content rfl dX4_content_22
  · refine xs tn_X4_content [(4, .iload_n 2, 1), (5, .bipush 24, 2)] (st' := (7, [(0, .ref 1), (1, .int x1), (2, .int x2)], [.int (nI 24), .int x2], wd s rest, 0, 0)) (List.forall_mem_cons.mpr ⟨dX4_content_4, List.forall_mem_cons.mpr ⟨dX4_content_5, fun _ h => absurd h List.not_mem_nil⟩⟩) rfl ?_
    refine xcmpF (t := 21) tn_X4_content dX4_content_7 (by decide) h (fun h => ?_) (fun h => ?_)
    · refine xs tn_X4_content [(21, .iconst 0, 1)] (st' := (22, [(0, .ref 1), (1, .int x1), (2, .int x2)], [.int (nI 0)], wd s rest, 0, 0)) (List.forall_mem_cons.mpr ⟨dX4_content_21, fun _ h => absurd h List.not_mem_nil⟩) rfl ?_
      cases h
      exact xret tn_X4_content rfl dX4_content_22
    · refine xs tn_X4_content [(10, .aload_n 0, 1), (11, .iload_n 1, 1), (12, .iconst 4, 1), (13, .iload_n 2, 1), (14, .iadd, 1)] (st' := (15, [(0, .ref 1), (1, .int x1), (2, .int x2)], [.int ((nI 4) + x2), .int x1, .ref 1], wd s rest, 0, 0)) (List.forall_mem_cons.mpr ⟨dX4_content_10, List.forall_mem_cons.mpr ⟨dX4_content_11, List.forall_mem_cons.mpr ⟨dX4_content_12, List.forall_mem_cons.mpr ⟨dX4_content_13, List.forall_mem_cons.mpr ⟨dX4_content_14, fun _ h => absurd h List.not_mem_nil⟩⟩⟩⟩⟩) rfl ?_
      obtain ⟨v1, h2, h⟩ := obind h
      refine xcall tn_X4_content dX4_content_15 rfl rfl (w_X4_cell h2) ?_
      show X 44 (18, [(0, .ref 1), (1, .int x1), (2, .int x2)], [.int v1], wd s rest, 0, 0) _
      refine xs tn_X4_content [(18, .goto 4, 3)] (st' := (22, [(0, .ref 1), (1, .int x1), (2, .int x2)], [.int v1], wd s rest, 0, 0)) (List.forall_mem_cons.mpr ⟨dX4_content_18, fun _ h => absurd h List.not_mem_nil⟩) rfl ?_
      cases h
      exact xret tn_X4_content rfl dX4_content_22
def F_X5_countMissing_11 (N : Nat) : Nat → St → Int32 → Int32 → Int32 → Int32 → Option (Int32)
  | 0, _, _, _, _, _ => none
  | f + 1, s, x1, x2, x3, x4 => bif mx_cnd .ge x4 x3 then (some x2) else ((F_X4_content s x1 x4).bind fun v1 => (F_X5_isBlock s v1).bind fun v3 => bif mx_cnd .ne v3 0 then (F_X5_countMissing_11 N f s x1 x2 x3 (x4 + (nI 1))) else (F_X5_countMissing_11 N f s x1 (x2 + (nI 1)) x3 (x4 + (nI 1))))
set_option maxRecDepth 100000 in
set_option maxHeartbeats 4000000 in
theorem w_X5_countMissing_11 {rest : mx_W} {N : Nat} : ∀ (f : Nat) (s : St) (x1 : Int32) (x2 : Int32) (x3 : Int32) (x4 : Int32) (r : Int32), F_X5_countMissing_11 N f s x1 x2 x3 x4 = some r → X 98 (11, [(0, .ref 0), (1, .int x1), (2, .int x2), (3, .int x3), (4, .int x4)], [], wd s rest, 0, 0) (some (.int r), wd s rest, 0, 0) := by
  intro f
  induction f with
  | zero => intro s x1 x2 x3 x4 r h; rw [F_X5_countMissing_11.eq_1] at h; cases h
  | succ f ih =>
    intro s x1 x2 x3 x4 r h
    rw [F_X5_countMissing_11.eq_2] at h
    refine xs tn_X5_countMissing [(11, .iload 4, 2), (13, .iload_n 3, 1)] (st' := (14, [(0, .ref 0), (1, .int x1), (2, .int x2), (3, .int x3), (4, .int x4)], [.int x3, .int x4], wd s rest, 0, 0)) (List.forall_mem_cons.mpr ⟨dX5_countMissing_11, List.forall_mem_cons.mpr ⟨dX5_countMissing_13, fun _ h => absurd h List.not_mem_nil⟩⟩) rfl ?_
    refine xcmpF (t := 43) tn_X5_countMissing dX5_countMissing_14 (by decide) h (fun h => ?_) (fun h => ?_)
    · refine xs tn_X5_countMissing [(43, .iload_n 2, 1)] (st' := (44, [(0, .ref 0), (1, .int x1), (2, .int x2), (3, .int x3), (4, .int x4)], [.int x2], wd s rest, 0, 0)) (List.forall_mem_cons.mpr ⟨dX5_countMissing_43, fun _ h => absurd h List.not_mem_nil⟩) rfl ?_
      cases h
      exact xret tn_X5_countMissing rfl dX5_countMissing_44
    · refine xs tn_X5_countMissing [(17, .aload_n 0, 1), (18, .aload_n 0, 1), (19, .getfield 12, 3), (22, .iload_n 1, 1), (23, .iload 4, 2)] (st' := (25, [(0, .ref 0), (1, .int x1), (2, .int x2), (3, .int x3), (4, .int x4)], [.int x4, .int x1, .ref 1, .ref 0], wd s rest, 0, 0)) (List.forall_mem_cons.mpr ⟨dX5_countMissing_17, List.forall_mem_cons.mpr ⟨dX5_countMissing_18, List.forall_mem_cons.mpr ⟨dX5_countMissing_19, List.forall_mem_cons.mpr ⟨dX5_countMissing_22, List.forall_mem_cons.mpr ⟨dX5_countMissing_23, fun _ h => absurd h List.not_mem_nil⟩⟩⟩⟩⟩) rfl ?_
      obtain ⟨v1, h2, h⟩ := obind h
      refine xcall tn_X5_countMissing dX5_countMissing_25 rfl rfl (w_X4_content h2) ?_
      show X 98 (28, [(0, .ref 0), (1, .int x1), (2, .int x2), (3, .int x3), (4, .int x4)], [.int v1, .ref 0], wd s rest, 0, 0) _
      obtain ⟨v3, h4, h⟩ := obind h
      refine xcall tn_X5_countMissing dX5_countMissing_28 rfl rfl (w_X5_isBlock h4) ?_
      show X 98 (31, [(0, .ref 0), (1, .int x1), (2, .int x2), (3, .int x3), (4, .int x4)], [.int v3], wd s rest, 0, 0) _
      refine xifF (t := 37) tn_X5_countMissing dX5_countMissing_31 (by decide) h (fun h => ?_) (fun h => ?_)
      · refine xs tn_X5_countMissing [(37, .iinc 4 1, 3), (40, .goto (-29), 3)] (st' := (11, [(0, .ref 0), (1, .int x1), (2, .int x2), (3, .int x3), (4, .int (x4 + (nI 1)))], [], wd s rest, 0, 0)) (List.forall_mem_cons.mpr ⟨dX5_countMissing_37, List.forall_mem_cons.mpr ⟨dX5_countMissing_40, fun _ h => absurd h List.not_mem_nil⟩⟩) rfl ?_
        refine xwk [0, 1, 2, 3, 4] rfl rfl ?_
        exact ih _ _ _ _ _ _ h
      · refine xs tn_X5_countMissing [(34, .iinc 2 1, 3), (37, .iinc 4 1, 3), (40, .goto (-29), 3)] (st' := (11, [(0, .ref 0), (1, .int x1), (2, .int (x2 + (nI 1))), (3, .int x3), (4, .int (x4 + (nI 1)))], [], wd s rest, 0, 0)) (List.forall_mem_cons.mpr ⟨dX5_countMissing_34, List.forall_mem_cons.mpr ⟨dX5_countMissing_37, List.forall_mem_cons.mpr ⟨dX5_countMissing_40, fun _ h => absurd h List.not_mem_nil⟩⟩⟩) rfl ?_
        refine xwk [0, 1, 2, 3, 4] rfl rfl ?_
        exact ih _ _ _ _ _ _ h
def F_X5_countMissing (N : Nat) (s : St) (x1 : Int32) : Option (Int32) := (F_X5_blocksOfRow s x1).bind fun v1 => F_X5_countMissing_11 N N s x1 (nI 0) v1 (nI 0)
set_option maxRecDepth 100000 in
set_option maxHeartbeats 4000000 in
theorem w_X5_countMissing {rest : mx_W} {N : Nat} {s : St} {x1 : Int32} {r : Int32} (h : F_X5_countMissing N s x1 = some r) : X 98 (0, [(0, .ref 0), (1, .int x1)], [], wd s rest, 0, 0) (some (.int r), wd s rest, 0, 0) := by
  unfold F_X5_countMissing at h
  refine xs tn_X5_countMissing [(0, .iconst 0, 1), (1, .istore_n 2, 1), (2, .aload_n 0, 1), (3, .iload_n 1, 1)] (st' := (4, [(2, .int (nI 0)), (0, .ref 0), (1, .int x1)], [.int x1, .ref 0], wd s rest, 0, 0)) (List.forall_mem_cons.mpr ⟨dX5_countMissing_0, List.forall_mem_cons.mpr ⟨dX5_countMissing_1, List.forall_mem_cons.mpr ⟨dX5_countMissing_2, List.forall_mem_cons.mpr ⟨dX5_countMissing_3, fun _ h => absurd h List.not_mem_nil⟩⟩⟩⟩) rfl ?_
  obtain ⟨v1, h2, h⟩ := obind h
  refine xcall tn_X5_countMissing dX5_countMissing_4 rfl rfl (w_X5_blocksOfRow h2) ?_
  show X 98 (7, [(2, .int (nI 0)), (0, .ref 0), (1, .int x1)], [.int v1], wd s rest, 0, 0) _
  refine xs tn_X5_countMissing [(7, .istore_n 3, 1), (8, .iconst 0, 1), (9, .istore 4, 2)] (st' := (11, [(4, .int (nI 0)), (3, .int v1), (2, .int (nI 0)), (0, .ref 0), (1, .int x1)], [], wd s rest, 0, 0)) (List.forall_mem_cons.mpr ⟨dX5_countMissing_7, List.forall_mem_cons.mpr ⟨dX5_countMissing_8, List.forall_mem_cons.mpr ⟨dX5_countMissing_9, fun _ h => absurd h List.not_mem_nil⟩⟩⟩) rfl ?_
  refine xwk [0, 1, 2, 3, 4] rfl rfl ?_
  exact w_X5_countMissing_11 N _ _ _ _ _ _ h
def F_X1_twice (x0 : Int32) : Option (Int32) := bif mx_cnd .le (x0 <<< ((nI 1) &&& 31)) (nI 255) then (some (x0 <<< ((nI 1) &&& 31))) else (some ((x0 <<< ((nI 1) &&& 31)) ^^^ (nI 285)))
set_option maxRecDepth 100000 in
set_option maxHeartbeats 4000000 in
theorem w_X1_twice {w : mx_W} {x0 : Int32} {r : Int32} (h : F_X1_twice x0 = some r) : X 8 (0, [(0, .int x0)], [], w, 0, 0) (some (.int r), w, 0, 0) := by
  unfold F_X1_twice at h
  refine xs tn_X1_twice [(0, .iload_n 0, 1), (1, .iconst 1, 1), (2, .ishl, 1), (3, .istore_n 1, 1), (4, .iload_n 1, 1), (5, .sipush 255, 3)] (st' := (8, [(1, .int (x0 <<< ((nI 1) &&& 31))), (0, .int x0)], [.int (nI 255), .int (x0 <<< ((nI 1) &&& 31))], w, 0, 0)) (List.forall_mem_cons.mpr ⟨dX1_twice_0, List.forall_mem_cons.mpr ⟨dX1_twice_1, List.forall_mem_cons.mpr ⟨dX1_twice_2, List.forall_mem_cons.mpr ⟨dX1_twice_3, List.forall_mem_cons.mpr ⟨dX1_twice_4, List.forall_mem_cons.mpr ⟨dX1_twice_5, fun _ h => absurd h List.not_mem_nil⟩⟩⟩⟩⟩⟩) rfl ?_
  refine xcmpF (t := 19) tn_X1_twice dX1_twice_8 (by decide) h (fun h => ?_) (fun h => ?_)
  · refine xs tn_X1_twice [(19, .iload_n 1, 1)] (st' := (20, [(1, .int (x0 <<< ((nI 1) &&& 31))), (0, .int x0)], [.int (x0 <<< ((nI 1) &&& 31))], w, 0, 0)) (List.forall_mem_cons.mpr ⟨dX1_twice_19, fun _ h => absurd h List.not_mem_nil⟩) rfl ?_
    cases h
    exact xret tn_X1_twice rfl dX1_twice_20
  · refine xs tn_X1_twice [(11, .iload_n 1, 1), (12, .sipush 285, 3), (15, .ixor, 1), (16, .goto 4, 3)] (st' := (20, [(1, .int (x0 <<< ((nI 1) &&& 31))), (0, .int x0)], [.int ((x0 <<< ((nI 1) &&& 31)) ^^^ (nI 285))], w, 0, 0)) (List.forall_mem_cons.mpr ⟨dX1_twice_11, List.forall_mem_cons.mpr ⟨dX1_twice_12, List.forall_mem_cons.mpr ⟨dX1_twice_15, List.forall_mem_cons.mpr ⟨dX1_twice_16, fun _ h => absurd h List.not_mem_nil⟩⟩⟩⟩) rfl ?_
    cases h
    exact xret tn_X1_twice rfl dX1_twice_20
def F_X5_symbolByte_12 (N : Nat) : Nat → St → Int32 → Int32 → Int32 → Int32 → Int32 → Option (Int32)
  | 0, _, _, _, _, _, _ => none
  | f + 1, s, x1, x2, x3, x4, x5 => bif mx_cnd .lt x5 0 then (some x4) else ((F_X4_content s x1 x5).bind fun v1 => (F_X5_isBlock s v1).bind fun v3 => bif mx_cnd .eq v3 0 then (bif mx_cnd .ne x2 (nI 1) then (F_X5_symbolByte_12 N f s x1 x2 x3 (x4 ^^^ (nI 0)) (x5 + (-nI 1))) else ((F_X1_twice x4).bind fun v5 => F_X5_symbolByte_12 N f s x1 x2 x3 (v5 ^^^ (nI 0)) (x5 + (-nI 1)))) else ((F_X4_content s v1 x3).bind fun v7 => bif mx_cnd .ne x2 (nI 1) then (F_X5_symbolByte_12 N f s x1 x2 x3 (x4 ^^^ v7) (x5 + (-nI 1))) else ((F_X1_twice x4).bind fun v9 => F_X5_symbolByte_12 N f s x1 x2 x3 (v9 ^^^ v7) (x5 + (-nI 1)))))
set_option maxRecDepth 100000 in
set_option maxHeartbeats 4000000 in
theorem w_X5_symbolByte_12 {rest : mx_W} {N : Nat} : ∀ (f : Nat) (s : St) (x1 : Int32) (x2 : Int32) (x3 : Int32) (x4 : Int32) (x5 : Int32) (r : Int32), F_X5_symbolByte_12 N f s x1 x2 x3 x4 x5 = some r → X 103 (12, [(0, .ref 0), (1, .int x1), (2, .int x2), (3, .int x3), (4, .int x4), (5, .int x5)], [], wd s rest, 0, 0) (some (.int r), wd s rest, 0, 0) := by
  intro f
  induction f with
  | zero => intro s x1 x2 x3 x4 x5 r h; rw [F_X5_symbolByte_12.eq_1] at h; cases h
  | succ f ih =>
    intro s x1 x2 x3 x4 x5 r h
    rw [F_X5_symbolByte_12.eq_2] at h
    refine xs tn_X5_symbolByte [(12, .iload 5, 2)] (st' := (14, [(0, .ref 0), (1, .int x1), (2, .int x2), (3, .int x3), (4, .int x4), (5, .int x5)], [.int x5], wd s rest, 0, 0)) (List.forall_mem_cons.mpr ⟨dX5_symbolByte_12, fun _ h => absurd h List.not_mem_nil⟩) rfl ?_
    refine xifF (t := 80) tn_X5_symbolByte dX5_symbolByte_14 (by decide) h (fun h => ?_) (fun h => ?_)
    · refine xs tn_X5_symbolByte [(80, .iload 4, 2)] (st' := (82, [(0, .ref 0), (1, .int x1), (2, .int x2), (3, .int x3), (4, .int x4), (5, .int x5)], [.int x4], wd s rest, 0, 0)) (List.forall_mem_cons.mpr ⟨dX5_symbolByte_80, fun _ h => absurd h List.not_mem_nil⟩) rfl ?_
      cases h
      exact xret tn_X5_symbolByte rfl dX5_symbolByte_82
    · refine xs tn_X5_symbolByte [(17, .aload_n 0, 1), (18, .getfield 12, 3), (21, .iload_n 1, 1), (22, .iload 5, 2)] (st' := (24, [(0, .ref 0), (1, .int x1), (2, .int x2), (3, .int x3), (4, .int x4), (5, .int x5)], [.int x5, .int x1, .ref 1], wd s rest, 0, 0)) (List.forall_mem_cons.mpr ⟨dX5_symbolByte_17, List.forall_mem_cons.mpr ⟨dX5_symbolByte_18, List.forall_mem_cons.mpr ⟨dX5_symbolByte_21, List.forall_mem_cons.mpr ⟨dX5_symbolByte_22, fun _ h => absurd h List.not_mem_nil⟩⟩⟩⟩) rfl ?_
      obtain ⟨v1, h2, h⟩ := obind h
      refine xcall tn_X5_symbolByte dX5_symbolByte_24 rfl rfl (w_X4_content h2) ?_
      show X 103 (27, [(0, .ref 0), (1, .int x1), (2, .int x2), (3, .int x3), (4, .int x4), (5, .int x5)], [.int v1], wd s rest, 0, 0) _
      refine xs tn_X5_symbolByte [(27, .istore 6, 2), (29, .aload_n 0, 1), (30, .iload 6, 2)] (st' := (32, [(6, .int v1), (0, .ref 0), (1, .int x1), (2, .int x2), (3, .int x3), (4, .int x4), (5, .int x5)], [.int v1, .ref 0], wd s rest, 0, 0)) (List.forall_mem_cons.mpr ⟨dX5_symbolByte_27, List.forall_mem_cons.mpr ⟨dX5_symbolByte_29, List.forall_mem_cons.mpr ⟨dX5_symbolByte_30, fun _ h => absurd h List.not_mem_nil⟩⟩⟩) rfl ?_
      obtain ⟨v3, h4, h⟩ := obind h
      refine xcall tn_X5_symbolByte dX5_symbolByte_32 rfl rfl (w_X5_isBlock h4) ?_
      show X 103 (35, [(6, .int v1), (0, .ref 0), (1, .int x1), (2, .int x2), (3, .int x3), (4, .int x4), (5, .int x5)], [.int v3], wd s rest, 0, 0) _
      refine xifF (t := 51) tn_X5_symbolByte dX5_symbolByte_35 (by decide) h (fun h => ?_) (fun h => ?_)
      · refine xs tn_X5_symbolByte [(51, .iconst 0, 1), (52, .istore 7, 2), (54, .iload_n 2, 1), (55, .iconst 1, 1)] (st' := (56, [(7, .int (nI 0)), (6, .int v1), (0, .ref 0), (1, .int x1), (2, .int x2), (3, .int x3), (4, .int x4), (5, .int x5)], [.int (nI 1), .int x2], wd s rest, 0, 0)) (List.forall_mem_cons.mpr ⟨dX5_symbolByte_51, List.forall_mem_cons.mpr ⟨dX5_symbolByte_52, List.forall_mem_cons.mpr ⟨dX5_symbolByte_54, List.forall_mem_cons.mpr ⟨dX5_symbolByte_55, fun _ h => absurd h List.not_mem_nil⟩⟩⟩⟩) rfl ?_
        refine xcmpF (t := 67) tn_X5_symbolByte dX5_symbolByte_56 (by decide) h (fun h => ?_) (fun h => ?_)
        · refine xs tn_X5_symbolByte [(67, .iload 4, 2), (69, .iload 7, 2), (71, .ixor, 1), (72, .istore 4, 2), (74, .iinc 5 (-1), 3), (77, .goto (-65), 3)] (st' := (12, [(7, .int (nI 0)), (6, .int v1), (0, .ref 0), (1, .int x1), (2, .int x2), (3, .int x3), (4, .int (x4 ^^^ (nI 0))), (5, .int (x5 + (-nI 1)))], [], wd s rest, 0, 0)) (List.forall_mem_cons.mpr ⟨dX5_symbolByte_67, List.forall_mem_cons.mpr ⟨dX5_symbolByte_69, List.forall_mem_cons.mpr ⟨dX5_symbolByte_71, List.forall_mem_cons.mpr ⟨dX5_symbolByte_72, List.forall_mem_cons.mpr ⟨dX5_symbolByte_74, List.forall_mem_cons.mpr ⟨dX5_symbolByte_77, fun _ h => absurd h List.not_mem_nil⟩⟩⟩⟩⟩⟩) rfl ?_
          refine xwk [0, 1, 2, 3, 4, 5] rfl rfl ?_
          exact ih _ _ _ _ _ _ _ h
        · refine xs tn_X5_symbolByte [(59, .iload 4, 2)] (st' := (61, [(7, .int (nI 0)), (6, .int v1), (0, .ref 0), (1, .int x1), (2, .int x2), (3, .int x3), (4, .int x4), (5, .int x5)], [.int x4], wd s rest, 0, 0)) (List.forall_mem_cons.mpr ⟨dX5_symbolByte_59, fun _ h => absurd h List.not_mem_nil⟩) rfl ?_
          obtain ⟨v5, h6, h⟩ := obind h
          refine xcall tn_X5_symbolByte dX5_symbolByte_61 rfl rfl (w_X1_twice h6) ?_
          show X 103 (64, [(7, .int (nI 0)), (6, .int v1), (0, .ref 0), (1, .int x1), (2, .int x2), (3, .int x3), (4, .int x4), (5, .int x5)], [.int v5], wd s rest, 0, 0) _
          refine xs tn_X5_symbolByte [(64, .goto 5, 3), (69, .iload 7, 2), (71, .ixor, 1), (72, .istore 4, 2), (74, .iinc 5 (-1), 3), (77, .goto (-65), 3)] (st' := (12, [(7, .int (nI 0)), (6, .int v1), (0, .ref 0), (1, .int x1), (2, .int x2), (3, .int x3), (4, .int (v5 ^^^ (nI 0))), (5, .int (x5 + (-nI 1)))], [], wd s rest, 0, 0)) (List.forall_mem_cons.mpr ⟨dX5_symbolByte_64, List.forall_mem_cons.mpr ⟨dX5_symbolByte_69, List.forall_mem_cons.mpr ⟨dX5_symbolByte_71, List.forall_mem_cons.mpr ⟨dX5_symbolByte_72, List.forall_mem_cons.mpr ⟨dX5_symbolByte_74, List.forall_mem_cons.mpr ⟨dX5_symbolByte_77, fun _ h => absurd h List.not_mem_nil⟩⟩⟩⟩⟩⟩) rfl ?_
          refine xwk [0, 1, 2, 3, 4, 5] rfl rfl ?_
          exact ih _ _ _ _ _ _ _ h
      · refine xs tn_X5_symbolByte [(38, .aload_n 0, 1), (39, .getfield 12, 3), (42, .iload 6, 2), (44, .iload_n 3, 1)] (st' := (45, [(6, .int v1), (0, .ref 0), (1, .int x1), (2, .int x2), (3, .int x3), (4, .int x4), (5, .int x5)], [.int x3, .int v1, .ref 1], wd s rest, 0, 0)) (List.forall_mem_cons.mpr ⟨dX5_symbolByte_38, List.forall_mem_cons.mpr ⟨dX5_symbolByte_39, List.forall_mem_cons.mpr ⟨dX5_symbolByte_42, List.forall_mem_cons.mpr ⟨dX5_symbolByte_44, fun _ h => absurd h List.not_mem_nil⟩⟩⟩⟩) rfl ?_
        obtain ⟨v7, h8, h⟩ := obind h
        refine xcall tn_X5_symbolByte dX5_symbolByte_45 rfl rfl (w_X4_content h8) ?_
        show X 103 (48, [(6, .int v1), (0, .ref 0), (1, .int x1), (2, .int x2), (3, .int x3), (4, .int x4), (5, .int x5)], [.int v7], wd s rest, 0, 0) _
        refine xs tn_X5_symbolByte [(48, .goto 4, 3), (52, .istore 7, 2), (54, .iload_n 2, 1), (55, .iconst 1, 1)] (st' := (56, [(7, .int v7), (6, .int v1), (0, .ref 0), (1, .int x1), (2, .int x2), (3, .int x3), (4, .int x4), (5, .int x5)], [.int (nI 1), .int x2], wd s rest, 0, 0)) (List.forall_mem_cons.mpr ⟨dX5_symbolByte_48, List.forall_mem_cons.mpr ⟨dX5_symbolByte_52, List.forall_mem_cons.mpr ⟨dX5_symbolByte_54, List.forall_mem_cons.mpr ⟨dX5_symbolByte_55, fun _ h => absurd h List.not_mem_nil⟩⟩⟩⟩) rfl ?_
        refine xcmpF (t := 67) tn_X5_symbolByte dX5_symbolByte_56 (by decide) h (fun h => ?_) (fun h => ?_)
        · refine xs tn_X5_symbolByte [(67, .iload 4, 2), (69, .iload 7, 2), (71, .ixor, 1), (72, .istore 4, 2), (74, .iinc 5 (-1), 3), (77, .goto (-65), 3)] (st' := (12, [(7, .int v7), (6, .int v1), (0, .ref 0), (1, .int x1), (2, .int x2), (3, .int x3), (4, .int (x4 ^^^ v7)), (5, .int (x5 + (-nI 1)))], [], wd s rest, 0, 0)) (List.forall_mem_cons.mpr ⟨dX5_symbolByte_67, List.forall_mem_cons.mpr ⟨dX5_symbolByte_69, List.forall_mem_cons.mpr ⟨dX5_symbolByte_71, List.forall_mem_cons.mpr ⟨dX5_symbolByte_72, List.forall_mem_cons.mpr ⟨dX5_symbolByte_74, List.forall_mem_cons.mpr ⟨dX5_symbolByte_77, fun _ h => absurd h List.not_mem_nil⟩⟩⟩⟩⟩⟩) rfl ?_
          refine xwk [0, 1, 2, 3, 4, 5] rfl rfl ?_
          exact ih _ _ _ _ _ _ _ h
        · refine xs tn_X5_symbolByte [(59, .iload 4, 2)] (st' := (61, [(7, .int v7), (6, .int v1), (0, .ref 0), (1, .int x1), (2, .int x2), (3, .int x3), (4, .int x4), (5, .int x5)], [.int x4], wd s rest, 0, 0)) (List.forall_mem_cons.mpr ⟨dX5_symbolByte_59, fun _ h => absurd h List.not_mem_nil⟩) rfl ?_
          obtain ⟨v9, h10, h⟩ := obind h
          refine xcall tn_X5_symbolByte dX5_symbolByte_61 rfl rfl (w_X1_twice h10) ?_
          show X 103 (64, [(7, .int v7), (6, .int v1), (0, .ref 0), (1, .int x1), (2, .int x2), (3, .int x3), (4, .int x4), (5, .int x5)], [.int v9], wd s rest, 0, 0) _
          refine xs tn_X5_symbolByte [(64, .goto 5, 3), (69, .iload 7, 2), (71, .ixor, 1), (72, .istore 4, 2), (74, .iinc 5 (-1), 3), (77, .goto (-65), 3)] (st' := (12, [(7, .int v7), (6, .int v1), (0, .ref 0), (1, .int x1), (2, .int x2), (3, .int x3), (4, .int (v9 ^^^ v7)), (5, .int (x5 + (-nI 1)))], [], wd s rest, 0, 0)) (List.forall_mem_cons.mpr ⟨dX5_symbolByte_64, List.forall_mem_cons.mpr ⟨dX5_symbolByte_69, List.forall_mem_cons.mpr ⟨dX5_symbolByte_71, List.forall_mem_cons.mpr ⟨dX5_symbolByte_72, List.forall_mem_cons.mpr ⟨dX5_symbolByte_74, List.forall_mem_cons.mpr ⟨dX5_symbolByte_77, fun _ h => absurd h List.not_mem_nil⟩⟩⟩⟩⟩⟩) rfl ?_
          refine xwk [0, 1, 2, 3, 4, 5] rfl rfl ?_
          exact ih _ _ _ _ _ _ _ h
def F_X5_symbolByte (N : Nat) (s : St) (x1 : Int32) (x2 : Int32) (x3 : Int32) : Option (Int32) := (F_X5_blocksOfRow s x1).bind fun v1 => F_X5_symbolByte_12 N N s x1 x2 x3 (nI 0) (v1 - (nI 1))
set_option maxRecDepth 100000 in
set_option maxHeartbeats 4000000 in
theorem w_X5_symbolByte {rest : mx_W} {N : Nat} {s : St} {x1 : Int32} {x2 : Int32} {x3 : Int32} {r : Int32} (h : F_X5_symbolByte N s x1 x2 x3 = some r) : X 103 (0, [(0, .ref 0), (1, .int x1), (2, .int x2), (3, .int x3)], [], wd s rest, 0, 0) (some (.int r), wd s rest, 0, 0) := by
  unfold F_X5_symbolByte at h
  refine xs tn_X5_symbolByte [(0, .iconst 0, 1), (1, .istore 4, 2), (3, .aload_n 0, 1), (4, .iload_n 1, 1)] (st' := (5, [(4, .int (nI 0)), (0, .ref 0), (1, .int x1), (2, .int x2), (3, .int x3)], [.int x1, .ref 0], wd s rest, 0, 0)) (List.forall_mem_cons.mpr ⟨dX5_symbolByte_0, List.forall_mem_cons.mpr ⟨dX5_symbolByte_1, List.forall_mem_cons.mpr ⟨dX5_symbolByte_3, List.forall_mem_cons.mpr ⟨dX5_symbolByte_4, fun _ h => absurd h List.not_mem_nil⟩⟩⟩⟩) rfl ?_
  obtain ⟨v1, h2, h⟩ := obind h
  refine xcall tn_X5_symbolByte dX5_symbolByte_5 rfl rfl (w_X5_blocksOfRow h2) ?_
  show X 103 (8, [(4, .int (nI 0)), (0, .ref 0), (1, .int x1), (2, .int x2), (3, .int x3)], [.int v1], wd s rest, 0, 0) _
  refine xs tn_X5_symbolByte [(8, .iconst 1, 1), (9, .isub, 1), (10, .istore 5, 2)] (st' := (12, [(5, .int (v1 - (nI 1))), (4, .int (nI 0)), (0, .ref 0), (1, .int x1), (2, .int x2), (3, .int x3)], [], wd s rest, 0, 0)) (List.forall_mem_cons.mpr ⟨dX5_symbolByte_8, List.forall_mem_cons.mpr ⟨dX5_symbolByte_9, List.forall_mem_cons.mpr ⟨dX5_symbolByte_10, fun _ h => absurd h List.not_mem_nil⟩⟩⟩) rfl ?_
  refine xwk [0, 1, 2, 3, 4, 5] rfl rfl ?_
  exact w_X5_symbolByte_12 N _ _ _ _ _ _ _ h
def F_X5_writeSymbol_14 (N : Nat) : Nat → St → Int32 → Int32 → Int32 → Option (Int32 × St)
  | 0, _, _, _, _ => none
  | f + 1, s, x2, x3, x4 => bif mx_cnd .ge x4 (nI 24) then (bindP (F_X5_writeNext N s) fun v1 s2 => some (v1, s2)) else ((F_X5_symbolByte N s x2 x3 x4).bind fun v4 => (F_X0_setContent s x4 v4).bind fun s6 => F_X5_writeSymbol_14 N f s6 x2 x3 (x4 + (nI 1)))
set_option maxRecDepth 100000 in
set_option maxHeartbeats 4000000 in
theorem w_X5_writeSymbol_14 {rest : mx_W} {N : Nat} : ∀ (f : Nat) (s : St) (x2 : Int32) (x3 : Int32) (x4 : Int32) (r : Int32) (t : St), F_X5_writeSymbol_14 N f s x2 x3 x4 = some (r, t) → X 123 (14, [(0, .ref 0), (2, .int x2), (3, .int x3), (4, .int x4)], [], wd s rest, 0, 0) (some (.int r), wd t rest, 0, 0) := by
  intro f
  induction f with
  | zero => intro s x2 x3 x4 r t h; rw [F_X5_writeSymbol_14.eq_1] at h; cases h
  | succ f ih =>
    intro s x2 x3 x4 r t h
    rw [F_X5_writeSymbol_14.eq_2] at h
    refine xs tn_X5_writeSymbol [(14, .iload 4, 2), (16, .bipush 24, 2)] (st' := (18, [(0, .ref 0), (2, .int x2), (3, .int x3), (4, .int x4)], [.int (nI 24), .int x4], wd s rest, 0, 0)) (List.forall_mem_cons.mpr ⟨dX5_writeSymbol_14, List.forall_mem_cons.mpr ⟨dX5_writeSymbol_16, fun _ h => absurd h List.not_mem_nil⟩⟩) rfl ?_
    refine xcmpF (t := 44) tn_X5_writeSymbol dX5_writeSymbol_18 (by decide) h (fun h => ?_) (fun h => ?_)
    · refine xs tn_X5_writeSymbol [(44, .aload_n 0, 1)] (st' := (45, [(0, .ref 0), (2, .int x2), (3, .int x3), (4, .int x4)], [.ref 0], wd s rest, 0, 0)) (List.forall_mem_cons.mpr ⟨dX5_writeSymbol_44, fun _ h => absurd h List.not_mem_nil⟩) rfl ?_
      obtain ⟨v1, s2, h3, h⟩ := obindP h
      refine xcall tn_X5_writeSymbol dX5_writeSymbol_45 rfl rfl (w_X5_writeNext h3) ?_
      show X 123 (48, [(0, .ref 0), (2, .int x2), (3, .int x3), (4, .int x4)], [.int v1], wd s2 rest, 0, 0) _
      cases h
      exact xret tn_X5_writeSymbol rfl dX5_writeSymbol_48
    · refine xs tn_X5_writeSymbol [(21, .aload_n 0, 1), (22, .getfield 28, 3), (25, .iload 4, 2), (27, .aload_n 0, 1), (28, .iload_n 2, 1), (29, .iload_n 3, 1), (30, .iload 4, 2)] (st' := (32, [(0, .ref 0), (2, .int x2), (3, .int x3), (4, .int x4)], [.int x4, .int x3, .int x2, .ref 0, .int x4, .ref 9], wd s rest, 0, 0)) (List.forall_mem_cons.mpr ⟨dX5_writeSymbol_21, List.forall_mem_cons.mpr ⟨dX5_writeSymbol_22, List.forall_mem_cons.mpr ⟨dX5_writeSymbol_25, List.forall_mem_cons.mpr ⟨dX5_writeSymbol_27, List.forall_mem_cons.mpr ⟨dX5_writeSymbol_28, List.forall_mem_cons.mpr ⟨dX5_writeSymbol_29, List.forall_mem_cons.mpr ⟨dX5_writeSymbol_30, fun _ h => absurd h List.not_mem_nil⟩⟩⟩⟩⟩⟩⟩) rfl ?_
      obtain ⟨v4, h5, h⟩ := obind h
      refine xcall tn_X5_writeSymbol dX5_writeSymbol_32 rfl rfl (w_X5_symbolByte h5) ?_
      show X 123 (35, [(0, .ref 0), (2, .int x2), (3, .int x3), (4, .int x4)], [.int v4, .int x4, .ref 9], wd s rest, 0, 0) _
      obtain ⟨s6, h7, h⟩ := obind h
      refine xcall tn_X5_writeSymbol dX5_writeSymbol_35 rfl rfl (w_X0_setContent h7) ?_
      show X 123 (38, [(0, .ref 0), (2, .int x2), (3, .int x3), (4, .int x4)], [], wd s6 rest, 0, 0) _
      refine xs tn_X5_writeSymbol [(38, .iinc 4 1, 3), (41, .goto (-27), 3)] (st' := (14, [(0, .ref 0), (2, .int x2), (3, .int x3), (4, .int (x4 + (nI 1)))], [], wd s6 rest, 0, 0)) (List.forall_mem_cons.mpr ⟨dX5_writeSymbol_38, List.forall_mem_cons.mpr ⟨dX5_writeSymbol_41, fun _ h => absurd h List.not_mem_nil⟩⟩) rfl ?_
      refine xwk [0, 2, 3, 4] rfl rfl ?_
      exact ih _ _ _ _ _ _ h
def F_X5_writeSymbol (N : Nat) (s : St) (x1 : Int32) (x2 : Int32) (x3 : Int32) : Option (Int32 × St) := (F_X0_begin N s (nI 4) x1 x3 (nI 0)).bind fun s1 => F_X5_writeSymbol_14 N N s1 x2 x3 (nI 0)
set_option maxRecDepth 100000 in
set_option maxHeartbeats 4000000 in
theorem w_X5_writeSymbol {rest : mx_W} {N : Nat} {s : St} {x1 : Int32} {x2 : Int32} {x3 : Int32} {r : Int32} {t : St} (h : F_X5_writeSymbol N s x1 x2 x3 = some (r, t)) : X 123 (0, [(0, .ref 0), (1, .int x1), (2, .int x2), (3, .int x3)], [], wd s rest, 0, 0) (some (.int r), wd t rest, 0, 0) := by
  unfold F_X5_writeSymbol at h
  refine xs tn_X5_writeSymbol [(0, .aload_n 0, 1), (1, .getfield 28, 3), (4, .iconst 4, 1), (5, .iload_n 1, 1), (6, .iload_n 3, 1), (7, .iconst 0, 1)] (st' := (8, [(0, .ref 0), (1, .int x1), (2, .int x2), (3, .int x3)], [.int (nI 0), .int x3, .int x1, .int (nI 4), .ref 9], wd s rest, 0, 0)) (List.forall_mem_cons.mpr ⟨dX5_writeSymbol_0, List.forall_mem_cons.mpr ⟨dX5_writeSymbol_1, List.forall_mem_cons.mpr ⟨dX5_writeSymbol_4, List.forall_mem_cons.mpr ⟨dX5_writeSymbol_5, List.forall_mem_cons.mpr ⟨dX5_writeSymbol_6, List.forall_mem_cons.mpr ⟨dX5_writeSymbol_7, fun _ h => absurd h List.not_mem_nil⟩⟩⟩⟩⟩⟩) rfl ?_
  obtain ⟨s1, h2, h⟩ := obind h
  refine xcall tn_X5_writeSymbol dX5_writeSymbol_8 rfl rfl (w_X0_begin h2) ?_
  show X 123 (11, [(0, .ref 0), (1, .int x1), (2, .int x2), (3, .int x3)], [], wd s1 rest, 0, 0) _
  refine xs tn_X5_writeSymbol [(11, .iconst 0, 1), (12, .istore 4, 2)] (st' := (14, [(4, .int (nI 0)), (0, .ref 0), (1, .int x1), (2, .int x2), (3, .int x3)], [], wd s1 rest, 0, 0)) (List.forall_mem_cons.mpr ⟨dX5_writeSymbol_11, List.forall_mem_cons.mpr ⟨dX5_writeSymbol_12, fun _ h => absurd h List.not_mem_nil⟩⟩) rfl ?_
  refine xwk [0, 2, 3, 4] rfl rfl ?_
  exact w_X5_writeSymbol_14 N _ _ _ _ _ _ h
def F_X5_protect (N : Nat) (s : St) (x1 : Int32) (x2 : Int32) : Option (Int32 × St) := (F_X5_isRowNumber s x1).bind fun v1 => bif mx_cnd .eq v1 0 then (some (-nI 2, s)) else (bif mx_cnd .lt x2 (nI 1) then (some (-nI 2, s)) else (bif mx_cnd .le x2 (nI 2) then (bif mx_cnd .ne (gI s 0) 0 then ((F_X5_findRow N s x1).bind fun v3 => bif mx_cnd .eq v3 (-nI 1) then (some (-nI 3, s)) else ((F_X5_countMissing N s v3).bind fun v5 => bif mx_cnd .le v5 0 then ((F_X5_sectorsLeft s).bind fun v7 => (F_X5_isOpen s).bind fun v9 => bif mx_cnd .eq v9 0 then (bif mx_cnd .ge v7 x2 then (bindP (F_X5_writeSymbol N s x1 v3 (nI 0)) fun v11 s12 => bif mx_cnd .ne x2 (nI 1) then (bindP (F_X5_writeSymbol N s12 x1 v3 (nI 1)) fun v14 s15 => some (v14, s15)) else (some (v11, s12))) else (some (-nI 4, s))) else (bif mx_cnd .ge v7 (x2 + (nI 5)) then (bindP (F_X5_writeSymbol N s x1 v3 (nI 0)) fun v17 s18 => bif mx_cnd .ne x2 (nI 1) then (bindP (F_X5_writeSymbol N s18 x1 v3 (nI 1)) fun v20 s21 => some (v20, s21)) else (some (v17, s18))) else (some (-nI 4, s)))) else (some (-nI 3, s)))) else (some (-nI 3, s))) else (some (-nI 2, s))))
set_option maxRecDepth 100000 in
set_option maxHeartbeats 4000000 in
theorem w_X5_protect {rest : mx_W} {N : Nat} {s : St} {x1 : Int32} {x2 : Int32} {r : Int32} {t : St} (h : F_X5_protect N s x1 x2 = some (r, t)) : X 131 (0, [(0, .ref 0), (1, .int x1), (2, .int x2)], [], wd s rest, 0, 0) (some (.int r), wd t rest, 0, 0) := by
  unfold F_X5_protect at h
  refine xs tn_X5_protect [(0, .aload_n 0, 1), (1, .iload_n 1, 1)] (st' := (2, [(0, .ref 0), (1, .int x1), (2, .int x2)], [.int x1, .ref 0], wd s rest, 0, 0)) (List.forall_mem_cons.mpr ⟨dX5_protect_0, List.forall_mem_cons.mpr ⟨dX5_protect_1, fun _ h => absurd h List.not_mem_nil⟩⟩) rfl ?_
  obtain ⟨v1, h2, h⟩ := obind h
  refine xcall tn_X5_protect dX5_protect_2 rfl rfl (w_X5_isRowNumber h2) ?_
  show X 131 (5, [(0, .ref 0), (1, .int x1), (2, .int x2)], [.int v1], wd s rest, 0, 0) _
  refine xifF (t := 18) tn_X5_protect dX5_protect_5 (by decide) h (fun h => ?_) (fun h => ?_)
  · refine xs tn_X5_protect [(18, .bipush (-2), 2)] (st' := (20, [(0, .ref 0), (1, .int x1), (2, .int x2)], [.int (-nI 2)], wd s rest, 0, 0)) (List.forall_mem_cons.mpr ⟨dX5_protect_18, fun _ h => absurd h List.not_mem_nil⟩) rfl ?_
    cases h
    exact xret tn_X5_protect rfl dX5_protect_20
  · refine xs tn_X5_protect [(8, .iload_n 2, 1), (9, .iconst 1, 1)] (st' := (10, [(0, .ref 0), (1, .int x1), (2, .int x2)], [.int (nI 1), .int x2], wd s rest, 0, 0)) (List.forall_mem_cons.mpr ⟨dX5_protect_8, List.forall_mem_cons.mpr ⟨dX5_protect_9, fun _ h => absurd h List.not_mem_nil⟩⟩) rfl ?_
    refine xcmpF (t := 18) tn_X5_protect dX5_protect_10 (by decide) h (fun h => ?_) (fun h => ?_)
    · refine xs tn_X5_protect [(18, .bipush (-2), 2)] (st' := (20, [(0, .ref 0), (1, .int x1), (2, .int x2)], [.int (-nI 2)], wd s rest, 0, 0)) (List.forall_mem_cons.mpr ⟨dX5_protect_18, fun _ h => absurd h List.not_mem_nil⟩) rfl ?_
      cases h
      exact xret tn_X5_protect rfl dX5_protect_20
    · refine xs tn_X5_protect [(13, .iload_n 2, 1), (14, .iconst 2, 1)] (st' := (15, [(0, .ref 0), (1, .int x1), (2, .int x2)], [.int (nI 2), .int x2], wd s rest, 0, 0)) (List.forall_mem_cons.mpr ⟨dX5_protect_13, List.forall_mem_cons.mpr ⟨dX5_protect_14, fun _ h => absurd h List.not_mem_nil⟩⟩) rfl ?_
      refine xcmpF (t := 21) tn_X5_protect dX5_protect_15 (by decide) h (fun h => ?_) (fun h => ?_)
      · refine xs tn_X5_protect [(21, .aload_n 0, 1), (22, .getfield 46, 3)] (st' := (25, [(0, .ref 0), (1, .int x1), (2, .int x2)], [.int (gI s 0)], wd s rest, 0, 0)) (List.forall_mem_cons.mpr ⟨dX5_protect_21, List.forall_mem_cons.mpr ⟨dX5_protect_22, fun _ h => absurd h List.not_mem_nil⟩⟩) rfl ?_
        refine xifF (t := 31) tn_X5_protect dX5_protect_25 (by decide) h (fun h => ?_) (fun h => ?_)
        · refine xs tn_X5_protect [(31, .aload_n 0, 1), (32, .iload_n 1, 1)] (st' := (33, [(0, .ref 0), (1, .int x1), (2, .int x2)], [.int x1, .ref 0], wd s rest, 0, 0)) (List.forall_mem_cons.mpr ⟨dX5_protect_31, List.forall_mem_cons.mpr ⟨dX5_protect_32, fun _ h => absurd h List.not_mem_nil⟩⟩) rfl ?_
          obtain ⟨v3, h4, h⟩ := obind h
          refine xcall tn_X5_protect dX5_protect_33 rfl rfl (w_X5_findRow h4) ?_
          show X 131 (36, [(0, .ref 0), (1, .int x1), (2, .int x2)], [.int v3], wd s rest, 0, 0) _
          refine xs tn_X5_protect [(36, .istore_n 3, 1), (37, .iload_n 3, 1), (38, .iconst (-1), 1)] (st' := (39, [(3, .int v3), (0, .ref 0), (1, .int x1), (2, .int x2)], [.int (-nI 1), .int v3], wd s rest, 0, 0)) (List.forall_mem_cons.mpr ⟨dX5_protect_36, List.forall_mem_cons.mpr ⟨dX5_protect_37, List.forall_mem_cons.mpr ⟨dX5_protect_38, fun _ h => absurd h List.not_mem_nil⟩⟩⟩) rfl ?_
          refine xcmpF (t := 50) tn_X5_protect dX5_protect_39 (by decide) h (fun h => ?_) (fun h => ?_)
          · refine xs tn_X5_protect [(50, .bipush (-3), 2)] (st' := (52, [(3, .int v3), (0, .ref 0), (1, .int x1), (2, .int x2)], [.int (-nI 3)], wd s rest, 0, 0)) (List.forall_mem_cons.mpr ⟨dX5_protect_50, fun _ h => absurd h List.not_mem_nil⟩) rfl ?_
            cases h
            exact xret tn_X5_protect rfl dX5_protect_52
          · refine xs tn_X5_protect [(42, .aload_n 0, 1), (43, .iload_n 3, 1)] (st' := (44, [(3, .int v3), (0, .ref 0), (1, .int x1), (2, .int x2)], [.int v3, .ref 0], wd s rest, 0, 0)) (List.forall_mem_cons.mpr ⟨dX5_protect_42, List.forall_mem_cons.mpr ⟨dX5_protect_43, fun _ h => absurd h List.not_mem_nil⟩⟩) rfl ?_
            obtain ⟨v5, h6, h⟩ := obind h
            refine xcall tn_X5_protect dX5_protect_44 rfl rfl (w_X5_countMissing h6) ?_
            show X 131 (47, [(3, .int v3), (0, .ref 0), (1, .int x1), (2, .int x2)], [.int v5], wd s rest, 0, 0) _
            refine xifF (t := 53) tn_X5_protect dX5_protect_47 (by decide) h (fun h => ?_) (fun h => ?_)
            · refine xs tn_X5_protect [(53, .aload_n 0, 1)] (st' := (54, [(3, .int v3), (0, .ref 0), (1, .int x1), (2, .int x2)], [.ref 0], wd s rest, 0, 0)) (List.forall_mem_cons.mpr ⟨dX5_protect_53, fun _ h => absurd h List.not_mem_nil⟩) rfl ?_
              obtain ⟨v7, h8, h⟩ := obind h
              refine xcall tn_X5_protect dX5_protect_54 rfl rfl (w_X5_sectorsLeft h8) ?_
              show X 131 (57, [(3, .int v3), (0, .ref 0), (1, .int x1), (2, .int x2)], [.int v7], wd s rest, 0, 0) _
              refine xs tn_X5_protect [(57, .aload_n 0, 1)] (st' := (58, [(3, .int v3), (0, .ref 0), (1, .int x1), (2, .int x2)], [.ref 0, .int v7], wd s rest, 0, 0)) (List.forall_mem_cons.mpr ⟨dX5_protect_57, fun _ h => absurd h List.not_mem_nil⟩) rfl ?_
              obtain ⟨v9, h10, h⟩ := obind h
              refine xcall tn_X5_protect dX5_protect_58 rfl rfl (w_X5_isOpen h10) ?_
              show X 131 (61, [(3, .int v3), (0, .ref 0), (1, .int x1), (2, .int x2)], [.int v9, .int v7], wd s rest, 0, 0) _
              refine xifF (t := 70) tn_X5_protect dX5_protect_61 (by decide) h (fun h => ?_) (fun h => ?_)
              · refine xs tn_X5_protect [(70, .iload_n 2, 1)] (st' := (71, [(3, .int v3), (0, .ref 0), (1, .int x1), (2, .int x2)], [.int x2, .int v7], wd s rest, 0, 0)) (List.forall_mem_cons.mpr ⟨dX5_protect_70, fun _ h => absurd h List.not_mem_nil⟩) rfl ?_
                refine xcmpF (t := 77) tn_X5_protect dX5_protect_71 (by decide) h (fun h => ?_) (fun h => ?_)
                · refine xs tn_X5_protect [(77, .aload_n 0, 1), (78, .iload_n 1, 1), (79, .iload_n 3, 1), (80, .iconst 0, 1)] (st' := (81, [(3, .int v3), (0, .ref 0), (1, .int x1), (2, .int x2)], [.int (nI 0), .int v3, .int x1, .ref 0], wd s rest, 0, 0)) (List.forall_mem_cons.mpr ⟨dX5_protect_77, List.forall_mem_cons.mpr ⟨dX5_protect_78, List.forall_mem_cons.mpr ⟨dX5_protect_79, List.forall_mem_cons.mpr ⟨dX5_protect_80, fun _ h => absurd h List.not_mem_nil⟩⟩⟩⟩) rfl ?_
                  obtain ⟨v11, s12, h13, h⟩ := obindP h
                  refine xcall tn_X5_protect dX5_protect_81 rfl rfl (w_X5_writeSymbol h13) ?_
                  show X 131 (84, [(3, .int v3), (0, .ref 0), (1, .int x1), (2, .int x2)], [.int v11], wd s12 rest, 0, 0) _
                  refine xs tn_X5_protect [(84, .istore 4, 2), (86, .iload_n 2, 1), (87, .iconst 1, 1)] (st' := (88, [(4, .int v11), (3, .int v3), (0, .ref 0), (1, .int x1), (2, .int x2)], [.int (nI 1), .int x2], wd s12 rest, 0, 0)) (List.forall_mem_cons.mpr ⟨dX5_protect_84, List.forall_mem_cons.mpr ⟨dX5_protect_86, List.forall_mem_cons.mpr ⟨dX5_protect_87, fun _ h => absurd h List.not_mem_nil⟩⟩⟩) rfl ?_
                  refine xcmpF (t := 96) tn_X5_protect dX5_protect_88 (by decide) h (fun h => ?_) (fun h => ?_)
                  · refine xs tn_X5_protect [(96, .aload_n 0, 1), (97, .iload_n 1, 1), (98, .iload_n 3, 1), (99, .iconst 1, 1)] (st' := (100, [(4, .int v11), (3, .int v3), (0, .ref 0), (1, .int x1), (2, .int x2)], [.int (nI 1), .int v3, .int x1, .ref 0], wd s12 rest, 0, 0)) (List.forall_mem_cons.mpr ⟨dX5_protect_96, List.forall_mem_cons.mpr ⟨dX5_protect_97, List.forall_mem_cons.mpr ⟨dX5_protect_98, List.forall_mem_cons.mpr ⟨dX5_protect_99, fun _ h => absurd h List.not_mem_nil⟩⟩⟩⟩) rfl ?_
                    obtain ⟨v14, s15, h16, h⟩ := obindP h
                    refine xcall tn_X5_protect dX5_protect_100 rfl rfl (w_X5_writeSymbol h16) ?_
                    show X 131 (103, [(4, .int v11), (3, .int v3), (0, .ref 0), (1, .int x1), (2, .int x2)], [.int v14], wd s15 rest, 0, 0) _
                    cases h
                    exact xret tn_X5_protect rfl dX5_protect_103
                  · refine xs tn_X5_protect [(91, .iload 4, 2), (93, .goto 10, 3)] (st' := (103, [(4, .int v11), (3, .int v3), (0, .ref 0), (1, .int x1), (2, .int x2)], [.int v11], wd s12 rest, 0, 0)) (List.forall_mem_cons.mpr ⟨dX5_protect_91, List.forall_mem_cons.mpr ⟨dX5_protect_93, fun _ h => absurd h List.not_mem_nil⟩⟩) rfl ?_
                    cases h
                    exact xret tn_X5_protect rfl dX5_protect_103
                · refine xs tn_X5_protect [(74, .bipush (-4), 2)] (st' := (76, [(3, .int v3), (0, .ref 0), (1, .int x1), (2, .int x2)], [.int (-nI 4)], wd s rest, 0, 0)) (List.forall_mem_cons.mpr ⟨dX5_protect_74, fun _ h => absurd h List.not_mem_nil⟩) rfl ?_
                  cases h
                  exact xret tn_X5_protect rfl dX5_protect_76
              · refine xs tn_X5_protect [(64, .iload_n 2, 1), (65, .iconst 5, 1), (66, .iadd, 1), (67, .goto 4, 3)] (st' := (71, [(3, .int v3), (0, .ref 0), (1, .int x1), (2, .int x2)], [.int (x2 + (nI 5)), .int v7], wd s rest, 0, 0)) (List.forall_mem_cons.mpr ⟨dX5_protect_64, List.forall_mem_cons.mpr ⟨dX5_protect_65, List.forall_mem_cons.mpr ⟨dX5_protect_66, List.forall_mem_cons.mpr ⟨dX5_protect_67, fun _ h => absurd h List.not_mem_nil⟩⟩⟩⟩) rfl ?_
                refine xcmpF (t := 77) tn_X5_protect dX5_protect_71 (by decide) h (fun h => ?_) (fun h => ?_)
                · refine xs tn_X5_protect [(77, .aload_n 0, 1), (78, .iload_n 1, 1), (79, .iload_n 3, 1), (80, .iconst 0, 1)] (st' := (81, [(3, .int v3), (0, .ref 0), (1, .int x1), (2, .int x2)], [.int (nI 0), .int v3, .int x1, .ref 0], wd s rest, 0, 0)) (List.forall_mem_cons.mpr ⟨dX5_protect_77, List.forall_mem_cons.mpr ⟨dX5_protect_78, List.forall_mem_cons.mpr ⟨dX5_protect_79, List.forall_mem_cons.mpr ⟨dX5_protect_80, fun _ h => absurd h List.not_mem_nil⟩⟩⟩⟩) rfl ?_
                  obtain ⟨v17, s18, h19, h⟩ := obindP h
                  refine xcall tn_X5_protect dX5_protect_81 rfl rfl (w_X5_writeSymbol h19) ?_
                  show X 131 (84, [(3, .int v3), (0, .ref 0), (1, .int x1), (2, .int x2)], [.int v17], wd s18 rest, 0, 0) _
                  refine xs tn_X5_protect [(84, .istore 4, 2), (86, .iload_n 2, 1), (87, .iconst 1, 1)] (st' := (88, [(4, .int v17), (3, .int v3), (0, .ref 0), (1, .int x1), (2, .int x2)], [.int (nI 1), .int x2], wd s18 rest, 0, 0)) (List.forall_mem_cons.mpr ⟨dX5_protect_84, List.forall_mem_cons.mpr ⟨dX5_protect_86, List.forall_mem_cons.mpr ⟨dX5_protect_87, fun _ h => absurd h List.not_mem_nil⟩⟩⟩) rfl ?_
                  refine xcmpF (t := 96) tn_X5_protect dX5_protect_88 (by decide) h (fun h => ?_) (fun h => ?_)
                  · refine xs tn_X5_protect [(96, .aload_n 0, 1), (97, .iload_n 1, 1), (98, .iload_n 3, 1), (99, .iconst 1, 1)] (st' := (100, [(4, .int v17), (3, .int v3), (0, .ref 0), (1, .int x1), (2, .int x2)], [.int (nI 1), .int v3, .int x1, .ref 0], wd s18 rest, 0, 0)) (List.forall_mem_cons.mpr ⟨dX5_protect_96, List.forall_mem_cons.mpr ⟨dX5_protect_97, List.forall_mem_cons.mpr ⟨dX5_protect_98, List.forall_mem_cons.mpr ⟨dX5_protect_99, fun _ h => absurd h List.not_mem_nil⟩⟩⟩⟩) rfl ?_
                    obtain ⟨v20, s21, h22, h⟩ := obindP h
                    refine xcall tn_X5_protect dX5_protect_100 rfl rfl (w_X5_writeSymbol h22) ?_
                    show X 131 (103, [(4, .int v17), (3, .int v3), (0, .ref 0), (1, .int x1), (2, .int x2)], [.int v20], wd s21 rest, 0, 0) _
                    cases h
                    exact xret tn_X5_protect rfl dX5_protect_103
                  · refine xs tn_X5_protect [(91, .iload 4, 2), (93, .goto 10, 3)] (st' := (103, [(4, .int v17), (3, .int v3), (0, .ref 0), (1, .int x1), (2, .int x2)], [.int v17], wd s18 rest, 0, 0)) (List.forall_mem_cons.mpr ⟨dX5_protect_91, List.forall_mem_cons.mpr ⟨dX5_protect_93, fun _ h => absurd h List.not_mem_nil⟩⟩) rfl ?_
                    cases h
                    exact xret tn_X5_protect rfl dX5_protect_103
                · refine xs tn_X5_protect [(74, .bipush (-4), 2)] (st' := (76, [(3, .int v3), (0, .ref 0), (1, .int x1), (2, .int x2)], [.int (-nI 4)], wd s rest, 0, 0)) (List.forall_mem_cons.mpr ⟨dX5_protect_74, fun _ h => absurd h List.not_mem_nil⟩) rfl ?_
                  cases h
                  exact xret tn_X5_protect rfl dX5_protect_76
            · refine xs tn_X5_protect [(50, .bipush (-3), 2)] (st' := (52, [(3, .int v3), (0, .ref 0), (1, .int x1), (2, .int x2)], [.int (-nI 3)], wd s rest, 0, 0)) (List.forall_mem_cons.mpr ⟨dX5_protect_50, fun _ h => absurd h List.not_mem_nil⟩) rfl ?_
              cases h
              exact xret tn_X5_protect rfl dX5_protect_52
        · refine xs tn_X5_protect [(28, .bipush (-3), 2)] (st' := (30, [(0, .ref 0), (1, .int x1), (2, .int x2)], [.int (-nI 3)], wd s rest, 0, 0)) (List.forall_mem_cons.mpr ⟨dX5_protect_28, fun _ h => absurd h List.not_mem_nil⟩) rfl ?_
          cases h
          exact xret tn_X5_protect rfl dX5_protect_30
      · refine xs tn_X5_protect [(18, .bipush (-2), 2)] (st' := (20, [(0, .ref 0), (1, .int x1), (2, .int x2)], [.int (-nI 2)], wd s rest, 0, 0)) (List.forall_mem_cons.mpr ⟨dX5_protect_18, fun _ h => absurd h List.not_mem_nil⟩) rfl ?_
        cases h
        exact xret tn_X5_protect rfl dX5_protect_20
def F_X5_draftHead_13 (N : Nat) : Nat → St → Int32 → Int32 → Option (St)
  | 0, _, _, _ => none
  | f + 1, s, x1, x2 => bif mx_cnd .ge x2 (nI 4) then ((F_X0_setContent s (nI 4) (gI s 1)).bind fun s1 => (F_X0_setContent s1 (nI 5) (gI s1 2)).bind fun s3 => (F_X0_seal N s3).bind fun s5 => some s5) else ((F_X0_setContent s x2 ((x1.toUInt32 >>> (((nI 24) - ((nI 8) * x2)).toUInt32 &&& Int32.toUInt32 31)).toInt32)).bind fun s7 => F_X5_draftHead_13 N f s7 x1 (x2 + (nI 1)))
set_option maxRecDepth 100000 in
set_option maxHeartbeats 4000000 in
theorem w_X5_draftHead_13 {rest : mx_W} {N : Nat} : ∀ (f : Nat) (s : St) (x1 : Int32) (x2 : Int32) (r : St), F_X5_draftHead_13 N f s x1 x2 = some r → X 73 (13, [(0, .ref 0), (1, .int x1), (2, .int x2)], [], wd s rest, 0, 0) (none, wd r rest, 0, 0) := by
  intro f
  induction f with
  | zero => intro s x1 x2 r h; rw [F_X5_draftHead_13.eq_1] at h; cases h
  | succ f ih =>
    intro s x1 x2 r h
    rw [F_X5_draftHead_13.eq_2] at h
    refine xs tn_X5_draftHead [(13, .iload_n 2, 1), (14, .iconst 4, 1)] (st' := (15, [(0, .ref 0), (1, .int x1), (2, .int x2)], [.int (nI 4), .int x2], wd s rest, 0, 0)) (List.forall_mem_cons.mpr ⟨dX5_draftHead_13, List.forall_mem_cons.mpr ⟨dX5_draftHead_14, fun _ h => absurd h List.not_mem_nil⟩⟩) rfl ?_
    refine xcmpF (t := 41) tn_X5_draftHead dX5_draftHead_15 (by decide) h (fun h => ?_) (fun h => ?_)
    · refine xs tn_X5_draftHead [(41, .aload_n 0, 1), (42, .getfield 28, 3), (45, .iconst 4, 1), (46, .aload_n 0, 1), (47, .getfield 50, 3)] (st' := (50, [(0, .ref 0), (1, .int x1), (2, .int x2)], [.int (gI s 1), .int (nI 4), .ref 9], wd s rest, 0, 0)) (List.forall_mem_cons.mpr ⟨dX5_draftHead_41, List.forall_mem_cons.mpr ⟨dX5_draftHead_42, List.forall_mem_cons.mpr ⟨dX5_draftHead_45, List.forall_mem_cons.mpr ⟨dX5_draftHead_46, List.forall_mem_cons.mpr ⟨dX5_draftHead_47, fun _ h => absurd h List.not_mem_nil⟩⟩⟩⟩⟩) rfl ?_
      obtain ⟨s1, h2, h⟩ := obind h
      refine xcall tn_X5_draftHead dX5_draftHead_50 rfl rfl (w_X0_setContent h2) ?_
      show X 73 (53, [(0, .ref 0), (1, .int x1), (2, .int x2)], [], wd s1 rest, 0, 0) _
      refine xs tn_X5_draftHead [(53, .aload_n 0, 1), (54, .getfield 28, 3), (57, .iconst 5, 1), (58, .aload_n 0, 1), (59, .getfield 65, 3)] (st' := (62, [(0, .ref 0), (1, .int x1), (2, .int x2)], [.int (gI s1 2), .int (nI 5), .ref 9], wd s1 rest, 0, 0)) (List.forall_mem_cons.mpr ⟨dX5_draftHead_53, List.forall_mem_cons.mpr ⟨dX5_draftHead_54, List.forall_mem_cons.mpr ⟨dX5_draftHead_57, List.forall_mem_cons.mpr ⟨dX5_draftHead_58, List.forall_mem_cons.mpr ⟨dX5_draftHead_59, fun _ h => absurd h List.not_mem_nil⟩⟩⟩⟩⟩) rfl ?_
      obtain ⟨s3, h4, h⟩ := obind h
      refine xcall tn_X5_draftHead dX5_draftHead_62 rfl rfl (w_X0_setContent h4) ?_
      show X 73 (65, [(0, .ref 0), (1, .int x1), (2, .int x2)], [], wd s3 rest, 0, 0) _
      refine xs tn_X5_draftHead [(65, .aload_n 0, 1), (66, .getfield 28, 3)] (st' := (69, [(0, .ref 0), (1, .int x1), (2, .int x2)], [.ref 9], wd s3 rest, 0, 0)) (List.forall_mem_cons.mpr ⟨dX5_draftHead_65, List.forall_mem_cons.mpr ⟨dX5_draftHead_66, fun _ h => absurd h List.not_mem_nil⟩⟩) rfl ?_
      obtain ⟨s5, h6, h⟩ := obind h
      refine xcall tn_X5_draftHead dX5_draftHead_69 rfl rfl (w_X0_seal h6) ?_
      show X 73 (72, [(0, .ref 0), (1, .int x1), (2, .int x2)], [], wd s5 rest, 0, 0) _
      cases h
      exact xretv tn_X5_draftHead rfl dX5_draftHead_72
    · refine xs tn_X5_draftHead [(18, .aload_n 0, 1), (19, .getfield 28, 3), (22, .iload_n 2, 1), (23, .iload_n 1, 1), (24, .bipush 24, 2), (26, .bipush 8, 2), (28, .iload_n 2, 1), (29, .imul, 1), (30, .isub, 1), (31, .iushr, 1)] (st' := (32, [(0, .ref 0), (1, .int x1), (2, .int x2)], [.int ((x1.toUInt32 >>> (((nI 24) - ((nI 8) * x2)).toUInt32 &&& Int32.toUInt32 31)).toInt32), .int x2, .ref 9], wd s rest, 0, 0)) (List.forall_mem_cons.mpr ⟨dX5_draftHead_18, List.forall_mem_cons.mpr ⟨dX5_draftHead_19, List.forall_mem_cons.mpr ⟨dX5_draftHead_22, List.forall_mem_cons.mpr ⟨dX5_draftHead_23, List.forall_mem_cons.mpr ⟨dX5_draftHead_24, List.forall_mem_cons.mpr ⟨dX5_draftHead_26, List.forall_mem_cons.mpr ⟨dX5_draftHead_28, List.forall_mem_cons.mpr ⟨dX5_draftHead_29, List.forall_mem_cons.mpr ⟨dX5_draftHead_30, List.forall_mem_cons.mpr ⟨dX5_draftHead_31, fun _ h => absurd h List.not_mem_nil⟩⟩⟩⟩⟩⟩⟩⟩⟩⟩) rfl ?_
      obtain ⟨s7, h8, h⟩ := obind h
      refine xcall tn_X5_draftHead dX5_draftHead_32 rfl rfl (w_X0_setContent h8) ?_
      show X 73 (35, [(0, .ref 0), (1, .int x1), (2, .int x2)], [], wd s7 rest, 0, 0) _
      refine xs tn_X5_draftHead [(35, .iinc 2 1, 3), (38, .goto (-25), 3)] (st' := (13, [(0, .ref 0), (1, .int x1), (2, .int (x2 + (nI 1)))], [], wd s7 rest, 0, 0)) (List.forall_mem_cons.mpr ⟨dX5_draftHead_35, List.forall_mem_cons.mpr ⟨dX5_draftHead_38, fun _ h => absurd h List.not_mem_nil⟩⟩) rfl ?_
      refine xwk [0, 1, 2] rfl rfl ?_
      exact ih _ _ _ _ h
def F_X5_draftHead (N : Nat) (s : St) (x1 : Int32) : Option (St) := (F_X0_begin N s (nI 1) (nI 0) (nI 0) (nI 0)).bind fun s1 => F_X5_draftHead_13 N N s1 x1 (nI 0)
set_option maxRecDepth 100000 in
set_option maxHeartbeats 4000000 in
theorem w_X5_draftHead {rest : mx_W} {N : Nat} {s : St} {x1 : Int32} {r : St} (h : F_X5_draftHead N s x1 = some r) : X 73 (0, [(0, .ref 0), (1, .int x1)], [], wd s rest, 0, 0) (none, wd r rest, 0, 0) := by
  unfold F_X5_draftHead at h
  refine xs tn_X5_draftHead [(0, .aload_n 0, 1), (1, .getfield 28, 3), (4, .iconst 1, 1), (5, .iconst 0, 1), (6, .iconst 0, 1), (7, .iconst 0, 1)] (st' := (8, [(0, .ref 0), (1, .int x1)], [.int (nI 0), .int (nI 0), .int (nI 0), .int (nI 1), .ref 9], wd s rest, 0, 0)) (List.forall_mem_cons.mpr ⟨dX5_draftHead_0, List.forall_mem_cons.mpr ⟨dX5_draftHead_1, List.forall_mem_cons.mpr ⟨dX5_draftHead_4, List.forall_mem_cons.mpr ⟨dX5_draftHead_5, List.forall_mem_cons.mpr ⟨dX5_draftHead_6, List.forall_mem_cons.mpr ⟨dX5_draftHead_7, fun _ h => absurd h List.not_mem_nil⟩⟩⟩⟩⟩⟩) rfl ?_
  obtain ⟨s1, h2, h⟩ := obind h
  refine xcall tn_X5_draftHead dX5_draftHead_8 rfl rfl (w_X0_begin h2) ?_
  show X 73 (11, [(0, .ref 0), (1, .int x1)], [], wd s1 rest, 0, 0) _
  refine xs tn_X5_draftHead [(11, .iconst 0, 1), (12, .istore_n 2, 1)] (st' := (13, [(2, .int (nI 0)), (0, .ref 0), (1, .int x1)], [], wd s1 rest, 0, 0)) (List.forall_mem_cons.mpr ⟨dX5_draftHead_11, List.forall_mem_cons.mpr ⟨dX5_draftHead_12, fun _ h => absurd h List.not_mem_nil⟩⟩) rfl ?_
  refine xwk [0, 1, 2] rfl rfl ?_
  exact w_X5_draftHead_13 N _ _ _ _ h
def F_X5_headSector (x0 : Int32) : Option (Int32) := some (x0 &&& (nI 1))
set_option maxRecDepth 100000 in
set_option maxHeartbeats 4000000 in
theorem w_X5_headSector {w : mx_W} {x0 : Int32} {r : Int32} (h : F_X5_headSector x0 = some r) : X 24 (0, [(0, .int x0)], [], w, 0, 0) (some (.int r), w, 0, 0) := by
  unfold F_X5_headSector at h
  refine xs tn_X5_headSector [(0, .iload_n 0, 1), (1, .iconst 1, 1), (2, .iand, 1)] (st' := (3, [(0, .int x0)], [.int (x0 &&& (nI 1))], w, 0, 0)) (List.forall_mem_cons.mpr ⟨dX5_headSector_0, List.forall_mem_cons.mpr ⟨dX5_headSector_1, List.forall_mem_cons.mpr ⟨dX5_headSector_2, fun _ h => absurd h List.not_mem_nil⟩⟩⟩) rfl ?_
  cases h
  exact xret tn_X5_headSector rfl dX5_headSector_3
