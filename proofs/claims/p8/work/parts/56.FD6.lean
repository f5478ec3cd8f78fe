def F_X5_repairAll_15 (N : Nat) (K : St → Int32 → Option (St)) : Nat → St → Int32 → Int32 → Int32 → Option (St)
  | 0, _, _, _, _ => none
  | f + 1, s, x1, x2, x3 => bif mx_cnd .ge x3 (gI s 2) then (bif mx_cnd .ne (gI s 6) x2 then (K s (x1 + (nI 1))) else (some s)) else ((F_X5_repairRow N s x3).bind fun s1 => F_X5_repairAll_15 N K f s1 x1 x2 (x3 + (nI 1)))
set_option maxRecDepth 100000 in
set_option maxHeartbeats 4000000 in
theorem w_X5_repairAll_15 {rest : mx_W} {N : Nat} {K : St → Int32 → Option (St)} (hK : ∀ (s : St) (x1 : Int32) (r : St), K s x1 = some r → X 132 (2, [(0, .ref 0), (1, .int x1)], [], wd s rest, 0, 0) (none, wd r rest, 0, 0)) : ∀ (f : Nat) (s : St) (x1 : Int32) (x2 : Int32) (x3 : Int32) (r : St), F_X5_repairAll_15 N K f s x1 x2 x3 = some r → X 132 (15, [(0, .ref 0), (1, .int x1), (2, .int x2), (3, .int x3)], [], wd s rest, 0, 0) (none, wd r rest, 0, 0) := by
  intro f
  induction f with
  | zero => intro s x1 x2 x3 r h; rw [F_X5_repairAll_15.eq_1] at h; cases h
  | succ f ih =>
    intro s x1 x2 x3 r h
    rw [F_X5_repairAll_15.eq_2] at h
    refine xs tn_X5_repairAll [(15, .iload_n 3, 1), (16, .aload_n 0, 1), (17, .getfield 65, 3)] (st' := (20, [(0, .ref 0), (1, .int x1), (2, .int x2), (3, .int x3)], [.int (gI s 2), .int x3], wd s rest, 0, 0)) (List.forall_mem_cons.mpr ⟨dX5_repairAll_15, List.forall_mem_cons.mpr ⟨dX5_repairAll_16, List.forall_mem_cons.mpr ⟨dX5_repairAll_17, fun _ h => absurd h List.not_mem_nil⟩⟩⟩) rfl ?_
    refine xcmpF (t := 34) tn_X5_repairAll dX5_repairAll_20 (by decide) h (fun h => ?_) (fun h => ?_)
    · refine xs tn_X5_repairAll [(34, .aload_n 0, 1), (35, .getfield 144, 3), (38, .iload_n 2, 1)] (st' := (39, [(0, .ref 0), (1, .int x1), (2, .int x2), (3, .int x3)], [.int x2, .int (gI s 6)], wd s rest, 0, 0)) (List.forall_mem_cons.mpr ⟨dX5_repairAll_34, List.forall_mem_cons.mpr ⟨dX5_repairAll_35, List.forall_mem_cons.mpr ⟨dX5_repairAll_38, fun _ h => absurd h List.not_mem_nil⟩⟩⟩) rfl ?_
      refine xcmpF (t := 43) tn_X5_repairAll dX5_repairAll_39 (by decide) h (fun h => ?_) (fun h => ?_)
      · refine xs tn_X5_repairAll [(43, .iinc 1 1, 3), (46, .goto (-44), 3)] (st' := (2, [(0, .ref 0), (1, .int (x1 + (nI 1))), (2, .int x2), (3, .int x3)], [], wd s rest, 0, 0)) (List.forall_mem_cons.mpr ⟨dX5_repairAll_43, List.forall_mem_cons.mpr ⟨dX5_repairAll_46, fun _ h => absurd h List.not_mem_nil⟩⟩) rfl ?_
        refine xwk [0, 1] rfl rfl ?_
        exact hK _ _ _ h
      · cases h
        exact xretv tn_X5_repairAll rfl dX5_repairAll_42
    · refine xs tn_X5_repairAll [(23, .aload_n 0, 1), (24, .iload_n 3, 1)] (st' := (25, [(0, .ref 0), (1, .int x1), (2, .int x2), (3, .int x3)], [.int x3, .ref 0], wd s rest, 0, 0)) (List.forall_mem_cons.mpr ⟨dX5_repairAll_23, List.forall_mem_cons.mpr ⟨dX5_repairAll_24, fun _ h => absurd h List.not_mem_nil⟩⟩) rfl ?_
      obtain ⟨s1, h2, h⟩ := obind h
      refine xcall tn_X5_repairAll dX5_repairAll_25 rfl rfl (w_X5_repairRow h2) ?_
      show X 132 (28, [(0, .ref 0), (1, .int x1), (2, .int x2), (3, .int x3)], [], wd s1 rest, 0, 0) _
      refine xs tn_X5_repairAll [(28, .iinc 3 1, 3), (31, .goto (-16), 3)] (st' := (15, [(0, .ref 0), (1, .int x1), (2, .int x2), (3, .int (x3 + (nI 1)))], [], wd s1 rest, 0, 0)) (List.forall_mem_cons.mpr ⟨dX5_repairAll_28, List.forall_mem_cons.mpr ⟨dX5_repairAll_31, fun _ h => absurd h List.not_mem_nil⟩⟩) rfl ?_
      refine xwk [0, 1, 2, 3] rfl rfl ?_
      exact ih _ _ _ _ _ h
def F_X5_repairAll_2 (N : Nat) : Nat → St → Int32 → Option (St)
  | 0, _, _ => none
  | f + 1, s, x1 => bif mx_cnd .gt x1 (nI 60) then (some s) else (F_X5_repairAll_15 N (F_X5_repairAll_2 N f) N s x1 (gI s 6) (nI 0))
set_option maxRecDepth 100000 in
set_option maxHeartbeats 4000000 in
theorem w_X5_repairAll_2 {rest : mx_W} {N : Nat} : ∀ (f : Nat) (s : St) (x1 : Int32) (r : St), F_X5_repairAll_2 N f s x1 = some r → X 132 (2, [(0, .ref 0), (1, .int x1)], [], wd s rest, 0, 0) (none, wd r rest, 0, 0) := by
  intro f
  induction f with
  | zero => intro s x1 r h; rw [F_X5_repairAll_2.eq_1] at h; cases h
  | succ f ih =>
    intro s x1 r h
    rw [F_X5_repairAll_2.eq_2] at h
    refine xs tn_X5_repairAll [(2, .iload_n 1, 1), (3, .bipush 60, 2)] (st' := (5, [(0, .ref 0), (1, .int x1)], [.int (nI 60), .int x1], wd s rest, 0, 0)) (List.forall_mem_cons.mpr ⟨dX5_repairAll_2, List.forall_mem_cons.mpr ⟨dX5_repairAll_3, fun _ h => absurd h List.not_mem_nil⟩⟩) rfl ?_
    refine xcmpF (t := 49) tn_X5_repairAll dX5_repairAll_5 (by decide) h (fun h => ?_) (fun h => ?_)
    · cases h
      exact xretv tn_X5_repairAll rfl dX5_repairAll_49
    · refine xs tn_X5_repairAll [(8, .aload_n 0, 1), (9, .getfield 144, 3), (12, .istore_n 2, 1), (13, .iconst 0, 1), (14, .istore_n 3, 1)] (st' := (15, [(3, .int (nI 0)), (2, .int (gI s 6)), (0, .ref 0), (1, .int x1)], [], wd s rest, 0, 0)) (List.forall_mem_cons.mpr ⟨dX5_repairAll_8, List.forall_mem_cons.mpr ⟨dX5_repairAll_9, List.forall_mem_cons.mpr ⟨dX5_repairAll_12, List.forall_mem_cons.mpr ⟨dX5_repairAll_13, List.forall_mem_cons.mpr ⟨dX5_repairAll_14, fun _ h => absurd h List.not_mem_nil⟩⟩⟩⟩⟩) rfl ?_
      refine xwk [0, 1, 2, 3] rfl rfl ?_
      exact w_X5_repairAll_15 ih N _ _ _ _ _ h
def F_X5_repairAll (N : Nat) (s : St) : Option (St) := F_X5_repairAll_2 N N s (nI 0)
set_option maxRecDepth 100000 in
set_option maxHeartbeats 4000000 in
theorem w_X5_repairAll {rest : mx_W} {N : Nat} {s : St} {r : St} (h : F_X5_repairAll N s = some r) : X 132 (0, [(0, .ref 0)], [], wd s rest, 0, 0) (none, wd r rest, 0, 0) := by
  unfold F_X5_repairAll at h
  refine xs tn_X5_repairAll [(0, .iconst 0, 1), (1, .istore_n 1, 1)] (st' := (2, [(1, .int (nI 0)), (0, .ref 0)], [], wd s rest, 0, 0)) (List.forall_mem_cons.mpr ⟨dX5_repairAll_0, List.forall_mem_cons.mpr ⟨dX5_repairAll_1, fun _ h => absurd h List.not_mem_nil⟩⟩) rfl ?_
  refine xwk [0, 1] rfl rfl ?_
  exact w_X5_repairAll_2 N _ _ _ h
def F_X5_start (N : Nat) (s : St) : Option (Int32 × St) := bif mx_cnd .eq (gI s 0) 0 then (bnd (sI s 0 (nI 1)) fun s1 => (F_X5_readHead N s1).bind fun s2 => (F_X5_extendLog N s2).bind fun s4 => (F_X5_countRows N s4).bind fun s6 => bnd (sI s6 6 (nI 0)) fun s8 => (F_X5_repairAll N s8).bind fun s9 => (F_X3_clear s9).bind fun s11 => some (gI s11 2, s11)) else (some (-nI 3, s))
set_option maxRecDepth 100000 in
set_option maxHeartbeats 4000000 in
theorem w_X5_start {rest : mx_W} {N : Nat} {s : St} {r : Int32} {t : St} (h : F_X5_start N s = some (r, t)) : X 135 (0, [(0, .ref 0)], [], wd s rest, 0, 0) (some (.int r), wd t rest, 0, 0) := by
  unfold F_X5_start at h
  refine xs tn_X5_start [(0, .aload_n 0, 1), (1, .getfield 46, 3)] (st' := (4, [(0, .ref 0)], [.int (gI s 0)], wd s rest, 0, 0)) (List.forall_mem_cons.mpr ⟨dX5_start_0, List.forall_mem_cons.mpr ⟨dX5_start_1, fun _ h => absurd h List.not_mem_nil⟩⟩) rfl ?_
  refine xifF (t := 10) tn_X5_start dX5_start_4 (by decide) h (fun h => ?_) (fun h => ?_)
  · refine xs tn_X5_start [(10, .aload_n 0, 1), (11, .iconst 1, 1)] (st' := (12, [(0, .ref 0)], [.int (nI 1), .ref 0], wd s rest, 0, 0)) (List.forall_mem_cons.mpr ⟨dX5_start_10, List.forall_mem_cons.mpr ⟨dX5_start_11, fun _ h => absurd h List.not_mem_nil⟩⟩) rfl ?_
    refine xput_a0 tn_X5_start dX5_start_12 rfl (by decide) h (fun s1 h => ?_)
    refine xs tn_X5_start [(15, .aload_n 0, 1)] (st' := (16, [(0, .ref 0)], [.ref 0], wd s1 rest, 0, 0)) (List.forall_mem_cons.mpr ⟨dX5_start_15, fun _ h => absurd h List.not_mem_nil⟩) rfl ?_
    obtain ⟨s2, h3, h⟩ := obind h
    refine xcall tn_X5_start dX5_start_16 rfl rfl (w_X5_readHead h3) ?_
    show X 135 (19, [(0, .ref 0)], [], wd s2 rest, 0, 0) _
    refine xs tn_X5_start [(19, .aload_n 0, 1)] (st' := (20, [(0, .ref 0)], [.ref 0], wd s2 rest, 0, 0)) (List.forall_mem_cons.mpr ⟨dX5_start_19, fun _ h => absurd h List.not_mem_nil⟩) rfl ?_
    obtain ⟨s4, h5, h⟩ := obind h
    refine xcall tn_X5_start dX5_start_20 rfl rfl (w_X5_extendLog h5) ?_
    show X 135 (23, [(0, .ref 0)], [], wd s4 rest, 0, 0) _
    refine xs tn_X5_start [(23, .aload_n 0, 1)] (st' := (24, [(0, .ref 0)], [.ref 0], wd s4 rest, 0, 0)) (List.forall_mem_cons.mpr ⟨dX5_start_23, fun _ h => absurd h List.not_mem_nil⟩) rfl ?_
    obtain ⟨s6, h7, h⟩ := obind h
    refine xcall tn_X5_start dX5_start_24 rfl rfl (w_X5_countRows h7) ?_
    show X 135 (27, [(0, .ref 0)], [], wd s6 rest, 0, 0) _
    refine xs tn_X5_start [(27, .aload_n 0, 1), (28, .iconst 0, 1)] (st' := (29, [(0, .ref 0)], [.int (nI 0), .ref 0], wd s6 rest, 0, 0)) (List.forall_mem_cons.mpr ⟨dX5_start_27, List.forall_mem_cons.mpr ⟨dX5_start_28, fun _ h => absurd h List.not_mem_nil⟩⟩) rfl ?_
    refine xput_a6 tn_X5_start dX5_start_29 rfl h (fun s8 h => ?_)
    refine xs tn_X5_start [(32, .aload_n 0, 1)] (st' := (33, [(0, .ref 0)], [.ref 0], wd s8 rest, 0, 0)) (List.forall_mem_cons.mpr ⟨dX5_start_32, fun _ h => absurd h List.not_mem_nil⟩) rfl ?_
    obtain ⟨s9, h10, h⟩ := obind h
    refine xcall tn_X5_start dX5_start_33 rfl rfl (w_X5_repairAll h10) ?_
    show X 135 (36, [(0, .ref 0)], [], wd s9 rest, 0, 0) _
    refine xs tn_X5_start [(36, .aload_n 0, 1), (37, .getfield 21, 3)] (st' := (40, [(0, .ref 0)], [.ref 5], wd s9 rest, 0, 0)) (List.forall_mem_cons.mpr ⟨dX5_start_36, List.forall_mem_cons.mpr ⟨dX5_start_37, fun _ h => absurd h List.not_mem_nil⟩⟩) rfl ?_
    obtain ⟨s11, h12, h⟩ := obind h
    refine xcall tn_X5_start dX5_start_40 rfl rfl (w_X3_clear h12) ?_
    show X 135 (43, [(0, .ref 0)], [], wd s11 rest, 0, 0) _
    refine xs tn_X5_start [(43, .aload_n 0, 1), (44, .getfield 65, 3)] (st' := (47, [(0, .ref 0)], [.int (gI s11 2)], wd s11 rest, 0, 0)) (List.forall_mem_cons.mpr ⟨dX5_start_43, List.forall_mem_cons.mpr ⟨dX5_start_44, fun _ h => absurd h List.not_mem_nil⟩⟩) rfl ?_
    cases h
    exact xret tn_X5_start rfl dX5_start_47
  · refine xs tn_X5_start [(7, .bipush (-3), 2)] (st' := (9, [(0, .ref 0)], [.int (-nI 3)], wd s rest, 0, 0)) (List.forall_mem_cons.mpr ⟨dX5_start_7, fun _ h => absurd h List.not_mem_nil⟩) rfl ?_
    cases h
    exact xret tn_X5_start rfl dX5_start_9
def F_X5_at (N : Nat) (s : St) (x1 : Int32) (x2 : Int32) : Option (Int32) := (F_X5_isRowNumber s x1).bind fun v1 => bif mx_cnd .ne v1 0 then (bif mx_cnd .eq (gI s 0) 0 then (some (-nI 3)) else ((F_X5_findRow N s x1).bind fun v3 => bif mx_cnd .ne v3 (-nI 1) then (bif mx_cnd .lt x2 0 then (none) else ((F_X5_lengthOfRow s v3).bind fun v5 => bif mx_cnd .lt x2 v5 then ((F_X4_content s v3 (x2 / (nI 24))).bind fun v7 => (F_X5_isBlock s v7).bind fun v9 => bif mx_cnd .eq v9 0 then (some (-nI 5)) else ((F_X4_content s v7 (x2 - x2 / (nI 24) * (nI 24))).bind fun v11 => some v11)) else (none))) else (some (-nI 3)))) else (some (-nI 2))
set_option maxRecDepth 100000 in
set_option maxHeartbeats 4000000 in
theorem w_X5_at {rest : mx_W} {N : Nat} {s : St} {x1 : Int32} {x2 : Int32} {r : Int32} (h : F_X5_at N s x1 x2 = some r) : X 95 (0, [(0, .ref 0), (1, .int x1), (2, .int x2)], [], wd s rest, 0, 0) (some (.int r), wd s rest, 0, 0) := by
  unfold F_X5_at at h
  refine xs tn_X5_at [(0, .aload_n 0, 1), (1, .iload_n 1, 1)] (st' := (2, [(0, .ref 0), (1, .int x1), (2, .int x2)], [.int x1, .ref 0], wd s rest, 0, 0)) (List.forall_mem_cons.mpr ⟨dX5_at_0, List.forall_mem_cons.mpr ⟨dX5_at_1, fun _ h => absurd h List.not_mem_nil⟩⟩) rfl ?_
  obtain ⟨v1, h2, h⟩ := obind h
  refine xcall tn_X5_at dX5_at_2 rfl rfl (w_X5_isRowNumber h2) ?_
  show X 95 (5, [(0, .ref 0), (1, .int x1), (2, .int x2)], [.int v1], wd s rest, 0, 0) _
  refine xifF (t := 11) tn_X5_at dX5_at_5 (by decide) h (fun h => ?_) (fun h => ?_)
  · refine xs tn_X5_at [(11, .aload_n 0, 1), (12, .getfield 46, 3)] (st' := (15, [(0, .ref 0), (1, .int x1), (2, .int x2)], [.int (gI s 0)], wd s rest, 0, 0)) (List.forall_mem_cons.mpr ⟨dX5_at_11, List.forall_mem_cons.mpr ⟨dX5_at_12, fun _ h => absurd h List.not_mem_nil⟩⟩) rfl ?_
    refine xifF (t := 26) tn_X5_at dX5_at_15 (by decide) h (fun h => ?_) (fun h => ?_)
    · refine xs tn_X5_at [(26, .iconst (-1), 1), (27, .istore_n 3, 1), (28, .iload_n 3, 1), (29, .iconst (-1), 1)] (st' := (30, [(3, .int (-nI 1)), (0, .ref 0), (1, .int x1), (2, .int x2)], [.int (-nI 1), .int (-nI 1)], wd s rest, 0, 0)) (List.forall_mem_cons.mpr ⟨dX5_at_26, List.forall_mem_cons.mpr ⟨dX5_at_27, List.forall_mem_cons.mpr ⟨dX5_at_28, List.forall_mem_cons.mpr ⟨dX5_at_29, fun _ h => absurd h List.not_mem_nil⟩⟩⟩⟩) rfl ?_
      refine xcmpN (t := 36) tn_X5_at dX5_at_30 (by decide) (by decide) ?_
      refine xs tn_X5_at [(33, .bipush (-3), 2)] (st' := (35, [(3, .int (-nI 1)), (0, .ref 0), (1, .int x1), (2, .int x2)], [.int (-nI 3)], wd s rest, 0, 0)) (List.forall_mem_cons.mpr ⟨dX5_at_33, fun _ h => absurd h List.not_mem_nil⟩) rfl ?_
      cases h
      exact xret tn_X5_at rfl dX5_at_35
    · refine xs tn_X5_at [(18, .aload_n 0, 1), (19, .iload_n 1, 1)] (st' := (20, [(0, .ref 0), (1, .int x1), (2, .int x2)], [.int x1, .ref 0], wd s rest, 0, 0)) (List.forall_mem_cons.mpr ⟨dX5_at_18, List.forall_mem_cons.mpr ⟨dX5_at_19, fun _ h => absurd h List.not_mem_nil⟩⟩) rfl ?_
      obtain ⟨v3, h4, h⟩ := obind h
      refine xcall tn_X5_at dX5_at_20 rfl rfl (w_X5_findRow h4) ?_
      show X 95 (23, [(0, .ref 0), (1, .int x1), (2, .int x2)], [.int v3], wd s rest, 0, 0) _
      refine xs tn_X5_at [(23, .goto 4, 3), (27, .istore_n 3, 1), (28, .iload_n 3, 1), (29, .iconst (-1), 1)] (st' := (30, [(3, .int v3), (0, .ref 0), (1, .int x1), (2, .int x2)], [.int (-nI 1), .int v3], wd s rest, 0, 0)) (List.forall_mem_cons.mpr ⟨dX5_at_23, List.forall_mem_cons.mpr ⟨dX5_at_27, List.forall_mem_cons.mpr ⟨dX5_at_28, List.forall_mem_cons.mpr ⟨dX5_at_29, fun _ h => absurd h List.not_mem_nil⟩⟩⟩⟩) rfl ?_
      refine xcmpF (t := 36) tn_X5_at dX5_at_30 (by decide) h (fun h => ?_) (fun h => ?_)
      · refine xs tn_X5_at [(36, .iload_n 2, 1)] (st' := (37, [(3, .int v3), (0, .ref 0), (1, .int x1), (2, .int x2)], [.int x2], wd s rest, 0, 0)) (List.forall_mem_cons.mpr ⟨dX5_at_36, fun _ h => absurd h List.not_mem_nil⟩) rfl ?_
        refine xifF (t := 49) tn_X5_at dX5_at_37 (by decide) h (fun h => ?_) (fun h => ?_)
        · exact nomatch h
        · refine xs tn_X5_at [(40, .iload_n 2, 1), (41, .aload_n 0, 1), (42, .iload_n 3, 1)] (st' := (43, [(3, .int v3), (0, .ref 0), (1, .int x1), (2, .int x2)], [.int v3, .ref 0, .int x2], wd s rest, 0, 0)) (List.forall_mem_cons.mpr ⟨dX5_at_40, List.forall_mem_cons.mpr ⟨dX5_at_41, List.forall_mem_cons.mpr ⟨dX5_at_42, fun _ h => absurd h List.not_mem_nil⟩⟩⟩) rfl ?_
          obtain ⟨v5, h6, h⟩ := obind h
          refine xcall tn_X5_at dX5_at_43 rfl rfl (w_X5_lengthOfRow h6) ?_
          show X 95 (46, [(3, .int v3), (0, .ref 0), (1, .int x1), (2, .int x2)], [.int v5, .int x2], wd s rest, 0, 0) _
          refine xcmpF (t := 59) tn_X5_at dX5_at_46 (by decide) h (fun h => ?_) (fun h => ?_)
          · refine xs tn_X5_at [(59, .aload_n 0, 1), (60, .getfield 12, 3), (63, .iload_n 3, 1), (64, .iload_n 2, 1), (65, .bipush 24, 2)] (st' := (67, [(3, .int v3), (0, .ref 0), (1, .int x1), (2, .int x2)], [.int (nI 24), .int x2, .int v3, .ref 1], wd s rest, 0, 0)) (List.forall_mem_cons.mpr ⟨dX5_at_59, List.forall_mem_cons.mpr ⟨dX5_at_60, List.forall_mem_cons.mpr ⟨dX5_at_63, List.forall_mem_cons.mpr ⟨dX5_at_64, List.forall_mem_cons.mpr ⟨dX5_at_65, fun _ h => absurd h List.not_mem_nil⟩⟩⟩⟩⟩) rfl ?_
            refine xdivF tn_X5_at dX5_at_67 (by decide) ?_
            obtain ⟨v7, h8, h⟩ := obind h
            refine xcall tn_X5_at dX5_at_68 rfl rfl (w_X4_content h8) ?_
            show X 95 (71, [(3, .int v3), (0, .ref 0), (1, .int x1), (2, .int x2)], [.int v7], wd s rest, 0, 0) _
            refine xs tn_X5_at [(71, .istore 4, 2), (73, .aload_n 0, 1), (74, .iload 4, 2)] (st' := (76, [(4, .int v7), (3, .int v3), (0, .ref 0), (1, .int x1), (2, .int x2)], [.int v7, .ref 0], wd s rest, 0, 0)) (List.forall_mem_cons.mpr ⟨dX5_at_71, List.forall_mem_cons.mpr ⟨dX5_at_73, List.forall_mem_cons.mpr ⟨dX5_at_74, fun _ h => absurd h List.not_mem_nil⟩⟩⟩) rfl ?_
            obtain ⟨v9, h10, h⟩ := obind h
            refine xcall tn_X5_at dX5_at_76 rfl rfl (w_X5_isBlock h10) ?_
            show X 95 (79, [(4, .int v7), (3, .int v3), (0, .ref 0), (1, .int x1), (2, .int x2)], [.int v9], wd s rest, 0, 0) _
            refine xifF (t := 98) tn_X5_at dX5_at_79 (by decide) h (fun h => ?_) (fun h => ?_)
            · refine xs tn_X5_at [(98, .bipush (-5), 2)] (st' := (100, [(4, .int v7), (3, .int v3), (0, .ref 0), (1, .int x1), (2, .int x2)], [.int (-nI 5)], wd s rest, 0, 0)) (List.forall_mem_cons.mpr ⟨dX5_at_98, fun _ h => absurd h List.not_mem_nil⟩) rfl ?_
              cases h
              exact xret tn_X5_at rfl dX5_at_100
            · refine xs tn_X5_at [(82, .aload_n 0, 1), (83, .getfield 12, 3), (86, .iload 4, 2), (88, .iload_n 2, 1), (89, .bipush 24, 2)] (st' := (91, [(4, .int v7), (3, .int v3), (0, .ref 0), (1, .int x1), (2, .int x2)], [.int (nI 24), .int x2, .int v7, .ref 1], wd s rest, 0, 0)) (List.forall_mem_cons.mpr ⟨dX5_at_82, List.forall_mem_cons.mpr ⟨dX5_at_83, List.forall_mem_cons.mpr ⟨dX5_at_86, List.forall_mem_cons.mpr ⟨dX5_at_88, List.forall_mem_cons.mpr ⟨dX5_at_89, fun _ h => absurd h List.not_mem_nil⟩⟩⟩⟩⟩) rfl ?_
              refine xremF tn_X5_at dX5_at_91 (by decide) ?_
              obtain ⟨v11, h12, h⟩ := obind h
              refine xcall tn_X5_at dX5_at_92 rfl rfl (w_X4_content h12) ?_
              show X 95 (95, [(4, .int v7), (3, .int v3), (0, .ref 0), (1, .int x1), (2, .int x2)], [.int v11], wd s rest, 0, 0) _
              refine xs tn_X5_at [(95, .goto 5, 3)] (st' := (100, [(4, .int v7), (3, .int v3), (0, .ref 0), (1, .int x1), (2, .int x2)], [.int v11], wd s rest, 0, 0)) (List.forall_mem_cons.mpr ⟨dX5_at_95, fun _ h => absurd h List.not_mem_nil⟩) rfl ?_
              cases h
              exact xret tn_X5_at rfl dX5_at_100
          · exact nomatch h
      · refine xs tn_X5_at [(33, .bipush (-3), 2)] (st' := (35, [(3, .int v3), (0, .ref 0), (1, .int x1), (2, .int x2)], [.int (-nI 3)], wd s rest, 0, 0)) (List.forall_mem_cons.mpr ⟨dX5_at_33, fun _ h => absurd h List.not_mem_nil⟩) rfl ?_
        cases h
        exact xret tn_X5_at rfl dX5_at_35
  · refine xs tn_X5_at [(8, .bipush (-2), 2)] (st' := (10, [(0, .ref 0), (1, .int x1), (2, .int x2)], [.int (-nI 2)], wd s rest, 0, 0)) (List.forall_mem_cons.mpr ⟨dX5_at_8, fun _ h => absurd h List.not_mem_nil⟩) rfl ?_
    cases h
    exact xret tn_X5_at rfl dX5_at_10
def F_X5_row_105 (N : Nat) (s : St) (x1 : Int32) (x2 : Int32) (x4 : Int32) : Option (Int32) := bif decide (x2 = nI 0) then ((F_X4_cell s x4 (nI 1)).bind fun v2 => some v2) else (bif decide (x2 = nI 1) then ((F_X5_lengthOfRow s x4).bind fun v5 => some v5) else (bif decide (x2 = nI 2) then (some x4) else (bif decide (x2 = nI 3) then ((F_X5_findSymbol N s x1 (nI 0)).bind fun v9 => some v9) else (bif decide (x2 = nI 4) then ((F_X5_findSymbol N s x1 (nI 1)).bind fun v12 => some v12) else (bif decide (x2 = nI 5) then ((F_X5_blocksOfRow s x4).bind fun v15 => some v15) else ((F_X5_countMissing N s x4).bind fun v17 => some v17))))))
set_option maxRecDepth 100000 in
set_option maxHeartbeats 4000000 in
theorem w_X5_row_105 {rest : mx_W} {N : Nat} {s : St} {x1 : Int32} {x2 : Int32} {x4 : Int32} {r : Int32} (h : F_X5_row_105 N s x1 x2 x4 = some r) : X 122 (105, [(0, .ref 0), (1, .int x1), (2, .int x2), (4, .int x4)], [], wd s rest, 0, 0) (some (.int r), wd s rest, 0, 0) := by
  unfold F_X5_row_105 at h
  refine xs tn_X5_row [(105, .iload_n 2, 1)] (st' := (106, [(0, .ref 0), (1, .int x1), (2, .int x2), (4, .int x4)], [.int x2], wd s rest, 0, 0)) (List.forall_mem_cons.mpr ⟨dX5_row_105, fun _ h => absurd h List.not_mem_nil⟩) rfl ?_
  rcases osw h with ⟨c1, h⟩ | ⟨c1, h⟩
  · refine xtabI (t := 144) (v := 0) (off := 38) tn_X5_row dX5_row_106 ((congrArg Int32.toInt c1).trans (by decide)) (by decide) (by decide) rfl (by decide) ?_
    refine xs tn_X5_row [(144, .aload_n 0, 1), (145, .getfield 12, 3), (148, .iload 4, 2), (150, .iconst 1, 1)] (st' := (151, [(0, .ref 0), (1, .int x1), (2, .int x2), (4, .int x4)], [.int (nI 1), .int x4, .ref 1], wd s rest, 0, 0)) (List.forall_mem_cons.mpr ⟨dX5_row_144, List.forall_mem_cons.mpr ⟨dX5_row_145, List.forall_mem_cons.mpr ⟨dX5_row_148, List.forall_mem_cons.mpr ⟨dX5_row_150, fun _ h => absurd h List.not_mem_nil⟩⟩⟩⟩) rfl ?_
    obtain ⟨v2, h3, h⟩ := obind h
    refine xcall tn_X5_row dX5_row_151 rfl rfl (w_X4_cell h3) ?_
    show X 122 (154, [(0, .ref 0), (1, .int x1), (2, .int x2), (4, .int x4)], [.int v2], wd s rest, 0, 0) _
    cases h
    exact xret tn_X5_row rfl dX5_row_154
  rcases osw h with ⟨c4, h⟩ | ⟨c4, h⟩
  · refine xtabI (t := 155) (v := 1) (off := 49) tn_X5_row dX5_row_106 ((congrArg Int32.toInt c4).trans (by decide)) (by decide) (by decide) rfl (by decide) ?_
    refine xs tn_X5_row [(155, .aload_n 0, 1), (156, .iload 4, 2)] (st' := (158, [(0, .ref 0), (1, .int x1), (2, .int x2), (4, .int x4)], [.int x4, .ref 0], wd s rest, 0, 0)) (List.forall_mem_cons.mpr ⟨dX5_row_155, List.forall_mem_cons.mpr ⟨dX5_row_156, fun _ h => absurd h List.not_mem_nil⟩⟩) rfl ?_
    obtain ⟨v5, h6, h⟩ := obind h
    refine xcall tn_X5_row dX5_row_158 rfl rfl (w_X5_lengthOfRow h6) ?_
    show X 122 (161, [(0, .ref 0), (1, .int x1), (2, .int x2), (4, .int x4)], [.int v5], wd s rest, 0, 0) _
    cases h
    exact xret tn_X5_row rfl dX5_row_161
  rcases osw h with ⟨c7, h⟩ | ⟨c7, h⟩
  · refine xtabI (t := 162) (v := 2) (off := 56) tn_X5_row dX5_row_106 ((congrArg Int32.toInt c7).trans (by decide)) (by decide) (by decide) rfl (by decide) ?_
    refine xs tn_X5_row [(162, .iload 4, 2)] (st' := (164, [(0, .ref 0), (1, .int x1), (2, .int x2), (4, .int x4)], [.int x4], wd s rest, 0, 0)) (List.forall_mem_cons.mpr ⟨dX5_row_162, fun _ h => absurd h List.not_mem_nil⟩) rfl ?_
    cases h
    exact xret tn_X5_row rfl dX5_row_164
  rcases osw h with ⟨c8, h⟩ | ⟨c8, h⟩
  · refine xtabI (t := 165) (v := 3) (off := 59) tn_X5_row dX5_row_106 ((congrArg Int32.toInt c8).trans (by decide)) (by decide) (by decide) rfl (by decide) ?_
    refine xs tn_X5_row [(165, .aload_n 0, 1), (166, .iload_n 1, 1), (167, .iconst 0, 1)] (st' := (168, [(0, .ref 0), (1, .int x1), (2, .int x2), (4, .int x4)], [.int (nI 0), .int x1, .ref 0], wd s rest, 0, 0)) (List.forall_mem_cons.mpr ⟨dX5_row_165, List.forall_mem_cons.mpr ⟨dX5_row_166, List.forall_mem_cons.mpr ⟨dX5_row_167, fun _ h => absurd h List.not_mem_nil⟩⟩⟩) rfl ?_
    obtain ⟨v9, h10, h⟩ := obind h
    refine xcall tn_X5_row dX5_row_168 rfl rfl (w_X5_findSymbol h10) ?_
    show X 122 (171, [(0, .ref 0), (1, .int x1), (2, .int x2), (4, .int x4)], [.int v9], wd s rest, 0, 0) _
    cases h
    exact xret tn_X5_row rfl dX5_row_171
  rcases osw h with ⟨c11, h⟩ | ⟨c11, h⟩
  · refine xtabI (t := 172) (v := 4) (off := 66) tn_X5_row dX5_row_106 ((congrArg Int32.toInt c11).trans (by decide)) (by decide) (by decide) rfl (by decide) ?_
    refine xs tn_X5_row [(172, .aload_n 0, 1), (173, .iload_n 1, 1), (174, .iconst 1, 1)] (st' := (175, [(0, .ref 0), (1, .int x1), (2, .int x2), (4, .int x4)], [.int (nI 1), .int x1, .ref 0], wd s rest, 0, 0)) (List.forall_mem_cons.mpr ⟨dX5_row_172, List.forall_mem_cons.mpr ⟨dX5_row_173, List.forall_mem_cons.mpr ⟨dX5_row_174, fun _ h => absurd h List.not_mem_nil⟩⟩⟩) rfl ?_
    obtain ⟨v12, h13, h⟩ := obind h
    refine xcall tn_X5_row dX5_row_175 rfl rfl (w_X5_findSymbol h13) ?_
    show X 122 (178, [(0, .ref 0), (1, .int x1), (2, .int x2), (4, .int x4)], [.int v12], wd s rest, 0, 0) _
    cases h
    exact xret tn_X5_row rfl dX5_row_178
  rcases osw h with ⟨c14, h⟩ | ⟨c14, h⟩
  · refine xtabI (t := 179) (v := 5) (off := 73) tn_X5_row dX5_row_106 ((congrArg Int32.toInt c14).trans (by decide)) (by decide) (by decide) rfl (by decide) ?_
    refine xs tn_X5_row [(179, .aload_n 0, 1), (180, .iload 4, 2)] (st' := (182, [(0, .ref 0), (1, .int x1), (2, .int x2), (4, .int x4)], [.int x4, .ref 0], wd s rest, 0, 0)) (List.forall_mem_cons.mpr ⟨dX5_row_179, List.forall_mem_cons.mpr ⟨dX5_row_180, fun _ h => absurd h List.not_mem_nil⟩⟩) rfl ?_
    obtain ⟨v15, h16, h⟩ := obind h
    refine xcall tn_X5_row dX5_row_182 rfl rfl (w_X5_blocksOfRow h16) ?_
    show X 122 (185, [(0, .ref 0), (1, .int x1), (2, .int x2), (4, .int x4)], [.int v15], wd s rest, 0, 0) _
    cases h
    exact xret tn_X5_row rfl dX5_row_185
  have c1 := sw_ne (i := 0) (by decide) c1
  have c4 := sw_ne (i := 1) (by decide) c4
  have c7 := sw_ne (i := 2) (by decide) c7
  have c8 := sw_ne (i := 3) (by decide) c8
  have c11 := sw_ne (i := 4) (by decide) c11
  have c14 := sw_ne (i := 5) (by decide) c14
  refine xtabO (t := 186) tn_X5_row dX5_row_106 (by omega) (by decide) ?_
  refine xs tn_X5_row [(186, .aload_n 0, 1), (187, .iload 4, 2)] (st' := (189, [(0, .ref 0), (1, .int x1), (2, .int x2), (4, .int x4)], [.int x4, .ref 0], wd s rest, 0, 0)) (List.forall_mem_cons.mpr ⟨dX5_row_186, List.forall_mem_cons.mpr ⟨dX5_row_187, fun _ h => absurd h List.not_mem_nil⟩⟩) rfl ?_
  obtain ⟨v17, h18, h⟩ := obind h
  refine xcall tn_X5_row dX5_row_189 rfl rfl (w_X5_countMissing h18) ?_
  show X 122 (192, [(0, .ref 0), (1, .int x1), (2, .int x2), (4, .int x4)], [.int v17], wd s rest, 0, 0) _
  cases h
  exact xret tn_X5_row rfl dX5_row_192
def F_X5_row_43 (N : Nat) (s : St) (x1 : Int32) (x2 : Int32) (x3 : Int32) : Option (Int32) := bif mx_cnd .ne (gI s 0) 0 then ((F_X5_findRow N s x1).bind fun v1 => bif mx_cnd .ne v1 (-nI 1) then (bif mx_cnd .eq x3 0 then (F_X5_row_105 N s x1 x2 v1) else ((F_X5_blocksOfRow s v1).bind fun v3 => bif mx_cnd .ge (x2 - (nI 10)) v3 then (some (-nI 1)) else ((F_X4_content s v1 (x2 - (nI 10))).bind fun v5 => some v5))) else (some (-nI 1))) else (some (-nI 3))
set_option maxRecDepth 100000 in
set_option maxHeartbeats 4000000 in
theorem w_X5_row_43 {rest : mx_W} {N : Nat} {s : St} {x1 : Int32} {x2 : Int32} {x3 : Int32} {r : Int32} (h : F_X5_row_43 N s x1 x2 x3 = some r) : X 122 (43, [(0, .ref 0), (1, .int x1), (2, .int x2), (3, .int x3)], [], wd s rest, 0, 0) (some (.int r), wd s rest, 0, 0) := by
  unfold F_X5_row_43 at h
  refine xs tn_X5_row [(43, .aload_n 0, 1), (44, .getfield 46, 3)] (st' := (47, [(0, .ref 0), (1, .int x1), (2, .int x2), (3, .int x3)], [.int (gI s 0)], wd s rest, 0, 0)) (List.forall_mem_cons.mpr ⟨dX5_row_43, List.forall_mem_cons.mpr ⟨dX5_row_44, fun _ h => absurd h List.not_mem_nil⟩⟩) rfl ?_
  refine xifF (t := 53) tn_X5_row dX5_row_47 (by decide) h (fun h => ?_) (fun h => ?_)
  · refine xs tn_X5_row [(53, .aload_n 0, 1), (54, .iload_n 1, 1)] (st' := (55, [(0, .ref 0), (1, .int x1), (2, .int x2), (3, .int x3)], [.int x1, .ref 0], wd s rest, 0, 0)) (List.forall_mem_cons.mpr ⟨dX5_row_53, List.forall_mem_cons.mpr ⟨dX5_row_54, fun _ h => absurd h List.not_mem_nil⟩⟩) rfl ?_
    obtain ⟨v1, h2, h⟩ := obind h
    refine xcall tn_X5_row dX5_row_55 rfl rfl (w_X5_findRow h2) ?_
    show X 122 (58, [(0, .ref 0), (1, .int x1), (2, .int x2), (3, .int x3)], [.int v1], wd s rest, 0, 0) _
    refine xs tn_X5_row [(58, .istore 4, 2), (60, .iload 4, 2), (62, .iconst (-1), 1)] (st' := (63, [(4, .int v1), (0, .ref 0), (1, .int x1), (2, .int x2), (3, .int x3)], [.int (-nI 1), .int v1], wd s rest, 0, 0)) (List.forall_mem_cons.mpr ⟨dX5_row_58, List.forall_mem_cons.mpr ⟨dX5_row_60, List.forall_mem_cons.mpr ⟨dX5_row_62, fun _ h => absurd h List.not_mem_nil⟩⟩⟩) rfl ?_
    refine xcmpF (t := 68) tn_X5_row dX5_row_63 (by decide) h (fun h => ?_) (fun h => ?_)
    · refine xs tn_X5_row [(68, .iload_n 3, 1)] (st' := (69, [(4, .int v1), (0, .ref 0), (1, .int x1), (2, .int x2), (3, .int x3)], [.int x3], wd s rest, 0, 0)) (List.forall_mem_cons.mpr ⟨dX5_row_68, fun _ h => absurd h List.not_mem_nil⟩) rfl ?_
      refine xifF (t := 105) tn_X5_row dX5_row_69 (by decide) h (fun h => ?_) (fun h => ?_)
      · refine xwk [0, 1, 2, 4] rfl rfl ?_
        exact w_X5_row_105 h
      · refine xs tn_X5_row [(72, .iload_n 2, 1), (73, .bipush 10, 2), (75, .isub, 1), (76, .istore 5, 2), (78, .iload 5, 2), (80, .aload_n 0, 1), (81, .iload 4, 2)] (st' := (83, [(5, .int (x2 - (nI 10))), (4, .int v1), (0, .ref 0), (1, .int x1), (2, .int x2), (3, .int x3)], [.int v1, .ref 0, .int (x2 - (nI 10))], wd s rest, 0, 0)) (List.forall_mem_cons.mpr ⟨dX5_row_72, List.forall_mem_cons.mpr ⟨dX5_row_73, List.forall_mem_cons.mpr ⟨dX5_row_75, List.forall_mem_cons.mpr ⟨dX5_row_76, List.forall_mem_cons.mpr ⟨dX5_row_78, List.forall_mem_cons.mpr ⟨dX5_row_80, List.forall_mem_cons.mpr ⟨dX5_row_81, fun _ h => absurd h List.not_mem_nil⟩⟩⟩⟩⟩⟩⟩) rfl ?_
        obtain ⟨v3, h4, h⟩ := obind h
        refine xcall tn_X5_row dX5_row_83 rfl rfl (w_X5_blocksOfRow h4) ?_
        show X 122 (86, [(5, .int (x2 - (nI 10))), (4, .int v1), (0, .ref 0), (1, .int x1), (2, .int x2), (3, .int x3)], [.int v3, .int (x2 - (nI 10))], wd s rest, 0, 0) _
        refine xcmpF (t := 103) tn_X5_row dX5_row_86 (by decide) h (fun h => ?_) (fun h => ?_)
        · refine xs tn_X5_row [(103, .iconst (-1), 1)] (st' := (104, [(5, .int (x2 - (nI 10))), (4, .int v1), (0, .ref 0), (1, .int x1), (2, .int x2), (3, .int x3)], [.int (-nI 1)], wd s rest, 0, 0)) (List.forall_mem_cons.mpr ⟨dX5_row_103, fun _ h => absurd h List.not_mem_nil⟩) rfl ?_
          cases h
          exact xret tn_X5_row rfl dX5_row_104
        · refine xs tn_X5_row [(89, .aload_n 0, 1), (90, .getfield 12, 3), (93, .iload 4, 2), (95, .iload 5, 2)] (st' := (97, [(5, .int (x2 - (nI 10))), (4, .int v1), (0, .ref 0), (1, .int x1), (2, .int x2), (3, .int x3)], [.int (x2 - (nI 10)), .int v1, .ref 1], wd s rest, 0, 0)) (List.forall_mem_cons.mpr ⟨dX5_row_89, List.forall_mem_cons.mpr ⟨dX5_row_90, List.forall_mem_cons.mpr ⟨dX5_row_93, List.forall_mem_cons.mpr ⟨dX5_row_95, fun _ h => absurd h List.not_mem_nil⟩⟩⟩⟩) rfl ?_
          obtain ⟨v5, h6, h⟩ := obind h
          refine xcall tn_X5_row dX5_row_97 rfl rfl (w_X4_content h6) ?_
          show X 122 (100, [(5, .int (x2 - (nI 10))), (4, .int v1), (0, .ref 0), (1, .int x1), (2, .int x2), (3, .int x3)], [.int v5], wd s rest, 0, 0) _
          refine xs tn_X5_row [(100, .goto 4, 3)] (st' := (104, [(5, .int (x2 - (nI 10))), (4, .int v1), (0, .ref 0), (1, .int x1), (2, .int x2), (3, .int x3)], [.int v5], wd s rest, 0, 0)) (List.forall_mem_cons.mpr ⟨dX5_row_100, fun _ h => absurd h List.not_mem_nil⟩) rfl ?_
          cases h
          exact xret tn_X5_row rfl dX5_row_104
    · refine xs tn_X5_row [(66, .iconst (-1), 1)] (st' := (67, [(4, .int v1), (0, .ref 0), (1, .int x1), (2, .int x2), (3, .int x3)], [.int (-nI 1)], wd s rest, 0, 0)) (List.forall_mem_cons.mpr ⟨dX5_row_66, fun _ h => absurd h List.not_mem_nil⟩) rfl ?_
      cases h
      exact xret tn_X5_row rfl dX5_row_67
  · refine xs tn_X5_row [(50, .bipush (-3), 2)] (st' := (52, [(0, .ref 0), (1, .int x1), (2, .int x2), (3, .int x3)], [.int (-nI 3)], wd s rest, 0, 0)) (List.forall_mem_cons.mpr ⟨dX5_row_50, fun _ h => absurd h List.not_mem_nil⟩) rfl ?_
    cases h
    exact xret tn_X5_row rfl dX5_row_52
def F_X5_row_18 (N : Nat) (s : St) (x1 : Int32) (x2 : Int32) (x3 : Int32) : Option (Int32) := (F_X5_isRowNumber s x1).bind fun v1 => bif mx_cnd .eq v1 0 then (some (-nI 2)) else (bif mx_cnd .lt x2 0 then (some (-nI 2)) else (bif mx_cnd .le x2 (nI 6) then (F_X5_row_43 N s x1 x2 x3) else (bif mx_cnd .ne x3 0 then (F_X5_row_43 N s x1 x2 x3) else (some (-nI 2)))))
set_option maxRecDepth 100000 in
set_option maxHeartbeats 4000000 in
theorem w_X5_row_18 {rest : mx_W} {N : Nat} {s : St} {x1 : Int32} {x2 : Int32} {x3 : Int32} {r : Int32} (h : F_X5_row_18 N s x1 x2 x3 = some r) : X 122 (18, [(0, .ref 0), (1, .int x1), (2, .int x2), (3, .int x3)], [], wd s rest, 0, 0) (some (.int r), wd s rest, 0, 0) := by
  unfold F_X5_row_18 at h
  refine xs tn_X5_row [(18, .aload_n 0, 1), (19, .iload_n 1, 1)] (st' := (20, [(0, .ref 0), (1, .int x1), (2, .int x2), (3, .int x3)], [.int x1, .ref 0], wd s rest, 0, 0)) (List.forall_mem_cons.mpr ⟨dX5_row_18, List.forall_mem_cons.mpr ⟨dX5_row_19, fun _ h => absurd h List.not_mem_nil⟩⟩) rfl ?_
  obtain ⟨v1, h2, h⟩ := obind h
  refine xcall tn_X5_row dX5_row_20 rfl rfl (w_X5_isRowNumber h2) ?_
  show X 122 (23, [(0, .ref 0), (1, .int x1), (2, .int x2), (3, .int x3)], [.int v1], wd s rest, 0, 0) _
  refine xifF (t := 40) tn_X5_row dX5_row_23 (by decide) h (fun h => ?_) (fun h => ?_)
  · refine xs tn_X5_row [(40, .bipush (-2), 2)] (st' := (42, [(0, .ref 0), (1, .int x1), (2, .int x2), (3, .int x3)], [.int (-nI 2)], wd s rest, 0, 0)) (List.forall_mem_cons.mpr ⟨dX5_row_40, fun _ h => absurd h List.not_mem_nil⟩) rfl ?_
    cases h
    exact xret tn_X5_row rfl dX5_row_42
  · refine xs tn_X5_row [(26, .iload_n 2, 1)] (st' := (27, [(0, .ref 0), (1, .int x1), (2, .int x2), (3, .int x3)], [.int x2], wd s rest, 0, 0)) (List.forall_mem_cons.mpr ⟨dX5_row_26, fun _ h => absurd h List.not_mem_nil⟩) rfl ?_
    refine xifF (t := 40) tn_X5_row dX5_row_27 (by decide) h (fun h => ?_) (fun h => ?_)
    · refine xs tn_X5_row [(40, .bipush (-2), 2)] (st' := (42, [(0, .ref 0), (1, .int x1), (2, .int x2), (3, .int x3)], [.int (-nI 2)], wd s rest, 0, 0)) (List.forall_mem_cons.mpr ⟨dX5_row_40, fun _ h => absurd h List.not_mem_nil⟩) rfl ?_
      cases h
      exact xret tn_X5_row rfl dX5_row_42
    · refine xs tn_X5_row [(30, .iload_n 2, 1), (31, .bipush 6, 2)] (st' := (33, [(0, .ref 0), (1, .int x1), (2, .int x2), (3, .int x3)], [.int (nI 6), .int x2], wd s rest, 0, 0)) (List.forall_mem_cons.mpr ⟨dX5_row_30, List.forall_mem_cons.mpr ⟨dX5_row_31, fun _ h => absurd h List.not_mem_nil⟩⟩) rfl ?_
      refine xcmpF (t := 43) tn_X5_row dX5_row_33 (by decide) h (fun h => ?_) (fun h => ?_)
      · refine xwk [0, 1, 2, 3] rfl rfl ?_
        exact w_X5_row_43 h
      · refine xs tn_X5_row [(36, .iload_n 3, 1)] (st' := (37, [(0, .ref 0), (1, .int x1), (2, .int x2), (3, .int x3)], [.int x3], wd s rest, 0, 0)) (List.forall_mem_cons.mpr ⟨dX5_row_36, fun _ h => absurd h List.not_mem_nil⟩) rfl ?_
        refine xifF (t := 43) tn_X5_row dX5_row_37 (by decide) h (fun h => ?_) (fun h => ?_)
        · refine xwk [0, 1, 2, 3] rfl rfl ?_
          exact w_X5_row_43 h
        · refine xs tn_X5_row [(40, .bipush (-2), 2)] (st' := (42, [(0, .ref 0), (1, .int x1), (2, .int x2), (3, .int x3)], [.int (-nI 2)], wd s rest, 0, 0)) (List.forall_mem_cons.mpr ⟨dX5_row_40, fun _ h => absurd h List.not_mem_nil⟩) rfl ?_
          cases h
          exact xret tn_X5_row rfl dX5_row_42
def F_X5_row (N : Nat) (s : St) (x1 : Int32) (x2 : Int32) : Option (Int32) := bif mx_cnd .lt x2 (nI 10) then (F_X5_row_18 N s x1 x2 (nI 0)) else (bif mx_cnd .ge x2 (nI 14) then (F_X5_row_18 N s x1 x2 (nI 0)) else (F_X5_row_18 N s x1 x2 (nI 1)))
set_option maxRecDepth 100000 in
set_option maxHeartbeats 4000000 in
theorem w_X5_row {rest : mx_W} {N : Nat} {s : St} {x1 : Int32} {x2 : Int32} {r : Int32} (h : F_X5_row N s x1 x2 = some r) : X 122 (0, [(0, .ref 0), (1, .int x1), (2, .int x2)], [], wd s rest, 0, 0) (some (.int r), wd s rest, 0, 0) := by
  unfold F_X5_row at h
  refine xs tn_X5_row [(0, .iload_n 2, 1), (1, .bipush 10, 2)] (st' := (3, [(0, .ref 0), (1, .int x1), (2, .int x2)], [.int (nI 10), .int x2], wd s rest, 0, 0)) (List.forall_mem_cons.mpr ⟨dX5_row_0, List.forall_mem_cons.mpr ⟨dX5_row_1, fun _ h => absurd h List.not_mem_nil⟩⟩) rfl ?_
  refine xcmpF (t := 16) tn_X5_row dX5_row_3 (by decide) h (fun h => ?_) (fun h => ?_)
  · refine xs tn_X5_row [(16, .iconst 0, 1), (17, .istore_n 3, 1)] (st' := (18, [(3, .int (nI 0)), (0, .ref 0), (1, .int x1), (2, .int x2)], [], wd s rest, 0, 0)) (List.forall_mem_cons.mpr ⟨dX5_row_16, List.forall_mem_cons.mpr ⟨dX5_row_17, fun _ h => absurd h List.not_mem_nil⟩⟩) rfl ?_
    refine xwk [0, 1, 2, 3] rfl rfl ?_
    exact w_X5_row_18 h
  · refine xs tn_X5_row [(6, .iload_n 2, 1), (7, .bipush 14, 2)] (st' := (9, [(0, .ref 0), (1, .int x1), (2, .int x2)], [.int (nI 14), .int x2], wd s rest, 0, 0)) (List.forall_mem_cons.mpr ⟨dX5_row_6, List.forall_mem_cons.mpr ⟨dX5_row_7, fun _ h => absurd h List.not_mem_nil⟩⟩) rfl ?_
    refine xcmpF (t := 16) tn_X5_row dX5_row_9 (by decide) h (fun h => ?_) (fun h => ?_)
    · refine xs tn_X5_row [(16, .iconst 0, 1), (17, .istore_n 3, 1)] (st' := (18, [(3, .int (nI 0)), (0, .ref 0), (1, .int x1), (2, .int x2)], [], wd s rest, 0, 0)) (List.forall_mem_cons.mpr ⟨dX5_row_16, List.forall_mem_cons.mpr ⟨dX5_row_17, fun _ h => absurd h List.not_mem_nil⟩⟩) rfl ?_
      refine xwk [0, 1, 2, 3] rfl rfl ?_
      exact w_X5_row_18 h
    · refine xs tn_X5_row [(12, .iconst 1, 1), (13, .goto 4, 3), (17, .istore_n 3, 1)] (st' := (18, [(3, .int (nI 1)), (0, .ref 0), (1, .int x1), (2, .int x2)], [], wd s rest, 0, 0)) (List.forall_mem_cons.mpr ⟨dX5_row_12, List.forall_mem_cons.mpr ⟨dX5_row_13, List.forall_mem_cons.mpr ⟨dX5_row_17, fun _ h => absurd h List.not_mem_nil⟩⟩⟩) rfl ?_
      refine xwk [0, 1, 2, 3] rfl rfl ?_
      exact w_X5_row_18 h
def F_X4_markLost (s : St) (x1 : Int32) : Option (St) := (F_X4_has s x1).bind fun v1 => bif mx_cnd .eq v1 0 then (some s) else (stA s 1 (gN s) x1 (vp_nar .boolean (nI 1)) fun s3 => stA s3 2 (gN s3) x1 (nI 0) fun s4 => some s4)
set_option maxRecDepth 100000 in
set_option maxHeartbeats 4000000 in
theorem w_X4_markLost {rest : mx_W} {s : St} {x1 : Int32} {r : St} (h : F_X4_markLost s x1 = some r) : X 49 (0, [(0, .ref 1), (1, .int x1)], [], wd s rest, 0, 0) (none, wd r rest, 0, 0) := by
  unfold F_X4_markLost at h
  refine xs tn_X4_markLost [(0, .aload_n 0, 1), (1, .iload_n 1, 1)] (st' := (2, [(0, .ref 1), (1, .int x1)], [.int x1, .ref 1], wd s rest, 0, 0)) (List.forall_mem_cons.mpr ⟨dX4_markLost_0, List.forall_mem_cons.mpr ⟨dX4_markLost_1, fun _ h => absurd h List.not_mem_nil⟩⟩) rfl ?_
  obtain ⟨v1, h2, h⟩ := obind h
  refine xcall tn_X4_markLost dX4_markLost_2 rfl rfl (w_X4_has h2) ?_
  show X 49 (5, [(0, .ref 1), (1, .int x1)], [.int v1], wd s rest, 0, 0) _
  refine xifF (t := 22) tn_X4_markLost dX4_markLost_5 (by decide) h (fun h => ?_) (fun h => ?_)
  · cases h
    exact xretv tn_X4_markLost rfl dX4_markLost_22
  · refine xs tn_X4_markLost [(8, .aload_n 0, 1), (9, .getfield 28, 3), (12, .iload_n 1, 1), (13, .iconst 1, 1)] (st' := (14, [(0, .ref 1), (1, .int x1)], [.int (nI 1), .int x1, .ref 3], wd s rest, 0, 0)) (List.forall_mem_cons.mpr ⟨dX4_markLost_8, List.forall_mem_cons.mpr ⟨dX4_markLost_9, List.forall_mem_cons.mpr ⟨dX4_markLost_12, List.forall_mem_cons.mpr ⟨dX4_markLost_13, fun _ h => absurd h List.not_mem_nil⟩⟩⟩⟩) rfl ?_
    refine xzstF (W := fun s => wd s rest) tn_X4_markLost dX4_markLost_14 at_3 (fun _ => set_3) h (fun s3 h => ?_)
    refine xs tn_X4_markLost [(15, .aload_n 0, 1), (16, .getfield 32, 3), (19, .iload_n 1, 1), (20, .iconst 0, 1)] (st' := (21, [(0, .ref 1), (1, .int x1)], [.int (nI 0), .int x1, .ref 4], wd s3 rest, 0, 0)) (List.forall_mem_cons.mpr ⟨dX4_markLost_15, List.forall_mem_cons.mpr ⟨dX4_markLost_16, List.forall_mem_cons.mpr ⟨dX4_markLost_19, List.forall_mem_cons.mpr ⟨dX4_markLost_20, fun _ h => absurd h List.not_mem_nil⟩⟩⟩⟩) rfl ?_
    refine xstF (W := fun s => wd s rest) tn_X4_markLost dX4_markLost_21 at_4 (fun _ => set_4) h (fun s4 h => ?_)
    cases h
    exact xretv tn_X4_markLost rfl dX4_markLost_22
def F_X5_lose (s : St) (x1 : Int32) : Option (Int32 × St) := (F_X4_has s x1).bind fun v1 => bif mx_cnd .ne v1 0 then ((F_X4_isLost s x1).bind fun v3 => bif mx_cnd .eq v3 0 then ((F_X4_markLost s x1).bind fun s5 => some (nI 1, s5)) else (some (nI 0, s))) else (some (-nI 2, s))
set_option maxRecDepth 100000 in
set_option maxHeartbeats 4000000 in
theorem w_X5_lose {rest : mx_W} {s : St} {x1 : Int32} {r : Int32} {t : St} (h : F_X5_lose s x1 = some (r, t)) : X 80 (0, [(0, .ref 0), (1, .int x1)], [], wd s rest, 0, 0) (some (.int r), wd t rest, 0, 0) := by
  unfold F_X5_lose at h
  refine xs tn_X5_lose [(0, .aload_n 0, 1), (1, .getfield 12, 3), (4, .iload_n 1, 1)] (st' := (5, [(0, .ref 0), (1, .int x1)], [.int x1, .ref 1], wd s rest, 0, 0)) (List.forall_mem_cons.mpr ⟨dX5_lose_0, List.forall_mem_cons.mpr ⟨dX5_lose_1, List.forall_mem_cons.mpr ⟨dX5_lose_4, fun _ h => absurd h List.not_mem_nil⟩⟩⟩) rfl ?_
  obtain ⟨v1, h2, h⟩ := obind h
  refine xcall tn_X5_lose dX5_lose_5 rfl rfl (w_X4_has h2) ?_
  show X 80 (8, [(0, .ref 0), (1, .int x1)], [.int v1], wd s rest, 0, 0) _
  refine xifF (t := 14) tn_X5_lose dX5_lose_8 (by decide) h (fun h => ?_) (fun h => ?_)
  · refine xs tn_X5_lose [(14, .aload_n 0, 1), (15, .getfield 12, 3), (18, .iload_n 1, 1)] (st' := (19, [(0, .ref 0), (1, .int x1)], [.int x1, .ref 1], wd s rest, 0, 0)) (List.forall_mem_cons.mpr ⟨dX5_lose_14, List.forall_mem_cons.mpr ⟨dX5_lose_15, List.forall_mem_cons.mpr ⟨dX5_lose_18, fun _ h => absurd h List.not_mem_nil⟩⟩⟩) rfl ?_
    obtain ⟨v3, h4, h⟩ := obind h
    refine xcall tn_X5_lose dX5_lose_19 rfl rfl (w_X4_isLost h4) ?_
    show X 80 (22, [(0, .ref 0), (1, .int x1)], [.int v3], wd s rest, 0, 0) _
    refine xifF (t := 27) tn_X5_lose dX5_lose_22 (by decide) h (fun h => ?_) (fun h => ?_)
    · refine xs tn_X5_lose [(27, .aload_n 0, 1), (28, .getfield 12, 3), (31, .iload_n 1, 1)] (st' := (32, [(0, .ref 0), (1, .int x1)], [.int x1, .ref 1], wd s rest, 0, 0)) (List.forall_mem_cons.mpr ⟨dX5_lose_27, List.forall_mem_cons.mpr ⟨dX5_lose_28, List.forall_mem_cons.mpr ⟨dX5_lose_31, fun _ h => absurd h List.not_mem_nil⟩⟩⟩) rfl ?_
      obtain ⟨s5, h6, h⟩ := obind h
      refine xcall tn_X5_lose dX5_lose_32 rfl rfl (w_X4_markLost h6) ?_
      show X 80 (35, [(0, .ref 0), (1, .int x1)], [], wd s5 rest, 0, 0) _
      refine xs tn_X5_lose [(35, .iconst 1, 1)] (st' := (36, [(0, .ref 0), (1, .int x1)], [.int (nI 1)], wd s5 rest, 0, 0)) (List.forall_mem_cons.mpr ⟨dX5_lose_35, fun _ h => absurd h List.not_mem_nil⟩) rfl ?_
      cases h
      exact xret tn_X5_lose rfl dX5_lose_36
    · refine xs tn_X5_lose [(25, .iconst 0, 1)] (st' := (26, [(0, .ref 0), (1, .int x1)], [.int (nI 0)], wd s rest, 0, 0)) (List.forall_mem_cons.mpr ⟨dX5_lose_25, fun _ h => absurd h List.not_mem_nil⟩) rfl ?_
      cases h
      exact xret tn_X5_lose rfl dX5_lose_26
  · refine xs tn_X5_lose [(11, .bipush (-2), 2)] (st' := (13, [(0, .ref 0), (1, .int x1)], [.int (-nI 2)], wd s rest, 0, 0)) (List.forall_mem_cons.mpr ⟨dX5_lose_11, fun _ h => absurd h List.not_mem_nil⟩) rfl ?_
    cases h
    exact xret tn_X5_lose rfl dX5_lose_13
def F_X4_flip (N : Nat) (s : St) (x1 : Int32) (x2 : Int32) (x3 : Int32) : Option (St) := (F_X4_hasCell s x1 x2).bind fun v1 => bif mx_cnd .eq v1 0 then (some s) else (ldA (gA s 0) (32 * gN s) ((x1 * (nI 32)) + x2) fun v3 => stA s 0 (32 * gN s) ((x1 * (nI 32)) + x2) (v3 ^^^ (x3 &&& (nI 255))) fun s4 => (F_X4_judge N s4 x1).bind fun s5 => some s5)
set_option maxRecDepth 100000 in
set_option maxHeartbeats 4000000 in
theorem w_X4_flip {rest : mx_W} {N : Nat} {s : St} {x1 : Int32} {x2 : Int32} {x3 : Int32} {r : St} (h : F_X4_flip N s x1 x2 x3 = some r) : X 69 (0, [(0, .ref 1), (1, .int x1), (2, .int x2), (3, .int x3)], [], wd s rest, 0, 0) (none, wd r rest, 0, 0) := by
  unfold F_X4_flip at h
  refine xs tn_X4_flip [(0, .aload_n 0, 1), (1, .iload_n 1, 1), (2, .iload_n 2, 1)] (st' := (3, [(0, .ref 1), (1, .int x1), (2, .int x2), (3, .int x3)], [.int x2, .int x1, .ref 1], wd s rest, 0, 0)) (List.forall_mem_cons.mpr ⟨dX4_flip_0, List.forall_mem_cons.mpr ⟨dX4_flip_1, List.forall_mem_cons.mpr ⟨dX4_flip_2, fun _ h => absurd h List.not_mem_nil⟩⟩⟩) rfl ?_
  obtain ⟨v1, h2, h⟩ := obind h
  refine xcall tn_X4_flip dX4_flip_3 rfl rfl (w_X4_hasCell h2) ?_
  show X 69 (6, [(0, .ref 1), (1, .int x1), (2, .int x2), (3, .int x3)], [.int v1], wd s rest, 0, 0) _
  refine xifF (t := 33) tn_X4_flip dX4_flip_6 (by decide) h (fun h => ?_) (fun h => ?_)
  · cases h
    exact xretv tn_X4_flip rfl dX4_flip_33
  · refine xs tn_X4_flip [(9, .aload_n 0, 1), (10, .getfield 24, 3), (13, .iload_n 1, 1), (14, .bipush 32, 2), (16, .imul, 1), (17, .iload_n 2, 1), (18, .iadd, 1), (19, .dup2, 1)] (st' := (20, [(0, .ref 1), (1, .int x1), (2, .int x2), (3, .int x3)], [.int ((x1 * (nI 32)) + x2), .ref 2, .int ((x1 * (nI 32)) + x2), .ref 2], wd s rest, 0, 0)) (List.forall_mem_cons.mpr ⟨dX4_flip_9, List.forall_mem_cons.mpr ⟨dX4_flip_10, List.forall_mem_cons.mpr ⟨dX4_flip_13, List.forall_mem_cons.mpr ⟨dX4_flip_14, List.forall_mem_cons.mpr ⟨dX4_flip_16, List.forall_mem_cons.mpr ⟨dX4_flip_17, List.forall_mem_cons.mpr ⟨dX4_flip_18, List.forall_mem_cons.mpr ⟨dX4_flip_19, fun _ h => absurd h List.not_mem_nil⟩⟩⟩⟩⟩⟩⟩⟩) rfl ?_
    refine xldF tn_X4_flip dX4_flip_20 at_2 h (fun v3 h => ?_)
    refine xs tn_X4_flip [(21, .iload_n 3, 1), (22, .sipush 255, 3), (25, .iand, 1), (26, .ixor, 1)] (st' := (27, [(0, .ref 1), (1, .int x1), (2, .int x2), (3, .int x3)], [.int (v3 ^^^ (x3 &&& (nI 255))), .int ((x1 * (nI 32)) + x2), .ref 2], wd s rest, 0, 0)) (List.forall_mem_cons.mpr ⟨dX4_flip_21, List.forall_mem_cons.mpr ⟨dX4_flip_22, List.forall_mem_cons.mpr ⟨dX4_flip_25, List.forall_mem_cons.mpr ⟨dX4_flip_26, fun _ h => absurd h List.not_mem_nil⟩⟩⟩⟩) rfl ?_
    refine xstF (W := fun s => wd s rest) tn_X4_flip dX4_flip_27 at_2 (fun _ => set_2) h (fun s4 h => ?_)
    refine xs tn_X4_flip [(28, .aload_n 0, 1), (29, .iload_n 1, 1)] (st' := (30, [(0, .ref 1), (1, .int x1), (2, .int x2), (3, .int x3)], [.int x1, .ref 1], wd s4 rest, 0, 0)) (List.forall_mem_cons.mpr ⟨dX4_flip_28, List.forall_mem_cons.mpr ⟨dX4_flip_29, fun _ h => absurd h List.not_mem_nil⟩⟩) rfl ?_
    obtain ⟨s5, h6, h⟩ := obind h
    refine xcall tn_X4_flip dX4_flip_30 rfl rfl (w_X4_judge h6) ?_
    show X 69 (33, [(0, .ref 1), (1, .int x1), (2, .int x2), (3, .int x3)], [], wd s5 rest, 0, 0) _
    cases h
    exact xretv tn_X4_flip rfl dX4_flip_33
def F_X5_poke (N : Nat) (s : St) (x1 : Int32) (x2 : Int32) (x3 : Int32) : Option (Int32 × St) := (F_X4_hasCell s x1 x2).bind fun v1 => bif mx_cnd .eq v1 0 then (some (-nI 2, s)) else (bif mx_cnd .lt x3 0 then (some (-nI 2, s)) else (bif mx_cnd .le x3 (nI 255) then ((F_X4_flip N s x1 x2 x3).bind fun s3 => (F_X4_cell s3 x1 x2).bind fun v5 => some (v5, s3)) else (some (-nI 2, s))))
set_option maxRecDepth 100000 in
set_option maxHeartbeats 4000000 in
theorem w_X5_poke {rest : mx_W} {N : Nat} {s : St} {x1 : Int32} {x2 : Int32} {x3 : Int32} {r : Int32} {t : St} (h : F_X5_poke N s x1 x2 x3 = some (r, t)) : X 102 (0, [(0, .ref 0), (1, .int x1), (2, .int x2), (3, .int x3)], [], wd s rest, 0, 0) (some (.int r), wd t rest, 0, 0) := by
  unfold F_X5_poke at h
  refine xs tn_X5_poke [(0, .aload_n 0, 1), (1, .getfield 12, 3), (4, .iload_n 1, 1), (5, .iload_n 2, 1)] (st' := (6, [(0, .ref 0), (1, .int x1), (2, .int x2), (3, .int x3)], [.int x2, .int x1, .ref 1], wd s rest, 0, 0)) (List.forall_mem_cons.mpr ⟨dX5_poke_0, List.forall_mem_cons.mpr ⟨dX5_poke_1, List.forall_mem_cons.mpr ⟨dX5_poke_4, List.forall_mem_cons.mpr ⟨dX5_poke_5, fun _ h => absurd h List.not_mem_nil⟩⟩⟩⟩) rfl ?_
  obtain ⟨v1, h2, h⟩ := obind h
  refine xcall tn_X5_poke dX5_poke_6 rfl rfl (w_X4_hasCell h2) ?_
  show X 102 (9, [(0, .ref 0), (1, .int x1), (2, .int x2), (3, .int x3)], [.int v1], wd s rest, 0, 0) _
  refine xifF (t := 23) tn_X5_poke dX5_poke_9 (by decide) h (fun h => ?_) (fun h => ?_)
  · refine xs tn_X5_poke [(23, .bipush (-2), 2)] (st' := (25, [(0, .ref 0), (1, .int x1), (2, .int x2), (3, .int x3)], [.int (-nI 2)], wd s rest, 0, 0)) (List.forall_mem_cons.mpr ⟨dX5_poke_23, fun _ h => absurd h List.not_mem_nil⟩) rfl ?_
    cases h
    exact xret tn_X5_poke rfl dX5_poke_25
  · refine xs tn_X5_poke [(12, .iload_n 3, 1)] (st' := (13, [(0, .ref 0), (1, .int x1), (2, .int x2), (3, .int x3)], [.int x3], wd s rest, 0, 0)) (List.forall_mem_cons.mpr ⟨dX5_poke_12, fun _ h => absurd h List.not_mem_nil⟩) rfl ?_
    refine xifF (t := 23) tn_X5_poke dX5_poke_13 (by decide) h (fun h => ?_) (fun h => ?_)
    · refine xs tn_X5_poke [(23, .bipush (-2), 2)] (st' := (25, [(0, .ref 0), (1, .int x1), (2, .int x2), (3, .int x3)], [.int (-nI 2)], wd s rest, 0, 0)) (List.forall_mem_cons.mpr ⟨dX5_poke_23, fun _ h => absurd h List.not_mem_nil⟩) rfl ?_
      cases h
      exact xret tn_X5_poke rfl dX5_poke_25
    · refine xs tn_X5_poke [(16, .iload_n 3, 1), (17, .sipush 255, 3)] (st' := (20, [(0, .ref 0), (1, .int x1), (2, .int x2), (3, .int x3)], [.int (nI 255), .int x3], wd s rest, 0, 0)) (List.forall_mem_cons.mpr ⟨dX5_poke_16, List.forall_mem_cons.mpr ⟨dX5_poke_17, fun _ h => absurd h List.not_mem_nil⟩⟩) rfl ?_
      refine xcmpF (t := 26) tn_X5_poke dX5_poke_20 (by decide) h (fun h => ?_) (fun h => ?_)
      · refine xs tn_X5_poke [(26, .aload_n 0, 1), (27, .getfield 12, 3), (30, .iload_n 1, 1), (31, .iload_n 2, 1), (32, .iload_n 3, 1)] (st' := (33, [(0, .ref 0), (1, .int x1), (2, .int x2), (3, .int x3)], [.int x3, .int x2, .int x1, .ref 1], wd s rest, 0, 0)) (List.forall_mem_cons.mpr ⟨dX5_poke_26, List.forall_mem_cons.mpr ⟨dX5_poke_27, List.forall_mem_cons.mpr ⟨dX5_poke_30, List.forall_mem_cons.mpr ⟨dX5_poke_31, List.forall_mem_cons.mpr ⟨dX5_poke_32, fun _ h => absurd h List.not_mem_nil⟩⟩⟩⟩⟩) rfl ?_
        obtain ⟨s3, h4, h⟩ := obind h
        refine xcall tn_X5_poke dX5_poke_33 rfl rfl (w_X4_flip h4) ?_
        show X 102 (36, [(0, .ref 0), (1, .int x1), (2, .int x2), (3, .int x3)], [], wd s3 rest, 0, 0) _
        refine xs tn_X5_poke [(36, .aload_n 0, 1), (37, .getfield 12, 3), (40, .iload_n 1, 1), (41, .iload_n 2, 1)] (st' := (42, [(0, .ref 0), (1, .int x1), (2, .int x2), (3, .int x3)], [.int x2, .int x1, .ref 1], wd s3 rest, 0, 0)) (List.forall_mem_cons.mpr ⟨dX5_poke_36, List.forall_mem_cons.mpr ⟨dX5_poke_37, List.forall_mem_cons.mpr ⟨dX5_poke_40, List.forall_mem_cons.mpr ⟨dX5_poke_41, fun _ h => absurd h List.not_mem_nil⟩⟩⟩⟩) rfl ?_
        obtain ⟨v5, h6, h⟩ := obind h
        refine xcall tn_X5_poke dX5_poke_42 rfl rfl (w_X4_cell h6) ?_
        show X 102 (45, [(0, .ref 0), (1, .int x1), (2, .int x2), (3, .int x3)], [.int v5], wd s3 rest, 0, 0) _
        cases h
        exact xret tn_X5_poke rfl dX5_poke_45
      · refine xs tn_X5_poke [(23, .bipush (-2), 2)] (st' := (25, [(0, .ref 0), (1, .int x1), (2, .int x2), (3, .int x3)], [.int (-nI 2)], wd s rest, 0, 0)) (List.forall_mem_cons.mpr ⟨dX5_poke_23, fun _ h => absurd h List.not_mem_nil⟩) rfl ?_
        cases h
        exact xret tn_X5_poke rfl dX5_poke_25
def F_X5_octet (s : St) (x1 : Int32) (x2 : Int32) : Option (Int32) := (F_X4_hasCell s x1 x2).bind fun v1 => bif mx_cnd .ne v1 0 then ((F_X4_cell s x1 x2).bind fun v3 => some v3) else (some (-nI 2))
set_option maxRecDepth 100000 in
set_option maxHeartbeats 4000000 in
theorem w_X5_octet {rest : mx_W} {s : St} {x1 : Int32} {x2 : Int32} {r : Int32} (h : F_X5_octet s x1 x2 = some r) : X 54 (0, [(0, .ref 0), (1, .int x1), (2, .int x2)], [], wd s rest, 0, 0) (some (.int r), wd s rest, 0, 0) := by
  unfold F_X5_octet at h
  refine xs tn_X5_octet [(0, .aload_n 0, 1), (1, .getfield 12, 3), (4, .iload_n 1, 1), (5, .iload_n 2, 1)] (st' := (6, [(0, .ref 0), (1, .int x1), (2, .int x2)], [.int x2, .int x1, .ref 1], wd s rest, 0, 0)) (List.forall_mem_cons.mpr ⟨dX5_octet_0, List.forall_mem_cons.mpr ⟨dX5_octet_1, List.forall_mem_cons.mpr ⟨dX5_octet_4, List.forall_mem_cons.mpr ⟨dX5_octet_5, fun _ h => absurd h List.not_mem_nil⟩⟩⟩⟩) rfl ?_
  obtain ⟨v1, h2, h⟩ := obind h
  refine xcall tn_X5_octet dX5_octet_6 rfl rfl (w_X4_hasCell h2) ?_
  show X 54 (9, [(0, .ref 0), (1, .int x1), (2, .int x2)], [.int v1], wd s rest, 0, 0) _
  refine xifF (t := 15) tn_X5_octet dX5_octet_9 (by decide) h (fun h => ?_) (fun h => ?_)
  · refine xs tn_X5_octet [(15, .aload_n 0, 1), (16, .getfield 12, 3), (19, .iload_n 1, 1), (20, .iload_n 2, 1)] (st' := (21, [(0, .ref 0), (1, .int x1), (2, .int x2)], [.int x2, .int x1, .ref 1], wd s rest, 0, 0)) (List.forall_mem_cons.mpr ⟨dX5_octet_15, List.forall_mem_cons.mpr ⟨dX5_octet_16, List.forall_mem_cons.mpr ⟨dX5_octet_19, List.forall_mem_cons.mpr ⟨dX5_octet_20, fun _ h => absurd h List.not_mem_nil⟩⟩⟩⟩) rfl ?_
    obtain ⟨v3, h4, h⟩ := obind h
    refine xcall tn_X5_octet dX5_octet_21 rfl rfl (w_X4_cell h4) ?_
    show X 54 (24, [(0, .ref 0), (1, .int x1), (2, .int x2)], [.int v3], wd s rest, 0, 0) _
    cases h
    exact xret tn_X5_octet rfl dX5_octet_24
  · refine xs tn_X5_octet [(12, .bipush (-2), 2)] (st' := (14, [(0, .ref 0), (1, .int x1), (2, .int x2)], [.int (-nI 2)], wd s rest, 0, 0)) (List.forall_mem_cons.mpr ⟨dX5_octet_12, fun _ h => absurd h List.not_mem_nil⟩) rfl ?_
    cases h
    exact xret tn_X5_octet rfl dX5_octet_14
def F_X5_whole (s : St) (x1 : Int32) : Option (Int32) := (F_X4_has s x1).bind fun v1 => bif mx_cnd .ne v1 0 then ((F_X4_wholeSort s x1).bind fun v3 => some v3) else (some (-nI 2))
set_option maxRecDepth 100000 in
set_option maxHeartbeats 4000000 in
theorem w_X5_whole {rest : mx_W} {s : St} {x1 : Int32} {r : Int32} (h : F_X5_whole s x1 = some r) : X 82 (0, [(0, .ref 0), (1, .int x1)], [], wd s rest, 0, 0) (some (.int r), wd s rest, 0, 0) := by
  unfold F_X5_whole at h
  refine xs tn_X5_whole [(0, .aload_n 0, 1), (1, .getfield 12, 3), (4, .iload_n 1, 1)] (st' := (5, [(0, .ref 0), (1, .int x1)], [.int x1, .ref 1], wd s rest, 0, 0)) (List.forall_mem_cons.mpr ⟨dX5_whole_0, List.forall_mem_cons.mpr ⟨dX5_whole_1, List.forall_mem_cons.mpr ⟨dX5_whole_4, fun _ h => absurd h List.not_mem_nil⟩⟩⟩) rfl ?_
  obtain ⟨v1, h2, h⟩ := obind h
  refine xcall tn_X5_whole dX5_whole_5 rfl rfl (w_X4_has h2) ?_
  show X 82 (8, [(0, .ref 0), (1, .int x1)], [.int v1], wd s rest, 0, 0) _
  refine xifF (t := 14) tn_X5_whole dX5_whole_8 (by decide) h (fun h => ?_) (fun h => ?_)
  · refine xs tn_X5_whole [(14, .aload_n 0, 1), (15, .getfield 12, 3), (18, .iload_n 1, 1)] (st' := (19, [(0, .ref 0), (1, .int x1)], [.int x1, .ref 1], wd s rest, 0, 0)) (List.forall_mem_cons.mpr ⟨dX5_whole_14, List.forall_mem_cons.mpr ⟨dX5_whole_15, List.forall_mem_cons.mpr ⟨dX5_whole_18, fun _ h => absurd h List.not_mem_nil⟩⟩⟩) rfl ?_
    obtain ⟨v3, h4, h⟩ := obind h
    refine xcall tn_X5_whole dX5_whole_19 rfl rfl (w_X4_wholeSort h4) ?_
    show X 82 (22, [(0, .ref 0), (1, .int x1)], [.int v3], wd s rest, 0, 0) _
    cases h
    exact xret tn_X5_whole rfl dX5_whole_22
  · refine xs tn_X5_whole [(11, .bipush (-2), 2)] (st' := (13, [(0, .ref 0), (1, .int x1)], [.int (-nI 2)], wd s rest, 0, 0)) (List.forall_mem_cons.mpr ⟨dX5_whole_11, fun _ h => absurd h List.not_mem_nil⟩) rfl ?_
    cases h
    exact xret tn_X5_whole rfl dX5_whole_13
def F_X5_isHurt (N : Nat) (s : St) (x1 : Int32) : Option (Int32) := (F_X5_findRow N s x1).bind fun v1 => bif mx_cnd .eq v1 (-nI 1) then (some (nI 1)) else ((F_X5_countMissing N s v1).bind fun v3 => bif mx_cnd .le v3 0 then (some (nI 0)) else (some (nI 1)))
set_option maxRecDepth 100000 in
set_option maxHeartbeats 4000000 in
theorem w_X5_isHurt {rest : mx_W} {N : Nat} {s : St} {x1 : Int32} {r : Int32} (h : F_X5_isHurt N s x1 = some r) : X 118 (0, [(0, .ref 0), (1, .int x1)], [], wd s rest, 0, 0) (some (.int r), wd s rest, 0, 0) := by
  unfold F_X5_isHurt at h
  refine xs tn_X5_isHurt [(0, .aload_n 0, 1), (1, .iload_n 1, 1)] (st' := (2, [(0, .ref 0), (1, .int x1)], [.int x1, .ref 0], wd s rest, 0, 0)) (List.forall_mem_cons.mpr ⟨dX5_isHurt_0, List.forall_mem_cons.mpr ⟨dX5_isHurt_1, fun _ h => absurd h List.not_mem_nil⟩⟩) rfl ?_
  obtain ⟨v1, h2, h⟩ := obind h
  refine xcall tn_X5_isHurt dX5_isHurt_2 rfl rfl (w_X5_findRow h2) ?_
  show X 118 (5, [(0, .ref 0), (1, .int x1)], [.int v1], wd s rest, 0, 0) _
  refine xs tn_X5_isHurt [(5, .istore_n 2, 1), (6, .iload_n 2, 1), (7, .iconst (-1), 1)] (st' := (8, [(2, .int v1), (0, .ref 0), (1, .int x1)], [.int (-nI 1), .int v1], wd s rest, 0, 0)) (List.forall_mem_cons.mpr ⟨dX5_isHurt_5, List.forall_mem_cons.mpr ⟨dX5_isHurt_6, List.forall_mem_cons.mpr ⟨dX5_isHurt_7, fun _ h => absurd h List.not_mem_nil⟩⟩⟩) rfl ?_
  refine xcmpF (t := 19) tn_X5_isHurt dX5_isHurt_8 (by decide) h (fun h => ?_) (fun h => ?_)
  · refine xs tn_X5_isHurt [(19, .iconst 1, 1), (20, .goto 4, 3)] (st' := (24, [(2, .int v1), (0, .ref 0), (1, .int x1)], [.int (nI 1)], wd s rest, 0, 0)) (List.forall_mem_cons.mpr ⟨dX5_isHurt_19, List.forall_mem_cons.mpr ⟨dX5_isHurt_20, fun _ h => absurd h List.not_mem_nil⟩⟩) rfl ?_
    cases h
    exact xretz tn_X5_isHurt rfl (by decide) dX5_isHurt_24
  · refine xs tn_X5_isHurt [(11, .aload_n 0, 1), (12, .iload_n 2, 1)] (st' := (13, [(2, .int v1), (0, .ref 0), (1, .int x1)], [.int v1, .ref 0], wd s rest, 0, 0)) (List.forall_mem_cons.mpr ⟨dX5_isHurt_11, List.forall_mem_cons.mpr ⟨dX5_isHurt_12, fun _ h => absurd h List.not_mem_nil⟩⟩) rfl ?_
    obtain ⟨v3, h4, h⟩ := obind h
    refine xcall tn_X5_isHurt dX5_isHurt_13 rfl rfl (w_X5_countMissing h4) ?_
    show X 118 (16, [(2, .int v1), (0, .ref 0), (1, .int x1)], [.int v3], wd s rest, 0, 0) _
    refine xifF (t := 23) tn_X5_isHurt dX5_isHurt_16 (by decide) h (fun h => ?_) (fun h => ?_)
    · refine xs tn_X5_isHurt [(23, .iconst 0, 1)] (st' := (24, [(2, .int v1), (0, .ref 0), (1, .int x1)], [.int (nI 0)], wd s rest, 0, 0)) (List.forall_mem_cons.mpr ⟨dX5_isHurt_23, fun _ h => absurd h List.not_mem_nil⟩) rfl ?_
      cases h
      exact xretz tn_X5_isHurt rfl (by decide) dX5_isHurt_24
    · refine xs tn_X5_isHurt [(19, .iconst 1, 1), (20, .goto 4, 3)] (st' := (24, [(2, .int v1), (0, .ref 0), (1, .int x1)], [.int (nI 1)], wd s rest, 0, 0)) (List.forall_mem_cons.mpr ⟨dX5_isHurt_19, List.forall_mem_cons.mpr ⟨dX5_isHurt_20, fun _ h => absurd h List.not_mem_nil⟩⟩) rfl ?_
      cases h
      exact xretz tn_X5_isHurt rfl (by decide) dX5_isHurt_24
def F_X5_listed_17 (N : Nat) : Nat → St → Int32 → Int32 → Int32 → Option (Int32)
  | 0, _, _, _, _ => none
  | f + 1, s, x1, x2, x3 => bif mx_cnd .ge x3 (gI s 2) then (some (-nI 1)) else ((F_X5_isHurt N s x3).bind fun v1 => bif mx_cnd .eq v1 0 then (F_X5_listed_17 N f s x1 x2 (x3 + (nI 1))) else (bif mx_cnd .ne x2 x1 then (F_X5_listed_17 N f s x1 (x2 + (nI 1)) (x3 + (nI 1))) else (some x3)))
set_option maxRecDepth 100000 in
set_option maxHeartbeats 4000000 in
theorem w_X5_listed_17 {rest : mx_W} {N : Nat} : ∀ (f : Nat) (s : St) (x1 : Int32) (x2 : Int32) (x3 : Int32) (r : Int32), F_X5_listed_17 N f s x1 x2 x3 = some r → X 130 (17, [(0, .ref 0), (1, .int x1), (2, .int x2), (3, .int x3)], [], wd s rest, 0, 0) (some (.int r), wd s rest, 0, 0) := by
  intro f
  induction f with
  | zero => intro s x1 x2 x3 r h; rw [F_X5_listed_17.eq_1] at h; cases h
  | succ f ih =>
    intro s x1 x2 x3 r h
    rw [F_X5_listed_17.eq_2] at h
    refine xs tn_X5_listed [(17, .iload_n 3, 1), (18, .aload_n 0, 1), (19, .getfield 65, 3)] (st' := (22, [(0, .ref 0), (1, .int x1), (2, .int x2), (3, .int x3)], [.int (gI s 2), .int x3], wd s rest, 0, 0)) (List.forall_mem_cons.mpr ⟨dX5_listed_17, List.forall_mem_cons.mpr ⟨dX5_listed_18, List.forall_mem_cons.mpr ⟨dX5_listed_19, fun _ h => absurd h List.not_mem_nil⟩⟩⟩) rfl ?_
    refine xcmpF (t := 49) tn_X5_listed dX5_listed_22 (by decide) h (fun h => ?_) (fun h => ?_)
    · refine xs tn_X5_listed [(49, .iconst (-1), 1)] (st' := (50, [(0, .ref 0), (1, .int x1), (2, .int x2), (3, .int x3)], [.int (-nI 1)], wd s rest, 0, 0)) (List.forall_mem_cons.mpr ⟨dX5_listed_49, fun _ h => absurd h List.not_mem_nil⟩) rfl ?_
      cases h
      exact xret tn_X5_listed rfl dX5_listed_50
    · refine xs tn_X5_listed [(25, .aload_n 0, 1), (26, .iload_n 3, 1)] (st' := (27, [(0, .ref 0), (1, .int x1), (2, .int x2), (3, .int x3)], [.int x3, .ref 0], wd s rest, 0, 0)) (List.forall_mem_cons.mpr ⟨dX5_listed_25, List.forall_mem_cons.mpr ⟨dX5_listed_26, fun _ h => absurd h List.not_mem_nil⟩⟩) rfl ?_
      obtain ⟨v1, h2, h⟩ := obind h
      refine xcall tn_X5_listed dX5_listed_27 rfl rfl (w_X5_isHurt h2) ?_
      show X 130 (30, [(0, .ref 0), (1, .int x1), (2, .int x2), (3, .int x3)], [.int v1], wd s rest, 0, 0) _
      refine xifF (t := 43) tn_X5_listed dX5_listed_30 (by decide) h (fun h => ?_) (fun h => ?_)
      · refine xs tn_X5_listed [(43, .iinc 3 1, 3), (46, .goto (-29), 3)] (st' := (17, [(0, .ref 0), (1, .int x1), (2, .int x2), (3, .int (x3 + (nI 1)))], [], wd s rest, 0, 0)) (List.forall_mem_cons.mpr ⟨dX5_listed_43, List.forall_mem_cons.mpr ⟨dX5_listed_46, fun _ h => absurd h List.not_mem_nil⟩⟩) rfl ?_
        refine xwk [0, 1, 2, 3] rfl rfl ?_
        exact ih _ _ _ _ _ h
      · refine xs tn_X5_listed [(33, .iload_n 2, 1), (34, .iload_n 1, 1)] (st' := (35, [(0, .ref 0), (1, .int x1), (2, .int x2), (3, .int x3)], [.int x1, .int x2], wd s rest, 0, 0)) (List.forall_mem_cons.mpr ⟨dX5_listed_33, List.forall_mem_cons.mpr ⟨dX5_listed_34, fun _ h => absurd h List.not_mem_nil⟩⟩) rfl ?_
        refine xcmpF (t := 40) tn_X5_listed dX5_listed_35 (by decide) h (fun h => ?_) (fun h => ?_)
        · refine xs tn_X5_listed [(40, .iinc 2 1, 3), (43, .iinc 3 1, 3), (46, .goto (-29), 3)] (st' := (17, [(0, .ref 0), (1, .int x1), (2, .int (x2 + (nI 1))), (3, .int (x3 + (nI 1)))], [], wd s rest, 0, 0)) (List.forall_mem_cons.mpr ⟨dX5_listed_40, List.forall_mem_cons.mpr ⟨dX5_listed_43, List.forall_mem_cons.mpr ⟨dX5_listed_46, fun _ h => absurd h List.not_mem_nil⟩⟩⟩) rfl ?_
          refine xwk [0, 1, 2, 3] rfl rfl ?_
          exact ih _ _ _ _ _ h
        · refine xs tn_X5_listed [(38, .iload_n 3, 1)] (st' := (39, [(0, .ref 0), (1, .int x1), (2, .int x2), (3, .int x3)], [.int x3], wd s rest, 0, 0)) (List.forall_mem_cons.mpr ⟨dX5_listed_38, fun _ h => absurd h List.not_mem_nil⟩) rfl ?_
          cases h
          exact xret tn_X5_listed rfl dX5_listed_39
def F_X5_listed (N : Nat) (s : St) (x1 : Int32) : Option (Int32) := bif mx_cnd .eq (gI s 0) 0 then (some (-nI 1)) else (bif mx_cnd .ge x1 0 then (F_X5_listed_17 N N s x1 (nI 0) (nI 0)) else (some (-nI 1)))
set_option maxRecDepth 100000 in
set_option maxHeartbeats 4000000 in
theorem w_X5_listed {rest : mx_W} {N : Nat} {s : St} {x1 : Int32} {r : Int32} (h : F_X5_listed N s x1 = some r) : X 130 (0, [(0, .ref 0), (1, .int x1)], [], wd s rest, 0, 0) (some (.int r), wd s rest, 0, 0) := by
  unfold F_X5_listed at h
  refine xs tn_X5_listed [(0, .aload_n 0, 1), (1, .getfield 46, 3)] (st' := (4, [(0, .ref 0), (1, .int x1)], [.int (gI s 0)], wd s rest, 0, 0)) (List.forall_mem_cons.mpr ⟨dX5_listed_0, List.forall_mem_cons.mpr ⟨dX5_listed_1, fun _ h => absurd h List.not_mem_nil⟩⟩) rfl ?_
  refine xifF (t := 11) tn_X5_listed dX5_listed_4 (by decide) h (fun h => ?_) (fun h => ?_)
  · refine xs tn_X5_listed [(11, .iconst (-1), 1)] (st' := (12, [(0, .ref 0), (1, .int x1)], [.int (-nI 1)], wd s rest, 0, 0)) (List.forall_mem_cons.mpr ⟨dX5_listed_11, fun _ h => absurd h List.not_mem_nil⟩) rfl ?_
    cases h
    exact xret tn_X5_listed rfl dX5_listed_12
  · refine xs tn_X5_listed [(7, .iload_n 1, 1)] (st' := (8, [(0, .ref 0), (1, .int x1)], [.int x1], wd s rest, 0, 0)) (List.forall_mem_cons.mpr ⟨dX5_listed_7, fun _ h => absurd h List.not_mem_nil⟩) rfl ?_
    refine xifF (t := 13) tn_X5_listed dX5_listed_8 (by decide) h (fun h => ?_) (fun h => ?_)
    · refine xs tn_X5_listed [(13, .iconst 0, 1), (14, .istore_n 2, 1), (15, .iconst 0, 1), (16, .istore_n 3, 1)] (st' := (17, [(3, .int (nI 0)), (2, .int (nI 0)), (0, .ref 0), (1, .int x1)], [], wd s rest, 0, 0)) (List.forall_mem_cons.mpr ⟨dX5_listed_13, List.forall_mem_cons.mpr ⟨dX5_listed_14, List.forall_mem_cons.mpr ⟨dX5_listed_15, List.forall_mem_cons.mpr ⟨dX5_listed_16, fun _ h => absurd h List.not_mem_nil⟩⟩⟩⟩) rfl ?_
      refine xwk [0, 1, 2, 3] rfl rfl ?_
      exact w_X5_listed_17 N _ _ _ _ _ h
    · refine xs tn_X5_listed [(11, .iconst (-1), 1)] (st' := (12, [(0, .ref 0), (1, .int x1)], [.int (-nI 1)], wd s rest, 0, 0)) (List.forall_mem_cons.mpr ⟨dX5_listed_11, fun _ h => absurd h List.not_mem_nil⟩) rfl ?_
      cases h
      exact xret tn_X5_listed rfl dX5_listed_12
