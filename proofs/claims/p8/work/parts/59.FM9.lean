def F_X6_end_82 (N : Nat) : Nat → St → Int32 → Int32 → Option (Int32 × St)
  | 0, _, _, _ => none
  | f + 1, s, x1, x2 => bif mx_cnd .ge x2 x1 then (bindP (F_X6_append N s) fun v1 s2 => bnd (sI s2 7 (-nI 1)) fun s4 => bnd (sI s4 3 ((gI s4 3) + (nI 1))) fun s5 => some ((gI s5 3) - (nI 1), s5)) else (ldA (gA s 7) 4 x2 fun v6 => stA s 6 32 ((nI 4) + x2) v6 fun s7 => F_X6_end_82 N f s7 x1 (x2 + (nI 1)))
set_option maxRecDepth 100000 in
set_option maxHeartbeats 4000000 in
theorem w_X6_end_82 {d : St} {rest : mx_W} {N : Nat} : ∀ (f : Nat) (s : St) (x1 : Int32) (x2 : Int32) (r : Int32) (t : St), F_X6_end_82 N f s x1 x2 = some (r, t) → X 133 (82, [(0, .ref 18), (1, .int x1), (2, .int x2)], [], wd d (wm s rest), 0, 0) (some (.int r), wd d (wm t rest), 0, 0) := by
  intro f
  induction f with
  | zero => intro s x1 x2 r t h; rw [F_X6_end_82.eq_1] at h; cases h
  | succ f ih =>
    intro s x1 x2 r t h
    rw [F_X6_end_82.eq_2] at h
    refine xs tn_X6_end [(82, .iload_n 2, 1), (83, .iload_n 1, 1)] (st' := (84, [(0, .ref 18), (1, .int x1), (2, .int x2)], [.int x1, .int x2], wd d (wm s rest), 0, 0)) (List.forall_mem_cons.mpr ⟨dX6_end_82, List.forall_mem_cons.mpr ⟨dX6_end_83, fun _ h => absurd h List.not_mem_nil⟩⟩) rfl ?_
    refine xcmpF (t := 107) tn_X6_end dX6_end_84 (by decide) h (fun h => ?_) (fun h => ?_)
    · refine xs tn_X6_end [(107, .aload_n 0, 1)] (st' := (108, [(0, .ref 18), (1, .int x1), (2, .int x2)], [.ref 18], wd d (wm s rest), 0, 0)) (List.forall_mem_cons.mpr ⟨dX6_end_107, fun _ h => absurd h List.not_mem_nil⟩) rfl ?_
      obtain ⟨v1, s2, h3, h⟩ := obindP h
      refine xcall tn_X6_end dX6_end_108 rfl rfl (w_X6_append h3) ?_
      show X 133 (111, [(0, .ref 18), (1, .int x1), (2, .int x2)], [.int v1], wd d (wm s2 rest), 0, 0) _
      refine xs tn_X6_end [(111, .istore_n 2, 1), (112, .aload_n 0, 1), (113, .iconst (-1), 1)] (st' := (114, [(0, .ref 18), (1, .int x1), (2, .int v1)], [.int (-nI 1), .ref 18], wd d (wm s2 rest), 0, 0)) (List.forall_mem_cons.mpr ⟨dX6_end_111, List.forall_mem_cons.mpr ⟨dX6_end_112, List.forall_mem_cons.mpr ⟨dX6_end_113, fun _ h => absurd h List.not_mem_nil⟩⟩⟩) rfl ?_
      refine xput_b7 tn_X6_end dX6_end_114 rfl h (fun s4 h => ?_)
      refine xs tn_X6_end [(117, .aload_n 0, 1), (118, .dup, 1), (119, .getfield 100, 3), (122, .iconst 1, 1), (123, .iadd, 1)] (st' := (124, [(0, .ref 18), (1, .int x1), (2, .int v1)], [.int ((gI s4 3) + (nI 1)), .ref 18], wd d (wm s4 rest), 0, 0)) (List.forall_mem_cons.mpr ⟨dX6_end_117, List.forall_mem_cons.mpr ⟨dX6_end_118, List.forall_mem_cons.mpr ⟨dX6_end_119, List.forall_mem_cons.mpr ⟨dX6_end_122, List.forall_mem_cons.mpr ⟨dX6_end_123, fun _ h => absurd h List.not_mem_nil⟩⟩⟩⟩⟩) rfl ?_
      refine xput_b3 tn_X6_end dX6_end_124 rfl h (fun s5 h => ?_)
      refine xs tn_X6_end [(127, .aload_n 0, 1), (128, .getfield 100, 3), (131, .iconst 1, 1), (132, .isub, 1)] (st' := (133, [(0, .ref 18), (1, .int x1), (2, .int v1)], [.int ((gI s5 3) - (nI 1))], wd d (wm s5 rest), 0, 0)) (List.forall_mem_cons.mpr ⟨dX6_end_127, List.forall_mem_cons.mpr ⟨dX6_end_128, List.forall_mem_cons.mpr ⟨dX6_end_131, List.forall_mem_cons.mpr ⟨dX6_end_132, fun _ h => absurd h List.not_mem_nil⟩⟩⟩⟩) rfl ?_
      cases h
      exact xret tn_X6_end rfl dX6_end_133
    · refine xs tn_X6_end [(87, .aload_n 0, 1), (88, .getfield 40, 3), (91, .iconst 4, 1), (92, .iload_n 2, 1), (93, .iadd, 1), (94, .aload_n 0, 1), (95, .getfield 43, 3), (98, .iload_n 2, 1)] (st' := (99, [(0, .ref 18), (1, .int x1), (2, .int x2)], [.int x2, .ref 26, .int ((nI 4) + x2), .ref 25], wd d (wm s rest), 0, 0)) (List.forall_mem_cons.mpr ⟨dX6_end_87, List.forall_mem_cons.mpr ⟨dX6_end_88, List.forall_mem_cons.mpr ⟨dX6_end_91, List.forall_mem_cons.mpr ⟨dX6_end_92, List.forall_mem_cons.mpr ⟨dX6_end_93, List.forall_mem_cons.mpr ⟨dX6_end_94, List.forall_mem_cons.mpr ⟨dX6_end_95, List.forall_mem_cons.mpr ⟨dX6_end_98, fun _ h => absurd h List.not_mem_nil⟩⟩⟩⟩⟩⟩⟩⟩) rfl ?_
      refine xldF tn_X6_end dX6_end_99 at_26 h (fun v6 h => ?_)
      refine xstF (W := fun s => wd d (wm s rest)) tn_X6_end dX6_end_100 at_25 (fun _ => set_25) h (fun s7 h => ?_)
      refine xs tn_X6_end [(101, .iinc 2 1, 3), (104, .goto (-22), 3)] (st' := (82, [(0, .ref 18), (1, .int x1), (2, .int (x2 + (nI 1)))], [], wd d (wm s7 rest), 0, 0)) (List.forall_mem_cons.mpr ⟨dX6_end_101, List.forall_mem_cons.mpr ⟨dX6_end_104, fun _ h => absurd h List.not_mem_nil⟩⟩) rfl ?_
      refine xwk [0, 1, 2] rfl rfl ?_
      exact ih _ _ _ _ _ h
def F_X6_end_38 (N : Nat) : Nat → St → Int32 → Int32 → Option (Int32 × St)
  | 0, _, _, _ => none
  | f + 1, s, x1, x2 => bif mx_cnd .ge x2 x1 then ((F_X6_begin N s (nI 3) (gI s 7) (gI s 3) (gI s 8)).bind fun s1 => F_X6_end_82 N N s1 x1 (nI 0)) else (bindP (F_X6_blockFor N s ((nI 24) * x2)) fun v3 s4 => stA s4 7 4 x2 v3 fun s6 => F_X6_end_38 N f s6 x1 (x2 + (nI 1)))
set_option maxRecDepth 100000 in
set_option maxHeartbeats 4000000 in
theorem w_X6_end_38 {d : St} {rest : mx_W} {N : Nat} : ∀ (f : Nat) (s : St) (x1 : Int32) (x2 : Int32) (r : Int32) (t : St), F_X6_end_38 N f s x1 x2 = some (r, t) → X 133 (38, [(0, .ref 18), (1, .int x1), (2, .int x2)], [], wd d (wm s rest), 0, 0) (some (.int r), wd d (wm t rest), 0, 0) := by
  intro f
  induction f with
  | zero => intro s x1 x2 r t h; rw [F_X6_end_38.eq_1] at h; cases h
  | succ f ih =>
    intro s x1 x2 r t h
    rw [F_X6_end_38.eq_2] at h
    refine xs tn_X6_end [(38, .iload_n 2, 1), (39, .iload_n 1, 1)] (st' := (40, [(0, .ref 18), (1, .int x1), (2, .int x2)], [.int x1, .int x2], wd d (wm s rest), 0, 0)) (List.forall_mem_cons.mpr ⟨dX6_end_38, List.forall_mem_cons.mpr ⟨dX6_end_39, fun _ h => absurd h List.not_mem_nil⟩⟩) rfl ?_
    refine xcmpF (t := 63) tn_X6_end dX6_end_40 (by decide) h (fun h => ?_) (fun h => ?_)
    · refine xs tn_X6_end [(63, .aload_n 0, 1), (64, .iconst 3, 1), (65, .aload_n 0, 1), (66, .getfield 25, 3), (69, .aload_n 0, 1), (70, .getfield 100, 3), (73, .aload_n 0, 1), (74, .getfield 116, 3)] (st' := (77, [(0, .ref 18), (1, .int x1), (2, .int x2)], [.int (gI s 8), .int (gI s 3), .int (gI s 7), .int (nI 3), .ref 18], wd d (wm s rest), 0, 0)) (List.forall_mem_cons.mpr ⟨dX6_end_63, List.forall_mem_cons.mpr ⟨dX6_end_64, List.forall_mem_cons.mpr ⟨dX6_end_65, List.forall_mem_cons.mpr ⟨dX6_end_66, List.forall_mem_cons.mpr ⟨dX6_end_69, List.forall_mem_cons.mpr ⟨dX6_end_70, List.forall_mem_cons.mpr ⟨dX6_end_73, List.forall_mem_cons.mpr ⟨dX6_end_74, fun _ h => absurd h List.not_mem_nil⟩⟩⟩⟩⟩⟩⟩⟩) rfl ?_
      obtain ⟨s1, h2, h⟩ := obind h
      refine xcall tn_X6_end dX6_end_77 rfl rfl (w_X6_begin h2) ?_
      show X 133 (80, [(0, .ref 18), (1, .int x1), (2, .int x2)], [], wd d (wm s1 rest), 0, 0) _
      refine xs tn_X6_end [(80, .iconst 0, 1), (81, .istore_n 2, 1)] (st' := (82, [(0, .ref 18), (1, .int x1), (2, .int (nI 0))], [], wd d (wm s1 rest), 0, 0)) (List.forall_mem_cons.mpr ⟨dX6_end_80, List.forall_mem_cons.mpr ⟨dX6_end_81, fun _ h => absurd h List.not_mem_nil⟩⟩) rfl ?_
      refine xwk [0, 1, 2] rfl rfl ?_
      exact w_X6_end_82 N _ _ _ _ _ h
    · refine xs tn_X6_end [(43, .aload_n 0, 1), (44, .getfield 43, 3), (47, .iload_n 2, 1), (48, .aload_n 0, 1), (49, .bipush 24, 2), (51, .iload_n 2, 1), (52, .imul, 1)] (st' := (53, [(0, .ref 18), (1, .int x1), (2, .int x2)], [.int ((nI 24) * x2), .ref 18, .int x2, .ref 26], wd d (wm s rest), 0, 0)) (List.forall_mem_cons.mpr ⟨dX6_end_43, List.forall_mem_cons.mpr ⟨dX6_end_44, List.forall_mem_cons.mpr ⟨dX6_end_47, List.forall_mem_cons.mpr ⟨dX6_end_48, List.forall_mem_cons.mpr ⟨dX6_end_49, List.forall_mem_cons.mpr ⟨dX6_end_51, List.forall_mem_cons.mpr ⟨dX6_end_52, fun _ h => absurd h List.not_mem_nil⟩⟩⟩⟩⟩⟩⟩) rfl ?_
      obtain ⟨v3, s4, h5, h⟩ := obindP h
      refine xcall tn_X6_end dX6_end_53 rfl rfl (w_X6_blockFor h5) ?_
      show X 133 (56, [(0, .ref 18), (1, .int x1), (2, .int x2)], [.int v3, .int x2, .ref 26], wd d (wm s4 rest), 0, 0) _
      refine xstF (W := fun s => wd d (wm s rest)) tn_X6_end dX6_end_56 at_26 (fun _ => set_26) h (fun s6 h => ?_)
      refine xs tn_X6_end [(57, .iinc 2 1, 3), (60, .goto (-22), 3)] (st' := (38, [(0, .ref 18), (1, .int x1), (2, .int (x2 + (nI 1)))], [], wd d (wm s6 rest), 0, 0)) (List.forall_mem_cons.mpr ⟨dX6_end_57, List.forall_mem_cons.mpr ⟨dX6_end_60, fun _ h => absurd h List.not_mem_nil⟩⟩) rfl ?_
      refine xwk [0, 1, 2] rfl rfl ?_
      exact ih _ _ _ _ _ h
def F_X6_end (N : Nat) (s : St) : Option (Int32 × St) := bnd (sI s 0 (nI 0)) fun s1 => bif mx_cnd .eq (gI s1 1) 0 then (some (-nI 3, s1)) else (bif mx_cnd .ne (gI s1 7) (-nI 1) then (F_X6_end_38 N N s1 ((((gI s1 8) + (nI 24)) - (nI 1)) / (nI 24)) (nI 0)) else (some (-nI 3, s1)))
set_option maxRecDepth 100000 in
set_option maxHeartbeats 4000000 in
theorem w_X6_end {d : St} {rest : mx_W} {N : Nat} {s : St} {r : Int32} {t : St} (h : F_X6_end N s = some (r, t)) : X 133 (0, [(0, .ref 18)], [], wd d (wm s rest), 0, 0) (some (.int r), wd d (wm t rest), 0, 0) := by
  unfold F_X6_end at h
  refine xs tn_X6_end [(0, .aload_n 0, 1), (1, .iconst 0, 1)] (st' := (2, [(0, .ref 18)], [.int (nI 0), .ref 18], wd d (wm s rest), 0, 0)) (List.forall_mem_cons.mpr ⟨dX6_end_0, List.forall_mem_cons.mpr ⟨dX6_end_1, fun _ h => absurd h List.not_mem_nil⟩⟩) rfl ?_
  refine xput_b0 tn_X6_end dX6_end_2 rfl h (fun s1 h => ?_)
  refine xs tn_X6_end [(5, .aload_n 0, 1), (6, .getfield 17, 3)] (st' := (9, [(0, .ref 18)], [.int (gI s1 1)], wd d (wm s1 rest), 0, 0)) (List.forall_mem_cons.mpr ⟨dX6_end_5, List.forall_mem_cons.mpr ⟨dX6_end_6, fun _ h => absurd h List.not_mem_nil⟩⟩) rfl ?_
  refine xifF (t := 20) tn_X6_end dX6_end_9 (by decide) h (fun h => ?_) (fun h => ?_)
  · refine xs tn_X6_end [(20, .bipush (-3), 2)] (st' := (22, [(0, .ref 18)], [.int (-nI 3)], wd d (wm s1 rest), 0, 0)) (List.forall_mem_cons.mpr ⟨dX6_end_20, fun _ h => absurd h List.not_mem_nil⟩) rfl ?_
    cases h
    exact xret tn_X6_end rfl dX6_end_22
  · refine xs tn_X6_end [(12, .aload_n 0, 1), (13, .getfield 25, 3), (16, .iconst (-1), 1)] (st' := (17, [(0, .ref 18)], [.int (-nI 1), .int (gI s1 7)], wd d (wm s1 rest), 0, 0)) (List.forall_mem_cons.mpr ⟨dX6_end_12, List.forall_mem_cons.mpr ⟨dX6_end_13, List.forall_mem_cons.mpr ⟨dX6_end_16, fun _ h => absurd h List.not_mem_nil⟩⟩⟩) rfl ?_
    refine xcmpF (t := 23) tn_X6_end dX6_end_17 (by decide) h (fun h => ?_) (fun h => ?_)
    · refine xs tn_X6_end [(23, .aload_n 0, 1), (24, .getfield 116, 3), (27, .bipush 24, 2), (29, .iadd, 1), (30, .iconst 1, 1), (31, .isub, 1), (32, .bipush 24, 2)] (st' := (34, [(0, .ref 18)], [.int (nI 24), .int (((gI s1 8) + (nI 24)) - (nI 1))], wd d (wm s1 rest), 0, 0)) (List.forall_mem_cons.mpr ⟨dX6_end_23, List.forall_mem_cons.mpr ⟨dX6_end_24, List.forall_mem_cons.mpr ⟨dX6_end_27, List.forall_mem_cons.mpr ⟨dX6_end_29, List.forall_mem_cons.mpr ⟨dX6_end_30, List.forall_mem_cons.mpr ⟨dX6_end_31, List.forall_mem_cons.mpr ⟨dX6_end_32, fun _ h => absurd h List.not_mem_nil⟩⟩⟩⟩⟩⟩⟩) rfl ?_
      refine xdivF tn_X6_end dX6_end_34 (by decide) ?_
      refine xs tn_X6_end [(35, .istore_n 1, 1), (36, .iconst 0, 1), (37, .istore_n 2, 1)] (st' := (38, [(2, .int (nI 0)), (1, .int ((((gI s1 8) + (nI 24)) - (nI 1)) / (nI 24))), (0, .ref 18)], [], wd d (wm s1 rest), 0, 0)) (List.forall_mem_cons.mpr ⟨dX6_end_35, List.forall_mem_cons.mpr ⟨dX6_end_36, List.forall_mem_cons.mpr ⟨dX6_end_37, fun _ h => absurd h List.not_mem_nil⟩⟩⟩) rfl ?_
      refine xwk [0, 1, 2] rfl rfl ?_
      exact w_X6_end_38 N _ _ _ _ _ h
    · refine xs tn_X6_end [(20, .bipush (-3), 2)] (st' := (22, [(0, .ref 18)], [.int (-nI 3)], wd d (wm s1 rest), 0, 0)) (List.forall_mem_cons.mpr ⟨dX6_end_20, fun _ h => absurd h List.not_mem_nil⟩) rfl ?_
      cases h
      exact xret tn_X6_end rfl dX6_end_22
def F_X6_isRow (s : St) (x1 : Int32) : Option (Int32) := (F_X6_in x1 (nI 0) ((gI s 3) - (nI 1))).bind fun v1 => rz v1 (some v1)
set_option maxRecDepth 100000 in
set_option maxHeartbeats 4000000 in
theorem w_X6_isRow {d : St} {rest : mx_W} {s : St} {x1 : Int32} {r : Int32} (h : F_X6_isRow s x1 = some r) : X 60 (0, [(0, .ref 18), (1, .int x1)], [], wd d (wm s rest), 0, 0) (some (.int r), wd d (wm s rest), 0, 0) := by
  unfold F_X6_isRow at h
  refine xs tn_X6_isRow [(0, .iload_n 1, 1), (1, .iconst 0, 1), (2, .aload_n 0, 1), (3, .getfield 100, 3), (6, .iconst 1, 1), (7, .isub, 1)] (st' := (8, [(0, .ref 18), (1, .int x1)], [.int ((gI s 3) - (nI 1)), .int (nI 0), .int x1], wd d (wm s rest), 0, 0)) (List.forall_mem_cons.mpr ⟨dX6_isRow_0, List.forall_mem_cons.mpr ⟨dX6_isRow_1, List.forall_mem_cons.mpr ⟨dX6_isRow_2, List.forall_mem_cons.mpr ⟨dX6_isRow_3, List.forall_mem_cons.mpr ⟨dX6_isRow_6, List.forall_mem_cons.mpr ⟨dX6_isRow_7, fun _ h => absurd h List.not_mem_nil⟩⟩⟩⟩⟩⟩) rfl ?_
  obtain ⟨v1, h2, h⟩ := obind h
  refine xcall tn_X6_isRow dX6_isRow_8 rfl rfl (w_X6_in h2) ?_
  show X 60 (11, [(0, .ref 18), (1, .int x1)], [.int v1], wd d (wm s rest), 0, 0) _
  obtain ⟨hz, h⟩ := orz h
  cases h
  exact xretz tn_X6_isRow rfl hz dX6_isRow_11
def F_X6_sectorOf_4 (N : Nat) : Nat → St → Int32 → Int32 → Int32 → Option (Int32)
  | 0, _, _, _, _ => none
  | f + 1, s, x1, x2, x3 => bif mx_cnd .ge x3 (gI s 2) then (some x2) else ((F_X6_sortOf N s x3).bind fun v1 => bif mx_cnd .ne v1 (nI 3) then (F_X6_sectorOf_4 N f s x1 x2 (x3 + (nI 1))) else (ldA (gA s 0) 1920 (((nI 32) * x3) + (nI 2)) fun v3 => bif mx_cnd .ne v3 x1 then (F_X6_sectorOf_4 N f s x1 x2 (x3 + (nI 1))) else (ldA (gA s 0) 1920 (((nI 32) * x3) + (nI 3)) fun v4 => bif mx_cnd .gt v4 (nI 96) then (F_X6_sectorOf_4 N f s x1 x2 (x3 + (nI 1))) else (F_X6_sectorOf_4 N f s x1 x3 (x3 + (nI 1))))))
set_option maxRecDepth 100000 in
set_option maxHeartbeats 4000000 in
theorem w_X6_sectorOf_4 {d : St} {rest : mx_W} {N : Nat} : ∀ (f : Nat) (s : St) (x1 : Int32) (x2 : Int32) (x3 : Int32) (r : Int32), F_X6_sectorOf_4 N f s x1 x2 x3 = some r → X 89 (4, [(0, .ref 18), (1, .int x1), (2, .int x2), (3, .int x3)], [], wd d (wm s rest), 0, 0) (some (.int r), wd d (wm s rest), 0, 0) := by
  intro f
  induction f with
  | zero => intro s x1 x2 x3 r h; rw [F_X6_sectorOf_4.eq_1] at h; cases h
  | succ f ih =>
    intro s x1 x2 x3 r h
    rw [F_X6_sectorOf_4.eq_2] at h
    refine xs tn_X6_sectorOf [(4, .iload_n 3, 1), (5, .aload_n 0, 1), (6, .getfield 21, 3)] (st' := (9, [(0, .ref 18), (1, .int x1), (2, .int x2), (3, .int x3)], [.int (gI s 2), .int x3], wd d (wm s rest), 0, 0)) (List.forall_mem_cons.mpr ⟨dX6_sectorOf_4, List.forall_mem_cons.mpr ⟨dX6_sectorOf_5, List.forall_mem_cons.mpr ⟨dX6_sectorOf_6, fun _ h => absurd h List.not_mem_nil⟩⟩⟩) rfl ?_
    refine xcmpF (t := 64) tn_X6_sectorOf dX6_sectorOf_9 (by decide) h (fun h => ?_) (fun h => ?_)
    · refine xs tn_X6_sectorOf [(64, .iload_n 2, 1)] (st' := (65, [(0, .ref 18), (1, .int x1), (2, .int x2), (3, .int x3)], [.int x2], wd d (wm s rest), 0, 0)) (List.forall_mem_cons.mpr ⟨dX6_sectorOf_64, fun _ h => absurd h List.not_mem_nil⟩) rfl ?_
      cases h
      exact xret tn_X6_sectorOf rfl dX6_sectorOf_65
    · refine xs tn_X6_sectorOf [(12, .aload_n 0, 1), (13, .iload_n 3, 1)] (st' := (14, [(0, .ref 18), (1, .int x1), (2, .int x2), (3, .int x3)], [.int x3, .ref 18], wd d (wm s rest), 0, 0)) (List.forall_mem_cons.mpr ⟨dX6_sectorOf_12, List.forall_mem_cons.mpr ⟨dX6_sectorOf_13, fun _ h => absurd h List.not_mem_nil⟩⟩) rfl ?_
      obtain ⟨v1, h2, h⟩ := obind h
      refine xcall tn_X6_sectorOf dX6_sectorOf_14 rfl rfl (w_X6_sortOf h2) ?_
      show X 89 (17, [(0, .ref 18), (1, .int x1), (2, .int x2), (3, .int x3)], [.int v1], wd d (wm s rest), 0, 0) _
      refine xs tn_X6_sectorOf [(17, .iconst 3, 1)] (st' := (18, [(0, .ref 18), (1, .int x1), (2, .int x2), (3, .int x3)], [.int (nI 3), .int v1], wd d (wm s rest), 0, 0)) (List.forall_mem_cons.mpr ⟨dX6_sectorOf_17, fun _ h => absurd h List.not_mem_nil⟩) rfl ?_
      refine xcmpF (t := 56) tn_X6_sectorOf dX6_sectorOf_18 (by decide) h (fun h => ?_) (fun h => ?_)
      · refine xs tn_X6_sectorOf [(56, .iload_n 2, 1), (57, .istore_n 2, 1), (58, .iinc 3 1, 3), (61, .goto (-57), 3)] (st' := (4, [(0, .ref 18), (1, .int x1), (2, .int x2), (3, .int (x3 + (nI 1)))], [], wd d (wm s rest), 0, 0)) (List.forall_mem_cons.mpr ⟨dX6_sectorOf_56, List.forall_mem_cons.mpr ⟨dX6_sectorOf_57, List.forall_mem_cons.mpr ⟨dX6_sectorOf_58, List.forall_mem_cons.mpr ⟨dX6_sectorOf_61, fun _ h => absurd h List.not_mem_nil⟩⟩⟩⟩) rfl ?_
        refine xwk [0, 1, 2, 3] rfl rfl ?_
        exact ih _ _ _ _ _ h
      · refine xs tn_X6_sectorOf [(21, .aload_n 0, 1), (22, .getfield 7, 3), (25, .bipush 32, 2), (27, .iload_n 3, 1), (28, .imul, 1), (29, .iconst 2, 1), (30, .iadd, 1)] (st' := (31, [(0, .ref 18), (1, .int x1), (2, .int x2), (3, .int x3)], [.int (((nI 32) * x3) + (nI 2)), .ref 19], wd d (wm s rest), 0, 0)) (List.forall_mem_cons.mpr ⟨dX6_sectorOf_21, List.forall_mem_cons.mpr ⟨dX6_sectorOf_22, List.forall_mem_cons.mpr ⟨dX6_sectorOf_25, List.forall_mem_cons.mpr ⟨dX6_sectorOf_27, List.forall_mem_cons.mpr ⟨dX6_sectorOf_28, List.forall_mem_cons.mpr ⟨dX6_sectorOf_29, List.forall_mem_cons.mpr ⟨dX6_sectorOf_30, fun _ h => absurd h List.not_mem_nil⟩⟩⟩⟩⟩⟩⟩) rfl ?_
        refine xldF tn_X6_sectorOf dX6_sectorOf_31 at_19 h (fun v3 h => ?_)
        refine xs tn_X6_sectorOf [(32, .iload_n 1, 1)] (st' := (33, [(0, .ref 18), (1, .int x1), (2, .int x2), (3, .int x3)], [.int x1, .int v3], wd d (wm s rest), 0, 0)) (List.forall_mem_cons.mpr ⟨dX6_sectorOf_32, fun _ h => absurd h List.not_mem_nil⟩) rfl ?_
        refine xcmpF (t := 56) tn_X6_sectorOf dX6_sectorOf_33 (by decide) h (fun h => ?_) (fun h => ?_)
        · refine xs tn_X6_sectorOf [(56, .iload_n 2, 1), (57, .istore_n 2, 1), (58, .iinc 3 1, 3), (61, .goto (-57), 3)] (st' := (4, [(0, .ref 18), (1, .int x1), (2, .int x2), (3, .int (x3 + (nI 1)))], [], wd d (wm s rest), 0, 0)) (List.forall_mem_cons.mpr ⟨dX6_sectorOf_56, List.forall_mem_cons.mpr ⟨dX6_sectorOf_57, List.forall_mem_cons.mpr ⟨dX6_sectorOf_58, List.forall_mem_cons.mpr ⟨dX6_sectorOf_61, fun _ h => absurd h List.not_mem_nil⟩⟩⟩⟩) rfl ?_
          refine xwk [0, 1, 2, 3] rfl rfl ?_
          exact ih _ _ _ _ _ h
        · refine xs tn_X6_sectorOf [(36, .aload_n 0, 1), (37, .getfield 7, 3), (40, .bipush 32, 2), (42, .iload_n 3, 1), (43, .imul, 1), (44, .iconst 3, 1), (45, .iadd, 1)] (st' := (46, [(0, .ref 18), (1, .int x1), (2, .int x2), (3, .int x3)], [.int (((nI 32) * x3) + (nI 3)), .ref 19], wd d (wm s rest), 0, 0)) (List.forall_mem_cons.mpr ⟨dX6_sectorOf_36, List.forall_mem_cons.mpr ⟨dX6_sectorOf_37, List.forall_mem_cons.mpr ⟨dX6_sectorOf_40, List.forall_mem_cons.mpr ⟨dX6_sectorOf_42, List.forall_mem_cons.mpr ⟨dX6_sectorOf_43, List.forall_mem_cons.mpr ⟨dX6_sectorOf_44, List.forall_mem_cons.mpr ⟨dX6_sectorOf_45, fun _ h => absurd h List.not_mem_nil⟩⟩⟩⟩⟩⟩⟩) rfl ?_
          refine xldF tn_X6_sectorOf dX6_sectorOf_46 at_19 h (fun v4 h => ?_)
          refine xs tn_X6_sectorOf [(47, .bipush 96, 2)] (st' := (49, [(0, .ref 18), (1, .int x1), (2, .int x2), (3, .int x3)], [.int (nI 96), .int v4], wd d (wm s rest), 0, 0)) (List.forall_mem_cons.mpr ⟨dX6_sectorOf_47, fun _ h => absurd h List.not_mem_nil⟩) rfl ?_
          refine xcmpF (t := 56) tn_X6_sectorOf dX6_sectorOf_49 (by decide) h (fun h => ?_) (fun h => ?_)
          · refine xs tn_X6_sectorOf [(56, .iload_n 2, 1), (57, .istore_n 2, 1), (58, .iinc 3 1, 3), (61, .goto (-57), 3)] (st' := (4, [(0, .ref 18), (1, .int x1), (2, .int x2), (3, .int (x3 + (nI 1)))], [], wd d (wm s rest), 0, 0)) (List.forall_mem_cons.mpr ⟨dX6_sectorOf_56, List.forall_mem_cons.mpr ⟨dX6_sectorOf_57, List.forall_mem_cons.mpr ⟨dX6_sectorOf_58, List.forall_mem_cons.mpr ⟨dX6_sectorOf_61, fun _ h => absurd h List.not_mem_nil⟩⟩⟩⟩) rfl ?_
            refine xwk [0, 1, 2, 3] rfl rfl ?_
            exact ih _ _ _ _ _ h
          · refine xs tn_X6_sectorOf [(52, .iload_n 3, 1), (53, .goto 4, 3), (57, .istore_n 2, 1), (58, .iinc 3 1, 3), (61, .goto (-57), 3)] (st' := (4, [(0, .ref 18), (1, .int x1), (2, .int x3), (3, .int (x3 + (nI 1)))], [], wd d (wm s rest), 0, 0)) (List.forall_mem_cons.mpr ⟨dX6_sectorOf_52, List.forall_mem_cons.mpr ⟨dX6_sectorOf_53, List.forall_mem_cons.mpr ⟨dX6_sectorOf_57, List.forall_mem_cons.mpr ⟨dX6_sectorOf_58, List.forall_mem_cons.mpr ⟨dX6_sectorOf_61, fun _ h => absurd h List.not_mem_nil⟩⟩⟩⟩⟩) rfl ?_
            refine xwk [0, 1, 2, 3] rfl rfl ?_
            exact ih _ _ _ _ _ h
def F_X6_sectorOf (N : Nat) (s : St) (x1 : Int32) : Option (Int32) := F_X6_sectorOf_4 N N s x1 (-nI 1) (nI 2)
set_option maxRecDepth 100000 in
set_option maxHeartbeats 4000000 in
theorem w_X6_sectorOf {d : St} {rest : mx_W} {N : Nat} {s : St} {x1 : Int32} {r : Int32} (h : F_X6_sectorOf N s x1 = some r) : X 89 (0, [(0, .ref 18), (1, .int x1)], [], wd d (wm s rest), 0, 0) (some (.int r), wd d (wm s rest), 0, 0) := by
  unfold F_X6_sectorOf at h
  refine xs tn_X6_sectorOf [(0, .iconst (-1), 1), (1, .istore_n 2, 1), (2, .iconst 2, 1), (3, .istore_n 3, 1)] (st' := (4, [(3, .int (nI 2)), (2, .int (-nI 1)), (0, .ref 18), (1, .int x1)], [], wd d (wm s rest), 0, 0)) (List.forall_mem_cons.mpr ⟨dX6_sectorOf_0, List.forall_mem_cons.mpr ⟨dX6_sectorOf_1, List.forall_mem_cons.mpr ⟨dX6_sectorOf_2, List.forall_mem_cons.mpr ⟨dX6_sectorOf_3, fun _ h => absurd h List.not_mem_nil⟩⟩⟩⟩) rfl ?_
  refine xwk [0, 1, 2, 3] rfl rfl ?_
  exact w_X6_sectorOf_4 N _ _ _ _ _ h
def F_X6_sizeAt (s : St) (x1 : Int32) : Option (Int32) := ldA (gA s 0) 1920 (((nI 32) * x1) + (nI 3)) fun v1 => some v1
set_option maxRecDepth 100000 in
set_option maxHeartbeats 4000000 in
theorem w_X6_sizeAt {d : St} {rest : mx_W} {s : St} {x1 : Int32} {r : Int32} (h : F_X6_sizeAt s x1 = some r) : X 35 (0, [(0, .ref 18), (1, .int x1)], [], wd d (wm s rest), 0, 0) (some (.int r), wd d (wm s rest), 0, 0) := by
  unfold F_X6_sizeAt at h
  refine xs tn_X6_sizeAt [(0, .aload_n 0, 1), (1, .getfield 7, 3), (4, .bipush 32, 2), (6, .iload_n 1, 1), (7, .imul, 1), (8, .iconst 3, 1), (9, .iadd, 1)] (st' := (10, [(0, .ref 18), (1, .int x1)], [.int (((nI 32) * x1) + (nI 3)), .ref 19], wd d (wm s rest), 0, 0)) (List.forall_mem_cons.mpr ⟨dX6_sizeAt_0, List.forall_mem_cons.mpr ⟨dX6_sizeAt_1, List.forall_mem_cons.mpr ⟨dX6_sizeAt_4, List.forall_mem_cons.mpr ⟨dX6_sizeAt_6, List.forall_mem_cons.mpr ⟨dX6_sizeAt_7, List.forall_mem_cons.mpr ⟨dX6_sizeAt_8, List.forall_mem_cons.mpr ⟨dX6_sizeAt_9, fun _ h => absurd h List.not_mem_nil⟩⟩⟩⟩⟩⟩⟩) rfl ?_
  refine xldF tn_X6_sizeAt dX6_sizeAt_10 at_19 h (fun v1 h => ?_)
  cases h
  exact xret tn_X6_sizeAt rfl dX6_sizeAt_11
def F_X6_blocksAt (s : St) (x1 : Int32) : Option (Int32) := (F_X6_sizeAt s x1).bind fun v1 => some (((v1 + (nI 24)) - (nI 1)) / (nI 24))
set_option maxRecDepth 100000 in
set_option maxHeartbeats 4000000 in
theorem w_X6_blocksAt {d : St} {rest : mx_W} {s : St} {x1 : Int32} {r : Int32} (h : F_X6_blocksAt s x1 = some r) : X 58 (0, [(0, .ref 18), (1, .int x1)], [], wd d (wm s rest), 0, 0) (some (.int r), wd d (wm s rest), 0, 0) := by
  unfold F_X6_blocksAt at h
  refine xs tn_X6_blocksAt [(0, .aload_n 0, 1), (1, .iload_n 1, 1)] (st' := (2, [(0, .ref 18), (1, .int x1)], [.int x1, .ref 18], wd d (wm s rest), 0, 0)) (List.forall_mem_cons.mpr ⟨dX6_blocksAt_0, List.forall_mem_cons.mpr ⟨dX6_blocksAt_1, fun _ h => absurd h List.not_mem_nil⟩⟩) rfl ?_
  obtain ⟨v1, h2, h⟩ := obind h
  refine xcall tn_X6_blocksAt dX6_blocksAt_2 rfl rfl (w_X6_sizeAt h2) ?_
  show X 58 (5, [(0, .ref 18), (1, .int x1)], [.int v1], wd d (wm s rest), 0, 0) _
  refine xs tn_X6_blocksAt [(5, .bipush 24, 2), (7, .iadd, 1), (8, .iconst 1, 1), (9, .isub, 1), (10, .bipush 24, 2)] (st' := (12, [(0, .ref 18), (1, .int x1)], [.int (nI 24), .int ((v1 + (nI 24)) - (nI 1))], wd d (wm s rest), 0, 0)) (List.forall_mem_cons.mpr ⟨dX6_blocksAt_5, List.forall_mem_cons.mpr ⟨dX6_blocksAt_7, List.forall_mem_cons.mpr ⟨dX6_blocksAt_8, List.forall_mem_cons.mpr ⟨dX6_blocksAt_9, List.forall_mem_cons.mpr ⟨dX6_blocksAt_10, fun _ h => absurd h List.not_mem_nil⟩⟩⟩⟩⟩) rfl ?_
  refine xdivF tn_X6_blocksAt dX6_blocksAt_12 (by decide) ?_
  cases h
  exact xret tn_X6_blocksAt rfl dX6_blocksAt_13
def F_X6_blockAt (s : St) (x1 : Int32) (x2 : Int32) : Option (Int32) := ldA (gA s 0) 1920 ((((nI 32) * x1) + (nI 4)) + x2) fun v1 => some v1
set_option maxRecDepth 100000 in
set_option maxHeartbeats 4000000 in
theorem w_X6_blockAt {d : St} {rest : mx_W} {s : St} {x1 : Int32} {x2 : Int32} {r : Int32} (h : F_X6_blockAt s x1 x2 = some r) : X 30 (0, [(0, .ref 18), (1, .int x1), (2, .int x2)], [], wd d (wm s rest), 0, 0) (some (.int r), wd d (wm s rest), 0, 0) := by
  unfold F_X6_blockAt at h
  refine xs tn_X6_blockAt [(0, .aload_n 0, 1), (1, .getfield 7, 3), (4, .bipush 32, 2), (6, .iload_n 1, 1), (7, .imul, 1), (8, .iconst 4, 1), (9, .iadd, 1), (10, .iload_n 2, 1), (11, .iadd, 1)] (st' := (12, [(0, .ref 18), (1, .int x1), (2, .int x2)], [.int ((((nI 32) * x1) + (nI 4)) + x2), .ref 19], wd d (wm s rest), 0, 0)) (List.forall_mem_cons.mpr ⟨dX6_blockAt_0, List.forall_mem_cons.mpr ⟨dX6_blockAt_1, List.forall_mem_cons.mpr ⟨dX6_blockAt_4, List.forall_mem_cons.mpr ⟨dX6_blockAt_6, List.forall_mem_cons.mpr ⟨dX6_blockAt_7, List.forall_mem_cons.mpr ⟨dX6_blockAt_8, List.forall_mem_cons.mpr ⟨dX6_blockAt_9, List.forall_mem_cons.mpr ⟨dX6_blockAt_10, List.forall_mem_cons.mpr ⟨dX6_blockAt_11, fun _ h => absurd h List.not_mem_nil⟩⟩⟩⟩⟩⟩⟩⟩⟩) rfl ?_
  refine xldF tn_X6_blockAt dX6_blockAt_12 at_19 h (fun v1 h => ?_)
  cases h
  exact xret tn_X6_blockAt rfl dX6_blockAt_13
def F_X6_isInLog (s : St) (x1 : Int32) : Option (Int32) := bif mx_cnd .lt x1 (nI 2) then (some (nI 0)) else (bif mx_cnd .ge x1 (gI s 2) then (some (nI 0)) else (some (nI 1)))
set_option maxRecDepth 100000 in
set_option maxHeartbeats 4000000 in
theorem w_X6_isInLog {d : St} {rest : mx_W} {s : St} {x1 : Int32} {r : Int32} (h : F_X6_isInLog s x1 = some r) : X 34 (0, [(0, .ref 18), (1, .int x1)], [], wd d (wm s rest), 0, 0) (some (.int r), wd d (wm s rest), 0, 0) := by
  unfold F_X6_isInLog at h
  refine xs tn_X6_isInLog [(0, .iload_n 1, 1), (1, .iconst 2, 1)] (st' := (2, [(0, .ref 18), (1, .int x1)], [.int (nI 2), .int x1], wd d (wm s rest), 0, 0)) (List.forall_mem_cons.mpr ⟨dX6_isInLog_0, List.forall_mem_cons.mpr ⟨dX6_isInLog_1, fun _ h => absurd h List.not_mem_nil⟩⟩) rfl ?_
  refine xcmpF (t := 17) tn_X6_isInLog dX6_isInLog_2 (by decide) h (fun h => ?_) (fun h => ?_)
  · refine xs tn_X6_isInLog [(17, .iconst 0, 1)] (st' := (18, [(0, .ref 18), (1, .int x1)], [.int (nI 0)], wd d (wm s rest), 0, 0)) (List.forall_mem_cons.mpr ⟨dX6_isInLog_17, fun _ h => absurd h List.not_mem_nil⟩) rfl ?_
    cases h
    exact xretz tn_X6_isInLog rfl (by decide) dX6_isInLog_18
  · refine xs tn_X6_isInLog [(5, .iload_n 1, 1), (6, .aload_n 0, 1), (7, .getfield 21, 3)] (st' := (10, [(0, .ref 18), (1, .int x1)], [.int (gI s 2), .int x1], wd d (wm s rest), 0, 0)) (List.forall_mem_cons.mpr ⟨dX6_isInLog_5, List.forall_mem_cons.mpr ⟨dX6_isInLog_6, List.forall_mem_cons.mpr ⟨dX6_isInLog_7, fun _ h => absurd h List.not_mem_nil⟩⟩⟩) rfl ?_
    refine xcmpF (t := 17) tn_X6_isInLog dX6_isInLog_10 (by decide) h (fun h => ?_) (fun h => ?_)
    · refine xs tn_X6_isInLog [(17, .iconst 0, 1)] (st' := (18, [(0, .ref 18), (1, .int x1)], [.int (nI 0)], wd d (wm s rest), 0, 0)) (List.forall_mem_cons.mpr ⟨dX6_isInLog_17, fun _ h => absurd h List.not_mem_nil⟩) rfl ?_
      cases h
      exact xretz tn_X6_isInLog rfl (by decide) dX6_isInLog_18
    · refine xs tn_X6_isInLog [(13, .iconst 1, 1), (14, .goto 4, 3)] (st' := (18, [(0, .ref 18), (1, .int x1)], [.int (nI 1)], wd d (wm s rest), 0, 0)) (List.forall_mem_cons.mpr ⟨dX6_isInLog_13, List.forall_mem_cons.mpr ⟨dX6_isInLog_14, fun _ h => absurd h List.not_mem_nil⟩⟩) rfl ?_
      cases h
      exact xretz tn_X6_isInLog rfl (by decide) dX6_isInLog_18
def F_X6_isBlock (N : Nat) (s : St) (x1 : Int32) : Option (Int32) := (F_X6_isInLog s x1).bind fun v1 => bif mx_cnd .eq v1 0 then (some (nI 0)) else ((F_X6_sortOf N s x1).bind fun v3 => bif mx_cnd .ne v3 (nI 2) then (some (nI 0)) else (some (nI 1)))
set_option maxRecDepth 100000 in
set_option maxHeartbeats 4000000 in
theorem w_X6_isBlock {d : St} {rest : mx_W} {N : Nat} {s : St} {x1 : Int32} {r : Int32} (h : F_X6_isBlock N s x1 = some r) : X 83 (0, [(0, .ref 18), (1, .int x1)], [], wd d (wm s rest), 0, 0) (some (.int r), wd d (wm s rest), 0, 0) := by
  unfold F_X6_isBlock at h
  refine xs tn_X6_isBlock [(0, .aload_n 0, 1), (1, .iload_n 1, 1)] (st' := (2, [(0, .ref 18), (1, .int x1)], [.int x1, .ref 18], wd d (wm s rest), 0, 0)) (List.forall_mem_cons.mpr ⟨dX6_isBlock_0, List.forall_mem_cons.mpr ⟨dX6_isBlock_1, fun _ h => absurd h List.not_mem_nil⟩⟩) rfl ?_
  obtain ⟨v1, h2, h⟩ := obind h
  refine xcall tn_X6_isBlock dX6_isBlock_2 rfl rfl (w_X6_isInLog h2) ?_
  show X 83 (5, [(0, .ref 18), (1, .int x1)], [.int v1], wd d (wm s rest), 0, 0) _
  refine xifF (t := 21) tn_X6_isBlock dX6_isBlock_5 (by decide) h (fun h => ?_) (fun h => ?_)
  · refine xs tn_X6_isBlock [(21, .iconst 0, 1)] (st' := (22, [(0, .ref 18), (1, .int x1)], [.int (nI 0)], wd d (wm s rest), 0, 0)) (List.forall_mem_cons.mpr ⟨dX6_isBlock_21, fun _ h => absurd h List.not_mem_nil⟩) rfl ?_
    cases h
    exact xretz tn_X6_isBlock rfl (by decide) dX6_isBlock_22
  · refine xs tn_X6_isBlock [(8, .aload_n 0, 1), (9, .iload_n 1, 1)] (st' := (10, [(0, .ref 18), (1, .int x1)], [.int x1, .ref 18], wd d (wm s rest), 0, 0)) (List.forall_mem_cons.mpr ⟨dX6_isBlock_8, List.forall_mem_cons.mpr ⟨dX6_isBlock_9, fun _ h => absurd h List.not_mem_nil⟩⟩) rfl ?_
    obtain ⟨v3, h4, h⟩ := obind h
    refine xcall tn_X6_isBlock dX6_isBlock_10 rfl rfl (w_X6_sortOf h4) ?_
    show X 83 (13, [(0, .ref 18), (1, .int x1)], [.int v3], wd d (wm s rest), 0, 0) _
    refine xs tn_X6_isBlock [(13, .iconst 2, 1)] (st' := (14, [(0, .ref 18), (1, .int x1)], [.int (nI 2), .int v3], wd d (wm s rest), 0, 0)) (List.forall_mem_cons.mpr ⟨dX6_isBlock_13, fun _ h => absurd h List.not_mem_nil⟩) rfl ?_
    refine xcmpF (t := 21) tn_X6_isBlock dX6_isBlock_14 (by decide) h (fun h => ?_) (fun h => ?_)
    · refine xs tn_X6_isBlock [(21, .iconst 0, 1)] (st' := (22, [(0, .ref 18), (1, .int x1)], [.int (nI 0)], wd d (wm s rest), 0, 0)) (List.forall_mem_cons.mpr ⟨dX6_isBlock_21, fun _ h => absurd h List.not_mem_nil⟩) rfl ?_
      cases h
      exact xretz tn_X6_isBlock rfl (by decide) dX6_isBlock_22
    · refine xs tn_X6_isBlock [(17, .iconst 1, 1), (18, .goto 4, 3)] (st' := (22, [(0, .ref 18), (1, .int x1)], [.int (nI 1)], wd d (wm s rest), 0, 0)) (List.forall_mem_cons.mpr ⟨dX6_isBlock_17, List.forall_mem_cons.mpr ⟨dX6_isBlock_18, fun _ h => absurd h List.not_mem_nil⟩⟩) rfl ?_
      cases h
      exact xretz tn_X6_isBlock rfl (by decide) dX6_isBlock_22
def F_X6_missingAt_4 (N : Nat) : Nat → St → Int32 → Int32 → Int32 → Option (Int32)
  | 0, _, _, _, _ => none
  | f + 1, s, x1, x2, x3 => (F_X6_blocksAt s x1).bind fun v1 => bif mx_cnd .ge x3 v1 then (some x2) else ((F_X6_blockAt s x1 x3).bind fun v3 => (F_X6_isBlock N s v3).bind fun v5 => bif mx_cnd .eq v5 0 then (F_X6_missingAt_4 N f s x1 (x2 + (nI 1)) (x3 + (nI 1))) else (F_X6_missingAt_4 N f s x1 (x2 + (nI 0)) (x3 + (nI 1))))
set_option maxRecDepth 100000 in
set_option maxHeartbeats 4000000 in
theorem w_X6_missingAt_4 {d : St} {rest : mx_W} {N : Nat} : ∀ (f : Nat) (s : St) (x1 : Int32) (x2 : Int32) (x3 : Int32) (r : Int32), F_X6_missingAt_4 N f s x1 x2 x3 = some r → X 115 (4, [(0, .ref 18), (1, .int x1), (2, .int x2), (3, .int x3)], [], wd d (wm s rest), 0, 0) (some (.int r), wd d (wm s rest), 0, 0) := by
  intro f
  induction f with
  | zero => intro s x1 x2 x3 r h; rw [F_X6_missingAt_4.eq_1] at h; cases h
  | succ f ih =>
    intro s x1 x2 x3 r h
    rw [F_X6_missingAt_4.eq_2] at h
    refine xs tn_X6_missingAt [(4, .iload_n 3, 1), (5, .aload_n 0, 1), (6, .iload_n 1, 1)] (st' := (7, [(0, .ref 18), (1, .int x1), (2, .int x2), (3, .int x3)], [.int x1, .ref 18, .int x3], wd d (wm s rest), 0, 0)) (List.forall_mem_cons.mpr ⟨dX6_missingAt_4, List.forall_mem_cons.mpr ⟨dX6_missingAt_5, List.forall_mem_cons.mpr ⟨dX6_missingAt_6, fun _ h => absurd h List.not_mem_nil⟩⟩⟩) rfl ?_
    obtain ⟨v1, h2, h⟩ := obind h
    refine xcall tn_X6_missingAt dX6_missingAt_7 rfl rfl (w_X6_blocksAt h2) ?_
    show X 115 (10, [(0, .ref 18), (1, .int x1), (2, .int x2), (3, .int x3)], [.int v1, .int x3], wd d (wm s rest), 0, 0) _
    refine xcmpF (t := 40) tn_X6_missingAt dX6_missingAt_10 (by decide) h (fun h => ?_) (fun h => ?_)
    · refine xs tn_X6_missingAt [(40, .iload_n 2, 1)] (st' := (41, [(0, .ref 18), (1, .int x1), (2, .int x2), (3, .int x3)], [.int x2], wd d (wm s rest), 0, 0)) (List.forall_mem_cons.mpr ⟨dX6_missingAt_40, fun _ h => absurd h List.not_mem_nil⟩) rfl ?_
      cases h
      exact xret tn_X6_missingAt rfl dX6_missingAt_41
    · refine xs tn_X6_missingAt [(13, .iload_n 2, 1), (14, .aload_n 0, 1), (15, .aload_n 0, 1), (16, .iload_n 1, 1), (17, .iload_n 3, 1)] (st' := (18, [(0, .ref 18), (1, .int x1), (2, .int x2), (3, .int x3)], [.int x3, .int x1, .ref 18, .ref 18, .int x2], wd d (wm s rest), 0, 0)) (List.forall_mem_cons.mpr ⟨dX6_missingAt_13, List.forall_mem_cons.mpr ⟨dX6_missingAt_14, List.forall_mem_cons.mpr ⟨dX6_missingAt_15, List.forall_mem_cons.mpr ⟨dX6_missingAt_16, List.forall_mem_cons.mpr ⟨dX6_missingAt_17, fun _ h => absurd h List.not_mem_nil⟩⟩⟩⟩⟩) rfl ?_
      obtain ⟨v3, h4, h⟩ := obind h
      refine xcall tn_X6_missingAt dX6_missingAt_18 rfl rfl (w_X6_blockAt h4) ?_
      show X 115 (21, [(0, .ref 18), (1, .int x1), (2, .int x2), (3, .int x3)], [.int v3, .ref 18, .int x2], wd d (wm s rest), 0, 0) _
      obtain ⟨v5, h6, h⟩ := obind h
      refine xcall tn_X6_missingAt dX6_missingAt_21 rfl rfl (w_X6_isBlock h6) ?_
      show X 115 (24, [(0, .ref 18), (1, .int x1), (2, .int x2), (3, .int x3)], [.int v5, .int x2], wd d (wm s rest), 0, 0) _
      refine xifF (t := 31) tn_X6_missingAt dX6_missingAt_24 (by decide) h (fun h => ?_) (fun h => ?_)
      · refine xs tn_X6_missingAt [(31, .iconst 1, 1), (32, .iadd, 1), (33, .istore_n 2, 1), (34, .iinc 3 1, 3), (37, .goto (-33), 3)] (st' := (4, [(0, .ref 18), (1, .int x1), (2, .int (x2 + (nI 1))), (3, .int (x3 + (nI 1)))], [], wd d (wm s rest), 0, 0)) (List.forall_mem_cons.mpr ⟨dX6_missingAt_31, List.forall_mem_cons.mpr ⟨dX6_missingAt_32, List.forall_mem_cons.mpr ⟨dX6_missingAt_33, List.forall_mem_cons.mpr ⟨dX6_missingAt_34, List.forall_mem_cons.mpr ⟨dX6_missingAt_37, fun _ h => absurd h List.not_mem_nil⟩⟩⟩⟩⟩) rfl ?_
        refine xwk [0, 1, 2, 3] rfl rfl ?_
        exact ih _ _ _ _ _ h
      · refine xs tn_X6_missingAt [(27, .iconst 0, 1), (28, .goto 4, 3), (32, .iadd, 1), (33, .istore_n 2, 1), (34, .iinc 3 1, 3), (37, .goto (-33), 3)] (st' := (4, [(0, .ref 18), (1, .int x1), (2, .int (x2 + (nI 0))), (3, .int (x3 + (nI 1)))], [], wd d (wm s rest), 0, 0)) (List.forall_mem_cons.mpr ⟨dX6_missingAt_27, List.forall_mem_cons.mpr ⟨dX6_missingAt_28, List.forall_mem_cons.mpr ⟨dX6_missingAt_32, List.forall_mem_cons.mpr ⟨dX6_missingAt_33, List.forall_mem_cons.mpr ⟨dX6_missingAt_34, List.forall_mem_cons.mpr ⟨dX6_missingAt_37, fun _ h => absurd h List.not_mem_nil⟩⟩⟩⟩⟩⟩) rfl ?_
        refine xwk [0, 1, 2, 3] rfl rfl ?_
        exact ih _ _ _ _ _ h
def F_X6_missingAt (N : Nat) (s : St) (x1 : Int32) : Option (Int32) := F_X6_missingAt_4 N N s x1 (nI 0) (nI 0)
set_option maxRecDepth 100000 in
set_option maxHeartbeats 4000000 in
theorem w_X6_missingAt {d : St} {rest : mx_W} {N : Nat} {s : St} {x1 : Int32} {r : Int32} (h : F_X6_missingAt N s x1 = some r) : X 115 (0, [(0, .ref 18), (1, .int x1)], [], wd d (wm s rest), 0, 0) (some (.int r), wd d (wm s rest), 0, 0) := by
  unfold F_X6_missingAt at h
  refine xs tn_X6_missingAt [(0, .iconst 0, 1), (1, .istore_n 2, 1), (2, .iconst 0, 1), (3, .istore_n 3, 1)] (st' := (4, [(3, .int (nI 0)), (2, .int (nI 0)), (0, .ref 18), (1, .int x1)], [], wd d (wm s rest), 0, 0)) (List.forall_mem_cons.mpr ⟨dX6_missingAt_0, List.forall_mem_cons.mpr ⟨dX6_missingAt_1, List.forall_mem_cons.mpr ⟨dX6_missingAt_2, List.forall_mem_cons.mpr ⟨dX6_missingAt_3, fun _ h => absurd h List.not_mem_nil⟩⟩⟩⟩) rfl ?_
  refine xwk [0, 1, 2, 3] rfl rfl ?_
  exact w_X6_missingAt_4 N _ _ _ _ _ h
def F_X6_weight (x0 : Int32) (x1 : Int32) : Option (Int32) := bif mx_cnd .ne x0 0 then (some ((nI 1) <<< (x1 &&& 31))) else (some (nI 1))
set_option maxRecDepth 100000 in
set_option maxHeartbeats 4000000 in
theorem w_X6_weight {w : mx_W} {x0 : Int32} {x1 : Int32} {r : Int32} (h : F_X6_weight x0 x1 = some r) : X 39 (0, [(0, .int x0), (1, .int x1)], [], w, 0, 0) (some (.int r), w, 0, 0) := by
  unfold F_X6_weight at h
  refine xs tn_X6_weight [(0, .iload_n 0, 1)] (st' := (1, [(0, .int x0), (1, .int x1)], [.int x0], w, 0, 0)) (List.forall_mem_cons.mpr ⟨dX6_weight_0, fun _ h => absurd h List.not_mem_nil⟩) rfl ?_
  refine xifF (t := 8) tn_X6_weight dX6_weight_1 (by decide) h (fun h => ?_) (fun h => ?_)
  · refine xs tn_X6_weight [(8, .iconst 1, 1), (9, .iload_n 1, 1), (10, .ishl, 1)] (st' := (11, [(0, .int x0), (1, .int x1)], [.int ((nI 1) <<< (x1 &&& 31))], w, 0, 0)) (List.forall_mem_cons.mpr ⟨dX6_weight_8, List.forall_mem_cons.mpr ⟨dX6_weight_9, List.forall_mem_cons.mpr ⟨dX6_weight_10, fun _ h => absurd h List.not_mem_nil⟩⟩⟩) rfl ?_
    cases h
    exact xret tn_X6_weight rfl dX6_weight_11
  · refine xs tn_X6_weight [(4, .iconst 1, 1), (5, .goto 6, 3)] (st' := (11, [(0, .int x0), (1, .int x1)], [.int (nI 1)], w, 0, 0)) (List.forall_mem_cons.mpr ⟨dX6_weight_4, List.forall_mem_cons.mpr ⟨dX6_weight_5, fun _ h => absurd h List.not_mem_nil⟩⟩) rfl ?_
    cases h
    exact xret tn_X6_weight rfl dX6_weight_11
def F_X6_twice (x0 : Int32) : Option (Int32) := bif mx_cnd .le (x0 <<< ((nI 1) &&& 31)) (nI 255) then (some (x0 <<< ((nI 1) &&& 31))) else (some ((x0 <<< ((nI 1) &&& 31)) ^^^ (nI 285)))
set_option maxRecDepth 100000 in
set_option maxHeartbeats 4000000 in
theorem w_X6_twice {w : mx_W} {x0 : Int32} {r : Int32} (h : F_X6_twice x0 = some r) : X 38 (0, [(0, .int x0)], [], w, 0, 0) (some (.int r), w, 0, 0) := by
  unfold F_X6_twice at h
  refine xs tn_X6_twice [(0, .iload_n 0, 1), (1, .iconst 1, 1), (2, .ishl, 1), (3, .istore_n 1, 1), (4, .iload_n 1, 1), (5, .sipush 255, 3)] (st' := (8, [(1, .int (x0 <<< ((nI 1) &&& 31))), (0, .int x0)], [.int (nI 255), .int (x0 <<< ((nI 1) &&& 31))], w, 0, 0)) (List.forall_mem_cons.mpr ⟨dX6_twice_0, List.forall_mem_cons.mpr ⟨dX6_twice_1, List.forall_mem_cons.mpr ⟨dX6_twice_2, List.forall_mem_cons.mpr ⟨dX6_twice_3, List.forall_mem_cons.mpr ⟨dX6_twice_4, List.forall_mem_cons.mpr ⟨dX6_twice_5, fun _ h => absurd h List.not_mem_nil⟩⟩⟩⟩⟩⟩) rfl ?_
  refine xcmpF (t := 19) tn_X6_twice dX6_twice_8 (by decide) h (fun h => ?_) (fun h => ?_)
  · refine xs tn_X6_twice [(19, .iload_n 1, 1)] (st' := (20, [(1, .int (x0 <<< ((nI 1) &&& 31))), (0, .int x0)], [.int (x0 <<< ((nI 1) &&& 31))], w, 0, 0)) (List.forall_mem_cons.mpr ⟨dX6_twice_19, fun _ h => absurd h List.not_mem_nil⟩) rfl ?_
    cases h
    exact xret tn_X6_twice rfl dX6_twice_20
  · refine xs tn_X6_twice [(11, .iload_n 1, 1), (12, .sipush 285, 3), (15, .ixor, 1), (16, .goto 4, 3)] (st' := (20, [(1, .int (x0 <<< ((nI 1) &&& 31))), (0, .int x0)], [.int ((x0 <<< ((nI 1) &&& 31)) ^^^ (nI 285))], w, 0, 0)) (List.forall_mem_cons.mpr ⟨dX6_twice_11, List.forall_mem_cons.mpr ⟨dX6_twice_12, List.forall_mem_cons.mpr ⟨dX6_twice_15, List.forall_mem_cons.mpr ⟨dX6_twice_16, fun _ h => absurd h List.not_mem_nil⟩⟩⟩⟩) rfl ?_
    cases h
    exact xret tn_X6_twice rfl dX6_twice_20
def F_X6_product_7 (N : Nat) : Nat → Int32 → Int32 → Int32 → Option (Int32)
  | 0, _, _, _ => none
  | f + 1, x2, x3, x4 => bif mx_cnd .le x2 0 then (some x4) else (bif mx_cnd .ne (x2 &&& (nI 1)) (nI 1) then ((F_X6_twice x3).bind fun v1 => F_X6_product_7 N f (x2 >>> ((nI 1) &&& 31)) v1 x4) else ((F_X6_twice x3).bind fun v3 => F_X6_product_7 N f (x2 >>> ((nI 1) &&& 31)) v3 (x4 ^^^ x3)))
set_option maxRecDepth 100000 in
set_option maxHeartbeats 4000000 in
theorem w_X6_product_7 {w : mx_W} {N : Nat} : ∀ (f : Nat) (x2 : Int32) (x3 : Int32) (x4 : Int32) (r : Int32), F_X6_product_7 N f x2 x3 x4 = some r → X 63 (7, [(2, .int x2), (3, .int x3), (4, .int x4)], [], w, 0, 0) (some (.int r), w, 0, 0) := by
  intro f
  induction f with
  | zero => intro x2 x3 x4 r h; rw [F_X6_product_7.eq_1] at h; cases h
  | succ f ih =>
    intro x2 x3 x4 r h
    rw [F_X6_product_7.eq_2] at h
    refine xs tn_X6_product [(7, .iload_n 2, 1)] (st' := (8, [(2, .int x2), (3, .int x3), (4, .int x4)], [.int x2], w, 0, 0)) (List.forall_mem_cons.mpr ⟨dX6_product_7, fun _ h => absurd h List.not_mem_nil⟩) rfl ?_
    refine xifF (t := 41) tn_X6_product dX6_product_8 (by decide) h (fun h => ?_) (fun h => ?_)
    · refine xs tn_X6_product [(41, .iload 4, 2)] (st' := (43, [(2, .int x2), (3, .int x3), (4, .int x4)], [.int x4], w, 0, 0)) (List.forall_mem_cons.mpr ⟨dX6_product_41, fun _ h => absurd h List.not_mem_nil⟩) rfl ?_
      cases h
      exact xret tn_X6_product rfl dX6_product_43
    · refine xs tn_X6_product [(11, .iload_n 2, 1), (12, .iconst 1, 1), (13, .iand, 1), (14, .iconst 1, 1)] (st' := (15, [(2, .int x2), (3, .int x3), (4, .int x4)], [.int (nI 1), .int (x2 &&& (nI 1))], w, 0, 0)) (List.forall_mem_cons.mpr ⟨dX6_product_11, List.forall_mem_cons.mpr ⟨dX6_product_12, List.forall_mem_cons.mpr ⟨dX6_product_13, List.forall_mem_cons.mpr ⟨dX6_product_14, fun _ h => absurd h List.not_mem_nil⟩⟩⟩⟩) rfl ?_
      refine xcmpF (t := 25) tn_X6_product dX6_product_15 (by decide) h (fun h => ?_) (fun h => ?_)
      · refine xs tn_X6_product [(25, .iload 4, 2), (27, .istore 4, 2), (29, .iload_n 3, 1)] (st' := (30, [(2, .int x2), (3, .int x3), (4, .int x4)], [.int x3], w, 0, 0)) (List.forall_mem_cons.mpr ⟨dX6_product_25, List.forall_mem_cons.mpr ⟨dX6_product_27, List.forall_mem_cons.mpr ⟨dX6_product_29, fun _ h => absurd h List.not_mem_nil⟩⟩⟩) rfl ?_
        obtain ⟨v1, h2, h⟩ := obind h
        refine xcall tn_X6_product dX6_product_30 rfl rfl (w_X6_twice h2) ?_
        show X 63 (33, [(2, .int x2), (3, .int x3), (4, .int x4)], [.int v1], w, 0, 0) _
        refine xs tn_X6_product [(33, .istore_n 3, 1), (34, .iload_n 2, 1), (35, .iconst 1, 1), (36, .ishr, 1), (37, .istore_n 2, 1), (38, .goto (-31), 3)] (st' := (7, [(2, .int (x2 >>> ((nI 1) &&& 31))), (3, .int v1), (4, .int x4)], [], w, 0, 0)) (List.forall_mem_cons.mpr ⟨dX6_product_33, List.forall_mem_cons.mpr ⟨dX6_product_34, List.forall_mem_cons.mpr ⟨dX6_product_35, List.forall_mem_cons.mpr ⟨dX6_product_36, List.forall_mem_cons.mpr ⟨dX6_product_37, List.forall_mem_cons.mpr ⟨dX6_product_38, fun _ h => absurd h List.not_mem_nil⟩⟩⟩⟩⟩⟩) rfl ?_
        refine xwk [2, 3, 4] rfl rfl ?_
        exact ih _ _ _ _ h
      · refine xs tn_X6_product [(18, .iload 4, 2), (20, .iload_n 3, 1), (21, .ixor, 1), (22, .goto 5, 3), (27, .istore 4, 2), (29, .iload_n 3, 1)] (st' := (30, [(2, .int x2), (3, .int x3), (4, .int (x4 ^^^ x3))], [.int x3], w, 0, 0)) (List.forall_mem_cons.mpr ⟨dX6_product_18, List.forall_mem_cons.mpr ⟨dX6_product_20, List.forall_mem_cons.mpr ⟨dX6_product_21, List.forall_mem_cons.mpr ⟨dX6_product_22, List.forall_mem_cons.mpr ⟨dX6_product_27, List.forall_mem_cons.mpr ⟨dX6_product_29, fun _ h => absurd h List.not_mem_nil⟩⟩⟩⟩⟩⟩) rfl ?_
        obtain ⟨v3, h4, h⟩ := obind h
        refine xcall tn_X6_product dX6_product_30 rfl rfl (w_X6_twice h4) ?_
        show X 63 (33, [(2, .int x2), (3, .int x3), (4, .int (x4 ^^^ x3))], [.int v3], w, 0, 0) _
        refine xs tn_X6_product [(33, .istore_n 3, 1), (34, .iload_n 2, 1), (35, .iconst 1, 1), (36, .ishr, 1), (37, .istore_n 2, 1), (38, .goto (-31), 3)] (st' := (7, [(2, .int (x2 >>> ((nI 1) &&& 31))), (3, .int v3), (4, .int (x4 ^^^ x3))], [], w, 0, 0)) (List.forall_mem_cons.mpr ⟨dX6_product_33, List.forall_mem_cons.mpr ⟨dX6_product_34, List.forall_mem_cons.mpr ⟨dX6_product_35, List.forall_mem_cons.mpr ⟨dX6_product_36, List.forall_mem_cons.mpr ⟨dX6_product_37, List.forall_mem_cons.mpr ⟨dX6_product_38, fun _ h => absurd h List.not_mem_nil⟩⟩⟩⟩⟩⟩) rfl ?_
        refine xwk [2, 3, 4] rfl rfl ?_
        exact ih _ _ _ _ h
def F_X6_product (N : Nat) (x0 : Int32) (x1 : Int32) : Option (Int32) := F_X6_product_7 N N x1 x0 (nI 0)
set_option maxRecDepth 100000 in
set_option maxHeartbeats 4000000 in
theorem w_X6_product {w : mx_W} {N : Nat} {x0 : Int32} {x1 : Int32} {r : Int32} (h : F_X6_product N x0 x1 = some r) : X 63 (0, [(0, .int x0), (1, .int x1)], [], w, 0, 0) (some (.int r), w, 0, 0) := by
  unfold F_X6_product at h
  refine xs tn_X6_product [(0, .iload_n 1, 1), (1, .istore_n 2, 1), (2, .iload_n 0, 1), (3, .istore_n 3, 1), (4, .iconst 0, 1), (5, .istore 4, 2)] (st' := (7, [(4, .int (nI 0)), (3, .int x0), (2, .int x1), (0, .int x0), (1, .int x1)], [], w, 0, 0)) (List.forall_mem_cons.mpr ⟨dX6_product_0, List.forall_mem_cons.mpr ⟨dX6_product_1, List.forall_mem_cons.mpr ⟨dX6_product_2, List.forall_mem_cons.mpr ⟨dX6_product_3, List.forall_mem_cons.mpr ⟨dX6_product_4, List.forall_mem_cons.mpr ⟨dX6_product_5, fun _ h => absurd h List.not_mem_nil⟩⟩⟩⟩⟩⟩) rfl ?_
  refine xwk [2, 3, 4] rfl rfl ?_
  exact w_X6_product_7 N _ _ _ _ h
def F_X6_protect_139 (N : Nat) (K : St → Int32 → Int32 → Int32 → Int32 → Int32 → Option (Int32 × St)) : Nat → St → Int32 → Int32 → Int32 → Int32 → Int32 → Int32 → Int32 → Option (Int32 × St)
  | 0, _, _, _, _, _, _, _, _ => none
  | f + 1, s, x1, x2, x3, x5, x6, x7, x8 => bif mx_cnd .ge x8 (nI 24) then (K s x1 x2 x3 x5 (x6 + (nI 1))) else (ldA (gA s 6) 32 ((nI 4) + x8) fun v1 => ldA (gA s 0) 1920 (x7 + x8) fun v2 => (F_X6_weight x5 x6).bind fun v3 => (F_X6_product N v2 v3).bind fun v5 => stA s 6 32 ((nI 4) + x8) (v1 ^^^ v5) fun s7 => F_X6_protect_139 N K f s7 x1 x2 x3 x5 x6 x7 (x8 + (nI 1)))
set_option maxRecDepth 100000 in
set_option maxHeartbeats 4000000 in
theorem w_X6_protect_139 {d : St} {rest : mx_W} {N : Nat} {K : St → Int32 → Int32 → Int32 → Int32 → Int32 → Option (Int32 × St)} (hK : ∀ (s : St) (x1 : Int32) (x2 : Int32) (x3 : Int32) (x5 : Int32) (x6 : Int32) (r : Int32) (t : St), K s x1 x2 x3 x5 x6 = some (r, t) → X 126 (112, [(0, .ref 18), (1, .int x1), (2, .int x2), (3, .int x3), (5, .int x5), (6, .int x6)], [], wd d (wm s rest), 0, 0) (some (.int r), wd d (wm t rest), 0, 0)) : ∀ (f : Nat) (s : St) (x1 : Int32) (x2 : Int32) (x3 : Int32) (x5 : Int32) (x6 : Int32) (x7 : Int32) (x8 : Int32) (r : Int32) (t : St), F_X6_protect_139 N K f s x1 x2 x3 x5 x6 x7 x8 = some (r, t) → X 126 (139, [(0, .ref 18), (1, .int x1), (2, .int x2), (3, .int x3), (5, .int x5), (6, .int x6), (7, .int x7), (8, .int x8)], [], wd d (wm s rest), 0, 0) (some (.int r), wd d (wm t rest), 0, 0) := by
  intro f
  induction f with
  | zero => intro s x1 x2 x3 x5 x6 x7 x8 r t h; rw [F_X6_protect_139.eq_1] at h; cases h
  | succ f ih =>
    intro s x1 x2 x3 x5 x6 x7 x8 r t h
    rw [F_X6_protect_139.eq_2] at h
    refine xs tn_X6_protect [(139, .iload 8, 2), (141, .bipush 24, 2)] (st' := (143, [(0, .ref 18), (1, .int x1), (2, .int x2), (3, .int x3), (5, .int x5), (6, .int x6), (7, .int x7), (8, .int x8)], [.int (nI 24), .int x8], wd d (wm s rest), 0, 0)) (List.forall_mem_cons.mpr ⟨dX6_protect_139, List.forall_mem_cons.mpr ⟨dX6_protect_141, fun _ h => absurd h List.not_mem_nil⟩⟩) rfl ?_
    refine xcmpF (t := 191) tn_X6_protect dX6_protect_143 (by decide) h (fun h => ?_) (fun h => ?_)
    · refine xs tn_X6_protect [(191, .iinc 6 1, 3), (194, .goto (-82), 3)] (st' := (112, [(0, .ref 18), (1, .int x1), (2, .int x2), (3, .int x3), (5, .int x5), (6, .int (x6 + (nI 1))), (7, .int x7), (8, .int x8)], [], wd d (wm s rest), 0, 0)) (List.forall_mem_cons.mpr ⟨dX6_protect_191, List.forall_mem_cons.mpr ⟨dX6_protect_194, fun _ h => absurd h List.not_mem_nil⟩⟩) rfl ?_
      refine xwk [0, 1, 2, 3, 5, 6] rfl rfl ?_
      exact hK _ _ _ _ _ _ _ _ h
    · refine xs tn_X6_protect [(146, .aload_n 0, 1), (147, .getfield 40, 3), (150, .iconst 4, 1), (151, .iload 8, 2), (153, .iadd, 1), (154, .aload_n 0, 1), (155, .getfield 40, 3), (158, .iconst 4, 1), (159, .iload 8, 2), (161, .iadd, 1)] (st' := (162, [(0, .ref 18), (1, .int x1), (2, .int x2), (3, .int x3), (5, .int x5), (6, .int x6), (7, .int x7), (8, .int x8)], [.int ((nI 4) + x8), .ref 25, .int ((nI 4) + x8), .ref 25], wd d (wm s rest), 0, 0)) (List.forall_mem_cons.mpr ⟨dX6_protect_146, List.forall_mem_cons.mpr ⟨dX6_protect_147, List.forall_mem_cons.mpr ⟨dX6_protect_150, List.forall_mem_cons.mpr ⟨dX6_protect_151, List.forall_mem_cons.mpr ⟨dX6_protect_153, List.forall_mem_cons.mpr ⟨dX6_protect_154, List.forall_mem_cons.mpr ⟨dX6_protect_155, List.forall_mem_cons.mpr ⟨dX6_protect_158, List.forall_mem_cons.mpr ⟨dX6_protect_159, List.forall_mem_cons.mpr ⟨dX6_protect_161, fun _ h => absurd h List.not_mem_nil⟩⟩⟩⟩⟩⟩⟩⟩⟩⟩) rfl ?_
      refine xldF tn_X6_protect dX6_protect_162 at_25 h (fun v1 h => ?_)
      refine xs tn_X6_protect [(163, .aload_n 0, 1), (164, .getfield 7, 3), (167, .iload 7, 2), (169, .iload 8, 2), (171, .iadd, 1)] (st' := (172, [(0, .ref 18), (1, .int x1), (2, .int x2), (3, .int x3), (5, .int x5), (6, .int x6), (7, .int x7), (8, .int x8)], [.int (x7 + x8), .ref 19, .int v1, .int ((nI 4) + x8), .ref 25], wd d (wm s rest), 0, 0)) (List.forall_mem_cons.mpr ⟨dX6_protect_163, List.forall_mem_cons.mpr ⟨dX6_protect_164, List.forall_mem_cons.mpr ⟨dX6_protect_167, List.forall_mem_cons.mpr ⟨dX6_protect_169, List.forall_mem_cons.mpr ⟨dX6_protect_171, fun _ h => absurd h List.not_mem_nil⟩⟩⟩⟩⟩) rfl ?_
      refine xldF tn_X6_protect dX6_protect_172 at_19 h (fun v2 h => ?_)
      refine xs tn_X6_protect [(173, .iload 5, 2), (175, .iload 6, 2)] (st' := (177, [(0, .ref 18), (1, .int x1), (2, .int x2), (3, .int x3), (5, .int x5), (6, .int x6), (7, .int x7), (8, .int x8)], [.int x6, .int x5, .int v2, .int v1, .int ((nI 4) + x8), .ref 25], wd d (wm s rest), 0, 0)) (List.forall_mem_cons.mpr ⟨dX6_protect_173, List.forall_mem_cons.mpr ⟨dX6_protect_175, fun _ h => absurd h List.not_mem_nil⟩⟩) rfl ?_
      obtain ⟨v3, h4, h⟩ := obind h
      refine xcall tn_X6_protect dX6_protect_177 rfl rfl (w_X6_weight h4) ?_
      show X 126 (180, [(0, .ref 18), (1, .int x1), (2, .int x2), (3, .int x3), (5, .int x5), (6, .int x6), (7, .int x7), (8, .int x8)], [.int v3, .int v2, .int v1, .int ((nI 4) + x8), .ref 25], wd d (wm s rest), 0, 0) _
      obtain ⟨v5, h6, h⟩ := obind h
      refine xcall tn_X6_protect dX6_protect_180 rfl rfl (w_X6_product h6) ?_
      show X 126 (183, [(0, .ref 18), (1, .int x1), (2, .int x2), (3, .int x3), (5, .int x5), (6, .int x6), (7, .int x7), (8, .int x8)], [.int v5, .int v1, .int ((nI 4) + x8), .ref 25], wd d (wm s rest), 0, 0) _
      refine xs tn_X6_protect [(183, .ixor, 1)] (st' := (184, [(0, .ref 18), (1, .int x1), (2, .int x2), (3, .int x3), (5, .int x5), (6, .int x6), (7, .int x7), (8, .int x8)], [.int (v1 ^^^ v5), .int ((nI 4) + x8), .ref 25], wd d (wm s rest), 0, 0)) (List.forall_mem_cons.mpr ⟨dX6_protect_183, fun _ h => absurd h List.not_mem_nil⟩) rfl ?_
      refine xstF (W := fun s => wd d (wm s rest)) tn_X6_protect dX6_protect_184 at_25 (fun _ => set_25) h (fun s7 h => ?_)
      refine xs tn_X6_protect [(185, .iinc 8 1, 3), (188, .goto (-49), 3)] (st' := (139, [(0, .ref 18), (1, .int x1), (2, .int x2), (3, .int x3), (5, .int x5), (6, .int x6), (7, .int x7), (8, .int (x8 + (nI 1)))], [], wd d (wm s7 rest), 0, 0)) (List.forall_mem_cons.mpr ⟨dX6_protect_185, List.forall_mem_cons.mpr ⟨dX6_protect_188, fun _ h => absurd h List.not_mem_nil⟩⟩) rfl ?_
      refine xwk [0, 1, 2, 3, 5, 6, 7, 8] rfl rfl ?_
      exact ih _ _ _ _ _ _ _ _ _ _ h
def F_X6_protect_112 (N : Nat) (K : St → Int32 → Int32 → Int32 → Int32 → Int32 → Option (Int32 × St)) : Nat → St → Int32 → Int32 → Int32 → Int32 → Int32 → Option (Int32 × St)
  | 0, _, _, _, _, _, _ => none
  | f + 1, s, x1, x2, x3, x5, x6 => (F_X6_blocksAt s x3).bind fun v1 => bif mx_cnd .ge x6 v1 then (bindP (F_X6_append N s) fun v3 s4 => K s4 x1 x2 x3 v3 (x5 + (nI 1))) else ((F_X6_blockAt s x3 x6).bind fun v6 => F_X6_protect_139 N (F_X6_protect_112 N K f) N s x1 x2 x3 x5 x6 (((nI 32) * v6) + (nI 4)) (nI 0))
set_option maxRecDepth 100000 in
set_option maxHeartbeats 4000000 in
theorem w_X6_protect_112 {d : St} {rest : mx_W} {N : Nat} {K : St → Int32 → Int32 → Int32 → Int32 → Int32 → Option (Int32 × St)} (hK : ∀ (s : St) (x1 : Int32) (x2 : Int32) (x3 : Int32) (x4 : Int32) (x5 : Int32) (r : Int32) (t : St), K s x1 x2 x3 x4 x5 = some (r, t) → X 126 (94, [(0, .ref 18), (1, .int x1), (2, .int x2), (3, .int x3), (4, .int x4), (5, .int x5)], [], wd d (wm s rest), 0, 0) (some (.int r), wd d (wm t rest), 0, 0)) : ∀ (f : Nat) (s : St) (x1 : Int32) (x2 : Int32) (x3 : Int32) (x5 : Int32) (x6 : Int32) (r : Int32) (t : St), F_X6_protect_112 N K f s x1 x2 x3 x5 x6 = some (r, t) → X 126 (112, [(0, .ref 18), (1, .int x1), (2, .int x2), (3, .int x3), (5, .int x5), (6, .int x6)], [], wd d (wm s rest), 0, 0) (some (.int r), wd d (wm t rest), 0, 0) := by
  intro f
  induction f with
  | zero => intro s x1 x2 x3 x5 x6 r t h; rw [F_X6_protect_112.eq_1] at h; cases h
  | succ f ih =>
    intro s x1 x2 x3 x5 x6 r t h
    rw [F_X6_protect_112.eq_2] at h
    refine xs tn_X6_protect [(112, .iload 6, 2), (114, .aload_n 0, 1), (115, .iload_n 3, 1)] (st' := (116, [(0, .ref 18), (1, .int x1), (2, .int x2), (3, .int x3), (5, .int x5), (6, .int x6)], [.int x3, .ref 18, .int x6], wd d (wm s rest), 0, 0)) (List.forall_mem_cons.mpr ⟨dX6_protect_112, List.forall_mem_cons.mpr ⟨dX6_protect_114, List.forall_mem_cons.mpr ⟨dX6_protect_115, fun _ h => absurd h List.not_mem_nil⟩⟩⟩) rfl ?_
    obtain ⟨v1, h2, h⟩ := obind h
    refine xcall tn_X6_protect dX6_protect_116 rfl rfl (w_X6_blocksAt h2) ?_
    show X 126 (119, [(0, .ref 18), (1, .int x1), (2, .int x2), (3, .int x3), (5, .int x5), (6, .int x6)], [.int v1, .int x6], wd d (wm s rest), 0, 0) _
    refine xcmpF (t := 197) tn_X6_protect dX6_protect_119 (by decide) h (fun h => ?_) (fun h => ?_)
    · refine xs tn_X6_protect [(197, .aload_n 0, 1)] (st' := (198, [(0, .ref 18), (1, .int x1), (2, .int x2), (3, .int x3), (5, .int x5), (6, .int x6)], [.ref 18], wd d (wm s rest), 0, 0)) (List.forall_mem_cons.mpr ⟨dX6_protect_197, fun _ h => absurd h List.not_mem_nil⟩) rfl ?_
      obtain ⟨v3, s4, h5, h⟩ := obindP h
      refine xcall tn_X6_protect dX6_protect_198 rfl rfl (w_X6_append h5) ?_
      show X 126 (201, [(0, .ref 18), (1, .int x1), (2, .int x2), (3, .int x3), (5, .int x5), (6, .int x6)], [.int v3], wd d (wm s4 rest), 0, 0) _
      refine xs tn_X6_protect [(201, .istore 4, 2), (203, .iinc 5 1, 3), (206, .goto (-112), 3)] (st' := (94, [(4, .int v3), (0, .ref 18), (1, .int x1), (2, .int x2), (3, .int x3), (5, .int (x5 + (nI 1))), (6, .int x6)], [], wd d (wm s4 rest), 0, 0)) (List.forall_mem_cons.mpr ⟨dX6_protect_201, List.forall_mem_cons.mpr ⟨dX6_protect_203, List.forall_mem_cons.mpr ⟨dX6_protect_206, fun _ h => absurd h List.not_mem_nil⟩⟩⟩) rfl ?_
      refine xwk [0, 1, 2, 3, 4, 5] rfl rfl ?_
      exact hK _ _ _ _ _ _ _ _ h
    · refine xs tn_X6_protect [(122, .bipush 32, 2), (124, .aload_n 0, 1), (125, .iload_n 3, 1), (126, .iload 6, 2)] (st' := (128, [(0, .ref 18), (1, .int x1), (2, .int x2), (3, .int x3), (5, .int x5), (6, .int x6)], [.int x6, .int x3, .ref 18, .int (nI 32)], wd d (wm s rest), 0, 0)) (List.forall_mem_cons.mpr ⟨dX6_protect_122, List.forall_mem_cons.mpr ⟨dX6_protect_124, List.forall_mem_cons.mpr ⟨dX6_protect_125, List.forall_mem_cons.mpr ⟨dX6_protect_126, fun _ h => absurd h List.not_mem_nil⟩⟩⟩⟩) rfl ?_
      obtain ⟨v6, h7, h⟩ := obind h
      refine xcall tn_X6_protect dX6_protect_128 rfl rfl (w_X6_blockAt h7) ?_
      show X 126 (131, [(0, .ref 18), (1, .int x1), (2, .int x2), (3, .int x3), (5, .int x5), (6, .int x6)], [.int v6, .int (nI 32)], wd d (wm s rest), 0, 0) _
      refine xs tn_X6_protect [(131, .imul, 1), (132, .iconst 4, 1), (133, .iadd, 1), (134, .istore 7, 2), (136, .iconst 0, 1), (137, .istore 8, 2)] (st' := (139, [(8, .int (nI 0)), (7, .int (((nI 32) * v6) + (nI 4))), (0, .ref 18), (1, .int x1), (2, .int x2), (3, .int x3), (5, .int x5), (6, .int x6)], [], wd d (wm s rest), 0, 0)) (List.forall_mem_cons.mpr ⟨dX6_protect_131, List.forall_mem_cons.mpr ⟨dX6_protect_132, List.forall_mem_cons.mpr ⟨dX6_protect_133, List.forall_mem_cons.mpr ⟨dX6_protect_134, List.forall_mem_cons.mpr ⟨dX6_protect_136, List.forall_mem_cons.mpr ⟨dX6_protect_137, fun _ h => absurd h List.not_mem_nil⟩⟩⟩⟩⟩⟩) rfl ?_
      refine xwk [0, 1, 2, 3, 5, 6, 7, 8] rfl rfl ?_
      exact w_X6_protect_139 ih N _ _ _ _ _ _ _ _ _ _ h
def F_X6_protect_94 (N : Nat) : Nat → St → Int32 → Int32 → Int32 → Int32 → Int32 → Option (Int32 × St)
  | 0, _, _, _, _, _, _ => none
  | f + 1, s, x1, x2, x3, x4, x5 => bif mx_cnd .ge x5 x2 then (some (x4, s)) else ((F_X6_begin N s (nI 4) x1 x5 (nI 0)).bind fun s1 => F_X6_protect_112 N (F_X6_protect_94 N f) N s1 x1 x2 x3 x5 (nI 0))
set_option maxRecDepth 100000 in
set_option maxHeartbeats 4000000 in
theorem w_X6_protect_94 {d : St} {rest : mx_W} {N : Nat} : ∀ (f : Nat) (s : St) (x1 : Int32) (x2 : Int32) (x3 : Int32) (x4 : Int32) (x5 : Int32) (r : Int32) (t : St), F_X6_protect_94 N f s x1 x2 x3 x4 x5 = some (r, t) → X 126 (94, [(0, .ref 18), (1, .int x1), (2, .int x2), (3, .int x3), (4, .int x4), (5, .int x5)], [], wd d (wm s rest), 0, 0) (some (.int r), wd d (wm t rest), 0, 0) := by
  intro f
  induction f with
  | zero => intro s x1 x2 x3 x4 x5 r t h; rw [F_X6_protect_94.eq_1] at h; cases h
  | succ f ih =>
    intro s x1 x2 x3 x4 x5 r t h
    rw [F_X6_protect_94.eq_2] at h
    refine xs tn_X6_protect [(94, .iload 5, 2), (96, .iload_n 2, 1)] (st' := (97, [(0, .ref 18), (1, .int x1), (2, .int x2), (3, .int x3), (4, .int x4), (5, .int x5)], [.int x2, .int x5], wd d (wm s rest), 0, 0)) (List.forall_mem_cons.mpr ⟨dX6_protect_94, List.forall_mem_cons.mpr ⟨dX6_protect_96, fun _ h => absurd h List.not_mem_nil⟩⟩) rfl ?_
    refine xcmpF (t := 209) tn_X6_protect dX6_protect_97 (by decide) h (fun h => ?_) (fun h => ?_)
    · refine xs tn_X6_protect [(209, .iload 4, 2)] (st' := (211, [(0, .ref 18), (1, .int x1), (2, .int x2), (3, .int x3), (4, .int x4), (5, .int x5)], [.int x4], wd d (wm s rest), 0, 0)) (List.forall_mem_cons.mpr ⟨dX6_protect_209, fun _ h => absurd h List.not_mem_nil⟩) rfl ?_
      cases h
      exact xret tn_X6_protect rfl dX6_protect_211
    · refine xs tn_X6_protect [(100, .aload_n 0, 1), (101, .iconst 4, 1), (102, .iload_n 1, 1), (103, .iload 5, 2), (105, .iconst 0, 1)] (st' := (106, [(0, .ref 18), (1, .int x1), (2, .int x2), (3, .int x3), (4, .int x4), (5, .int x5)], [.int (nI 0), .int x5, .int x1, .int (nI 4), .ref 18], wd d (wm s rest), 0, 0)) (List.forall_mem_cons.mpr ⟨dX6_protect_100, List.forall_mem_cons.mpr ⟨dX6_protect_101, List.forall_mem_cons.mpr ⟨dX6_protect_102, List.forall_mem_cons.mpr ⟨dX6_protect_103, List.forall_mem_cons.mpr ⟨dX6_protect_105, fun _ h => absurd h List.not_mem_nil⟩⟩⟩⟩⟩) rfl ?_
      obtain ⟨s1, h2, h⟩ := obind h
      refine xcall tn_X6_protect dX6_protect_106 rfl rfl (w_X6_begin h2) ?_
      show X 126 (109, [(0, .ref 18), (1, .int x1), (2, .int x2), (3, .int x3), (4, .int x4), (5, .int x5)], [], wd d (wm s1 rest), 0, 0) _
      refine xs tn_X6_protect [(109, .iconst 0, 1), (110, .istore 6, 2)] (st' := (112, [(6, .int (nI 0)), (0, .ref 18), (1, .int x1), (2, .int x2), (3, .int x3), (4, .int x4), (5, .int x5)], [], wd d (wm s1 rest), 0, 0)) (List.forall_mem_cons.mpr ⟨dX6_protect_109, List.forall_mem_cons.mpr ⟨dX6_protect_110, fun _ h => absurd h List.not_mem_nil⟩⟩) rfl ?_
      refine xwk [0, 1, 2, 3, 5, 6] rfl rfl ?_
      exact w_X6_protect_112 ih N _ _ _ _ _ _ _ _ h
def F_X6_protect (N : Nat) (s : St) (x1 : Int32) (x2 : Int32) : Option (Int32 × St) := bnd (sI s 0 (nI 0)) fun s1 => (F_X6_isRow s1 x1).bind fun v2 => bif mx_cnd .eq v2 0 then (some (-nI 2, s1)) else ((F_X6_in x2 (nI 1) (nI 2)).bind fun v4 => bif mx_cnd .ne v4 0 then (bif mx_cnd .eq (gI s1 1) 0 then (some (-nI 3, s1)) else ((F_X6_sectorOf N s1 x1).bind fun v6 => bif mx_cnd .eq v6 (-nI 1) then (some (-nI 3, s1)) else ((F_X6_missingAt N s1 v6).bind fun v8 => bif mx_cnd .le v8 0 then (bif mx_cnd .ne (gI s1 7) (-nI 1) then (bif mx_cnd .ge ((nI (gN s1)) - (gI s1 2)) (x2 + (nI 5)) then (F_X6_protect_94 N N s1 x1 x2 v6 (-nI 1) (nI 0)) else (some (-nI 4, s1))) else (bif mx_cnd .ge ((nI (gN s1)) - (gI s1 2)) (x2 + (nI 0)) then (F_X6_protect_94 N N s1 x1 x2 v6 (-nI 1) (nI 0)) else (some (-nI 4, s1)))) else (some (-nI 3, s1))))) else (some (-nI 2, s1)))
set_option maxRecDepth 100000 in
set_option maxHeartbeats 4000000 in
theorem w_X6_protect {d : St} {rest : mx_W} {N : Nat} {s : St} {x1 : Int32} {x2 : Int32} {r : Int32} {t : St} (h : F_X6_protect N s x1 x2 = some (r, t)) : X 126 (0, [(0, .ref 18), (1, .int x1), (2, .int x2)], [], wd d (wm s rest), 0, 0) (some (.int r), wd d (wm t rest), 0, 0) := by
  unfold F_X6_protect at h
  refine xs tn_X6_protect [(0, .aload_n 0, 1), (1, .iconst 0, 1)] (st' := (2, [(0, .ref 18), (1, .int x1), (2, .int x2)], [.int (nI 0), .ref 18], wd d (wm s rest), 0, 0)) (List.forall_mem_cons.mpr ⟨dX6_protect_0, List.forall_mem_cons.mpr ⟨dX6_protect_1, fun _ h => absurd h List.not_mem_nil⟩⟩) rfl ?_
  refine xput_b0 tn_X6_protect dX6_protect_2 rfl h (fun s1 h => ?_)
  refine xs tn_X6_protect [(5, .aload_n 0, 1), (6, .iload_n 1, 1)] (st' := (7, [(0, .ref 18), (1, .int x1), (2, .int x2)], [.int x1, .ref 18], wd d (wm s1 rest), 0, 0)) (List.forall_mem_cons.mpr ⟨dX6_protect_5, List.forall_mem_cons.mpr ⟨dX6_protect_6, fun _ h => absurd h List.not_mem_nil⟩⟩) rfl ?_
  obtain ⟨v2, h3, h⟩ := obind h
  refine xcall tn_X6_protect dX6_protect_7 rfl rfl (w_X6_isRow h3) ?_
  show X 126 (10, [(0, .ref 18), (1, .int x1), (2, .int x2)], [.int v2], wd d (wm s1 rest), 0, 0) _
  refine xifF (t := 22) tn_X6_protect dX6_protect_10 (by decide) h (fun h => ?_) (fun h => ?_)
  · refine xs tn_X6_protect [(22, .bipush (-2), 2)] (st' := (24, [(0, .ref 18), (1, .int x1), (2, .int x2)], [.int (-nI 2)], wd d (wm s1 rest), 0, 0)) (List.forall_mem_cons.mpr ⟨dX6_protect_22, fun _ h => absurd h List.not_mem_nil⟩) rfl ?_
    cases h
    exact xret tn_X6_protect rfl dX6_protect_24
  · refine xs tn_X6_protect [(13, .iload_n 2, 1), (14, .iconst 1, 1), (15, .iconst 2, 1)] (st' := (16, [(0, .ref 18), (1, .int x1), (2, .int x2)], [.int (nI 2), .int (nI 1), .int x2], wd d (wm s1 rest), 0, 0)) (List.forall_mem_cons.mpr ⟨dX6_protect_13, List.forall_mem_cons.mpr ⟨dX6_protect_14, List.forall_mem_cons.mpr ⟨dX6_protect_15, fun _ h => absurd h List.not_mem_nil⟩⟩⟩) rfl ?_
    obtain ⟨v4, h5, h⟩ := obind h
    refine xcall tn_X6_protect dX6_protect_16 rfl rfl (w_X6_in h5) ?_
    show X 126 (19, [(0, .ref 18), (1, .int x1), (2, .int x2)], [.int v4], wd d (wm s1 rest), 0, 0) _
    refine xifF (t := 25) tn_X6_protect dX6_protect_19 (by decide) h (fun h => ?_) (fun h => ?_)
    · refine xs tn_X6_protect [(25, .aload_n 0, 1), (26, .getfield 17, 3)] (st' := (29, [(0, .ref 18), (1, .int x1), (2, .int x2)], [.int (gI s1 1)], wd d (wm s1 rest), 0, 0)) (List.forall_mem_cons.mpr ⟨dX6_protect_25, List.forall_mem_cons.mpr ⟨dX6_protect_26, fun _ h => absurd h List.not_mem_nil⟩⟩) rfl ?_
      refine xifF (t := 40) tn_X6_protect dX6_protect_29 (by decide) h (fun h => ?_) (fun h => ?_)
      · refine xs tn_X6_protect [(40, .iconst (-1), 1), (41, .istore_n 3, 1), (42, .iload_n 3, 1), (43, .iconst (-1), 1)] (st' := (44, [(3, .int (-nI 1)), (0, .ref 18), (1, .int x1), (2, .int x2)], [.int (-nI 1), .int (-nI 1)], wd d (wm s1 rest), 0, 0)) (List.forall_mem_cons.mpr ⟨dX6_protect_40, List.forall_mem_cons.mpr ⟨dX6_protect_41, List.forall_mem_cons.mpr ⟨dX6_protect_42, List.forall_mem_cons.mpr ⟨dX6_protect_43, fun _ h => absurd h List.not_mem_nil⟩⟩⟩⟩) rfl ?_
        refine xcmpT (t := 55) tn_X6_protect dX6_protect_44 (by decide) (by decide) ?_
        refine xs tn_X6_protect [(55, .bipush (-3), 2)] (st' := (57, [(3, .int (-nI 1)), (0, .ref 18), (1, .int x1), (2, .int x2)], [.int (-nI 3)], wd d (wm s1 rest), 0, 0)) (List.forall_mem_cons.mpr ⟨dX6_protect_55, fun _ h => absurd h List.not_mem_nil⟩) rfl ?_
        cases h
        exact xret tn_X6_protect rfl dX6_protect_57
      · refine xs tn_X6_protect [(32, .aload_n 0, 1), (33, .iload_n 1, 1)] (st' := (34, [(0, .ref 18), (1, .int x1), (2, .int x2)], [.int x1, .ref 18], wd d (wm s1 rest), 0, 0)) (List.forall_mem_cons.mpr ⟨dX6_protect_32, List.forall_mem_cons.mpr ⟨dX6_protect_33, fun _ h => absurd h List.not_mem_nil⟩⟩) rfl ?_
        obtain ⟨v6, h7, h⟩ := obind h
        refine xcall tn_X6_protect dX6_protect_34 rfl rfl (w_X6_sectorOf h7) ?_
        show X 126 (37, [(0, .ref 18), (1, .int x1), (2, .int x2)], [.int v6], wd d (wm s1 rest), 0, 0) _
        refine xs tn_X6_protect [(37, .goto 4, 3), (41, .istore_n 3, 1), (42, .iload_n 3, 1), (43, .iconst (-1), 1)] (st' := (44, [(3, .int v6), (0, .ref 18), (1, .int x1), (2, .int x2)], [.int (-nI 1), .int v6], wd d (wm s1 rest), 0, 0)) (List.forall_mem_cons.mpr ⟨dX6_protect_37, List.forall_mem_cons.mpr ⟨dX6_protect_41, List.forall_mem_cons.mpr ⟨dX6_protect_42, List.forall_mem_cons.mpr ⟨dX6_protect_43, fun _ h => absurd h List.not_mem_nil⟩⟩⟩⟩) rfl ?_
        refine xcmpF (t := 55) tn_X6_protect dX6_protect_44 (by decide) h (fun h => ?_) (fun h => ?_)
        · refine xs tn_X6_protect [(55, .bipush (-3), 2)] (st' := (57, [(3, .int v6), (0, .ref 18), (1, .int x1), (2, .int x2)], [.int (-nI 3)], wd d (wm s1 rest), 0, 0)) (List.forall_mem_cons.mpr ⟨dX6_protect_55, fun _ h => absurd h List.not_mem_nil⟩) rfl ?_
          cases h
          exact xret tn_X6_protect rfl dX6_protect_57
        · refine xs tn_X6_protect [(47, .aload_n 0, 1), (48, .iload_n 3, 1)] (st' := (49, [(3, .int v6), (0, .ref 18), (1, .int x1), (2, .int x2)], [.int v6, .ref 18], wd d (wm s1 rest), 0, 0)) (List.forall_mem_cons.mpr ⟨dX6_protect_47, List.forall_mem_cons.mpr ⟨dX6_protect_48, fun _ h => absurd h List.not_mem_nil⟩⟩) rfl ?_
          obtain ⟨v8, h9, h⟩ := obind h
          refine xcall tn_X6_protect dX6_protect_49 rfl rfl (w_X6_missingAt h9) ?_
          show X 126 (52, [(3, .int v6), (0, .ref 18), (1, .int x1), (2, .int x2)], [.int v8], wd d (wm s1 rest), 0, 0) _
          refine xifF (t := 58) tn_X6_protect dX6_protect_52 (by decide) h (fun h => ?_) (fun h => ?_)
          · refine xs tn_X6_protect [(58, .aload_n 0, 1), (59, .getfield 67, 3), (62, .aload_n 0, 1), (63, .getfield 21, 3), (66, .isub, 1), (67, .iload_n 2, 1), (68, .aload_n 0, 1), (69, .getfield 25, 3), (72, .iconst (-1), 1)] (st' := (73, [(3, .int v6), (0, .ref 18), (1, .int x1), (2, .int x2)], [.int (-nI 1), .int (gI s1 7), .int x2, .int ((nI (gN s1)) - (gI s1 2))], wd d (wm s1 rest), 0, 0)) (List.forall_mem_cons.mpr ⟨dX6_protect_58, List.forall_mem_cons.mpr ⟨dX6_protect_59, List.forall_mem_cons.mpr ⟨dX6_protect_62, List.forall_mem_cons.mpr ⟨dX6_protect_63, List.forall_mem_cons.mpr ⟨dX6_protect_66, List.forall_mem_cons.mpr ⟨dX6_protect_67, List.forall_mem_cons.mpr ⟨dX6_protect_68, List.forall_mem_cons.mpr ⟨dX6_protect_69, List.forall_mem_cons.mpr ⟨dX6_protect_72, fun _ h => absurd h List.not_mem_nil⟩⟩⟩⟩⟩⟩⟩⟩⟩) rfl ?_
            refine xcmpF (t := 80) tn_X6_protect dX6_protect_73 (by decide) h (fun h => ?_) (fun h => ?_)
            · refine xs tn_X6_protect [(80, .iconst 5, 1), (81, .iadd, 1)] (st' := (82, [(3, .int v6), (0, .ref 18), (1, .int x1), (2, .int x2)], [.int (x2 + (nI 5)), .int ((nI (gN s1)) - (gI s1 2))], wd d (wm s1 rest), 0, 0)) (List.forall_mem_cons.mpr ⟨dX6_protect_80, List.forall_mem_cons.mpr ⟨dX6_protect_81, fun _ h => absurd h List.not_mem_nil⟩⟩) rfl ?_
              refine xcmpF (t := 88) tn_X6_protect dX6_protect_82 (by decide) h (fun h => ?_) (fun h => ?_)
              · refine xs tn_X6_protect [(88, .iconst (-1), 1), (89, .istore 4, 2), (91, .iconst 0, 1), (92, .istore 5, 2)] (st' := (94, [(5, .int (nI 0)), (4, .int (-nI 1)), (3, .int v6), (0, .ref 18), (1, .int x1), (2, .int x2)], [], wd d (wm s1 rest), 0, 0)) (List.forall_mem_cons.mpr ⟨dX6_protect_88, List.forall_mem_cons.mpr ⟨dX6_protect_89, List.forall_mem_cons.mpr ⟨dX6_protect_91, List.forall_mem_cons.mpr ⟨dX6_protect_92, fun _ h => absurd h List.not_mem_nil⟩⟩⟩⟩) rfl ?_
                refine xwk [0, 1, 2, 3, 4, 5] rfl rfl ?_
                exact w_X6_protect_94 N _ _ _ _ _ _ _ _ h
              · refine xs tn_X6_protect [(85, .bipush (-4), 2)] (st' := (87, [(3, .int v6), (0, .ref 18), (1, .int x1), (2, .int x2)], [.int (-nI 4)], wd d (wm s1 rest), 0, 0)) (List.forall_mem_cons.mpr ⟨dX6_protect_85, fun _ h => absurd h List.not_mem_nil⟩) rfl ?_
                cases h
                exact xret tn_X6_protect rfl dX6_protect_87
            · refine xs tn_X6_protect [(76, .iconst 0, 1), (77, .goto 4, 3), (81, .iadd, 1)] (st' := (82, [(3, .int v6), (0, .ref 18), (1, .int x1), (2, .int x2)], [.int (x2 + (nI 0)), .int ((nI (gN s1)) - (gI s1 2))], wd d (wm s1 rest), 0, 0)) (List.forall_mem_cons.mpr ⟨dX6_protect_76, List.forall_mem_cons.mpr ⟨dX6_protect_77, List.forall_mem_cons.mpr ⟨dX6_protect_81, fun _ h => absurd h List.not_mem_nil⟩⟩⟩) rfl ?_
              refine xcmpF (t := 88) tn_X6_protect dX6_protect_82 (by decide) h (fun h => ?_) (fun h => ?_)
              · refine xs tn_X6_protect [(88, .iconst (-1), 1), (89, .istore 4, 2), (91, .iconst 0, 1), (92, .istore 5, 2)] (st' := (94, [(5, .int (nI 0)), (4, .int (-nI 1)), (3, .int v6), (0, .ref 18), (1, .int x1), (2, .int x2)], [], wd d (wm s1 rest), 0, 0)) (List.forall_mem_cons.mpr ⟨dX6_protect_88, List.forall_mem_cons.mpr ⟨dX6_protect_89, List.forall_mem_cons.mpr ⟨dX6_protect_91, List.forall_mem_cons.mpr ⟨dX6_protect_92, fun _ h => absurd h List.not_mem_nil⟩⟩⟩⟩) rfl ?_
                refine xwk [0, 1, 2, 3, 4, 5] rfl rfl ?_
                exact w_X6_protect_94 N _ _ _ _ _ _ _ _ h
              · refine xs tn_X6_protect [(85, .bipush (-4), 2)] (st' := (87, [(3, .int v6), (0, .ref 18), (1, .int x1), (2, .int x2)], [.int (-nI 4)], wd d (wm s1 rest), 0, 0)) (List.forall_mem_cons.mpr ⟨dX6_protect_85, fun _ h => absurd h List.not_mem_nil⟩) rfl ?_
                cases h
                exact xret tn_X6_protect rfl dX6_protect_87
          · refine xs tn_X6_protect [(55, .bipush (-3), 2)] (st' := (57, [(3, .int v6), (0, .ref 18), (1, .int x1), (2, .int x2)], [.int (-nI 3)], wd d (wm s1 rest), 0, 0)) (List.forall_mem_cons.mpr ⟨dX6_protect_55, fun _ h => absurd h List.not_mem_nil⟩) rfl ?_
            cases h
            exact xret tn_X6_protect rfl dX6_protect_57
    · refine xs tn_X6_protect [(22, .bipush (-2), 2)] (st' := (24, [(0, .ref 18), (1, .int x1), (2, .int x2)], [.int (-nI 2)], wd d (wm s1 rest), 0, 0)) (List.forall_mem_cons.mpr ⟨dX6_protect_22, fun _ h => absurd h List.not_mem_nil⟩) rfl ?_
      cases h
      exact xret tn_X6_protect rfl dX6_protect_24
