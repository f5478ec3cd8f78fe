def F_X6_findRest_31_29 (N : Nat) (K : St → Int32 → Int32 → Int32 → Int32 → Option (St)) : Nat → St → Int32 → Int32 → Int32 → Int32 → Int32 → Int32 → Option (St)
  | 0, _, _, _, _, _, _, _ => none
  | f + 1, s, x1, x2, x3, x5, x6, x7 => (F_X6_blocksAt s x1).bind fun v1 => bif mx_cnd .ge x7 v1 then (stA s 12 24 x5 x6 fun s3 => K s3 x1 x2 x3 (x5 + (nI 1))) else ((F_X6_blockAt s x1 x7).bind fun v4 => (F_X6_isBlock N s v4).bind fun v6 => bif mx_cnd .eq v6 0 then (F_X6_findRest_31_29 N K f s x1 x2 x3 x5 x6 (x7 + (nI 1))) else (ldA (gA s 0) 1920 ((((nI 32) * v4) + (nI 4)) + x5) fun v8 => (F_X6_weight x3 x7).bind fun v9 => (F_X6_product N v8 v9).bind fun v11 => F_X6_findRest_31_29 N K f s x1 x2 x3 x5 (x6 ^^^ v11) (x7 + (nI 1))))
set_option maxRecDepth 100000 in
set_option maxHeartbeats 4000000 in
theorem w_X6_findRest_31_29 {d : St} {rest : mx_W} {N : Nat} {K : St → Int32 → Int32 → Int32 → Int32 → Option (St)} (hK : ∀ (s : St) (x1 : Int32) (x2 : Int32) (x3 : Int32) (x5 : Int32) (r : St), K s x1 x2 x3 x5 = some r → X 111 (3, [(0, .ref 18), (1, .int x1), (2, .int x2), (3, .int x3), (4, .ref 31), (5, .int x5)], [], wd d (wm s rest), 0, 0) (none, wd d (wm r rest), 0, 0)) : ∀ (f : Nat) (s : St) (x1 : Int32) (x2 : Int32) (x3 : Int32) (x5 : Int32) (x6 : Int32) (x7 : Int32) (r : St), F_X6_findRest_31_29 N K f s x1 x2 x3 x5 x6 x7 = some r → X 111 (29, [(0, .ref 18), (1, .int x1), (2, .int x2), (3, .int x3), (4, .ref 31), (5, .int x5), (6, .int x6), (7, .int x7)], [], wd d (wm s rest), 0, 0) (none, wd d (wm r rest), 0, 0) := by
  intro f
  induction f with
  | zero => intro s x1 x2 x3 x5 x6 x7 r h; rw [F_X6_findRest_31_29.eq_1] at h; cases h
  | succ f ih =>
    intro s x1 x2 x3 x5 x6 x7 r h
    rw [F_X6_findRest_31_29.eq_2] at h
    refine xs tn_X6_findRest [(29, .iload 7, 2), (31, .aload_n 0, 1), (32, .iload_n 1, 1)] (st' := (33, [(0, .ref 18), (1, .int x1), (2, .int x2), (3, .int x3), (4, .ref 31), (5, .int x5), (6, .int x6), (7, .int x7)], [.int x1, .ref 18, .int x7], wd d (wm s rest), 0, 0)) (List.forall_mem_cons.mpr ⟨dX6_findRest_29, List.forall_mem_cons.mpr ⟨dX6_findRest_31, List.forall_mem_cons.mpr ⟨dX6_findRest_32, fun _ h => absurd h List.not_mem_nil⟩⟩⟩) rfl ?_
    obtain ⟨v1, h2, h⟩ := obind h
    refine xcall tn_X6_findRest dX6_findRest_33 rfl rfl (w_X6_blocksAt h2) ?_
    show X 111 (36, [(0, .ref 18), (1, .int x1), (2, .int x2), (3, .int x3), (4, .ref 31), (5, .int x5), (6, .int x6), (7, .int x7)], [.int v1, .int x7], wd d (wm s rest), 0, 0) _
    refine xcmpF (t := 97) tn_X6_findRest dX6_findRest_36 (by decide) h (fun h => ?_) (fun h => ?_)
    · refine xs tn_X6_findRest [(97, .aload 4, 2), (99, .iload 5, 2), (101, .iload 6, 2)] (st' := (103, [(0, .ref 18), (1, .int x1), (2, .int x2), (3, .int x3), (4, .ref 31), (5, .int x5), (6, .int x6), (7, .int x7)], [.int x6, .int x5, .ref 31], wd d (wm s rest), 0, 0)) (List.forall_mem_cons.mpr ⟨dX6_findRest_97, List.forall_mem_cons.mpr ⟨dX6_findRest_99, List.forall_mem_cons.mpr ⟨dX6_findRest_101, fun _ h => absurd h List.not_mem_nil⟩⟩⟩) rfl ?_
      refine xstF (W := fun s => wd d (wm s rest)) tn_X6_findRest dX6_findRest_103 at_31 (fun _ => set_31) h (fun s3 h => ?_)
      refine xs tn_X6_findRest [(104, .iinc 5 1, 3), (107, .goto (-104), 3)] (st' := (3, [(0, .ref 18), (1, .int x1), (2, .int x2), (3, .int x3), (4, .ref 31), (5, .int (x5 + (nI 1))), (6, .int x6), (7, .int x7)], [], wd d (wm s3 rest), 0, 0)) (List.forall_mem_cons.mpr ⟨dX6_findRest_104, List.forall_mem_cons.mpr ⟨dX6_findRest_107, fun _ h => absurd h List.not_mem_nil⟩⟩) rfl ?_
      refine xwk [0, 1, 2, 3, 4, 5] rfl rfl ?_
      exact hK _ _ _ _ _ _ h
    · refine xs tn_X6_findRest [(39, .aload_n 0, 1), (40, .iload_n 1, 1), (41, .iload 7, 2)] (st' := (43, [(0, .ref 18), (1, .int x1), (2, .int x2), (3, .int x3), (4, .ref 31), (5, .int x5), (6, .int x6), (7, .int x7)], [.int x7, .int x1, .ref 18], wd d (wm s rest), 0, 0)) (List.forall_mem_cons.mpr ⟨dX6_findRest_39, List.forall_mem_cons.mpr ⟨dX6_findRest_40, List.forall_mem_cons.mpr ⟨dX6_findRest_41, fun _ h => absurd h List.not_mem_nil⟩⟩⟩) rfl ?_
      obtain ⟨v4, h5, h⟩ := obind h
      refine xcall tn_X6_findRest dX6_findRest_43 rfl rfl (w_X6_blockAt h5) ?_
      show X 111 (46, [(0, .ref 18), (1, .int x1), (2, .int x2), (3, .int x3), (4, .ref 31), (5, .int x5), (6, .int x6), (7, .int x7)], [.int v4], wd d (wm s rest), 0, 0) _
      refine xs tn_X6_findRest [(46, .istore 8, 2), (48, .aload_n 0, 1), (49, .iload 8, 2)] (st' := (51, [(8, .int v4), (0, .ref 18), (1, .int x1), (2, .int x2), (3, .int x3), (4, .ref 31), (5, .int x5), (6, .int x6), (7, .int x7)], [.int v4, .ref 18], wd d (wm s rest), 0, 0)) (List.forall_mem_cons.mpr ⟨dX6_findRest_46, List.forall_mem_cons.mpr ⟨dX6_findRest_48, List.forall_mem_cons.mpr ⟨dX6_findRest_49, fun _ h => absurd h List.not_mem_nil⟩⟩⟩) rfl ?_
      obtain ⟨v6, h7, h⟩ := obind h
      refine xcall tn_X6_findRest dX6_findRest_51 rfl rfl (w_X6_isBlock h7) ?_
      show X 111 (54, [(8, .int v4), (0, .ref 18), (1, .int x1), (2, .int x2), (3, .int x3), (4, .ref 31), (5, .int x5), (6, .int x6), (7, .int x7)], [.int v6], wd d (wm s rest), 0, 0) _
      refine xifF (t := 87) tn_X6_findRest dX6_findRest_54 (by decide) h (fun h => ?_) (fun h => ?_)
      · refine xs tn_X6_findRest [(87, .iload 6, 2), (89, .istore 6, 2), (91, .iinc 7 1, 3), (94, .goto (-65), 3)] (st' := (29, [(8, .int v4), (0, .ref 18), (1, .int x1), (2, .int x2), (3, .int x3), (4, .ref 31), (5, .int x5), (6, .int x6), (7, .int (x7 + (nI 1)))], [], wd d (wm s rest), 0, 0)) (List.forall_mem_cons.mpr ⟨dX6_findRest_87, List.forall_mem_cons.mpr ⟨dX6_findRest_89, List.forall_mem_cons.mpr ⟨dX6_findRest_91, List.forall_mem_cons.mpr ⟨dX6_findRest_94, fun _ h => absurd h List.not_mem_nil⟩⟩⟩⟩) rfl ?_
        refine xwk [0, 1, 2, 3, 4, 5, 6, 7] rfl rfl ?_
        exact ih _ _ _ _ _ _ _ _ h
      · refine xs tn_X6_findRest [(57, .iload 6, 2), (59, .aload_n 0, 1), (60, .getfield 7, 3), (63, .bipush 32, 2), (65, .iload 8, 2), (67, .imul, 1), (68, .iconst 4, 1), (69, .iadd, 1), (70, .iload 5, 2), (72, .iadd, 1)] (st' := (73, [(8, .int v4), (0, .ref 18), (1, .int x1), (2, .int x2), (3, .int x3), (4, .ref 31), (5, .int x5), (6, .int x6), (7, .int x7)], [.int ((((nI 32) * v4) + (nI 4)) + x5), .ref 19, .int x6], wd d (wm s rest), 0, 0)) (List.forall_mem_cons.mpr ⟨dX6_findRest_57, List.forall_mem_cons.mpr ⟨dX6_findRest_59, List.forall_mem_cons.mpr ⟨dX6_findRest_60, List.forall_mem_cons.mpr ⟨dX6_findRest_63, List.forall_mem_cons.mpr ⟨dX6_findRest_65, List.forall_mem_cons.mpr ⟨dX6_findRest_67, List.forall_mem_cons.mpr ⟨dX6_findRest_68, List.forall_mem_cons.mpr ⟨dX6_findRest_69, List.forall_mem_cons.mpr ⟨dX6_findRest_70, List.forall_mem_cons.mpr ⟨dX6_findRest_72, fun _ h => absurd h List.not_mem_nil⟩⟩⟩⟩⟩⟩⟩⟩⟩⟩) rfl ?_
        refine xldF tn_X6_findRest dX6_findRest_73 at_19 h (fun v8 h => ?_)
        refine xs tn_X6_findRest [(74, .iload_n 3, 1), (75, .iload 7, 2)] (st' := (77, [(8, .int v4), (0, .ref 18), (1, .int x1), (2, .int x2), (3, .int x3), (4, .ref 31), (5, .int x5), (6, .int x6), (7, .int x7)], [.int x7, .int x3, .int v8, .int x6], wd d (wm s rest), 0, 0)) (List.forall_mem_cons.mpr ⟨dX6_findRest_74, List.forall_mem_cons.mpr ⟨dX6_findRest_75, fun _ h => absurd h List.not_mem_nil⟩⟩) rfl ?_
        obtain ⟨v9, h10, h⟩ := obind h
        refine xcall tn_X6_findRest dX6_findRest_77 rfl rfl (w_X6_weight h10) ?_
        show X 111 (80, [(8, .int v4), (0, .ref 18), (1, .int x1), (2, .int x2), (3, .int x3), (4, .ref 31), (5, .int x5), (6, .int x6), (7, .int x7)], [.int v9, .int v8, .int x6], wd d (wm s rest), 0, 0) _
        obtain ⟨v11, h12, h⟩ := obind h
        refine xcall tn_X6_findRest dX6_findRest_80 rfl rfl (w_X6_product h12) ?_
        show X 111 (83, [(8, .int v4), (0, .ref 18), (1, .int x1), (2, .int x2), (3, .int x3), (4, .ref 31), (5, .int x5), (6, .int x6), (7, .int x7)], [.int v11, .int x6], wd d (wm s rest), 0, 0) _
        refine xs tn_X6_findRest [(83, .ixor, 1), (84, .goto 5, 3), (89, .istore 6, 2), (91, .iinc 7 1, 3), (94, .goto (-65), 3)] (st' := (29, [(8, .int v4), (0, .ref 18), (1, .int x1), (2, .int x2), (3, .int x3), (4, .ref 31), (5, .int x5), (6, .int (x6 ^^^ v11)), (7, .int (x7 + (nI 1)))], [], wd d (wm s rest), 0, 0)) (List.forall_mem_cons.mpr ⟨dX6_findRest_83, List.forall_mem_cons.mpr ⟨dX6_findRest_84, List.forall_mem_cons.mpr ⟨dX6_findRest_89, List.forall_mem_cons.mpr ⟨dX6_findRest_91, List.forall_mem_cons.mpr ⟨dX6_findRest_94, fun _ h => absurd h List.not_mem_nil⟩⟩⟩⟩⟩) rfl ?_
        refine xwk [0, 1, 2, 3, 4, 5, 6, 7] rfl rfl ?_
        exact ih _ _ _ _ _ _ _ _ h
def F_X6_findRest_31_3 (N : Nat) : Nat → St → Int32 → Int32 → Int32 → Int32 → Option (St)
  | 0, _, _, _, _, _ => none
  | f + 1, s, x1, x2, x3, x5 => bif mx_cnd .ge x5 (nI 24) then (some s) else (ldA (gA s 0) 1920 ((((nI 32) * x2) + (nI 4)) + x5) fun v1 => F_X6_findRest_31_29 N (F_X6_findRest_31_3 N f) N s x1 x2 x3 x5 v1 (nI 0))
set_option maxRecDepth 100000 in
set_option maxHeartbeats 4000000 in
theorem w_X6_findRest_31_3 {d : St} {rest : mx_W} {N : Nat} : ∀ (f : Nat) (s : St) (x1 : Int32) (x2 : Int32) (x3 : Int32) (x5 : Int32) (r : St), F_X6_findRest_31_3 N f s x1 x2 x3 x5 = some r → X 111 (3, [(0, .ref 18), (1, .int x1), (2, .int x2), (3, .int x3), (4, .ref 31), (5, .int x5)], [], wd d (wm s rest), 0, 0) (none, wd d (wm r rest), 0, 0) := by
  intro f
  induction f with
  | zero => intro s x1 x2 x3 x5 r h; rw [F_X6_findRest_31_3.eq_1] at h; cases h
  | succ f ih =>
    intro s x1 x2 x3 x5 r h
    rw [F_X6_findRest_31_3.eq_2] at h
    refine xs tn_X6_findRest [(3, .iload 5, 2), (5, .bipush 24, 2)] (st' := (7, [(0, .ref 18), (1, .int x1), (2, .int x2), (3, .int x3), (4, .ref 31), (5, .int x5)], [.int (nI 24), .int x5], wd d (wm s rest), 0, 0)) (List.forall_mem_cons.mpr ⟨dX6_findRest_3, List.forall_mem_cons.mpr ⟨dX6_findRest_5, fun _ h => absurd h List.not_mem_nil⟩⟩) rfl ?_
    refine xcmpF (t := 110) tn_X6_findRest dX6_findRest_7 (by decide) h (fun h => ?_) (fun h => ?_)
    · cases h
      exact xretv tn_X6_findRest rfl dX6_findRest_110
    · refine xs tn_X6_findRest [(10, .aload_n 0, 1), (11, .getfield 7, 3), (14, .bipush 32, 2), (16, .iload_n 2, 1), (17, .imul, 1), (18, .iconst 4, 1), (19, .iadd, 1), (20, .iload 5, 2), (22, .iadd, 1)] (st' := (23, [(0, .ref 18), (1, .int x1), (2, .int x2), (3, .int x3), (4, .ref 31), (5, .int x5)], [.int ((((nI 32) * x2) + (nI 4)) + x5), .ref 19], wd d (wm s rest), 0, 0)) (List.forall_mem_cons.mpr ⟨dX6_findRest_10, List.forall_mem_cons.mpr ⟨dX6_findRest_11, List.forall_mem_cons.mpr ⟨dX6_findRest_14, List.forall_mem_cons.mpr ⟨dX6_findRest_16, List.forall_mem_cons.mpr ⟨dX6_findRest_17, List.forall_mem_cons.mpr ⟨dX6_findRest_18, List.forall_mem_cons.mpr ⟨dX6_findRest_19, List.forall_mem_cons.mpr ⟨dX6_findRest_20, List.forall_mem_cons.mpr ⟨dX6_findRest_22, fun _ h => absurd h List.not_mem_nil⟩⟩⟩⟩⟩⟩⟩⟩⟩) rfl ?_
      refine xldF tn_X6_findRest dX6_findRest_23 at_19 h (fun v1 h => ?_)
      refine xs tn_X6_findRest [(24, .istore 6, 2), (26, .iconst 0, 1), (27, .istore 7, 2)] (st' := (29, [(7, .int (nI 0)), (6, .int v1), (0, .ref 18), (1, .int x1), (2, .int x2), (3, .int x3), (4, .ref 31), (5, .int x5)], [], wd d (wm s rest), 0, 0)) (List.forall_mem_cons.mpr ⟨dX6_findRest_24, List.forall_mem_cons.mpr ⟨dX6_findRest_26, List.forall_mem_cons.mpr ⟨dX6_findRest_27, fun _ h => absurd h List.not_mem_nil⟩⟩⟩) rfl ?_
      refine xwk [0, 1, 2, 3, 4, 5, 6, 7] rfl rfl ?_
      exact w_X6_findRest_31_29 ih N _ _ _ _ _ _ _ _ h
def F_X6_findRest_31 (N : Nat) (s : St) (x1 : Int32) (x2 : Int32) (x3 : Int32) : Option (St) := F_X6_findRest_31_3 N N s x1 x2 x3 (nI 0)
set_option maxRecDepth 100000 in
set_option maxHeartbeats 4000000 in
theorem w_X6_findRest_31 {d : St} {rest : mx_W} {N : Nat} {s : St} {x1 : Int32} {x2 : Int32} {x3 : Int32} {r : St} (h : F_X6_findRest_31 N s x1 x2 x3 = some r) : X 111 (0, [(0, .ref 18), (1, .int x1), (2, .int x2), (3, .int x3), (4, .ref 31)], [], wd d (wm s rest), 0, 0) (none, wd d (wm r rest), 0, 0) := by
  unfold F_X6_findRest_31 at h
  refine xs tn_X6_findRest [(0, .iconst 0, 1), (1, .istore 5, 2)] (st' := (3, [(5, .int (nI 0)), (0, .ref 18), (1, .int x1), (2, .int x2), (3, .int x3), (4, .ref 31)], [], wd d (wm s rest), 0, 0)) (List.forall_mem_cons.mpr ⟨dX6_findRest_0, List.forall_mem_cons.mpr ⟨dX6_findRest_1, fun _ h => absurd h List.not_mem_nil⟩⟩) rfl ?_
  refine xwk [0, 1, 2, 3, 4, 5] rfl rfl ?_
  exact w_X6_findRest_31_3 N _ _ _ _ _ _ h
def F_X6_findRest_30_29 (N : Nat) (K : St → Int32 → Int32 → Int32 → Int32 → Option (St)) : Nat → St → Int32 → Int32 → Int32 → Int32 → Int32 → Int32 → Option (St)
  | 0, _, _, _, _, _, _, _ => none
  | f + 1, s, x1, x2, x3, x5, x6, x7 => (F_X6_blocksAt s x1).bind fun v1 => bif mx_cnd .ge x7 v1 then (stA s 11 24 x5 x6 fun s3 => K s3 x1 x2 x3 (x5 + (nI 1))) else ((F_X6_blockAt s x1 x7).bind fun v4 => (F_X6_isBlock N s v4).bind fun v6 => bif mx_cnd .eq v6 0 then (F_X6_findRest_30_29 N K f s x1 x2 x3 x5 x6 (x7 + (nI 1))) else (ldA (gA s 0) 1920 ((((nI 32) * v4) + (nI 4)) + x5) fun v8 => (F_X6_weight x3 x7).bind fun v9 => (F_X6_product N v8 v9).bind fun v11 => F_X6_findRest_30_29 N K f s x1 x2 x3 x5 (x6 ^^^ v11) (x7 + (nI 1))))
set_option maxRecDepth 100000 in
set_option maxHeartbeats 4000000 in
theorem w_X6_findRest_30_29 {d : St} {rest : mx_W} {N : Nat} {K : St → Int32 → Int32 → Int32 → Int32 → Option (St)} (hK : ∀ (s : St) (x1 : Int32) (x2 : Int32) (x3 : Int32) (x5 : Int32) (r : St), K s x1 x2 x3 x5 = some r → X 111 (3, [(0, .ref 18), (1, .int x1), (2, .int x2), (3, .int x3), (4, .ref 30), (5, .int x5)], [], wd d (wm s rest), 0, 0) (none, wd d (wm r rest), 0, 0)) : ∀ (f : Nat) (s : St) (x1 : Int32) (x2 : Int32) (x3 : Int32) (x5 : Int32) (x6 : Int32) (x7 : Int32) (r : St), F_X6_findRest_30_29 N K f s x1 x2 x3 x5 x6 x7 = some r → X 111 (29, [(0, .ref 18), (1, .int x1), (2, .int x2), (3, .int x3), (4, .ref 30), (5, .int x5), (6, .int x6), (7, .int x7)], [], wd d (wm s rest), 0, 0) (none, wd d (wm r rest), 0, 0) := by
  intro f
  induction f with
  | zero => intro s x1 x2 x3 x5 x6 x7 r h; rw [F_X6_findRest_30_29.eq_1] at h; cases h
  | succ f ih =>
    intro s x1 x2 x3 x5 x6 x7 r h
    rw [F_X6_findRest_30_29.eq_2] at h
    refine xs tn_X6_findRest [(29, .iload 7, 2), (31, .aload_n 0, 1), (32, .iload_n 1, 1)] (st' := (33, [(0, .ref 18), (1, .int x1), (2, .int x2), (3, .int x3), (4, .ref 30), (5, .int x5), (6, .int x6), (7, .int x7)], [.int x1, .ref 18, .int x7], wd d (wm s rest), 0, 0)) (List.forall_mem_cons.mpr ⟨dX6_findRest_29, List.forall_mem_cons.mpr ⟨dX6_findRest_31, List.forall_mem_cons.mpr ⟨dX6_findRest_32, fun _ h => absurd h List.not_mem_nil⟩⟩⟩) rfl ?_
    obtain ⟨v1, h2, h⟩ := obind h
    refine xcall tn_X6_findRest dX6_findRest_33 rfl rfl (w_X6_blocksAt h2) ?_
    show X 111 (36, [(0, .ref 18), (1, .int x1), (2, .int x2), (3, .int x3), (4, .ref 30), (5, .int x5), (6, .int x6), (7, .int x7)], [.int v1, .int x7], wd d (wm s rest), 0, 0) _
    refine xcmpF (t := 97) tn_X6_findRest dX6_findRest_36 (by decide) h (fun h => ?_) (fun h => ?_)
    · refine xs tn_X6_findRest [(97, .aload 4, 2), (99, .iload 5, 2), (101, .iload 6, 2)] (st' := (103, [(0, .ref 18), (1, .int x1), (2, .int x2), (3, .int x3), (4, .ref 30), (5, .int x5), (6, .int x6), (7, .int x7)], [.int x6, .int x5, .ref 30], wd d (wm s rest), 0, 0)) (List.forall_mem_cons.mpr ⟨dX6_findRest_97, List.forall_mem_cons.mpr ⟨dX6_findRest_99, List.forall_mem_cons.mpr ⟨dX6_findRest_101, fun _ h => absurd h List.not_mem_nil⟩⟩⟩) rfl ?_
      refine xstF (W := fun s => wd d (wm s rest)) tn_X6_findRest dX6_findRest_103 at_30 (fun _ => set_30) h (fun s3 h => ?_)
      refine xs tn_X6_findRest [(104, .iinc 5 1, 3), (107, .goto (-104), 3)] (st' := (3, [(0, .ref 18), (1, .int x1), (2, .int x2), (3, .int x3), (4, .ref 30), (5, .int (x5 + (nI 1))), (6, .int x6), (7, .int x7)], [], wd d (wm s3 rest), 0, 0)) (List.forall_mem_cons.mpr ⟨dX6_findRest_104, List.forall_mem_cons.mpr ⟨dX6_findRest_107, fun _ h => absurd h List.not_mem_nil⟩⟩) rfl ?_
      refine xwk [0, 1, 2, 3, 4, 5] rfl rfl ?_
      exact hK _ _ _ _ _ _ h
    · refine xs tn_X6_findRest [(39, .aload_n 0, 1), (40, .iload_n 1, 1), (41, .iload 7, 2)] (st' := (43, [(0, .ref 18), (1, .int x1), (2, .int x2), (3, .int x3), (4, .ref 30), (5, .int x5), (6, .int x6), (7, .int x7)], [.int x7, .int x1, .ref 18], wd d (wm s rest), 0, 0)) (List.forall_mem_cons.mpr ⟨dX6_findRest_39, List.forall_mem_cons.mpr ⟨dX6_findRest_40, List.forall_mem_cons.mpr ⟨dX6_findRest_41, fun _ h => absurd h List.not_mem_nil⟩⟩⟩) rfl ?_
      obtain ⟨v4, h5, h⟩ := obind h
      refine xcall tn_X6_findRest dX6_findRest_43 rfl rfl (w_X6_blockAt h5) ?_
      show X 111 (46, [(0, .ref 18), (1, .int x1), (2, .int x2), (3, .int x3), (4, .ref 30), (5, .int x5), (6, .int x6), (7, .int x7)], [.int v4], wd d (wm s rest), 0, 0) _
      refine xs tn_X6_findRest [(46, .istore 8, 2), (48, .aload_n 0, 1), (49, .iload 8, 2)] (st' := (51, [(8, .int v4), (0, .ref 18), (1, .int x1), (2, .int x2), (3, .int x3), (4, .ref 30), (5, .int x5), (6, .int x6), (7, .int x7)], [.int v4, .ref 18], wd d (wm s rest), 0, 0)) (List.forall_mem_cons.mpr ⟨dX6_findRest_46, List.forall_mem_cons.mpr ⟨dX6_findRest_48, List.forall_mem_cons.mpr ⟨dX6_findRest_49, fun _ h => absurd h List.not_mem_nil⟩⟩⟩) rfl ?_
      obtain ⟨v6, h7, h⟩ := obind h
      refine xcall tn_X6_findRest dX6_findRest_51 rfl rfl (w_X6_isBlock h7) ?_
      show X 111 (54, [(8, .int v4), (0, .ref 18), (1, .int x1), (2, .int x2), (3, .int x3), (4, .ref 30), (5, .int x5), (6, .int x6), (7, .int x7)], [.int v6], wd d (wm s rest), 0, 0) _
      refine xifF (t := 87) tn_X6_findRest dX6_findRest_54 (by decide) h (fun h => ?_) (fun h => ?_)
      · refine xs tn_X6_findRest [(87, .iload 6, 2), (89, .istore 6, 2), (91, .iinc 7 1, 3), (94, .goto (-65), 3)] (st' := (29, [(8, .int v4), (0, .ref 18), (1, .int x1), (2, .int x2), (3, .int x3), (4, .ref 30), (5, .int x5), (6, .int x6), (7, .int (x7 + (nI 1)))], [], wd d (wm s rest), 0, 0)) (List.forall_mem_cons.mpr ⟨dX6_findRest_87, List.forall_mem_cons.mpr ⟨dX6_findRest_89, List.forall_mem_cons.mpr ⟨dX6_findRest_91, List.forall_mem_cons.mpr ⟨dX6_findRest_94, fun _ h => absurd h List.not_mem_nil⟩⟩⟩⟩) rfl ?_
        refine xwk [0, 1, 2, 3, 4, 5, 6, 7] rfl rfl ?_
        exact ih _ _ _ _ _ _ _ _ h
      · refine xs tn_X6_findRest [(57, .iload 6, 2), (59, .aload_n 0, 1), (60, .getfield 7, 3), (63, .bipush 32, 2), (65, .iload 8, 2), (67, .imul, 1), (68, .iconst 4, 1), (69, .iadd, 1), (70, .iload 5, 2), (72, .iadd, 1)] (st' := (73, [(8, .int v4), (0, .ref 18), (1, .int x1), (2, .int x2), (3, .int x3), (4, .ref 30), (5, .int x5), (6, .int x6), (7, .int x7)], [.int ((((nI 32) * v4) + (nI 4)) + x5), .ref 19, .int x6], wd d (wm s rest), 0, 0)) (List.forall_mem_cons.mpr ⟨dX6_findRest_57, List.forall_mem_cons.mpr ⟨dX6_findRest_59, List.forall_mem_cons.mpr ⟨dX6_findRest_60, List.forall_mem_cons.mpr ⟨dX6_findRest_63, List.forall_mem_cons.mpr ⟨dX6_findRest_65, List.forall_mem_cons.mpr ⟨dX6_findRest_67, List.forall_mem_cons.mpr ⟨dX6_findRest_68, List.forall_mem_cons.mpr ⟨dX6_findRest_69, List.forall_mem_cons.mpr ⟨dX6_findRest_70, List.forall_mem_cons.mpr ⟨dX6_findRest_72, fun _ h => absurd h List.not_mem_nil⟩⟩⟩⟩⟩⟩⟩⟩⟩⟩) rfl ?_
        refine xldF tn_X6_findRest dX6_findRest_73 at_19 h (fun v8 h => ?_)
        refine xs tn_X6_findRest [(74, .iload_n 3, 1), (75, .iload 7, 2)] (st' := (77, [(8, .int v4), (0, .ref 18), (1, .int x1), (2, .int x2), (3, .int x3), (4, .ref 30), (5, .int x5), (6, .int x6), (7, .int x7)], [.int x7, .int x3, .int v8, .int x6], wd d (wm s rest), 0, 0)) (List.forall_mem_cons.mpr ⟨dX6_findRest_74, List.forall_mem_cons.mpr ⟨dX6_findRest_75, fun _ h => absurd h List.not_mem_nil⟩⟩) rfl ?_
        obtain ⟨v9, h10, h⟩ := obind h
        refine xcall tn_X6_findRest dX6_findRest_77 rfl rfl (w_X6_weight h10) ?_
        show X 111 (80, [(8, .int v4), (0, .ref 18), (1, .int x1), (2, .int x2), (3, .int x3), (4, .ref 30), (5, .int x5), (6, .int x6), (7, .int x7)], [.int v9, .int v8, .int x6], wd d (wm s rest), 0, 0) _
        obtain ⟨v11, h12, h⟩ := obind h
        refine xcall tn_X6_findRest dX6_findRest_80 rfl rfl (w_X6_product h12) ?_
        show X 111 (83, [(8, .int v4), (0, .ref 18), (1, .int x1), (2, .int x2), (3, .int x3), (4, .ref 30), (5, .int x5), (6, .int x6), (7, .int x7)], [.int v11, .int x6], wd d (wm s rest), 0, 0) _
        refine xs tn_X6_findRest [(83, .ixor, 1), (84, .goto 5, 3), (89, .istore 6, 2), (91, .iinc 7 1, 3), (94, .goto (-65), 3)] (st' := (29, [(8, .int v4), (0, .ref 18), (1, .int x1), (2, .int x2), (3, .int x3), (4, .ref 30), (5, .int x5), (6, .int (x6 ^^^ v11)), (7, .int (x7 + (nI 1)))], [], wd d (wm s rest), 0, 0)) (List.forall_mem_cons.mpr ⟨dX6_findRest_83, List.forall_mem_cons.mpr ⟨dX6_findRest_84, List.forall_mem_cons.mpr ⟨dX6_findRest_89, List.forall_mem_cons.mpr ⟨dX6_findRest_91, List.forall_mem_cons.mpr ⟨dX6_findRest_94, fun _ h => absurd h List.not_mem_nil⟩⟩⟩⟩⟩) rfl ?_
        refine xwk [0, 1, 2, 3, 4, 5, 6, 7] rfl rfl ?_
        exact ih _ _ _ _ _ _ _ _ h
def F_X6_findRest_30_3 (N : Nat) : Nat → St → Int32 → Int32 → Int32 → Int32 → Option (St)
  | 0, _, _, _, _, _ => none
  | f + 1, s, x1, x2, x3, x5 => bif mx_cnd .ge x5 (nI 24) then (some s) else (ldA (gA s 0) 1920 ((((nI 32) * x2) + (nI 4)) + x5) fun v1 => F_X6_findRest_30_29 N (F_X6_findRest_30_3 N f) N s x1 x2 x3 x5 v1 (nI 0))
set_option maxRecDepth 100000 in
set_option maxHeartbeats 4000000 in
theorem w_X6_findRest_30_3 {d : St} {rest : mx_W} {N : Nat} : ∀ (f : Nat) (s : St) (x1 : Int32) (x2 : Int32) (x3 : Int32) (x5 : Int32) (r : St), F_X6_findRest_30_3 N f s x1 x2 x3 x5 = some r → X 111 (3, [(0, .ref 18), (1, .int x1), (2, .int x2), (3, .int x3), (4, .ref 30), (5, .int x5)], [], wd d (wm s rest), 0, 0) (none, wd d (wm r rest), 0, 0) := by
  intro f
  induction f with
  | zero => intro s x1 x2 x3 x5 r h; rw [F_X6_findRest_30_3.eq_1] at h; cases h
  | succ f ih =>
    intro s x1 x2 x3 x5 r h
    rw [F_X6_findRest_30_3.eq_2] at h
    refine xs tn_X6_findRest [(3, .iload 5, 2), (5, .bipush 24, 2)] (st' := (7, [(0, .ref 18), (1, .int x1), (2, .int x2), (3, .int x3), (4, .ref 30), (5, .int x5)], [.int (nI 24), .int x5], wd d (wm s rest), 0, 0)) (List.forall_mem_cons.mpr ⟨dX6_findRest_3, List.forall_mem_cons.mpr ⟨dX6_findRest_5, fun _ h => absurd h List.not_mem_nil⟩⟩) rfl ?_
    refine xcmpF (t := 110) tn_X6_findRest dX6_findRest_7 (by decide) h (fun h => ?_) (fun h => ?_)
    · cases h
      exact xretv tn_X6_findRest rfl dX6_findRest_110
    · refine xs tn_X6_findRest [(10, .aload_n 0, 1), (11, .getfield 7, 3), (14, .bipush 32, 2), (16, .iload_n 2, 1), (17, .imul, 1), (18, .iconst 4, 1), (19, .iadd, 1), (20, .iload 5, 2), (22, .iadd, 1)] (st' := (23, [(0, .ref 18), (1, .int x1), (2, .int x2), (3, .int x3), (4, .ref 30), (5, .int x5)], [.int ((((nI 32) * x2) + (nI 4)) + x5), .ref 19], wd d (wm s rest), 0, 0)) (List.forall_mem_cons.mpr ⟨dX6_findRest_10, List.forall_mem_cons.mpr ⟨dX6_findRest_11, List.forall_mem_cons.mpr ⟨dX6_findRest_14, List.forall_mem_cons.mpr ⟨dX6_findRest_16, List.forall_mem_cons.mpr ⟨dX6_findRest_17, List.forall_mem_cons.mpr ⟨dX6_findRest_18, List.forall_mem_cons.mpr ⟨dX6_findRest_19, List.forall_mem_cons.mpr ⟨dX6_findRest_20, List.forall_mem_cons.mpr ⟨dX6_findRest_22, fun _ h => absurd h List.not_mem_nil⟩⟩⟩⟩⟩⟩⟩⟩⟩) rfl ?_
      refine xldF tn_X6_findRest dX6_findRest_23 at_19 h (fun v1 h => ?_)
      refine xs tn_X6_findRest [(24, .istore 6, 2), (26, .iconst 0, 1), (27, .istore 7, 2)] (st' := (29, [(7, .int (nI 0)), (6, .int v1), (0, .ref 18), (1, .int x1), (2, .int x2), (3, .int x3), (4, .ref 30), (5, .int x5)], [], wd d (wm s rest), 0, 0)) (List.forall_mem_cons.mpr ⟨dX6_findRest_24, List.forall_mem_cons.mpr ⟨dX6_findRest_26, List.forall_mem_cons.mpr ⟨dX6_findRest_27, fun _ h => absurd h List.not_mem_nil⟩⟩⟩) rfl ?_
      refine xwk [0, 1, 2, 3, 4, 5, 6, 7] rfl rfl ?_
      exact w_X6_findRest_30_29 ih N _ _ _ _ _ _ _ _ h
def F_X6_findRest_30 (N : Nat) (s : St) (x1 : Int32) (x2 : Int32) (x3 : Int32) : Option (St) := F_X6_findRest_30_3 N N s x1 x2 x3 (nI 0)
set_option maxRecDepth 100000 in
set_option maxHeartbeats 4000000 in
theorem w_X6_findRest_30 {d : St} {rest : mx_W} {N : Nat} {s : St} {x1 : Int32} {x2 : Int32} {x3 : Int32} {r : St} (h : F_X6_findRest_30 N s x1 x2 x3 = some r) : X 111 (0, [(0, .ref 18), (1, .int x1), (2, .int x2), (3, .int x3), (4, .ref 30)], [], wd d (wm s rest), 0, 0) (none, wd d (wm r rest), 0, 0) := by
  unfold F_X6_findRest_30 at h
  refine xs tn_X6_findRest [(0, .iconst 0, 1), (1, .istore 5, 2)] (st' := (3, [(5, .int (nI 0)), (0, .ref 18), (1, .int x1), (2, .int x2), (3, .int x3), (4, .ref 30)], [], wd d (wm s rest), 0, 0)) (List.forall_mem_cons.mpr ⟨dX6_findRest_0, List.forall_mem_cons.mpr ⟨dX6_findRest_1, fun _ h => absurd h List.not_mem_nil⟩⟩) rfl ?_
  refine xwk [0, 1, 2, 3, 4, 5] rfl rfl ?_
  exact w_X6_findRest_30_3 N _ _ _ _ _ _ h
def F_X6_repairs_132 (N : Nat) (s : St) (x5 : Int32) : Option (Int32 × St) := bif mx_cnd .eq x5 0 then (rz x5 (some (x5, s))) else (ldA (gA s 8) 4 (nI 0) fun v1 => (F_X6_fill_32 N s v1).bind fun s2 => bif mx_cnd .ne (gI s2 10) (nI 2) then (rz x5 (some (x5, s2))) else (ldA (gA s2 8) 4 (nI 1) fun v4 => (F_X6_fill_33 N s2 v4).bind fun s5 => rz x5 (some (x5, s5))))
set_option maxRecDepth 100000 in
set_option maxHeartbeats 4000000 in
theorem w_X6_repairs_132 {d : St} {rest : mx_W} {N : Nat} {s : St} {x5 : Int32} {r : Int32} {t : St} (h : F_X6_repairs_132 N s x5 = some (r, t)) : X 127 (132, [(0, .ref 18), (5, .int x5)], [], wd d (wm s rest), 0, 0) (some (.int r), wd d (wm t rest), 0, 0) := by
  unfold F_X6_repairs_132 at h
  refine xs tn_X6_repairs [(132, .iload 5, 2)] (st' := (134, [(0, .ref 18), (5, .int x5)], [.int x5], wd d (wm s rest), 0, 0)) (List.forall_mem_cons.mpr ⟨dX6_repairs_132, fun _ h => absurd h List.not_mem_nil⟩) rfl ?_
  refine xifF (t := 173) tn_X6_repairs dX6_repairs_134 (by decide) h (fun h => ?_) (fun h => ?_)
  · refine xs tn_X6_repairs [(173, .iload 5, 2)] (st' := (175, [(0, .ref 18), (5, .int x5)], [.int x5], wd d (wm s rest), 0, 0)) (List.forall_mem_cons.mpr ⟨dX6_repairs_173, fun _ h => absurd h List.not_mem_nil⟩) rfl ?_
    obtain ⟨hz, h⟩ := orz h
    cases h
    exact xretz tn_X6_repairs rfl hz dX6_repairs_175
  · refine xs tn_X6_repairs [(137, .aload_n 0, 1), (138, .aload_n 0, 1), (139, .getfield 46, 3), (142, .iconst 0, 1)] (st' := (143, [(0, .ref 18), (5, .int x5)], [.int (nI 0), .ref 27, .ref 18], wd d (wm s rest), 0, 0)) (List.forall_mem_cons.mpr ⟨dX6_repairs_137, List.forall_mem_cons.mpr ⟨dX6_repairs_138, List.forall_mem_cons.mpr ⟨dX6_repairs_139, List.forall_mem_cons.mpr ⟨dX6_repairs_142, fun _ h => absurd h List.not_mem_nil⟩⟩⟩⟩) rfl ?_
    refine xldF tn_X6_repairs dX6_repairs_143 at_27 h (fun v1 h => ?_)
    refine xs tn_X6_repairs [(144, .aload_n 0, 1), (145, .getfield 61, 3)] (st' := (148, [(0, .ref 18), (5, .int x5)], [.ref 32, .int v1, .ref 18], wd d (wm s rest), 0, 0)) (List.forall_mem_cons.mpr ⟨dX6_repairs_144, List.forall_mem_cons.mpr ⟨dX6_repairs_145, fun _ h => absurd h List.not_mem_nil⟩⟩) rfl ?_
    obtain ⟨s2, h3, h⟩ := obind h
    refine xcall tn_X6_repairs dX6_repairs_148 rfl rfl (w_X6_fill_32 h3) ?_
    show X 127 (151, [(0, .ref 18), (5, .int x5)], [], wd d (wm s2 rest), 0, 0) _
    refine xs tn_X6_repairs [(151, .aload_n 0, 1), (152, .getfield 172, 3), (155, .iconst 2, 1)] (st' := (156, [(0, .ref 18), (5, .int x5)], [.int (nI 2), .int (gI s2 10)], wd d (wm s2 rest), 0, 0)) (List.forall_mem_cons.mpr ⟨dX6_repairs_151, List.forall_mem_cons.mpr ⟨dX6_repairs_152, List.forall_mem_cons.mpr ⟨dX6_repairs_155, fun _ h => absurd h List.not_mem_nil⟩⟩⟩) rfl ?_
    refine xcmpF (t := 173) tn_X6_repairs dX6_repairs_156 (by decide) h (fun h => ?_) (fun h => ?_)
    · refine xs tn_X6_repairs [(173, .iload 5, 2)] (st' := (175, [(0, .ref 18), (5, .int x5)], [.int x5], wd d (wm s2 rest), 0, 0)) (List.forall_mem_cons.mpr ⟨dX6_repairs_173, fun _ h => absurd h List.not_mem_nil⟩) rfl ?_
      obtain ⟨hz, h⟩ := orz h
      cases h
      exact xretz tn_X6_repairs rfl hz dX6_repairs_175
    · refine xs tn_X6_repairs [(159, .aload_n 0, 1), (160, .aload_n 0, 1), (161, .getfield 46, 3), (164, .iconst 1, 1)] (st' := (165, [(0, .ref 18), (5, .int x5)], [.int (nI 1), .ref 27, .ref 18], wd d (wm s2 rest), 0, 0)) (List.forall_mem_cons.mpr ⟨dX6_repairs_159, List.forall_mem_cons.mpr ⟨dX6_repairs_160, List.forall_mem_cons.mpr ⟨dX6_repairs_161, List.forall_mem_cons.mpr ⟨dX6_repairs_164, fun _ h => absurd h List.not_mem_nil⟩⟩⟩⟩) rfl ?_
      refine xldF tn_X6_repairs dX6_repairs_165 at_27 h (fun v4 h => ?_)
      refine xs tn_X6_repairs [(166, .aload_n 0, 1), (167, .getfield 64, 3)] (st' := (170, [(0, .ref 18), (5, .int x5)], [.ref 33, .int v4, .ref 18], wd d (wm s2 rest), 0, 0)) (List.forall_mem_cons.mpr ⟨dX6_repairs_166, List.forall_mem_cons.mpr ⟨dX6_repairs_167, fun _ h => absurd h List.not_mem_nil⟩⟩) rfl ?_
      obtain ⟨s5, h6, h⟩ := obind h
      refine xcall tn_X6_repairs dX6_repairs_170 rfl rfl (w_X6_fill_33 h6) ?_
      show X 127 (173, [(0, .ref 18), (5, .int x5)], [], wd d (wm s5 rest), 0, 0) _
      refine xs tn_X6_repairs [(173, .iload 5, 2)] (st' := (175, [(0, .ref 18), (5, .int x5)], [.int x5], wd d (wm s5 rest), 0, 0)) (List.forall_mem_cons.mpr ⟨dX6_repairs_173, fun _ h => absurd h List.not_mem_nil⟩) rfl ?_
      obtain ⟨hz, h⟩ := orz h
      cases h
      exact xretz tn_X6_repairs rfl hz dX6_repairs_175
def F_X6_repairs_74 (N : Nat) (s : St) (x3 : Int32) (x4 : Int32) : Option (Int32 × St) := bif mx_cnd .ne (gI s 10) (nI 1) then (bif mx_cnd .eq x3 (-nI 1) then (bindP (F_X6_isTwo N s (nI 0)) fun v1 s2 => F_X6_repairs_132 N s2 v1) else (bif mx_cnd .eq x4 (-nI 1) then (bindP (F_X6_isTwo N s (nI 0)) fun v4 s5 => F_X6_repairs_132 N s5 v4) else (bindP (F_X6_isTwo N s (nI 1)) fun v7 s8 => F_X6_repairs_132 N s8 v7))) else (bif mx_cnd .eq x3 (-nI 1) then (bif mx_cnd .eq x4 (-nI 1) then (bindP (F_X6_isOne N s (nI 0) (nI 0)) fun v10 s11 => F_X6_repairs_132 N s11 v10) else (bindP (F_X6_isOne N s (nI 0) (nI 1)) fun v13 s14 => F_X6_repairs_132 N s14 v13)) else (bif mx_cnd .eq x4 (-nI 1) then (bindP (F_X6_isOne N s (nI 1) (nI 0)) fun v16 s17 => F_X6_repairs_132 N s17 v16) else (bindP (F_X6_isOne N s (nI 1) (nI 1)) fun v19 s20 => F_X6_repairs_132 N s20 v19)))
set_option maxRecDepth 100000 in
set_option maxHeartbeats 4000000 in
theorem w_X6_repairs_74 {d : St} {rest : mx_W} {N : Nat} {s : St} {x3 : Int32} {x4 : Int32} {r : Int32} {t : St} (h : F_X6_repairs_74 N s x3 x4 = some (r, t)) : X 127 (74, [(0, .ref 18), (3, .int x3), (4, .int x4)], [], wd d (wm s rest), 0, 0) (some (.int r), wd d (wm t rest), 0, 0) := by
  unfold F_X6_repairs_74 at h
  refine xs tn_X6_repairs [(74, .aload_n 0, 1), (75, .getfield 172, 3), (78, .iconst 1, 1)] (st' := (79, [(0, .ref 18), (3, .int x3), (4, .int x4)], [.int (nI 1), .int (gI s 10)], wd d (wm s rest), 0, 0)) (List.forall_mem_cons.mpr ⟨dX6_repairs_74, List.forall_mem_cons.mpr ⟨dX6_repairs_75, List.forall_mem_cons.mpr ⟨dX6_repairs_78, fun _ h => absurd h List.not_mem_nil⟩⟩⟩) rfl ?_
  refine xcmpF (t := 110) tn_X6_repairs dX6_repairs_79 (by decide) h (fun h => ?_) (fun h => ?_)
  · refine xs tn_X6_repairs [(110, .aload_n 0, 1), (111, .iload_n 3, 1), (112, .iconst (-1), 1)] (st' := (113, [(0, .ref 18), (3, .int x3), (4, .int x4)], [.int (-nI 1), .int x3, .ref 18], wd d (wm s rest), 0, 0)) (List.forall_mem_cons.mpr ⟨dX6_repairs_110, List.forall_mem_cons.mpr ⟨dX6_repairs_111, List.forall_mem_cons.mpr ⟨dX6_repairs_112, fun _ h => absurd h List.not_mem_nil⟩⟩⟩) rfl ?_
    refine xcmpF (t := 126) tn_X6_repairs dX6_repairs_113 (by decide) h (fun h => ?_) (fun h => ?_)
    · refine xs tn_X6_repairs [(126, .iconst 0, 1)] (st' := (127, [(0, .ref 18), (3, .int x3), (4, .int x4)], [.int (nI 0), .ref 18], wd d (wm s rest), 0, 0)) (List.forall_mem_cons.mpr ⟨dX6_repairs_126, fun _ h => absurd h List.not_mem_nil⟩) rfl ?_
      obtain ⟨v1, s2, h3, h⟩ := obindP h
      refine xcall tn_X6_repairs dX6_repairs_127 rfl rfl (w_X6_isTwo h3) ?_
      show X 127 (130, [(0, .ref 18), (3, .int x3), (4, .int x4)], [.int v1], wd d (wm s2 rest), 0, 0) _
      refine xs tn_X6_repairs [(130, .istore 5, 2)] (st' := (132, [(5, .int v1), (0, .ref 18), (3, .int x3), (4, .int x4)], [], wd d (wm s2 rest), 0, 0)) (List.forall_mem_cons.mpr ⟨dX6_repairs_130, fun _ h => absurd h List.not_mem_nil⟩) rfl ?_
      refine xwk [0, 5] rfl rfl ?_
      exact w_X6_repairs_132 h
    · refine xs tn_X6_repairs [(116, .iload 4, 2), (118, .iconst (-1), 1)] (st' := (119, [(0, .ref 18), (3, .int x3), (4, .int x4)], [.int (-nI 1), .int x4, .ref 18], wd d (wm s rest), 0, 0)) (List.forall_mem_cons.mpr ⟨dX6_repairs_116, List.forall_mem_cons.mpr ⟨dX6_repairs_118, fun _ h => absurd h List.not_mem_nil⟩⟩) rfl ?_
      refine xcmpF (t := 126) tn_X6_repairs dX6_repairs_119 (by decide) h (fun h => ?_) (fun h => ?_)
      · refine xs tn_X6_repairs [(126, .iconst 0, 1)] (st' := (127, [(0, .ref 18), (3, .int x3), (4, .int x4)], [.int (nI 0), .ref 18], wd d (wm s rest), 0, 0)) (List.forall_mem_cons.mpr ⟨dX6_repairs_126, fun _ h => absurd h List.not_mem_nil⟩) rfl ?_
        obtain ⟨v4, s5, h6, h⟩ := obindP h
        refine xcall tn_X6_repairs dX6_repairs_127 rfl rfl (w_X6_isTwo h6) ?_
        show X 127 (130, [(0, .ref 18), (3, .int x3), (4, .int x4)], [.int v4], wd d (wm s5 rest), 0, 0) _
        refine xs tn_X6_repairs [(130, .istore 5, 2)] (st' := (132, [(5, .int v4), (0, .ref 18), (3, .int x3), (4, .int x4)], [], wd d (wm s5 rest), 0, 0)) (List.forall_mem_cons.mpr ⟨dX6_repairs_130, fun _ h => absurd h List.not_mem_nil⟩) rfl ?_
        refine xwk [0, 5] rfl rfl ?_
        exact w_X6_repairs_132 h
      · refine xs tn_X6_repairs [(122, .iconst 1, 1), (123, .goto 4, 3)] (st' := (127, [(0, .ref 18), (3, .int x3), (4, .int x4)], [.int (nI 1), .ref 18], wd d (wm s rest), 0, 0)) (List.forall_mem_cons.mpr ⟨dX6_repairs_122, List.forall_mem_cons.mpr ⟨dX6_repairs_123, fun _ h => absurd h List.not_mem_nil⟩⟩) rfl ?_
        obtain ⟨v7, s8, h9, h⟩ := obindP h
        refine xcall tn_X6_repairs dX6_repairs_127 rfl rfl (w_X6_isTwo h9) ?_
        show X 127 (130, [(0, .ref 18), (3, .int x3), (4, .int x4)], [.int v7], wd d (wm s8 rest), 0, 0) _
        refine xs tn_X6_repairs [(130, .istore 5, 2)] (st' := (132, [(5, .int v7), (0, .ref 18), (3, .int x3), (4, .int x4)], [], wd d (wm s8 rest), 0, 0)) (List.forall_mem_cons.mpr ⟨dX6_repairs_130, fun _ h => absurd h List.not_mem_nil⟩) rfl ?_
        refine xwk [0, 5] rfl rfl ?_
        exact w_X6_repairs_132 h
  · refine xs tn_X6_repairs [(82, .aload_n 0, 1), (83, .iload_n 3, 1), (84, .iconst (-1), 1)] (st' := (85, [(0, .ref 18), (3, .int x3), (4, .int x4)], [.int (-nI 1), .int x3, .ref 18], wd d (wm s rest), 0, 0)) (List.forall_mem_cons.mpr ⟨dX6_repairs_82, List.forall_mem_cons.mpr ⟨dX6_repairs_83, List.forall_mem_cons.mpr ⟨dX6_repairs_84, fun _ h => absurd h List.not_mem_nil⟩⟩⟩) rfl ?_
    refine xcmpF (t := 92) tn_X6_repairs dX6_repairs_85 (by decide) h (fun h => ?_) (fun h => ?_)
    · refine xs tn_X6_repairs [(92, .iconst 0, 1), (93, .iload 4, 2), (95, .iconst (-1), 1)] (st' := (96, [(0, .ref 18), (3, .int x3), (4, .int x4)], [.int (-nI 1), .int x4, .int (nI 0), .ref 18], wd d (wm s rest), 0, 0)) (List.forall_mem_cons.mpr ⟨dX6_repairs_92, List.forall_mem_cons.mpr ⟨dX6_repairs_93, List.forall_mem_cons.mpr ⟨dX6_repairs_95, fun _ h => absurd h List.not_mem_nil⟩⟩⟩) rfl ?_
      refine xcmpF (t := 103) tn_X6_repairs dX6_repairs_96 (by decide) h (fun h => ?_) (fun h => ?_)
      · refine xs tn_X6_repairs [(103, .iconst 0, 1)] (st' := (104, [(0, .ref 18), (3, .int x3), (4, .int x4)], [.int (nI 0), .int (nI 0), .ref 18], wd d (wm s rest), 0, 0)) (List.forall_mem_cons.mpr ⟨dX6_repairs_103, fun _ h => absurd h List.not_mem_nil⟩) rfl ?_
        obtain ⟨v10, s11, h12, h⟩ := obindP h
        refine xcall tn_X6_repairs dX6_repairs_104 rfl rfl (w_X6_isOne h12) ?_
        show X 127 (107, [(0, .ref 18), (3, .int x3), (4, .int x4)], [.int v10], wd d (wm s11 rest), 0, 0) _
        refine xs tn_X6_repairs [(107, .goto 23, 3), (130, .istore 5, 2)] (st' := (132, [(5, .int v10), (0, .ref 18), (3, .int x3), (4, .int x4)], [], wd d (wm s11 rest), 0, 0)) (List.forall_mem_cons.mpr ⟨dX6_repairs_107, List.forall_mem_cons.mpr ⟨dX6_repairs_130, fun _ h => absurd h List.not_mem_nil⟩⟩) rfl ?_
        refine xwk [0, 5] rfl rfl ?_
        exact w_X6_repairs_132 h
      · refine xs tn_X6_repairs [(99, .iconst 1, 1), (100, .goto 4, 3)] (st' := (104, [(0, .ref 18), (3, .int x3), (4, .int x4)], [.int (nI 1), .int (nI 0), .ref 18], wd d (wm s rest), 0, 0)) (List.forall_mem_cons.mpr ⟨dX6_repairs_99, List.forall_mem_cons.mpr ⟨dX6_repairs_100, fun _ h => absurd h List.not_mem_nil⟩⟩) rfl ?_
        obtain ⟨v13, s14, h15, h⟩ := obindP h
        refine xcall tn_X6_repairs dX6_repairs_104 rfl rfl (w_X6_isOne h15) ?_
        show X 127 (107, [(0, .ref 18), (3, .int x3), (4, .int x4)], [.int v13], wd d (wm s14 rest), 0, 0) _
        refine xs tn_X6_repairs [(107, .goto 23, 3), (130, .istore 5, 2)] (st' := (132, [(5, .int v13), (0, .ref 18), (3, .int x3), (4, .int x4)], [], wd d (wm s14 rest), 0, 0)) (List.forall_mem_cons.mpr ⟨dX6_repairs_107, List.forall_mem_cons.mpr ⟨dX6_repairs_130, fun _ h => absurd h List.not_mem_nil⟩⟩) rfl ?_
        refine xwk [0, 5] rfl rfl ?_
        exact w_X6_repairs_132 h
    · refine xs tn_X6_repairs [(88, .iconst 1, 1), (89, .goto 4, 3), (93, .iload 4, 2), (95, .iconst (-1), 1)] (st' := (96, [(0, .ref 18), (3, .int x3), (4, .int x4)], [.int (-nI 1), .int x4, .int (nI 1), .ref 18], wd d (wm s rest), 0, 0)) (List.forall_mem_cons.mpr ⟨dX6_repairs_88, List.forall_mem_cons.mpr ⟨dX6_repairs_89, List.forall_mem_cons.mpr ⟨dX6_repairs_93, List.forall_mem_cons.mpr ⟨dX6_repairs_95, fun _ h => absurd h List.not_mem_nil⟩⟩⟩⟩) rfl ?_
      refine xcmpF (t := 103) tn_X6_repairs dX6_repairs_96 (by decide) h (fun h => ?_) (fun h => ?_)
      · refine xs tn_X6_repairs [(103, .iconst 0, 1)] (st' := (104, [(0, .ref 18), (3, .int x3), (4, .int x4)], [.int (nI 0), .int (nI 1), .ref 18], wd d (wm s rest), 0, 0)) (List.forall_mem_cons.mpr ⟨dX6_repairs_103, fun _ h => absurd h List.not_mem_nil⟩) rfl ?_
        obtain ⟨v16, s17, h18, h⟩ := obindP h
        refine xcall tn_X6_repairs dX6_repairs_104 rfl rfl (w_X6_isOne h18) ?_
        show X 127 (107, [(0, .ref 18), (3, .int x3), (4, .int x4)], [.int v16], wd d (wm s17 rest), 0, 0) _
        refine xs tn_X6_repairs [(107, .goto 23, 3), (130, .istore 5, 2)] (st' := (132, [(5, .int v16), (0, .ref 18), (3, .int x3), (4, .int x4)], [], wd d (wm s17 rest), 0, 0)) (List.forall_mem_cons.mpr ⟨dX6_repairs_107, List.forall_mem_cons.mpr ⟨dX6_repairs_130, fun _ h => absurd h List.not_mem_nil⟩⟩) rfl ?_
        refine xwk [0, 5] rfl rfl ?_
        exact w_X6_repairs_132 h
      · refine xs tn_X6_repairs [(99, .iconst 1, 1), (100, .goto 4, 3)] (st' := (104, [(0, .ref 18), (3, .int x3), (4, .int x4)], [.int (nI 1), .int (nI 1), .ref 18], wd d (wm s rest), 0, 0)) (List.forall_mem_cons.mpr ⟨dX6_repairs_99, List.forall_mem_cons.mpr ⟨dX6_repairs_100, fun _ h => absurd h List.not_mem_nil⟩⟩) rfl ?_
        obtain ⟨v19, s20, h21, h⟩ := obindP h
        refine xcall tn_X6_repairs dX6_repairs_104 rfl rfl (w_X6_isOne h21) ?_
        show X 127 (107, [(0, .ref 18), (3, .int x3), (4, .int x4)], [.int v19], wd d (wm s20 rest), 0, 0) _
        refine xs tn_X6_repairs [(107, .goto 23, 3), (130, .istore 5, 2)] (st' := (132, [(5, .int v19), (0, .ref 18), (3, .int x3), (4, .int x4)], [], wd d (wm s20 rest), 0, 0)) (List.forall_mem_cons.mpr ⟨dX6_repairs_107, List.forall_mem_cons.mpr ⟨dX6_repairs_130, fun _ h => absurd h List.not_mem_nil⟩⟩) rfl ?_
        refine xwk [0, 5] rfl rfl ?_
        exact w_X6_repairs_132 h
def F_X6_repairs_56 (N : Nat) (s : St) (x2 : Int32) (x3 : Int32) (x4 : Int32) : Option (Int32 × St) := bif mx_cnd .eq x4 (-nI 1) then (F_X6_repairs_74 N s x3 x4) else ((F_X6_findRest_31 N s x2 x4 (nI 1)).bind fun s1 => F_X6_repairs_74 N s1 x3 x4)
set_option maxRecDepth 100000 in
set_option maxHeartbeats 4000000 in
theorem w_X6_repairs_56 {d : St} {rest : mx_W} {N : Nat} {s : St} {x2 : Int32} {x3 : Int32} {x4 : Int32} {r : Int32} {t : St} (h : F_X6_repairs_56 N s x2 x3 x4 = some (r, t)) : X 127 (56, [(0, .ref 18), (2, .int x2), (3, .int x3), (4, .int x4)], [], wd d (wm s rest), 0, 0) (some (.int r), wd d (wm t rest), 0, 0) := by
  unfold F_X6_repairs_56 at h
  refine xs tn_X6_repairs [(56, .iload 4, 2), (58, .iconst (-1), 1)] (st' := (59, [(0, .ref 18), (2, .int x2), (3, .int x3), (4, .int x4)], [.int (-nI 1), .int x4], wd d (wm s rest), 0, 0)) (List.forall_mem_cons.mpr ⟨dX6_repairs_56, List.forall_mem_cons.mpr ⟨dX6_repairs_58, fun _ h => absurd h List.not_mem_nil⟩⟩) rfl ?_
  refine xcmpF (t := 74) tn_X6_repairs dX6_repairs_59 (by decide) h (fun h => ?_) (fun h => ?_)
  · refine xwk [0, 3, 4] rfl rfl ?_
    exact w_X6_repairs_74 h
  · refine xs tn_X6_repairs [(62, .aload_n 0, 1), (63, .iload_n 2, 1), (64, .iload 4, 2), (66, .iconst 1, 1), (67, .aload_n 0, 1), (68, .getfield 58, 3)] (st' := (71, [(0, .ref 18), (2, .int x2), (3, .int x3), (4, .int x4)], [.ref 31, .int (nI 1), .int x4, .int x2, .ref 18], wd d (wm s rest), 0, 0)) (List.forall_mem_cons.mpr ⟨dX6_repairs_62, List.forall_mem_cons.mpr ⟨dX6_repairs_63, List.forall_mem_cons.mpr ⟨dX6_repairs_64, List.forall_mem_cons.mpr ⟨dX6_repairs_66, List.forall_mem_cons.mpr ⟨dX6_repairs_67, List.forall_mem_cons.mpr ⟨dX6_repairs_68, fun _ h => absurd h List.not_mem_nil⟩⟩⟩⟩⟩⟩) rfl ?_
    obtain ⟨s1, h2, h⟩ := obind h
    refine xcall tn_X6_repairs dX6_repairs_71 rfl rfl (w_X6_findRest_31 h2) ?_
    show X 127 (74, [(0, .ref 18), (2, .int x2), (3, .int x3), (4, .int x4)], [], wd d (wm s1 rest), 0, 0) _
    refine xwk [0, 3, 4] rfl rfl ?_
    exact w_X6_repairs_74 h
def F_X6_repairs (N : Nat) (s : St) (x1 : Int32) (x2 : Int32) : Option (Int32 × St) := bindP (F_X6_findUnknown N s x2) fun v1 s2 => bif mx_cnd .eq v1 0 then (some (nI 0, s2)) else (bif mx_cnd .eq (gI s2 10) 0 then (some (nI 0, s2)) else (bif mx_cnd .le (gI s2 10) (nI 2) then ((F_X6_symbolOf N s2 x1 (nI 0)).bind fun v4 => (F_X6_symbolOf N s2 x1 (nI 1)).bind fun v6 => bif mx_cnd .eq v4 (-nI 1) then (F_X6_repairs_56 N s2 x2 v4 v6) else ((F_X6_findRest_30 N s2 x2 v4 (nI 0)).bind fun s8 => F_X6_repairs_56 N s8 x2 v4 v6)) else (some (nI 0, s2))))
set_option maxRecDepth 100000 in
set_option maxHeartbeats 4000000 in
theorem w_X6_repairs {d : St} {rest : mx_W} {N : Nat} {s : St} {x1 : Int32} {x2 : Int32} {r : Int32} {t : St} (h : F_X6_repairs N s x1 x2 = some (r, t)) : X 127 (0, [(0, .ref 18), (1, .int x1), (2, .int x2)], [], wd d (wm s rest), 0, 0) (some (.int r), wd d (wm t rest), 0, 0) := by
  unfold F_X6_repairs at h
  refine xs tn_X6_repairs [(0, .aload_n 0, 1), (1, .iload_n 2, 1)] (st' := (2, [(0, .ref 18), (1, .int x1), (2, .int x2)], [.int x2, .ref 18], wd d (wm s rest), 0, 0)) (List.forall_mem_cons.mpr ⟨dX6_repairs_0, List.forall_mem_cons.mpr ⟨dX6_repairs_1, fun _ h => absurd h List.not_mem_nil⟩⟩) rfl ?_
  obtain ⟨v1, s2, h3, h⟩ := obindP h
  refine xcall tn_X6_repairs dX6_repairs_2 rfl rfl (w_X6_findUnknown h3) ?_
  show X 127 (5, [(0, .ref 18), (1, .int x1), (2, .int x2)], [.int v1], wd d (wm s2 rest), 0, 0) _
  refine xifF (t := 23) tn_X6_repairs dX6_repairs_5 (by decide) h (fun h => ?_) (fun h => ?_)
  · refine xs tn_X6_repairs [(23, .iconst 0, 1)] (st' := (24, [(0, .ref 18), (1, .int x1), (2, .int x2)], [.int (nI 0)], wd d (wm s2 rest), 0, 0)) (List.forall_mem_cons.mpr ⟨dX6_repairs_23, fun _ h => absurd h List.not_mem_nil⟩) rfl ?_
    cases h
    exact xretz tn_X6_repairs rfl (by decide) dX6_repairs_24
  · refine xs tn_X6_repairs [(8, .aload_n 0, 1), (9, .getfield 172, 3)] (st' := (12, [(0, .ref 18), (1, .int x1), (2, .int x2)], [.int (gI s2 10)], wd d (wm s2 rest), 0, 0)) (List.forall_mem_cons.mpr ⟨dX6_repairs_8, List.forall_mem_cons.mpr ⟨dX6_repairs_9, fun _ h => absurd h List.not_mem_nil⟩⟩) rfl ?_
    refine xifF (t := 23) tn_X6_repairs dX6_repairs_12 (by decide) h (fun h => ?_) (fun h => ?_)
    · refine xs tn_X6_repairs [(23, .iconst 0, 1)] (st' := (24, [(0, .ref 18), (1, .int x1), (2, .int x2)], [.int (nI 0)], wd d (wm s2 rest), 0, 0)) (List.forall_mem_cons.mpr ⟨dX6_repairs_23, fun _ h => absurd h List.not_mem_nil⟩) rfl ?_
      cases h
      exact xretz tn_X6_repairs rfl (by decide) dX6_repairs_24
    · refine xs tn_X6_repairs [(15, .aload_n 0, 1), (16, .getfield 172, 3), (19, .iconst 2, 1)] (st' := (20, [(0, .ref 18), (1, .int x1), (2, .int x2)], [.int (nI 2), .int (gI s2 10)], wd d (wm s2 rest), 0, 0)) (List.forall_mem_cons.mpr ⟨dX6_repairs_15, List.forall_mem_cons.mpr ⟨dX6_repairs_16, List.forall_mem_cons.mpr ⟨dX6_repairs_19, fun _ h => absurd h List.not_mem_nil⟩⟩⟩) rfl ?_
      refine xcmpF (t := 25) tn_X6_repairs dX6_repairs_20 (by decide) h (fun h => ?_) (fun h => ?_)
      · refine xs tn_X6_repairs [(25, .aload_n 0, 1), (26, .iload_n 1, 1), (27, .iconst 0, 1)] (st' := (28, [(0, .ref 18), (1, .int x1), (2, .int x2)], [.int (nI 0), .int x1, .ref 18], wd d (wm s2 rest), 0, 0)) (List.forall_mem_cons.mpr ⟨dX6_repairs_25, List.forall_mem_cons.mpr ⟨dX6_repairs_26, List.forall_mem_cons.mpr ⟨dX6_repairs_27, fun _ h => absurd h List.not_mem_nil⟩⟩⟩) rfl ?_
        obtain ⟨v4, h5, h⟩ := obind h
        refine xcall tn_X6_repairs dX6_repairs_28 rfl rfl (w_X6_symbolOf h5) ?_
        show X 127 (31, [(0, .ref 18), (1, .int x1), (2, .int x2)], [.int v4], wd d (wm s2 rest), 0, 0) _
        refine xs tn_X6_repairs [(31, .istore_n 3, 1), (32, .aload_n 0, 1), (33, .iload_n 1, 1), (34, .iconst 1, 1)] (st' := (35, [(3, .int v4), (0, .ref 18), (1, .int x1), (2, .int x2)], [.int (nI 1), .int x1, .ref 18], wd d (wm s2 rest), 0, 0)) (List.forall_mem_cons.mpr ⟨dX6_repairs_31, List.forall_mem_cons.mpr ⟨dX6_repairs_32, List.forall_mem_cons.mpr ⟨dX6_repairs_33, List.forall_mem_cons.mpr ⟨dX6_repairs_34, fun _ h => absurd h List.not_mem_nil⟩⟩⟩⟩) rfl ?_
        obtain ⟨v6, h7, h⟩ := obind h
        refine xcall tn_X6_repairs dX6_repairs_35 rfl rfl (w_X6_symbolOf h7) ?_
        show X 127 (38, [(3, .int v4), (0, .ref 18), (1, .int x1), (2, .int x2)], [.int v6], wd d (wm s2 rest), 0, 0) _
        refine xs tn_X6_repairs [(38, .istore 4, 2), (40, .iload_n 3, 1), (41, .iconst (-1), 1)] (st' := (42, [(4, .int v6), (3, .int v4), (0, .ref 18), (1, .int x1), (2, .int x2)], [.int (-nI 1), .int v4], wd d (wm s2 rest), 0, 0)) (List.forall_mem_cons.mpr ⟨dX6_repairs_38, List.forall_mem_cons.mpr ⟨dX6_repairs_40, List.forall_mem_cons.mpr ⟨dX6_repairs_41, fun _ h => absurd h List.not_mem_nil⟩⟩⟩) rfl ?_
        refine xcmpF (t := 56) tn_X6_repairs dX6_repairs_42 (by decide) h (fun h => ?_) (fun h => ?_)
        · refine xwk [0, 2, 3, 4] rfl rfl ?_
          exact w_X6_repairs_56 h
        · refine xs tn_X6_repairs [(45, .aload_n 0, 1), (46, .iload_n 2, 1), (47, .iload_n 3, 1), (48, .iconst 0, 1), (49, .aload_n 0, 1), (50, .getfield 55, 3)] (st' := (53, [(4, .int v6), (3, .int v4), (0, .ref 18), (1, .int x1), (2, .int x2)], [.ref 30, .int (nI 0), .int v4, .int x2, .ref 18], wd d (wm s2 rest), 0, 0)) (List.forall_mem_cons.mpr ⟨dX6_repairs_45, List.forall_mem_cons.mpr ⟨dX6_repairs_46, List.forall_mem_cons.mpr ⟨dX6_repairs_47, List.forall_mem_cons.mpr ⟨dX6_repairs_48, List.forall_mem_cons.mpr ⟨dX6_repairs_49, List.forall_mem_cons.mpr ⟨dX6_repairs_50, fun _ h => absurd h List.not_mem_nil⟩⟩⟩⟩⟩⟩) rfl ?_
          obtain ⟨s8, h9, h⟩ := obind h
          refine xcall tn_X6_repairs dX6_repairs_53 rfl rfl (w_X6_findRest_30 h9) ?_
          show X 127 (56, [(4, .int v6), (3, .int v4), (0, .ref 18), (1, .int x1), (2, .int x2)], [], wd d (wm s8 rest), 0, 0) _
          refine xwk [0, 2, 3, 4] rfl rfl ?_
          exact w_X6_repairs_56 h
      · refine xs tn_X6_repairs [(23, .iconst 0, 1)] (st' := (24, [(0, .ref 18), (1, .int x1), (2, .int x2)], [.int (nI 0)], wd d (wm s2 rest), 0, 0)) (List.forall_mem_cons.mpr ⟨dX6_repairs_23, fun _ h => absurd h List.not_mem_nil⟩) rfl ?_
        cases h
        exact xretz tn_X6_repairs rfl (by decide) dX6_repairs_24
def F_X6_start_234 (N : Nat) (K : St → Int32 → Option (Int32 × St)) : Nat → St → Int32 → Int32 → Option (Int32 × St)
  | 0, _, _, _ => none
  | f + 1, s, x4, x5 => bif mx_cnd .ge x5 (gI s 3) then (K s x4) else ((F_X6_sectorOf N s x5).bind fun v1 => bif mx_cnd .eq v1 (-nI 1) then (bif mx_cnd .eq x4 0 then (F_X6_start_234 N K f s (nI 0) (x5 + (nI 1))) else (F_X6_start_234 N K f s (nI 1) (x5 + (nI 1)))) else (bindP (F_X6_repairs N s x5 v1) fun v3 s4 => bif mx_cnd .ne v3 0 then (F_X6_start_234 N K f s4 (nI 1) (x5 + (nI 1))) else (bif mx_cnd .eq x4 0 then (F_X6_start_234 N K f s4 (nI 0) (x5 + (nI 1))) else (F_X6_start_234 N K f s4 (nI 1) (x5 + (nI 1))))))
set_option maxRecDepth 100000 in
set_option maxHeartbeats 4000000 in
theorem w_X6_start_234 {d : St} {rest : mx_W} {N : Nat} {K : St → Int32 → Option (Int32 × St)} (hK : ∀ (s : St) (x4 : Int32) (r : Int32) (t : St), K s x4 = some (r, t) → X 134 (223, [(0, .ref 18), (4, .int x4)], [], wd d (wm s rest), 0, 0) (some (.int r), wd d (wm t rest), 0, 0)) : ∀ (f : Nat) (s : St) (x4 : Int32) (x5 : Int32) (r : Int32) (t : St), F_X6_start_234 N K f s x4 x5 = some (r, t) → X 134 (234, [(0, .ref 18), (4, .int x4), (5, .int x5)], [], wd d (wm s rest), 0, 0) (some (.int r), wd d (wm t rest), 0, 0) := by
  intro f
  induction f with
  | zero => intro s x4 x5 r t h; rw [F_X6_start_234.eq_1] at h; cases h
  | succ f ih =>
    intro s x4 x5 r t h
    rw [F_X6_start_234.eq_2] at h
    refine xs tn_X6_start [(234, .iload 5, 2), (236, .aload_n 0, 1), (237, .getfield 100, 3)] (st' := (240, [(0, .ref 18), (4, .int x4), (5, .int x5)], [.int (gI s 3), .int x5], wd d (wm s rest), 0, 0)) (List.forall_mem_cons.mpr ⟨dX6_start_234, List.forall_mem_cons.mpr ⟨dX6_start_236, List.forall_mem_cons.mpr ⟨dX6_start_237, fun _ h => absurd h List.not_mem_nil⟩⟩⟩) rfl ?_
    refine xcmpF (t := 286) tn_X6_start dX6_start_240 (by decide) h (fun h => ?_) (fun h => ?_)
    · refine xs tn_X6_start [(286, .goto (-63), 3)] (st' := (223, [(0, .ref 18), (4, .int x4), (5, .int x5)], [], wd d (wm s rest), 0, 0)) (List.forall_mem_cons.mpr ⟨dX6_start_286, fun _ h => absurd h List.not_mem_nil⟩) rfl ?_
      refine xwk [0, 4] rfl rfl ?_
      exact hK _ _ _ _ h
    · refine xs tn_X6_start [(243, .aload_n 0, 1), (244, .iload 5, 2)] (st' := (246, [(0, .ref 18), (4, .int x4), (5, .int x5)], [.int x5, .ref 18], wd d (wm s rest), 0, 0)) (List.forall_mem_cons.mpr ⟨dX6_start_243, List.forall_mem_cons.mpr ⟨dX6_start_244, fun _ h => absurd h List.not_mem_nil⟩⟩) rfl ?_
      obtain ⟨v1, h2, h⟩ := obind h
      refine xcall tn_X6_start dX6_start_246 rfl rfl (w_X6_sectorOf h2) ?_
      show X 134 (249, [(0, .ref 18), (4, .int x4), (5, .int x5)], [.int v1], wd d (wm s rest), 0, 0) _
      refine xs tn_X6_start [(249, .istore 6, 2), (251, .iload 6, 2), (253, .iconst (-1), 1)] (st' := (254, [(6, .int v1), (0, .ref 18), (4, .int x4), (5, .int x5)], [.int (-nI 1), .int v1], wd d (wm s rest), 0, 0)) (List.forall_mem_cons.mpr ⟨dX6_start_249, List.forall_mem_cons.mpr ⟨dX6_start_251, List.forall_mem_cons.mpr ⟨dX6_start_253, fun _ h => absurd h List.not_mem_nil⟩⟩⟩) rfl ?_
      refine xcmpF (t := 268) tn_X6_start dX6_start_254 (by decide) h (fun h => ?_) (fun h => ?_)
      · refine xs tn_X6_start [(268, .iload 4, 2)] (st' := (270, [(6, .int v1), (0, .ref 18), (4, .int x4), (5, .int x5)], [.int x4], wd d (wm s rest), 0, 0)) (List.forall_mem_cons.mpr ⟨dX6_start_268, fun _ h => absurd h List.not_mem_nil⟩) rfl ?_
        refine xifF (t := 277) tn_X6_start dX6_start_270 (by decide) h (fun h => ?_) (fun h => ?_)
        · refine xs tn_X6_start [(277, .iconst 0, 1), (278, .istore 4, 2), (280, .iinc 5 1, 3), (283, .goto (-49), 3)] (st' := (234, [(6, .int v1), (0, .ref 18), (4, .int (nI 0)), (5, .int (x5 + (nI 1)))], [], wd d (wm s rest), 0, 0)) (List.forall_mem_cons.mpr ⟨dX6_start_277, List.forall_mem_cons.mpr ⟨dX6_start_278, List.forall_mem_cons.mpr ⟨dX6_start_280, List.forall_mem_cons.mpr ⟨dX6_start_283, fun _ h => absurd h List.not_mem_nil⟩⟩⟩⟩) rfl ?_
          refine xwk [0, 4, 5] rfl rfl ?_
          exact ih _ _ _ _ _ h
        · refine xs tn_X6_start [(273, .iconst 1, 1), (274, .goto 4, 3), (278, .istore 4, 2), (280, .iinc 5 1, 3), (283, .goto (-49), 3)] (st' := (234, [(6, .int v1), (0, .ref 18), (4, .int (nI 1)), (5, .int (x5 + (nI 1)))], [], wd d (wm s rest), 0, 0)) (List.forall_mem_cons.mpr ⟨dX6_start_273, List.forall_mem_cons.mpr ⟨dX6_start_274, List.forall_mem_cons.mpr ⟨dX6_start_278, List.forall_mem_cons.mpr ⟨dX6_start_280, List.forall_mem_cons.mpr ⟨dX6_start_283, fun _ h => absurd h List.not_mem_nil⟩⟩⟩⟩⟩) rfl ?_
          refine xwk [0, 4, 5] rfl rfl ?_
          exact ih _ _ _ _ _ h
      · refine xs tn_X6_start [(257, .aload_n 0, 1), (258, .iload 5, 2), (260, .iload 6, 2)] (st' := (262, [(6, .int v1), (0, .ref 18), (4, .int x4), (5, .int x5)], [.int v1, .int x5, .ref 18], wd d (wm s rest), 0, 0)) (List.forall_mem_cons.mpr ⟨dX6_start_257, List.forall_mem_cons.mpr ⟨dX6_start_258, List.forall_mem_cons.mpr ⟨dX6_start_260, fun _ h => absurd h List.not_mem_nil⟩⟩⟩) rfl ?_
        obtain ⟨v3, s4, h5, h⟩ := obindP h
        refine xcall tn_X6_start dX6_start_262 rfl rfl (w_X6_repairs h5) ?_
        show X 134 (265, [(6, .int v1), (0, .ref 18), (4, .int x4), (5, .int x5)], [.int v3], wd d (wm s4 rest), 0, 0) _
        refine xifF (t := 273) tn_X6_start dX6_start_265 (by decide) h (fun h => ?_) (fun h => ?_)
        · refine xs tn_X6_start [(273, .iconst 1, 1), (274, .goto 4, 3), (278, .istore 4, 2), (280, .iinc 5 1, 3), (283, .goto (-49), 3)] (st' := (234, [(6, .int v1), (0, .ref 18), (4, .int (nI 1)), (5, .int (x5 + (nI 1)))], [], wd d (wm s4 rest), 0, 0)) (List.forall_mem_cons.mpr ⟨dX6_start_273, List.forall_mem_cons.mpr ⟨dX6_start_274, List.forall_mem_cons.mpr ⟨dX6_start_278, List.forall_mem_cons.mpr ⟨dX6_start_280, List.forall_mem_cons.mpr ⟨dX6_start_283, fun _ h => absurd h List.not_mem_nil⟩⟩⟩⟩⟩) rfl ?_
          refine xwk [0, 4, 5] rfl rfl ?_
          exact ih _ _ _ _ _ h
        · refine xs tn_X6_start [(268, .iload 4, 2)] (st' := (270, [(6, .int v1), (0, .ref 18), (4, .int x4), (5, .int x5)], [.int x4], wd d (wm s4 rest), 0, 0)) (List.forall_mem_cons.mpr ⟨dX6_start_268, fun _ h => absurd h List.not_mem_nil⟩) rfl ?_
          refine xifF (t := 277) tn_X6_start dX6_start_270 (by decide) h (fun h => ?_) (fun h => ?_)
          · refine xs tn_X6_start [(277, .iconst 0, 1), (278, .istore 4, 2), (280, .iinc 5 1, 3), (283, .goto (-49), 3)] (st' := (234, [(6, .int v1), (0, .ref 18), (4, .int (nI 0)), (5, .int (x5 + (nI 1)))], [], wd d (wm s4 rest), 0, 0)) (List.forall_mem_cons.mpr ⟨dX6_start_277, List.forall_mem_cons.mpr ⟨dX6_start_278, List.forall_mem_cons.mpr ⟨dX6_start_280, List.forall_mem_cons.mpr ⟨dX6_start_283, fun _ h => absurd h List.not_mem_nil⟩⟩⟩⟩) rfl ?_
            refine xwk [0, 4, 5] rfl rfl ?_
            exact ih _ _ _ _ _ h
          · refine xs tn_X6_start [(273, .iconst 1, 1), (274, .goto 4, 3), (278, .istore 4, 2), (280, .iinc 5 1, 3), (283, .goto (-49), 3)] (st' := (234, [(6, .int v1), (0, .ref 18), (4, .int (nI 1)), (5, .int (x5 + (nI 1)))], [], wd d (wm s4 rest), 0, 0)) (List.forall_mem_cons.mpr ⟨dX6_start_273, List.forall_mem_cons.mpr ⟨dX6_start_274, List.forall_mem_cons.mpr ⟨dX6_start_278, List.forall_mem_cons.mpr ⟨dX6_start_280, List.forall_mem_cons.mpr ⟨dX6_start_283, fun _ h => absurd h List.not_mem_nil⟩⟩⟩⟩⟩) rfl ?_
            refine xwk [0, 4, 5] rfl rfl ?_
            exact ih _ _ _ _ _ h
def F_X6_start_223 (N : Nat) : Nat → St → Int32 → Option (Int32 × St)
  | 0, _, _ => none
  | f + 1, s, x4 => bif mx_cnd .eq x4 0 then (bnd (sI s 9 (nI 0)) fun s1 => some (gI s1 3, s1)) else (F_X6_start_234 N (F_X6_start_223 N f) N s (nI 0) (nI 0))
set_option maxRecDepth 100000 in
set_option maxHeartbeats 4000000 in
theorem w_X6_start_223 {d : St} {rest : mx_W} {N : Nat} : ∀ (f : Nat) (s : St) (x4 : Int32) (r : Int32) (t : St), F_X6_start_223 N f s x4 = some (r, t) → X 134 (223, [(0, .ref 18), (4, .int x4)], [], wd d (wm s rest), 0, 0) (some (.int r), wd d (wm t rest), 0, 0) := by
  intro f
  induction f with
  | zero => intro s x4 r t h; rw [F_X6_start_223.eq_1] at h; cases h
  | succ f ih =>
    intro s x4 r t h
    rw [F_X6_start_223.eq_2] at h
    refine xs tn_X6_start [(223, .iload 4, 2)] (st' := (225, [(0, .ref 18), (4, .int x4)], [.int x4], wd d (wm s rest), 0, 0)) (List.forall_mem_cons.mpr ⟨dX6_start_223, fun _ h => absurd h List.not_mem_nil⟩) rfl ?_
    refine xifF (t := 289) tn_X6_start dX6_start_225 (by decide) h (fun h => ?_) (fun h => ?_)
    · refine xs tn_X6_start [(289, .aload_n 0, 1), (290, .iconst 0, 1)] (st' := (291, [(0, .ref 18), (4, .int x4)], [.int (nI 0), .ref 18], wd d (wm s rest), 0, 0)) (List.forall_mem_cons.mpr ⟨dX6_start_289, List.forall_mem_cons.mpr ⟨dX6_start_290, fun _ h => absurd h List.not_mem_nil⟩⟩) rfl ?_
      refine xput_b9 tn_X6_start dX6_start_291 rfl h (fun s1 h => ?_)
      refine xs tn_X6_start [(294, .aload_n 0, 1), (295, .getfield 100, 3)] (st' := (298, [(0, .ref 18), (4, .int x4)], [.int (gI s1 3)], wd d (wm s1 rest), 0, 0)) (List.forall_mem_cons.mpr ⟨dX6_start_294, List.forall_mem_cons.mpr ⟨dX6_start_295, fun _ h => absurd h List.not_mem_nil⟩⟩) rfl ?_
      cases h
      exact xret tn_X6_start rfl dX6_start_298
    · refine xs tn_X6_start [(228, .iconst 0, 1), (229, .istore 4, 2), (231, .iconst 0, 1), (232, .istore 5, 2)] (st' := (234, [(5, .int (nI 0)), (0, .ref 18), (4, .int (nI 0))], [], wd d (wm s rest), 0, 0)) (List.forall_mem_cons.mpr ⟨dX6_start_228, List.forall_mem_cons.mpr ⟨dX6_start_229, List.forall_mem_cons.mpr ⟨dX6_start_231, List.forall_mem_cons.mpr ⟨dX6_start_232, fun _ h => absurd h List.not_mem_nil⟩⟩⟩⟩) rfl ?_
      refine xwk [0, 4, 5] rfl rfl ?_
      exact w_X6_start_234 ih N _ _ _ _ _ h
def F_X6_start_172 (N : Nat) : Nat → St → Int32 → Option (Int32 × St)
  | 0, _, _ => none
  | f + 1, s, x4 => bif mx_cnd .ge x4 (nI 60) then (bnd (sI s 1 (nI 1)) fun s1 => bnd (sI s1 5 (nI 0)) fun s2 => F_X6_start_223 N N s2 (nI 1)) else ((F_X6_sectorOf N s x4).bind fun v3 => bif mx_cnd .eq v3 (-nI 1) then (bnd (sI s 3 (gI s 3)) fun s5 => F_X6_start_172 N f s5 (x4 + (nI 1))) else (bnd (sI s 3 (x4 + (nI 1))) fun s6 => F_X6_start_172 N f s6 (x4 + (nI 1))))
set_option maxRecDepth 100000 in
set_option maxHeartbeats 4000000 in
theorem w_X6_start_172 {d : St} {rest : mx_W} {N : Nat} : ∀ (f : Nat) (s : St) (x4 : Int32) (r : Int32) (t : St), F_X6_start_172 N f s x4 = some (r, t) → X 134 (172, [(0, .ref 18), (4, .int x4)], [], wd d (wm s rest), 0, 0) (some (.int r), wd d (wm t rest), 0, 0) := by
  intro f
  induction f with
  | zero => intro s x4 r t h; rw [F_X6_start_172.eq_1] at h; cases h
  | succ f ih =>
    intro s x4 r t h
    rw [F_X6_start_172.eq_2] at h
    refine xs tn_X6_start [(172, .iload 4, 2), (174, .bipush 60, 2)] (st' := (176, [(0, .ref 18), (4, .int x4)], [.int (nI 60), .int x4], wd d (wm s rest), 0, 0)) (List.forall_mem_cons.mpr ⟨dX6_start_172, List.forall_mem_cons.mpr ⟨dX6_start_174, fun _ h => absurd h List.not_mem_nil⟩⟩) rfl ?_
    refine xcmpF (t := 210) tn_X6_start dX6_start_176 (by decide) h (fun h => ?_) (fun h => ?_)
    · refine xs tn_X6_start [(210, .aload_n 0, 1), (211, .iconst 1, 1)] (st' := (212, [(0, .ref 18), (4, .int x4)], [.int (nI 1), .ref 18], wd d (wm s rest), 0, 0)) (List.forall_mem_cons.mpr ⟨dX6_start_210, List.forall_mem_cons.mpr ⟨dX6_start_211, fun _ h => absurd h List.not_mem_nil⟩⟩) rfl ?_
      refine xput_b1 tn_X6_start dX6_start_212 rfl (by decide) h (fun s1 h => ?_)
      refine xs tn_X6_start [(215, .aload_n 0, 1), (216, .iconst 0, 1)] (st' := (217, [(0, .ref 18), (4, .int x4)], [.int (nI 0), .ref 18], wd d (wm s1 rest), 0, 0)) (List.forall_mem_cons.mpr ⟨dX6_start_215, List.forall_mem_cons.mpr ⟨dX6_start_216, fun _ h => absurd h List.not_mem_nil⟩⟩) rfl ?_
      refine xput_b5 tn_X6_start dX6_start_217 rfl h (fun s2 h => ?_)
      refine xs tn_X6_start [(220, .iconst 1, 1), (221, .istore 4, 2)] (st' := (223, [(0, .ref 18), (4, .int (nI 1))], [], wd d (wm s2 rest), 0, 0)) (List.forall_mem_cons.mpr ⟨dX6_start_220, List.forall_mem_cons.mpr ⟨dX6_start_221, fun _ h => absurd h List.not_mem_nil⟩⟩) rfl ?_
      refine xwk [0, 4] rfl rfl ?_
      exact w_X6_start_223 N _ _ _ _ h
    · refine xs tn_X6_start [(179, .aload_n 0, 1), (180, .aload_n 0, 1), (181, .iload 4, 2)] (st' := (183, [(0, .ref 18), (4, .int x4)], [.int x4, .ref 18, .ref 18], wd d (wm s rest), 0, 0)) (List.forall_mem_cons.mpr ⟨dX6_start_179, List.forall_mem_cons.mpr ⟨dX6_start_180, List.forall_mem_cons.mpr ⟨dX6_start_181, fun _ h => absurd h List.not_mem_nil⟩⟩⟩) rfl ?_
      obtain ⟨v3, h4, h⟩ := obind h
      refine xcall tn_X6_start dX6_start_183 rfl rfl (w_X6_sectorOf h4) ?_
      show X 134 (186, [(0, .ref 18), (4, .int x4)], [.int v3, .ref 18], wd d (wm s rest), 0, 0) _
      refine xs tn_X6_start [(186, .iconst (-1), 1)] (st' := (187, [(0, .ref 18), (4, .int x4)], [.int (-nI 1), .int v3, .ref 18], wd d (wm s rest), 0, 0)) (List.forall_mem_cons.mpr ⟨dX6_start_186, fun _ h => absurd h List.not_mem_nil⟩) rfl ?_
      refine xcmpF (t := 197) tn_X6_start dX6_start_187 (by decide) h (fun h => ?_) (fun h => ?_)
      · refine xs tn_X6_start [(197, .aload_n 0, 1), (198, .getfield 100, 3)] (st' := (201, [(0, .ref 18), (4, .int x4)], [.int (gI s 3), .ref 18], wd d (wm s rest), 0, 0)) (List.forall_mem_cons.mpr ⟨dX6_start_197, List.forall_mem_cons.mpr ⟨dX6_start_198, fun _ h => absurd h List.not_mem_nil⟩⟩) rfl ?_
        refine xput_b3 tn_X6_start dX6_start_201 rfl h (fun s5 h => ?_)
        refine xs tn_X6_start [(204, .iinc 4 1, 3), (207, .goto (-35), 3)] (st' := (172, [(0, .ref 18), (4, .int (x4 + (nI 1)))], [], wd d (wm s5 rest), 0, 0)) (List.forall_mem_cons.mpr ⟨dX6_start_204, List.forall_mem_cons.mpr ⟨dX6_start_207, fun _ h => absurd h List.not_mem_nil⟩⟩) rfl ?_
        refine xwk [0, 4] rfl rfl ?_
        exact ih _ _ _ _ h
      · refine xs tn_X6_start [(190, .iload 4, 2), (192, .iconst 1, 1), (193, .iadd, 1), (194, .goto 7, 3)] (st' := (201, [(0, .ref 18), (4, .int x4)], [.int (x4 + (nI 1)), .ref 18], wd d (wm s rest), 0, 0)) (List.forall_mem_cons.mpr ⟨dX6_start_190, List.forall_mem_cons.mpr ⟨dX6_start_192, List.forall_mem_cons.mpr ⟨dX6_start_193, List.forall_mem_cons.mpr ⟨dX6_start_194, fun _ h => absurd h List.not_mem_nil⟩⟩⟩⟩) rfl ?_
        refine xput_b3 tn_X6_start dX6_start_201 rfl h (fun s6 h => ?_)
        refine xs tn_X6_start [(204, .iinc 4 1, 3), (207, .goto (-35), 3)] (st' := (172, [(0, .ref 18), (4, .int (x4 + (nI 1)))], [], wd d (wm s6 rest), 0, 0)) (List.forall_mem_cons.mpr ⟨dX6_start_204, List.forall_mem_cons.mpr ⟨dX6_start_207, fun _ h => absurd h List.not_mem_nil⟩⟩) rfl ?_
        refine xwk [0, 4] rfl rfl ?_
        exact ih _ _ _ _ h
def F_X6_start_130 (N : Nat) : Nat → St → Option (Int32 × St)
  | 0, _ => none
  | f + 1, s => bif mx_cnd .ge (gI s 2) (nI (gN s)) then (F_X6_start_172 N N s (gI s 3)) else ((F_X6_sortOf N s (gI s 2)).bind fun v1 => bif mx_cnd .lt v1 (nI 2) then (F_X6_start_172 N N s (gI s 3)) else (bnd (sI s 2 ((gI s 2) + (nI 1))) fun s3 => F_X6_start_130 N f s3))
set_option maxRecDepth 100000 in
set_option maxHeartbeats 4000000 in
theorem w_X6_start_130 {d : St} {rest : mx_W} {N : Nat} : ∀ (f : Nat) (s : St)  (r : Int32) (t : St), F_X6_start_130 N f s = some (r, t) → X 134 (130, [(0, .ref 18)], [], wd d (wm s rest), 0, 0) (some (.int r), wd d (wm t rest), 0, 0) := by
  intro f
  induction f with
  | zero => intro s r t h; rw [F_X6_start_130.eq_1] at h; cases h
  | succ f ih =>
    intro s r t h
    rw [F_X6_start_130.eq_2] at h
    refine xs tn_X6_start [(130, .aload_n 0, 1), (131, .getfield 21, 3), (134, .aload_n 0, 1), (135, .getfield 67, 3)] (st' := (138, [(0, .ref 18)], [.int (nI (gN s)), .int (gI s 2)], wd d (wm s rest), 0, 0)) (List.forall_mem_cons.mpr ⟨dX6_start_130, List.forall_mem_cons.mpr ⟨dX6_start_131, List.forall_mem_cons.mpr ⟨dX6_start_134, List.forall_mem_cons.mpr ⟨dX6_start_135, fun _ h => absurd h List.not_mem_nil⟩⟩⟩⟩) rfl ?_
    refine xcmpF (t := 166) tn_X6_start dX6_start_138 (by decide) h (fun h => ?_) (fun h => ?_)
    · refine xs tn_X6_start [(166, .aload_n 0, 1), (167, .getfield 100, 3), (170, .istore 4, 2)] (st' := (172, [(4, .int (gI s 3)), (0, .ref 18)], [], wd d (wm s rest), 0, 0)) (List.forall_mem_cons.mpr ⟨dX6_start_166, List.forall_mem_cons.mpr ⟨dX6_start_167, List.forall_mem_cons.mpr ⟨dX6_start_170, fun _ h => absurd h List.not_mem_nil⟩⟩⟩) rfl ?_
      refine xwk [0, 4] rfl rfl ?_
      exact w_X6_start_172 N _ _ _ _ h
    · refine xs tn_X6_start [(141, .aload_n 0, 1), (142, .aload_n 0, 1), (143, .getfield 21, 3)] (st' := (146, [(0, .ref 18)], [.int (gI s 2), .ref 18], wd d (wm s rest), 0, 0)) (List.forall_mem_cons.mpr ⟨dX6_start_141, List.forall_mem_cons.mpr ⟨dX6_start_142, List.forall_mem_cons.mpr ⟨dX6_start_143, fun _ h => absurd h List.not_mem_nil⟩⟩⟩) rfl ?_
      obtain ⟨v1, h2, h⟩ := obind h
      refine xcall tn_X6_start dX6_start_146 rfl rfl (w_X6_sortOf h2) ?_
      show X 134 (149, [(0, .ref 18)], [.int v1], wd d (wm s rest), 0, 0) _
      refine xs tn_X6_start [(149, .iconst 2, 1)] (st' := (150, [(0, .ref 18)], [.int (nI 2), .int v1], wd d (wm s rest), 0, 0)) (List.forall_mem_cons.mpr ⟨dX6_start_149, fun _ h => absurd h List.not_mem_nil⟩) rfl ?_
      refine xcmpF (t := 166) tn_X6_start dX6_start_150 (by decide) h (fun h => ?_) (fun h => ?_)
      · refine xs tn_X6_start [(166, .aload_n 0, 1), (167, .getfield 100, 3), (170, .istore 4, 2)] (st' := (172, [(4, .int (gI s 3)), (0, .ref 18)], [], wd d (wm s rest), 0, 0)) (List.forall_mem_cons.mpr ⟨dX6_start_166, List.forall_mem_cons.mpr ⟨dX6_start_167, List.forall_mem_cons.mpr ⟨dX6_start_170, fun _ h => absurd h List.not_mem_nil⟩⟩⟩) rfl ?_
        refine xwk [0, 4] rfl rfl ?_
        exact w_X6_start_172 N _ _ _ _ h
      · refine xs tn_X6_start [(153, .aload_n 0, 1), (154, .dup, 1), (155, .getfield 21, 3), (158, .iconst 1, 1), (159, .iadd, 1)] (st' := (160, [(0, .ref 18)], [.int ((gI s 2) + (nI 1)), .ref 18], wd d (wm s rest), 0, 0)) (List.forall_mem_cons.mpr ⟨dX6_start_153, List.forall_mem_cons.mpr ⟨dX6_start_154, List.forall_mem_cons.mpr ⟨dX6_start_155, List.forall_mem_cons.mpr ⟨dX6_start_158, List.forall_mem_cons.mpr ⟨dX6_start_159, fun _ h => absurd h List.not_mem_nil⟩⟩⟩⟩⟩) rfl ?_
        refine xput_b2 tn_X6_start dX6_start_160 rfl h (fun s3 h => ?_)
        refine xs tn_X6_start [(163, .goto (-33), 3)] (st' := (130, [(0, .ref 18)], [], wd d (wm s3 rest), 0, 0)) (List.forall_mem_cons.mpr ⟨dX6_start_163, fun _ h => absurd h List.not_mem_nil⟩) rfl ?_
        refine xwk [0] rfl rfl ?_
        exact ih _ _ _ h
def F_X6_start_62 (N : Nat) (s : St) (x3 : Int32) : Option (Int32 × St) := bif mx_cnd .ne x3 (-nI 1) then ((F_X6_generationAt s x3).bind fun v1 => bnd (sI s 4 v1) fun s3 => bif mx_cnd .ne x3 (-nI 1) then (ldA (gA s3 0) 1920 (((nI 32) * x3) + (nI 8)) fun v4 => bnd (sI s3 2 v4) fun s5 => bif mx_cnd .ne x3 (-nI 1) then (ldA (gA s5 0) 1920 (((nI 32) * x3) + (nI 9)) fun v6 => bnd (sI s5 3 v6) fun s7 => F_X6_start_130 N N s7) else (bnd (sI s5 3 (nI 0)) fun s8 => F_X6_start_130 N N s8)) else (bnd (sI s3 2 (nI 2)) fun s9 => bif mx_cnd .ne x3 (-nI 1) then (ldA (gA s9 0) 1920 (((nI 32) * x3) + (nI 9)) fun v10 => bnd (sI s9 3 v10) fun s11 => F_X6_start_130 N N s11) else (bnd (sI s9 3 (nI 0)) fun s12 => F_X6_start_130 N N s12))) else (bnd (sI s 4 (nI 0)) fun s13 => bif mx_cnd .ne x3 (-nI 1) then (ldA (gA s13 0) 1920 (((nI 32) * x3) + (nI 8)) fun v14 => bnd (sI s13 2 v14) fun s15 => bif mx_cnd .ne x3 (-nI 1) then (ldA (gA s15 0) 1920 (((nI 32) * x3) + (nI 9)) fun v16 => bnd (sI s15 3 v16) fun s17 => F_X6_start_130 N N s17) else (bnd (sI s15 3 (nI 0)) fun s18 => F_X6_start_130 N N s18)) else (bnd (sI s13 2 (nI 2)) fun s19 => bif mx_cnd .ne x3 (-nI 1) then (ldA (gA s19 0) 1920 (((nI 32) * x3) + (nI 9)) fun v20 => bnd (sI s19 3 v20) fun s21 => F_X6_start_130 N N s21) else (bnd (sI s19 3 (nI 0)) fun s22 => F_X6_start_130 N N s22)))
set_option maxRecDepth 100000 in
set_option maxHeartbeats 4000000 in
theorem w_X6_start_62 {d : St} {rest : mx_W} {N : Nat} {s : St} {x3 : Int32} {r : Int32} {t : St} (h : F_X6_start_62 N s x3 = some (r, t)) : X 134 (62, [(0, .ref 18), (3, .int x3)], [], wd d (wm s rest), 0, 0) (some (.int r), wd d (wm t rest), 0, 0) := by
  unfold F_X6_start_62 at h
  refine xs tn_X6_start [(62, .aload_n 0, 1), (63, .iload_n 3, 1), (64, .iconst (-1), 1)] (st' := (65, [(0, .ref 18), (3, .int x3)], [.int (-nI 1), .int x3, .ref 18], wd d (wm s rest), 0, 0)) (List.forall_mem_cons.mpr ⟨dX6_start_62, List.forall_mem_cons.mpr ⟨dX6_start_63, List.forall_mem_cons.mpr ⟨dX6_start_64, fun _ h => absurd h List.not_mem_nil⟩⟩⟩) rfl ?_
  refine xcmpF (t := 72) tn_X6_start dX6_start_65 (by decide) h (fun h => ?_) (fun h => ?_)
  · refine xs tn_X6_start [(72, .aload_n 0, 1), (73, .iload_n 3, 1)] (st' := (74, [(0, .ref 18), (3, .int x3)], [.int x3, .ref 18, .ref 18], wd d (wm s rest), 0, 0)) (List.forall_mem_cons.mpr ⟨dX6_start_72, List.forall_mem_cons.mpr ⟨dX6_start_73, fun _ h => absurd h List.not_mem_nil⟩⟩) rfl ?_
    obtain ⟨v1, h2, h⟩ := obind h
    refine xcall tn_X6_start dX6_start_74 rfl rfl (w_X6_generationAt h2) ?_
    show X 134 (77, [(0, .ref 18), (3, .int x3)], [.int v1, .ref 18], wd d (wm s rest), 0, 0) _
    refine xput_b4 tn_X6_start dX6_start_77 rfl h (fun s3 h => ?_)
    refine xs tn_X6_start [(80, .aload_n 0, 1), (81, .iload_n 3, 1), (82, .iconst (-1), 1)] (st' := (83, [(0, .ref 18), (3, .int x3)], [.int (-nI 1), .int x3, .ref 18], wd d (wm s3 rest), 0, 0)) (List.forall_mem_cons.mpr ⟨dX6_start_80, List.forall_mem_cons.mpr ⟨dX6_start_81, List.forall_mem_cons.mpr ⟨dX6_start_82, fun _ h => absurd h List.not_mem_nil⟩⟩⟩) rfl ?_
    refine xcmpF (t := 90) tn_X6_start dX6_start_83 (by decide) h (fun h => ?_) (fun h => ?_)
    · refine xs tn_X6_start [(90, .aload_n 0, 1), (91, .getfield 7, 3), (94, .bipush 32, 2), (96, .iload_n 3, 1), (97, .imul, 1), (98, .bipush 8, 2), (100, .iadd, 1)] (st' := (101, [(0, .ref 18), (3, .int x3)], [.int (((nI 32) * x3) + (nI 8)), .ref 19, .ref 18], wd d (wm s3 rest), 0, 0)) (List.forall_mem_cons.mpr ⟨dX6_start_90, List.forall_mem_cons.mpr ⟨dX6_start_91, List.forall_mem_cons.mpr ⟨dX6_start_94, List.forall_mem_cons.mpr ⟨dX6_start_96, List.forall_mem_cons.mpr ⟨dX6_start_97, List.forall_mem_cons.mpr ⟨dX6_start_98, List.forall_mem_cons.mpr ⟨dX6_start_100, fun _ h => absurd h List.not_mem_nil⟩⟩⟩⟩⟩⟩⟩) rfl ?_
      refine xldF tn_X6_start dX6_start_101 at_19 h (fun v4 h => ?_)
      refine xput_b2 tn_X6_start dX6_start_102 rfl h (fun s5 h => ?_)
      refine xs tn_X6_start [(105, .aload_n 0, 1), (106, .iload_n 3, 1), (107, .iconst (-1), 1)] (st' := (108, [(0, .ref 18), (3, .int x3)], [.int (-nI 1), .int x3, .ref 18], wd d (wm s5 rest), 0, 0)) (List.forall_mem_cons.mpr ⟨dX6_start_105, List.forall_mem_cons.mpr ⟨dX6_start_106, List.forall_mem_cons.mpr ⟨dX6_start_107, fun _ h => absurd h List.not_mem_nil⟩⟩⟩) rfl ?_
      refine xcmpF (t := 115) tn_X6_start dX6_start_108 (by decide) h (fun h => ?_) (fun h => ?_)
      · refine xs tn_X6_start [(115, .aload_n 0, 1), (116, .getfield 7, 3), (119, .bipush 32, 2), (121, .iload_n 3, 1), (122, .imul, 1), (123, .bipush 9, 2), (125, .iadd, 1)] (st' := (126, [(0, .ref 18), (3, .int x3)], [.int (((nI 32) * x3) + (nI 9)), .ref 19, .ref 18], wd d (wm s5 rest), 0, 0)) (List.forall_mem_cons.mpr ⟨dX6_start_115, List.forall_mem_cons.mpr ⟨dX6_start_116, List.forall_mem_cons.mpr ⟨dX6_start_119, List.forall_mem_cons.mpr ⟨dX6_start_121, List.forall_mem_cons.mpr ⟨dX6_start_122, List.forall_mem_cons.mpr ⟨dX6_start_123, List.forall_mem_cons.mpr ⟨dX6_start_125, fun _ h => absurd h List.not_mem_nil⟩⟩⟩⟩⟩⟩⟩) rfl ?_
        refine xldF tn_X6_start dX6_start_126 at_19 h (fun v6 h => ?_)
        refine xput_b3 tn_X6_start dX6_start_127 rfl h (fun s7 h => ?_)
        refine xwk [0] rfl rfl ?_
        exact w_X6_start_130 N _ _ _ h
      · refine xs tn_X6_start [(111, .iconst 0, 1), (112, .goto 15, 3)] (st' := (127, [(0, .ref 18), (3, .int x3)], [.int (nI 0), .ref 18], wd d (wm s5 rest), 0, 0)) (List.forall_mem_cons.mpr ⟨dX6_start_111, List.forall_mem_cons.mpr ⟨dX6_start_112, fun _ h => absurd h List.not_mem_nil⟩⟩) rfl ?_
        refine xput_b3 tn_X6_start dX6_start_127 rfl h (fun s8 h => ?_)
        refine xwk [0] rfl rfl ?_
        exact w_X6_start_130 N _ _ _ h
    · refine xs tn_X6_start [(86, .iconst 2, 1), (87, .goto 15, 3)] (st' := (102, [(0, .ref 18), (3, .int x3)], [.int (nI 2), .ref 18], wd d (wm s3 rest), 0, 0)) (List.forall_mem_cons.mpr ⟨dX6_start_86, List.forall_mem_cons.mpr ⟨dX6_start_87, fun _ h => absurd h List.not_mem_nil⟩⟩) rfl ?_
      refine xput_b2 tn_X6_start dX6_start_102 rfl h (fun s9 h => ?_)
      refine xs tn_X6_start [(105, .aload_n 0, 1), (106, .iload_n 3, 1), (107, .iconst (-1), 1)] (st' := (108, [(0, .ref 18), (3, .int x3)], [.int (-nI 1), .int x3, .ref 18], wd d (wm s9 rest), 0, 0)) (List.forall_mem_cons.mpr ⟨dX6_start_105, List.forall_mem_cons.mpr ⟨dX6_start_106, List.forall_mem_cons.mpr ⟨dX6_start_107, fun _ h => absurd h List.not_mem_nil⟩⟩⟩) rfl ?_
      refine xcmpF (t := 115) tn_X6_start dX6_start_108 (by decide) h (fun h => ?_) (fun h => ?_)
      · refine xs tn_X6_start [(115, .aload_n 0, 1), (116, .getfield 7, 3), (119, .bipush 32, 2), (121, .iload_n 3, 1), (122, .imul, 1), (123, .bipush 9, 2), (125, .iadd, 1)] (st' := (126, [(0, .ref 18), (3, .int x3)], [.int (((nI 32) * x3) + (nI 9)), .ref 19, .ref 18], wd d (wm s9 rest), 0, 0)) (List.forall_mem_cons.mpr ⟨dX6_start_115, List.forall_mem_cons.mpr ⟨dX6_start_116, List.forall_mem_cons.mpr ⟨dX6_start_119, List.forall_mem_cons.mpr ⟨dX6_start_121, List.forall_mem_cons.mpr ⟨dX6_start_122, List.forall_mem_cons.mpr ⟨dX6_start_123, List.forall_mem_cons.mpr ⟨dX6_start_125, fun _ h => absurd h List.not_mem_nil⟩⟩⟩⟩⟩⟩⟩) rfl ?_
        refine xldF tn_X6_start dX6_start_126 at_19 h (fun v10 h => ?_)
        refine xput_b3 tn_X6_start dX6_start_127 rfl h (fun s11 h => ?_)
        refine xwk [0] rfl rfl ?_
        exact w_X6_start_130 N _ _ _ h
      · refine xs tn_X6_start [(111, .iconst 0, 1), (112, .goto 15, 3)] (st' := (127, [(0, .ref 18), (3, .int x3)], [.int (nI 0), .ref 18], wd d (wm s9 rest), 0, 0)) (List.forall_mem_cons.mpr ⟨dX6_start_111, List.forall_mem_cons.mpr ⟨dX6_start_112, fun _ h => absurd h List.not_mem_nil⟩⟩) rfl ?_
        refine xput_b3 tn_X6_start dX6_start_127 rfl h (fun s12 h => ?_)
        refine xwk [0] rfl rfl ?_
        exact w_X6_start_130 N _ _ _ h
  · refine xs tn_X6_start [(68, .iconst 0, 1), (69, .goto 8, 3)] (st' := (77, [(0, .ref 18), (3, .int x3)], [.int (nI 0), .ref 18], wd d (wm s rest), 0, 0)) (List.forall_mem_cons.mpr ⟨dX6_start_68, List.forall_mem_cons.mpr ⟨dX6_start_69, fun _ h => absurd h List.not_mem_nil⟩⟩) rfl ?_
    refine xput_b4 tn_X6_start dX6_start_77 rfl h (fun s13 h => ?_)
    refine xs tn_X6_start [(80, .aload_n 0, 1), (81, .iload_n 3, 1), (82, .iconst (-1), 1)] (st' := (83, [(0, .ref 18), (3, .int x3)], [.int (-nI 1), .int x3, .ref 18], wd d (wm s13 rest), 0, 0)) (List.forall_mem_cons.mpr ⟨dX6_start_80, List.forall_mem_cons.mpr ⟨dX6_start_81, List.forall_mem_cons.mpr ⟨dX6_start_82, fun _ h => absurd h List.not_mem_nil⟩⟩⟩) rfl ?_
    refine xcmpF (t := 90) tn_X6_start dX6_start_83 (by decide) h (fun h => ?_) (fun h => ?_)
    · refine xs tn_X6_start [(90, .aload_n 0, 1), (91, .getfield 7, 3), (94, .bipush 32, 2), (96, .iload_n 3, 1), (97, .imul, 1), (98, .bipush 8, 2), (100, .iadd, 1)] (st' := (101, [(0, .ref 18), (3, .int x3)], [.int (((nI 32) * x3) + (nI 8)), .ref 19, .ref 18], wd d (wm s13 rest), 0, 0)) (List.forall_mem_cons.mpr ⟨dX6_start_90, List.forall_mem_cons.mpr ⟨dX6_start_91, List.forall_mem_cons.mpr ⟨dX6_start_94, List.forall_mem_cons.mpr ⟨dX6_start_96, List.forall_mem_cons.mpr ⟨dX6_start_97, List.forall_mem_cons.mpr ⟨dX6_start_98, List.forall_mem_cons.mpr ⟨dX6_start_100, fun _ h => absurd h List.not_mem_nil⟩⟩⟩⟩⟩⟩⟩) rfl ?_
      refine xldF tn_X6_start dX6_start_101 at_19 h (fun v14 h => ?_)
      refine xput_b2 tn_X6_start dX6_start_102 rfl h (fun s15 h => ?_)
      refine xs tn_X6_start [(105, .aload_n 0, 1), (106, .iload_n 3, 1), (107, .iconst (-1), 1)] (st' := (108, [(0, .ref 18), (3, .int x3)], [.int (-nI 1), .int x3, .ref 18], wd d (wm s15 rest), 0, 0)) (List.forall_mem_cons.mpr ⟨dX6_start_105, List.forall_mem_cons.mpr ⟨dX6_start_106, List.forall_mem_cons.mpr ⟨dX6_start_107, fun _ h => absurd h List.not_mem_nil⟩⟩⟩) rfl ?_
      refine xcmpF (t := 115) tn_X6_start dX6_start_108 (by decide) h (fun h => ?_) (fun h => ?_)
      · refine xs tn_X6_start [(115, .aload_n 0, 1), (116, .getfield 7, 3), (119, .bipush 32, 2), (121, .iload_n 3, 1), (122, .imul, 1), (123, .bipush 9, 2), (125, .iadd, 1)] (st' := (126, [(0, .ref 18), (3, .int x3)], [.int (((nI 32) * x3) + (nI 9)), .ref 19, .ref 18], wd d (wm s15 rest), 0, 0)) (List.forall_mem_cons.mpr ⟨dX6_start_115, List.forall_mem_cons.mpr ⟨dX6_start_116, List.forall_mem_cons.mpr ⟨dX6_start_119, List.forall_mem_cons.mpr ⟨dX6_start_121, List.forall_mem_cons.mpr ⟨dX6_start_122, List.forall_mem_cons.mpr ⟨dX6_start_123, List.forall_mem_cons.mpr ⟨dX6_start_125, fun _ h => absurd h List.not_mem_nil⟩⟩⟩⟩⟩⟩⟩) rfl ?_
        refine xldF tn_X6_start dX6_start_126 at_19 h (fun v16 h => ?_)
        refine xput_b3 tn_X6_start dX6_start_127 rfl h (fun s17 h => ?_)
        refine xwk [0] rfl rfl ?_
        exact w_X6_start_130 N _ _ _ h
      · refine xs tn_X6_start [(111, .iconst 0, 1), (112, .goto 15, 3)] (st' := (127, [(0, .ref 18), (3, .int x3)], [.int (nI 0), .ref 18], wd d (wm s15 rest), 0, 0)) (List.forall_mem_cons.mpr ⟨dX6_start_111, List.forall_mem_cons.mpr ⟨dX6_start_112, fun _ h => absurd h List.not_mem_nil⟩⟩) rfl ?_
        refine xput_b3 tn_X6_start dX6_start_127 rfl h (fun s18 h => ?_)
        refine xwk [0] rfl rfl ?_
        exact w_X6_start_130 N _ _ _ h
    · refine xs tn_X6_start [(86, .iconst 2, 1), (87, .goto 15, 3)] (st' := (102, [(0, .ref 18), (3, .int x3)], [.int (nI 2), .ref 18], wd d (wm s13 rest), 0, 0)) (List.forall_mem_cons.mpr ⟨dX6_start_86, List.forall_mem_cons.mpr ⟨dX6_start_87, fun _ h => absurd h List.not_mem_nil⟩⟩) rfl ?_
      refine xput_b2 tn_X6_start dX6_start_102 rfl h (fun s19 h => ?_)
      refine xs tn_X6_start [(105, .aload_n 0, 1), (106, .iload_n 3, 1), (107, .iconst (-1), 1)] (st' := (108, [(0, .ref 18), (3, .int x3)], [.int (-nI 1), .int x3, .ref 18], wd d (wm s19 rest), 0, 0)) (List.forall_mem_cons.mpr ⟨dX6_start_105, List.forall_mem_cons.mpr ⟨dX6_start_106, List.forall_mem_cons.mpr ⟨dX6_start_107, fun _ h => absurd h List.not_mem_nil⟩⟩⟩) rfl ?_
      refine xcmpF (t := 115) tn_X6_start dX6_start_108 (by decide) h (fun h => ?_) (fun h => ?_)
      · refine xs tn_X6_start [(115, .aload_n 0, 1), (116, .getfield 7, 3), (119, .bipush 32, 2), (121, .iload_n 3, 1), (122, .imul, 1), (123, .bipush 9, 2), (125, .iadd, 1)] (st' := (126, [(0, .ref 18), (3, .int x3)], [.int (((nI 32) * x3) + (nI 9)), .ref 19, .ref 18], wd d (wm s19 rest), 0, 0)) (List.forall_mem_cons.mpr ⟨dX6_start_115, List.forall_mem_cons.mpr ⟨dX6_start_116, List.forall_mem_cons.mpr ⟨dX6_start_119, List.forall_mem_cons.mpr ⟨dX6_start_121, List.forall_mem_cons.mpr ⟨dX6_start_122, List.forall_mem_cons.mpr ⟨dX6_start_123, List.forall_mem_cons.mpr ⟨dX6_start_125, fun _ h => absurd h List.not_mem_nil⟩⟩⟩⟩⟩⟩⟩) rfl ?_
        refine xldF tn_X6_start dX6_start_126 at_19 h (fun v20 h => ?_)
        refine xput_b3 tn_X6_start dX6_start_127 rfl h (fun s21 h => ?_)
        refine xwk [0] rfl rfl ?_
        exact w_X6_start_130 N _ _ _ h
      · refine xs tn_X6_start [(111, .iconst 0, 1), (112, .goto 15, 3)] (st' := (127, [(0, .ref 18), (3, .int x3)], [.int (nI 0), .ref 18], wd d (wm s19 rest), 0, 0)) (List.forall_mem_cons.mpr ⟨dX6_start_111, List.forall_mem_cons.mpr ⟨dX6_start_112, fun _ h => absurd h List.not_mem_nil⟩⟩) rfl ?_
        refine xput_b3 tn_X6_start dX6_start_127 rfl h (fun s22 h => ?_)
        refine xwk [0] rfl rfl ?_
        exact w_X6_start_130 N _ _ _ h
def F_X6_start (N : Nat) (s : St) : Option (Int32 × St) := bnd (sI s 0 (nI 0)) fun s1 => bif mx_cnd .eq (gI s1 1) 0 then ((F_X6_isHead N s1 (nI 0)).bind fun v2 => (F_X6_isHead N s1 (nI 1)).bind fun v4 => bif mx_cnd .eq v4 0 then (bif mx_cnd .eq v2 0 then (F_X6_start_62 N s1 (-nI 1)) else (F_X6_start_62 N s1 (nI 0))) else (bif mx_cnd .eq v2 0 then (F_X6_start_62 N s1 (nI 1)) else ((F_X6_generationAt s1 (nI 1)).bind fun v6 => (F_X6_generationAt s1 (nI 0)).bind fun v8 => bif mx_cnd .le v6 v8 then (bif mx_cnd .eq v2 0 then (F_X6_start_62 N s1 (-nI 1)) else (F_X6_start_62 N s1 (nI 0))) else (F_X6_start_62 N s1 (nI 1))))) else (some (-nI 3, s1))
set_option maxRecDepth 100000 in
set_option maxHeartbeats 4000000 in
theorem w_X6_start {d : St} {rest : mx_W} {N : Nat} {s : St} {r : Int32} {t : St} (h : F_X6_start N s = some (r, t)) : X 134 (0, [(0, .ref 18)], [], wd d (wm s rest), 0, 0) (some (.int r), wd d (wm t rest), 0, 0) := by
  unfold F_X6_start at h
  refine xs tn_X6_start [(0, .aload_n 0, 1), (1, .iconst 0, 1)] (st' := (2, [(0, .ref 18)], [.int (nI 0), .ref 18], wd d (wm s rest), 0, 0)) (List.forall_mem_cons.mpr ⟨dX6_start_0, List.forall_mem_cons.mpr ⟨dX6_start_1, fun _ h => absurd h List.not_mem_nil⟩⟩) rfl ?_
  refine xput_b0 tn_X6_start dX6_start_2 rfl h (fun s1 h => ?_)
  refine xs tn_X6_start [(5, .aload_n 0, 1), (6, .getfield 17, 3)] (st' := (9, [(0, .ref 18)], [.int (gI s1 1)], wd d (wm s1 rest), 0, 0)) (List.forall_mem_cons.mpr ⟨dX6_start_5, List.forall_mem_cons.mpr ⟨dX6_start_6, fun _ h => absurd h List.not_mem_nil⟩⟩) rfl ?_
  refine xifF (t := 15) tn_X6_start dX6_start_9 (by decide) h (fun h => ?_) (fun h => ?_)
  · refine xs tn_X6_start [(15, .aload_n 0, 1), (16, .iconst 0, 1)] (st' := (17, [(0, .ref 18)], [.int (nI 0), .ref 18], wd d (wm s1 rest), 0, 0)) (List.forall_mem_cons.mpr ⟨dX6_start_15, List.forall_mem_cons.mpr ⟨dX6_start_16, fun _ h => absurd h List.not_mem_nil⟩⟩) rfl ?_
    obtain ⟨v2, h3, h⟩ := obind h
    refine xcall tn_X6_start dX6_start_17 rfl rfl (w_X6_isHead h3) ?_
    show X 134 (20, [(0, .ref 18)], [.int v2], wd d (wm s1 rest), 0, 0) _
    refine xs tn_X6_start [(20, .istore_n 1, 1), (21, .aload_n 0, 1), (22, .iconst 1, 1)] (st' := (23, [(1, .int v2), (0, .ref 18)], [.int (nI 1), .ref 18], wd d (wm s1 rest), 0, 0)) (List.forall_mem_cons.mpr ⟨dX6_start_20, List.forall_mem_cons.mpr ⟨dX6_start_21, List.forall_mem_cons.mpr ⟨dX6_start_22, fun _ h => absurd h List.not_mem_nil⟩⟩⟩) rfl ?_
    obtain ⟨v4, h5, h⟩ := obind h
    refine xcall tn_X6_start dX6_start_23 rfl rfl (w_X6_isHead h5) ?_
    show X 134 (26, [(1, .int v2), (0, .ref 18)], [.int v4], wd d (wm s1 rest), 0, 0) _
    refine xs tn_X6_start [(26, .istore_n 2, 1), (27, .iload_n 2, 1)] (st' := (28, [(2, .int v4), (1, .int v2), (0, .ref 18)], [.int v4], wd d (wm s1 rest), 0, 0)) (List.forall_mem_cons.mpr ⟨dX6_start_26, List.forall_mem_cons.mpr ⟨dX6_start_27, fun _ h => absurd h List.not_mem_nil⟩⟩) rfl ?_
    refine xifF (t := 52) tn_X6_start dX6_start_28 (by decide) h (fun h => ?_) (fun h => ?_)
    · refine xs tn_X6_start [(52, .iload_n 1, 1)] (st' := (53, [(2, .int v4), (1, .int v2), (0, .ref 18)], [.int v2], wd d (wm s1 rest), 0, 0)) (List.forall_mem_cons.mpr ⟨dX6_start_52, fun _ h => absurd h List.not_mem_nil⟩) rfl ?_
      refine xifF (t := 60) tn_X6_start dX6_start_53 (by decide) h (fun h => ?_) (fun h => ?_)
      · refine xs tn_X6_start [(60, .iconst (-1), 1), (61, .istore_n 3, 1)] (st' := (62, [(3, .int (-nI 1)), (2, .int v4), (1, .int v2), (0, .ref 18)], [], wd d (wm s1 rest), 0, 0)) (List.forall_mem_cons.mpr ⟨dX6_start_60, List.forall_mem_cons.mpr ⟨dX6_start_61, fun _ h => absurd h List.not_mem_nil⟩⟩) rfl ?_
        refine xwk [0, 3] rfl rfl ?_
        exact w_X6_start_62 h
      · refine xs tn_X6_start [(56, .iconst 0, 1), (57, .goto 4, 3), (61, .istore_n 3, 1)] (st' := (62, [(3, .int (nI 0)), (2, .int v4), (1, .int v2), (0, .ref 18)], [], wd d (wm s1 rest), 0, 0)) (List.forall_mem_cons.mpr ⟨dX6_start_56, List.forall_mem_cons.mpr ⟨dX6_start_57, List.forall_mem_cons.mpr ⟨dX6_start_61, fun _ h => absurd h List.not_mem_nil⟩⟩⟩) rfl ?_
        refine xwk [0, 3] rfl rfl ?_
        exact w_X6_start_62 h
    · refine xs tn_X6_start [(31, .iload_n 1, 1)] (st' := (32, [(2, .int v4), (1, .int v2), (0, .ref 18)], [.int v2], wd d (wm s1 rest), 0, 0)) (List.forall_mem_cons.mpr ⟨dX6_start_31, fun _ h => absurd h List.not_mem_nil⟩) rfl ?_
      refine xifF (t := 48) tn_X6_start dX6_start_32 (by decide) h (fun h => ?_) (fun h => ?_)
      · refine xs tn_X6_start [(48, .iconst 1, 1), (49, .goto 12, 3), (61, .istore_n 3, 1)] (st' := (62, [(3, .int (nI 1)), (2, .int v4), (1, .int v2), (0, .ref 18)], [], wd d (wm s1 rest), 0, 0)) (List.forall_mem_cons.mpr ⟨dX6_start_48, List.forall_mem_cons.mpr ⟨dX6_start_49, List.forall_mem_cons.mpr ⟨dX6_start_61, fun _ h => absurd h List.not_mem_nil⟩⟩⟩) rfl ?_
        refine xwk [0, 3] rfl rfl ?_
        exact w_X6_start_62 h
      · refine xs tn_X6_start [(35, .aload_n 0, 1), (36, .iconst 1, 1)] (st' := (37, [(2, .int v4), (1, .int v2), (0, .ref 18)], [.int (nI 1), .ref 18], wd d (wm s1 rest), 0, 0)) (List.forall_mem_cons.mpr ⟨dX6_start_35, List.forall_mem_cons.mpr ⟨dX6_start_36, fun _ h => absurd h List.not_mem_nil⟩⟩) rfl ?_
        obtain ⟨v6, h7, h⟩ := obind h
        refine xcall tn_X6_start dX6_start_37 rfl rfl (w_X6_generationAt h7) ?_
        show X 134 (40, [(2, .int v4), (1, .int v2), (0, .ref 18)], [.int v6], wd d (wm s1 rest), 0, 0) _
        refine xs tn_X6_start [(40, .aload_n 0, 1), (41, .iconst 0, 1)] (st' := (42, [(2, .int v4), (1, .int v2), (0, .ref 18)], [.int (nI 0), .ref 18, .int v6], wd d (wm s1 rest), 0, 0)) (List.forall_mem_cons.mpr ⟨dX6_start_40, List.forall_mem_cons.mpr ⟨dX6_start_41, fun _ h => absurd h List.not_mem_nil⟩⟩) rfl ?_
        obtain ⟨v8, h9, h⟩ := obind h
        refine xcall tn_X6_start dX6_start_42 rfl rfl (w_X6_generationAt h9) ?_
        show X 134 (45, [(2, .int v4), (1, .int v2), (0, .ref 18)], [.int v8, .int v6], wd d (wm s1 rest), 0, 0) _
        refine xcmpF (t := 52) tn_X6_start dX6_start_45 (by decide) h (fun h => ?_) (fun h => ?_)
        · refine xs tn_X6_start [(52, .iload_n 1, 1)] (st' := (53, [(2, .int v4), (1, .int v2), (0, .ref 18)], [.int v2], wd d (wm s1 rest), 0, 0)) (List.forall_mem_cons.mpr ⟨dX6_start_52, fun _ h => absurd h List.not_mem_nil⟩) rfl ?_
          refine xifF (t := 60) tn_X6_start dX6_start_53 (by decide) h (fun h => ?_) (fun h => ?_)
          · refine xs tn_X6_start [(60, .iconst (-1), 1), (61, .istore_n 3, 1)] (st' := (62, [(3, .int (-nI 1)), (2, .int v4), (1, .int v2), (0, .ref 18)], [], wd d (wm s1 rest), 0, 0)) (List.forall_mem_cons.mpr ⟨dX6_start_60, List.forall_mem_cons.mpr ⟨dX6_start_61, fun _ h => absurd h List.not_mem_nil⟩⟩) rfl ?_
            refine xwk [0, 3] rfl rfl ?_
            exact w_X6_start_62 h
          · refine xs tn_X6_start [(56, .iconst 0, 1), (57, .goto 4, 3), (61, .istore_n 3, 1)] (st' := (62, [(3, .int (nI 0)), (2, .int v4), (1, .int v2), (0, .ref 18)], [], wd d (wm s1 rest), 0, 0)) (List.forall_mem_cons.mpr ⟨dX6_start_56, List.forall_mem_cons.mpr ⟨dX6_start_57, List.forall_mem_cons.mpr ⟨dX6_start_61, fun _ h => absurd h List.not_mem_nil⟩⟩⟩) rfl ?_
            refine xwk [0, 3] rfl rfl ?_
            exact w_X6_start_62 h
        · refine xs tn_X6_start [(48, .iconst 1, 1), (49, .goto 12, 3), (61, .istore_n 3, 1)] (st' := (62, [(3, .int (nI 1)), (2, .int v4), (1, .int v2), (0, .ref 18)], [], wd d (wm s1 rest), 0, 0)) (List.forall_mem_cons.mpr ⟨dX6_start_48, List.forall_mem_cons.mpr ⟨dX6_start_49, List.forall_mem_cons.mpr ⟨dX6_start_61, fun _ h => absurd h List.not_mem_nil⟩⟩⟩) rfl ?_
          refine xwk [0, 3] rfl rfl ?_
          exact w_X6_start_62 h
  · refine xs tn_X6_start [(12, .bipush (-3), 2)] (st' := (14, [(0, .ref 18)], [.int (-nI 3)], wd d (wm s1 rest), 0, 0)) (List.forall_mem_cons.mpr ⟨dX6_start_12, fun _ h => absurd h List.not_mem_nil⟩) rfl ?_
    cases h
    exact xret tn_X6_start rfl dX6_start_14
