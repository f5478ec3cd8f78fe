def F_X4_judge_13 (N : Nat) : Nat → St → Int32 → Int32 → Int32 → Option (St)
  | 0, _, _, _, _ => none
  | f + 1, s, x1, x2, x3 => bif mx_cnd .ge x3 (nI 4) then ((F_X4_cell s x1 (nI 0)).bind fun v1 => bif mx_cnd .lt v1 (nI 1) then (stA s 2 (gN s) x1 (nI 0) fun s3 => some s3) else (bif mx_cnd .gt v1 (nI 4) then (stA s 2 (gN s) x1 (nI 0) fun s4 => some s4) else ((F_X5_sumOf_2 N s (x1 * (nI 32))).bind fun v5 => bif mx_cnd .ne x2 v5 then (stA s 2 (gN s) x1 (nI 0) fun s7 => some s7) else (ldA (gA s 1) (gN s) x1 fun v8 => bif mx_cnd .ne v8 0 then (stA s 2 (gN s) x1 (nI 0) fun s9 => some s9) else (stA s 2 (gN s) x1 v1 fun s10 => some s10))))) else ((F_X4_cell s x1 ((nI 28) + x3)).bind fun v11 => F_X4_judge_13 N f s x1 ((x2 <<< ((nI 8) &&& 31)) ||| v11) (x3 + (nI 1)))
set_option maxRecDepth 100000 in
set_option maxHeartbeats 4000000 in
theorem w_X4_judge_13 {rest : mx_W} {N : Nat} : ∀ (f : Nat) (s : St) (x1 : Int32) (x2 : Int32) (x3 : Int32) (r : St), F_X4_judge_13 N f s x1 x2 x3 = some r → X 48 (13, [(0, .ref 1), (1, .int x1), (2, .int x2), (3, .int x3)], [], wd s rest, 0, 0) (none, wd r rest, 0, 0) := by
  intro f
  induction f with
  | zero => intro s x1 x2 x3 r h; rw [F_X4_judge_13.eq_1] at h; cases h
  | succ f ih =>
    intro s x1 x2 x3 r h
    rw [F_X4_judge_13.eq_2] at h
    refine xs tn_X4_judge [(13, .iload_n 3, 1), (14, .iconst 4, 1)] (st' := (15, [(0, .ref 1), (1, .int x1), (2, .int x2), (3, .int x3)], [.int (nI 4), .int x3], wd s rest, 0, 0)) (List.forall_mem_cons.mpr ⟨dX4_judge_13, List.forall_mem_cons.mpr ⟨dX4_judge_14, fun _ h => absurd h List.not_mem_nil⟩⟩) rfl ?_
    refine xcmpF (t := 39) tn_X4_judge dX4_judge_15 (by decide) h (fun h => ?_) (fun h => ?_)
    · refine xs tn_X4_judge [(39, .aload_n 0, 1), (40, .iload_n 1, 1), (41, .iconst 0, 1)] (st' := (42, [(0, .ref 1), (1, .int x1), (2, .int x2), (3, .int x3)], [.int (nI 0), .int x1, .ref 1], wd s rest, 0, 0)) (List.forall_mem_cons.mpr ⟨dX4_judge_39, List.forall_mem_cons.mpr ⟨dX4_judge_40, List.forall_mem_cons.mpr ⟨dX4_judge_41, fun _ h => absurd h List.not_mem_nil⟩⟩⟩) rfl ?_
      obtain ⟨v1, h2, h⟩ := obind h
      refine xcall tn_X4_judge dX4_judge_42 rfl rfl (w_X4_cell h2) ?_
      show X 48 (45, [(0, .ref 1), (1, .int x1), (2, .int x2), (3, .int x3)], [.int v1], wd s rest, 0, 0) _
      refine xs tn_X4_judge [(45, .istore_n 3, 1), (46, .iload_n 3, 1), (47, .iconst 1, 1)] (st' := (48, [(0, .ref 1), (1, .int x1), (2, .int x2), (3, .int v1)], [.int (nI 1), .int v1], wd s rest, 0, 0)) (List.forall_mem_cons.mpr ⟨dX4_judge_45, List.forall_mem_cons.mpr ⟨dX4_judge_46, List.forall_mem_cons.mpr ⟨dX4_judge_47, fun _ h => absurd h List.not_mem_nil⟩⟩⟩) rfl ?_
      refine xcmpF (t := 75) tn_X4_judge dX4_judge_48 (by decide) h (fun h => ?_) (fun h => ?_)
      · refine xs tn_X4_judge [(75, .iconst 0, 1), (76, .istore 4, 2), (78, .aload_n 0, 1), (79, .getfield 32, 3), (82, .iload_n 1, 1), (83, .iload 4, 2)] (st' := (85, [(4, .int (nI 0)), (0, .ref 1), (1, .int x1), (2, .int x2), (3, .int v1)], [.int (nI 0), .int x1, .ref 4], wd s rest, 0, 0)) (List.forall_mem_cons.mpr ⟨dX4_judge_75, List.forall_mem_cons.mpr ⟨dX4_judge_76, List.forall_mem_cons.mpr ⟨dX4_judge_78, List.forall_mem_cons.mpr ⟨dX4_judge_79, List.forall_mem_cons.mpr ⟨dX4_judge_82, List.forall_mem_cons.mpr ⟨dX4_judge_83, fun _ h => absurd h List.not_mem_nil⟩⟩⟩⟩⟩⟩) rfl ?_
        refine xifT (t := 101) tn_X4_judge dX4_judge_85 (by decide) (by decide) ?_
        refine xs tn_X4_judge [(101, .iconst 0, 1)] (st' := (102, [(4, .int (nI 0)), (0, .ref 1), (1, .int x1), (2, .int x2), (3, .int v1)], [.int (nI 0), .int x1, .ref 4], wd s rest, 0, 0)) (List.forall_mem_cons.mpr ⟨dX4_judge_101, fun _ h => absurd h List.not_mem_nil⟩) rfl ?_
        refine xstF (W := fun s => wd s rest) tn_X4_judge dX4_judge_102 at_4 (fun _ => set_4) h (fun s3 h => ?_)
        cases h
        exact xretv tn_X4_judge rfl dX4_judge_103
      · refine xs tn_X4_judge [(51, .iload_n 3, 1), (52, .iconst 4, 1)] (st' := (53, [(0, .ref 1), (1, .int x1), (2, .int x2), (3, .int v1)], [.int (nI 4), .int v1], wd s rest, 0, 0)) (List.forall_mem_cons.mpr ⟨dX4_judge_51, List.forall_mem_cons.mpr ⟨dX4_judge_52, fun _ h => absurd h List.not_mem_nil⟩⟩) rfl ?_
        refine xcmpF (t := 75) tn_X4_judge dX4_judge_53 (by decide) h (fun h => ?_) (fun h => ?_)
        · refine xs tn_X4_judge [(75, .iconst 0, 1), (76, .istore 4, 2), (78, .aload_n 0, 1), (79, .getfield 32, 3), (82, .iload_n 1, 1), (83, .iload 4, 2)] (st' := (85, [(4, .int (nI 0)), (0, .ref 1), (1, .int x1), (2, .int x2), (3, .int v1)], [.int (nI 0), .int x1, .ref 4], wd s rest, 0, 0)) (List.forall_mem_cons.mpr ⟨dX4_judge_75, List.forall_mem_cons.mpr ⟨dX4_judge_76, List.forall_mem_cons.mpr ⟨dX4_judge_78, List.forall_mem_cons.mpr ⟨dX4_judge_79, List.forall_mem_cons.mpr ⟨dX4_judge_82, List.forall_mem_cons.mpr ⟨dX4_judge_83, fun _ h => absurd h List.not_mem_nil⟩⟩⟩⟩⟩⟩) rfl ?_
          refine xifT (t := 101) tn_X4_judge dX4_judge_85 (by decide) (by decide) ?_
          refine xs tn_X4_judge [(101, .iconst 0, 1)] (st' := (102, [(4, .int (nI 0)), (0, .ref 1), (1, .int x1), (2, .int x2), (3, .int v1)], [.int (nI 0), .int x1, .ref 4], wd s rest, 0, 0)) (List.forall_mem_cons.mpr ⟨dX4_judge_101, fun _ h => absurd h List.not_mem_nil⟩) rfl ?_
          refine xstF (W := fun s => wd s rest) tn_X4_judge dX4_judge_102 at_4 (fun _ => set_4) h (fun s4 h => ?_)
          cases h
          exact xretv tn_X4_judge rfl dX4_judge_103
        · refine xs tn_X4_judge [(56, .iload_n 2, 1), (57, .aload_n 0, 1), (58, .getfield 24, 3), (61, .iload_n 1, 1), (62, .bipush 32, 2), (64, .imul, 1)] (st' := (65, [(0, .ref 1), (1, .int x1), (2, .int x2), (3, .int v1)], [.int (x1 * (nI 32)), .ref 2, .int x2], wd s rest, 0, 0)) (List.forall_mem_cons.mpr ⟨dX4_judge_56, List.forall_mem_cons.mpr ⟨dX4_judge_57, List.forall_mem_cons.mpr ⟨dX4_judge_58, List.forall_mem_cons.mpr ⟨dX4_judge_61, List.forall_mem_cons.mpr ⟨dX4_judge_62, List.forall_mem_cons.mpr ⟨dX4_judge_64, fun _ h => absurd h List.not_mem_nil⟩⟩⟩⟩⟩⟩) rfl ?_
          obtain ⟨v5, h6, h⟩ := obind h
          refine xcall tn_X4_judge dX4_judge_65 rfl rfl (w_X5_sumOf_2 h6) ?_
          show X 48 (68, [(0, .ref 1), (1, .int x1), (2, .int x2), (3, .int v1)], [.int v5, .int x2], wd s rest, 0, 0) _
          refine xcmpF (t := 75) tn_X4_judge dX4_judge_68 (by decide) h (fun h => ?_) (fun h => ?_)
          · refine xs tn_X4_judge [(75, .iconst 0, 1), (76, .istore 4, 2), (78, .aload_n 0, 1), (79, .getfield 32, 3), (82, .iload_n 1, 1), (83, .iload 4, 2)] (st' := (85, [(4, .int (nI 0)), (0, .ref 1), (1, .int x1), (2, .int x2), (3, .int v1)], [.int (nI 0), .int x1, .ref 4], wd s rest, 0, 0)) (List.forall_mem_cons.mpr ⟨dX4_judge_75, List.forall_mem_cons.mpr ⟨dX4_judge_76, List.forall_mem_cons.mpr ⟨dX4_judge_78, List.forall_mem_cons.mpr ⟨dX4_judge_79, List.forall_mem_cons.mpr ⟨dX4_judge_82, List.forall_mem_cons.mpr ⟨dX4_judge_83, fun _ h => absurd h List.not_mem_nil⟩⟩⟩⟩⟩⟩) rfl ?_
            refine xifT (t := 101) tn_X4_judge dX4_judge_85 (by decide) (by decide) ?_
            refine xs tn_X4_judge [(101, .iconst 0, 1)] (st' := (102, [(4, .int (nI 0)), (0, .ref 1), (1, .int x1), (2, .int x2), (3, .int v1)], [.int (nI 0), .int x1, .ref 4], wd s rest, 0, 0)) (List.forall_mem_cons.mpr ⟨dX4_judge_101, fun _ h => absurd h List.not_mem_nil⟩) rfl ?_
            refine xstF (W := fun s => wd s rest) tn_X4_judge dX4_judge_102 at_4 (fun _ => set_4) h (fun s7 h => ?_)
            cases h
            exact xretv tn_X4_judge rfl dX4_judge_103
          · refine xs tn_X4_judge [(71, .iconst 1, 1), (72, .goto 4, 3), (76, .istore 4, 2), (78, .aload_n 0, 1), (79, .getfield 32, 3), (82, .iload_n 1, 1), (83, .iload 4, 2)] (st' := (85, [(4, .int (nI 1)), (0, .ref 1), (1, .int x1), (2, .int x2), (3, .int v1)], [.int (nI 1), .int x1, .ref 4], wd s rest, 0, 0)) (List.forall_mem_cons.mpr ⟨dX4_judge_71, List.forall_mem_cons.mpr ⟨dX4_judge_72, List.forall_mem_cons.mpr ⟨dX4_judge_76, List.forall_mem_cons.mpr ⟨dX4_judge_78, List.forall_mem_cons.mpr ⟨dX4_judge_79, List.forall_mem_cons.mpr ⟨dX4_judge_82, List.forall_mem_cons.mpr ⟨dX4_judge_83, fun _ h => absurd h List.not_mem_nil⟩⟩⟩⟩⟩⟩⟩) rfl ?_
            refine xifN (t := 101) tn_X4_judge dX4_judge_85 (by decide) (by decide) ?_
            refine xs tn_X4_judge [(88, .aload_n 0, 1), (89, .getfield 28, 3), (92, .iload_n 1, 1)] (st' := (93, [(4, .int (nI 1)), (0, .ref 1), (1, .int x1), (2, .int x2), (3, .int v1)], [.int x1, .ref 3, .int x1, .ref 4], wd s rest, 0, 0)) (List.forall_mem_cons.mpr ⟨dX4_judge_88, List.forall_mem_cons.mpr ⟨dX4_judge_89, List.forall_mem_cons.mpr ⟨dX4_judge_92, fun _ h => absurd h List.not_mem_nil⟩⟩⟩) rfl ?_
            refine xzldF tn_X4_judge dX4_judge_93 at_3 h (fun v8 h => ?_)
            refine xifF (t := 101) tn_X4_judge dX4_judge_94 (by decide) h (fun h => ?_) (fun h => ?_)
            · refine xs tn_X4_judge [(101, .iconst 0, 1)] (st' := (102, [(4, .int (nI 1)), (0, .ref 1), (1, .int x1), (2, .int x2), (3, .int v1)], [.int (nI 0), .int x1, .ref 4], wd s rest, 0, 0)) (List.forall_mem_cons.mpr ⟨dX4_judge_101, fun _ h => absurd h List.not_mem_nil⟩) rfl ?_
              refine xstF (W := fun s => wd s rest) tn_X4_judge dX4_judge_102 at_4 (fun _ => set_4) h (fun s9 h => ?_)
              cases h
              exact xretv tn_X4_judge rfl dX4_judge_103
            · refine xs tn_X4_judge [(97, .iload_n 3, 1), (98, .goto 4, 3)] (st' := (102, [(4, .int (nI 1)), (0, .ref 1), (1, .int x1), (2, .int x2), (3, .int v1)], [.int v1, .int x1, .ref 4], wd s rest, 0, 0)) (List.forall_mem_cons.mpr ⟨dX4_judge_97, List.forall_mem_cons.mpr ⟨dX4_judge_98, fun _ h => absurd h List.not_mem_nil⟩⟩) rfl ?_
              refine xstF (W := fun s => wd s rest) tn_X4_judge dX4_judge_102 at_4 (fun _ => set_4) h (fun s10 h => ?_)
              cases h
              exact xretv tn_X4_judge rfl dX4_judge_103
    · refine xs tn_X4_judge [(18, .iload_n 2, 1), (19, .bipush 8, 2), (21, .ishl, 1), (22, .aload_n 0, 1), (23, .iload_n 1, 1), (24, .bipush 28, 2), (26, .iload_n 3, 1), (27, .iadd, 1)] (st' := (28, [(0, .ref 1), (1, .int x1), (2, .int x2), (3, .int x3)], [.int ((nI 28) + x3), .int x1, .ref 1, .int (x2 <<< ((nI 8) &&& 31))], wd s rest, 0, 0)) (List.forall_mem_cons.mpr ⟨dX4_judge_18, List.forall_mem_cons.mpr ⟨dX4_judge_19, List.forall_mem_cons.mpr ⟨dX4_judge_21, List.forall_mem_cons.mpr ⟨dX4_judge_22, List.forall_mem_cons.mpr ⟨dX4_judge_23, List.forall_mem_cons.mpr ⟨dX4_judge_24, List.forall_mem_cons.mpr ⟨dX4_judge_26, List.forall_mem_cons.mpr ⟨dX4_judge_27, fun _ h => absurd h List.not_mem_nil⟩⟩⟩⟩⟩⟩⟩⟩) rfl ?_
      obtain ⟨v11, h12, h⟩ := obind h
      refine xcall tn_X4_judge dX4_judge_28 rfl rfl (w_X4_cell h12) ?_
      show X 48 (31, [(0, .ref 1), (1, .int x1), (2, .int x2), (3, .int x3)], [.int v11, .int (x2 <<< ((nI 8) &&& 31))], wd s rest, 0, 0) _
      refine xs tn_X4_judge [(31, .ior, 1), (32, .istore_n 2, 1), (33, .iinc 3 1, 3), (36, .goto (-23), 3)] (st' := (13, [(0, .ref 1), (1, .int x1), (2, .int ((x2 <<< ((nI 8) &&& 31)) ||| v11)), (3, .int (x3 + (nI 1)))], [], wd s rest, 0, 0)) (List.forall_mem_cons.mpr ⟨dX4_judge_31, List.forall_mem_cons.mpr ⟨dX4_judge_32, List.forall_mem_cons.mpr ⟨dX4_judge_33, List.forall_mem_cons.mpr ⟨dX4_judge_36, fun _ h => absurd h List.not_mem_nil⟩⟩⟩⟩) rfl ?_
      refine xwk [0, 1, 2, 3] rfl rfl ?_
      exact ih _ _ _ _ _ h
def F_X4_judge (N : Nat) (s : St) (x1 : Int32) : Option (St) := (F_X4_has s x1).bind fun v1 => bif mx_cnd .ne v1 0 then (F_X4_judge_13 N N s x1 (nI 0) (nI 0)) else (some s)
set_option maxRecDepth 100000 in
set_option maxHeartbeats 4000000 in
theorem w_X4_judge {rest : mx_W} {N : Nat} {s : St} {x1 : Int32} {r : St} (h : F_X4_judge N s x1 = some r) : X 48 (0, [(0, .ref 1), (1, .int x1)], [], wd s rest, 0, 0) (none, wd r rest, 0, 0) := by
  unfold F_X4_judge at h
  refine xs tn_X4_judge [(0, .aload_n 0, 1), (1, .iload_n 1, 1)] (st' := (2, [(0, .ref 1), (1, .int x1)], [.int x1, .ref 1], wd s rest, 0, 0)) (List.forall_mem_cons.mpr ⟨dX4_judge_0, List.forall_mem_cons.mpr ⟨dX4_judge_1, fun _ h => absurd h List.not_mem_nil⟩⟩) rfl ?_
  obtain ⟨v1, h2, h⟩ := obind h
  refine xcall tn_X4_judge dX4_judge_2 rfl rfl (w_X4_has h2) ?_
  show X 48 (5, [(0, .ref 1), (1, .int x1)], [.int v1], wd s rest, 0, 0) _
  refine xifF (t := 9) tn_X4_judge dX4_judge_5 (by decide) h (fun h => ?_) (fun h => ?_)
  · refine xs tn_X4_judge [(9, .iconst 0, 1), (10, .istore_n 2, 1), (11, .iconst 0, 1), (12, .istore_n 3, 1)] (st' := (13, [(3, .int (nI 0)), (2, .int (nI 0)), (0, .ref 1), (1, .int x1)], [], wd s rest, 0, 0)) (List.forall_mem_cons.mpr ⟨dX4_judge_9, List.forall_mem_cons.mpr ⟨dX4_judge_10, List.forall_mem_cons.mpr ⟨dX4_judge_11, List.forall_mem_cons.mpr ⟨dX4_judge_12, fun _ h => absurd h List.not_mem_nil⟩⟩⟩⟩) rfl ?_
    refine xwk [0, 1, 2, 3] rfl rfl ?_
    exact w_X4_judge_13 N _ _ _ _ _ h
  · cases h
    exact xretv tn_X4_judge rfl dX4_judge_8
def F_X0_cell (s : St) (x1 : Int32) : Option (Int32) := bif mx_cnd .lt x1 0 then (some (nI 0)) else (bif mx_cnd .ge x1 (nI 32) then (some (nI 0)) else (ldA (gA s 6) 32 x1 fun v1 => some v1))
set_option maxRecDepth 100000 in
set_option maxHeartbeats 4000000 in
theorem w_X0_cell {rest : mx_W} {s : St} {x1 : Int32} {r : Int32} (h : F_X0_cell s x1 = some r) : X 5 (0, [(0, .ref 9), (1, .int x1)], [], wd s rest, 0, 0) (some (.int r), wd s rest, 0, 0) := by
  unfold F_X0_cell at h
  refine xs tn_X0_cell [(0, .iload_n 1, 1)] (st' := (1, [(0, .ref 9), (1, .int x1)], [.int x1], wd s rest, 0, 0)) (List.forall_mem_cons.mpr ⟨dX0_cell_0, fun _ h => absurd h List.not_mem_nil⟩) rfl ?_
  refine xifF (t := 19) tn_X0_cell dX0_cell_1 (by decide) h (fun h => ?_) (fun h => ?_)
  · refine xs tn_X0_cell [(19, .iconst 0, 1)] (st' := (20, [(0, .ref 9), (1, .int x1)], [.int (nI 0)], wd s rest, 0, 0)) (List.forall_mem_cons.mpr ⟨dX0_cell_19, fun _ h => absurd h List.not_mem_nil⟩) rfl ?_
    cases h
    exact xret tn_X0_cell rfl dX0_cell_20
  · refine xs tn_X0_cell [(4, .iload_n 1, 1), (5, .bipush 32, 2)] (st' := (7, [(0, .ref 9), (1, .int x1)], [.int (nI 32), .int x1], wd s rest, 0, 0)) (List.forall_mem_cons.mpr ⟨dX0_cell_4, List.forall_mem_cons.mpr ⟨dX0_cell_5, fun _ h => absurd h List.not_mem_nil⟩⟩) rfl ?_
    refine xcmpF (t := 19) tn_X0_cell dX0_cell_7 (by decide) h (fun h => ?_) (fun h => ?_)
    · refine xs tn_X0_cell [(19, .iconst 0, 1)] (st' := (20, [(0, .ref 9), (1, .int x1)], [.int (nI 0)], wd s rest, 0, 0)) (List.forall_mem_cons.mpr ⟨dX0_cell_19, fun _ h => absurd h List.not_mem_nil⟩) rfl ?_
      cases h
      exact xret tn_X0_cell rfl dX0_cell_20
    · refine xs tn_X0_cell [(10, .aload_n 0, 1), (11, .getfield 9, 3), (14, .iload_n 1, 1)] (st' := (15, [(0, .ref 9), (1, .int x1)], [.int x1, .ref 10], wd s rest, 0, 0)) (List.forall_mem_cons.mpr ⟨dX0_cell_10, List.forall_mem_cons.mpr ⟨dX0_cell_11, List.forall_mem_cons.mpr ⟨dX0_cell_14, fun _ h => absurd h List.not_mem_nil⟩⟩⟩) rfl ?_
      refine xldF tn_X0_cell dX0_cell_15 at_10 h (fun v1 h => ?_)
      refine xs tn_X0_cell [(16, .goto 4, 3)] (st' := (20, [(0, .ref 9), (1, .int x1)], [.int v1], wd s rest, 0, 0)) (List.forall_mem_cons.mpr ⟨dX0_cell_16, fun _ h => absurd h List.not_mem_nil⟩) rfl ?_
      cases h
      exact xret tn_X0_cell rfl dX0_cell_20
def F_X4_store_12 (N : Nat) : Nat → St → Int32 → Int32 → Int32 → Option (St)
  | 0, _, _, _, _ => none
  | f + 1, s, x1, x3, x4 => bif mx_cnd .ge x4 x3 then (stA s 1 (gN s) x1 (vp_nar .boolean (nI 0)) fun s1 => (F_X4_judge N s1 x1).bind fun s2 => some s2) else (bif mx_cnd .ge x4 (nI 32) then (stA s 1 (gN s) x1 (vp_nar .boolean (nI 0)) fun s4 => (F_X4_judge N s4 x1).bind fun s5 => some s5) else ((F_X0_cell s x4).bind fun v7 => stA s 0 (32 * gN s) ((x1 * (nI 32)) + x4) v7 fun s9 => F_X4_store_12 N f s9 x1 x3 (x4 + (nI 1))))
set_option maxRecDepth 100000 in
set_option maxHeartbeats 4000000 in
theorem w_X4_store_12 {rest : mx_W} {N : Nat} : ∀ (f : Nat) (s : St) (x1 : Int32) (x3 : Int32) (x4 : Int32) (r : St), F_X4_store_12 N f s x1 x3 x4 = some r → X 70 (12, [(0, .ref 1), (1, .int x1), (2, .ref 9), (3, .int x3), (4, .int x4)], [], wd s rest, 0, 0) (none, wd r rest, 0, 0) := by
  intro f
  induction f with
  | zero => intro s x1 x3 x4 r h; rw [F_X4_store_12.eq_1] at h; cases h
  | succ f ih =>
    intro s x1 x3 x4 r h
    rw [F_X4_store_12.eq_2] at h
    refine xs tn_X4_store [(12, .iload 4, 2), (14, .iload_n 3, 1)] (st' := (15, [(0, .ref 1), (1, .int x1), (2, .ref 9), (3, .int x3), (4, .int x4)], [.int x3, .int x4], wd s rest, 0, 0)) (List.forall_mem_cons.mpr ⟨dX4_store_12, List.forall_mem_cons.mpr ⟨dX4_store_14, fun _ h => absurd h List.not_mem_nil⟩⟩) rfl ?_
    refine xcmpF (t := 49) tn_X4_store dX4_store_15 (by decide) h (fun h => ?_) (fun h => ?_)
    · refine xs tn_X4_store [(49, .aload_n 0, 1), (50, .getfield 28, 3), (53, .iload_n 1, 1), (54, .iconst 0, 1)] (st' := (55, [(0, .ref 1), (1, .int x1), (2, .ref 9), (3, .int x3), (4, .int x4)], [.int (nI 0), .int x1, .ref 3], wd s rest, 0, 0)) (List.forall_mem_cons.mpr ⟨dX4_store_49, List.forall_mem_cons.mpr ⟨dX4_store_50, List.forall_mem_cons.mpr ⟨dX4_store_53, List.forall_mem_cons.mpr ⟨dX4_store_54, fun _ h => absurd h List.not_mem_nil⟩⟩⟩⟩) rfl ?_
      refine xzstF (W := fun s => wd s rest) tn_X4_store dX4_store_55 at_3 (fun _ => set_3) h (fun s1 h => ?_)
      refine xs tn_X4_store [(56, .aload_n 0, 1), (57, .iload_n 1, 1)] (st' := (58, [(0, .ref 1), (1, .int x1), (2, .ref 9), (3, .int x3), (4, .int x4)], [.int x1, .ref 1], wd s1 rest, 0, 0)) (List.forall_mem_cons.mpr ⟨dX4_store_56, List.forall_mem_cons.mpr ⟨dX4_store_57, fun _ h => absurd h List.not_mem_nil⟩⟩) rfl ?_
      obtain ⟨s2, h3, h⟩ := obind h
      refine xcall tn_X4_store dX4_store_58 rfl rfl (w_X4_judge h3) ?_
      show X 70 (61, [(0, .ref 1), (1, .int x1), (2, .ref 9), (3, .int x3), (4, .int x4)], [], wd s2 rest, 0, 0) _
      cases h
      exact xretv tn_X4_store rfl dX4_store_61
    · refine xs tn_X4_store [(18, .iload 4, 2), (20, .bipush 32, 2)] (st' := (22, [(0, .ref 1), (1, .int x1), (2, .ref 9), (3, .int x3), (4, .int x4)], [.int (nI 32), .int x4], wd s rest, 0, 0)) (List.forall_mem_cons.mpr ⟨dX4_store_18, List.forall_mem_cons.mpr ⟨dX4_store_20, fun _ h => absurd h List.not_mem_nil⟩⟩) rfl ?_
      refine xcmpF (t := 49) tn_X4_store dX4_store_22 (by decide) h (fun h => ?_) (fun h => ?_)
      · refine xs tn_X4_store [(49, .aload_n 0, 1), (50, .getfield 28, 3), (53, .iload_n 1, 1), (54, .iconst 0, 1)] (st' := (55, [(0, .ref 1), (1, .int x1), (2, .ref 9), (3, .int x3), (4, .int x4)], [.int (nI 0), .int x1, .ref 3], wd s rest, 0, 0)) (List.forall_mem_cons.mpr ⟨dX4_store_49, List.forall_mem_cons.mpr ⟨dX4_store_50, List.forall_mem_cons.mpr ⟨dX4_store_53, List.forall_mem_cons.mpr ⟨dX4_store_54, fun _ h => absurd h List.not_mem_nil⟩⟩⟩⟩) rfl ?_
        refine xzstF (W := fun s => wd s rest) tn_X4_store dX4_store_55 at_3 (fun _ => set_3) h (fun s4 h => ?_)
        refine xs tn_X4_store [(56, .aload_n 0, 1), (57, .iload_n 1, 1)] (st' := (58, [(0, .ref 1), (1, .int x1), (2, .ref 9), (3, .int x3), (4, .int x4)], [.int x1, .ref 1], wd s4 rest, 0, 0)) (List.forall_mem_cons.mpr ⟨dX4_store_56, List.forall_mem_cons.mpr ⟨dX4_store_57, fun _ h => absurd h List.not_mem_nil⟩⟩) rfl ?_
        obtain ⟨s5, h6, h⟩ := obind h
        refine xcall tn_X4_store dX4_store_58 rfl rfl (w_X4_judge h6) ?_
        show X 70 (61, [(0, .ref 1), (1, .int x1), (2, .ref 9), (3, .int x3), (4, .int x4)], [], wd s5 rest, 0, 0) _
        cases h
        exact xretv tn_X4_store rfl dX4_store_61
      · refine xs tn_X4_store [(25, .aload_n 0, 1), (26, .getfield 24, 3), (29, .iload_n 1, 1), (30, .bipush 32, 2), (32, .imul, 1), (33, .iload 4, 2), (35, .iadd, 1), (36, .aload_n 2, 1), (37, .iload 4, 2)] (st' := (39, [(0, .ref 1), (1, .int x1), (2, .ref 9), (3, .int x3), (4, .int x4)], [.int x4, .ref 9, .int ((x1 * (nI 32)) + x4), .ref 2], wd s rest, 0, 0)) (List.forall_mem_cons.mpr ⟨dX4_store_25, List.forall_mem_cons.mpr ⟨dX4_store_26, List.forall_mem_cons.mpr ⟨dX4_store_29, List.forall_mem_cons.mpr ⟨dX4_store_30, List.forall_mem_cons.mpr ⟨dX4_store_32, List.forall_mem_cons.mpr ⟨dX4_store_33, List.forall_mem_cons.mpr ⟨dX4_store_35, List.forall_mem_cons.mpr ⟨dX4_store_36, List.forall_mem_cons.mpr ⟨dX4_store_37, fun _ h => absurd h List.not_mem_nil⟩⟩⟩⟩⟩⟩⟩⟩⟩) rfl ?_
        obtain ⟨v7, h8, h⟩ := obind h
        refine xcall tn_X4_store dX4_store_39 rfl rfl (w_X0_cell h8) ?_
        show X 70 (42, [(0, .ref 1), (1, .int x1), (2, .ref 9), (3, .int x3), (4, .int x4)], [.int v7, .int ((x1 * (nI 32)) + x4), .ref 2], wd s rest, 0, 0) _
        refine xstF (W := fun s => wd s rest) tn_X4_store dX4_store_42 at_2 (fun _ => set_2) h (fun s9 h => ?_)
        refine xs tn_X4_store [(43, .iinc 4 1, 3), (46, .goto (-34), 3)] (st' := (12, [(0, .ref 1), (1, .int x1), (2, .ref 9), (3, .int x3), (4, .int (x4 + (nI 1)))], [], wd s9 rest, 0, 0)) (List.forall_mem_cons.mpr ⟨dX4_store_43, List.forall_mem_cons.mpr ⟨dX4_store_46, fun _ h => absurd h List.not_mem_nil⟩⟩) rfl ?_
        refine xwk [0, 1, 2, 3, 4] rfl rfl ?_
        exact ih _ _ _ _ _ h
def F_X4_store (N : Nat) (s : St) (x1 : Int32) (x3 : Int32) : Option (St) := (F_X4_has s x1).bind fun v1 => bif mx_cnd .ne v1 0 then (F_X4_store_12 N N s x1 x3 (nI 0)) else (some s)
set_option maxRecDepth 100000 in
set_option maxHeartbeats 4000000 in
theorem w_X4_store {rest : mx_W} {N : Nat} {s : St} {x1 : Int32} {x3 : Int32} {r : St} (h : F_X4_store N s x1 x3 = some r) : X 70 (0, [(0, .ref 1), (1, .int x1), (2, .ref 9), (3, .int x3)], [], wd s rest, 0, 0) (none, wd r rest, 0, 0) := by
  unfold F_X4_store at h
  refine xs tn_X4_store [(0, .aload_n 0, 1), (1, .iload_n 1, 1)] (st' := (2, [(0, .ref 1), (1, .int x1), (2, .ref 9), (3, .int x3)], [.int x1, .ref 1], wd s rest, 0, 0)) (List.forall_mem_cons.mpr ⟨dX4_store_0, List.forall_mem_cons.mpr ⟨dX4_store_1, fun _ h => absurd h List.not_mem_nil⟩⟩) rfl ?_
  obtain ⟨v1, h2, h⟩ := obind h
  refine xcall tn_X4_store dX4_store_2 rfl rfl (w_X4_has h2) ?_
  show X 70 (5, [(0, .ref 1), (1, .int x1), (2, .ref 9), (3, .int x3)], [.int v1], wd s rest, 0, 0) _
  refine xifF (t := 9) tn_X4_store dX4_store_5 (by decide) h (fun h => ?_) (fun h => ?_)
  · refine xs tn_X4_store [(9, .iconst 0, 1), (10, .istore 4, 2)] (st' := (12, [(4, .int (nI 0)), (0, .ref 1), (1, .int x1), (2, .ref 9), (3, .int x3)], [], wd s rest, 0, 0)) (List.forall_mem_cons.mpr ⟨dX4_store_9, List.forall_mem_cons.mpr ⟨dX4_store_10, fun _ h => absurd h List.not_mem_nil⟩⟩) rfl ?_
    refine xwk [0, 1, 2, 3, 4] rfl rfl ?_
    exact w_X4_store_12 N _ _ _ _ _ h
  · cases h
    exact xretv tn_X4_store rfl dX4_store_8
def F_X5_writeNext (N : Nat) (s : St) : Option (Int32 × St) := (F_X4_has s (gI s 1)).bind fun v1 => bif mx_cnd .ne v1 0 then ((F_X0_seal N s).bind fun s3 => (F_X3_note s3 (gI s3 1)).bind fun s5 => (F_X4_store N s5 (gI s5 1) (nI 32)).bind fun s7 => bnd (sI s7 1 ((gI s7 1) + (nI 1))) fun s9 => some ((gI s9 1) - (nI 1), s9)) else (some (-nI 1, s))
set_option maxRecDepth 100000 in
set_option maxHeartbeats 4000000 in
theorem w_X5_writeNext {rest : mx_W} {N : Nat} {s : St} {r : Int32} {t : St} (h : F_X5_writeNext N s = some (r, t)) : X 106 (0, [(0, .ref 0)], [], wd s rest, 0, 0) (some (.int r), wd t rest, 0, 0) := by
  unfold F_X5_writeNext at h
  refine xs tn_X5_writeNext [(0, .aload_n 0, 1), (1, .getfield 12, 3), (4, .aload_n 0, 1), (5, .getfield 50, 3)] (st' := (8, [(0, .ref 0)], [.int (gI s 1), .ref 1], wd s rest, 0, 0)) (List.forall_mem_cons.mpr ⟨dX5_writeNext_0, List.forall_mem_cons.mpr ⟨dX5_writeNext_1, List.forall_mem_cons.mpr ⟨dX5_writeNext_4, List.forall_mem_cons.mpr ⟨dX5_writeNext_5, fun _ h => absurd h List.not_mem_nil⟩⟩⟩⟩) rfl ?_
  obtain ⟨v1, h2, h⟩ := obind h
  refine xcall tn_X5_writeNext dX5_writeNext_8 rfl rfl (w_X4_has h2) ?_
  show X 106 (11, [(0, .ref 0)], [.int v1], wd s rest, 0, 0) _
  refine xifF (t := 16) tn_X5_writeNext dX5_writeNext_11 (by decide) h (fun h => ?_) (fun h => ?_)
  · refine xs tn_X5_writeNext [(16, .aload_n 0, 1), (17, .getfield 28, 3)] (st' := (20, [(0, .ref 0)], [.ref 9], wd s rest, 0, 0)) (List.forall_mem_cons.mpr ⟨dX5_writeNext_16, List.forall_mem_cons.mpr ⟨dX5_writeNext_17, fun _ h => absurd h List.not_mem_nil⟩⟩) rfl ?_
    obtain ⟨s3, h4, h⟩ := obind h
    refine xcall tn_X5_writeNext dX5_writeNext_20 rfl rfl (w_X0_seal h4) ?_
    show X 106 (23, [(0, .ref 0)], [], wd s3 rest, 0, 0) _
    refine xs tn_X5_writeNext [(23, .aload_n 0, 1), (24, .getfield 21, 3), (27, .aload_n 0, 1), (28, .getfield 50, 3), (31, .aload_n 0, 1), (32, .getfield 12, 3)] (st' := (35, [(0, .ref 0)], [.ref 1, .int (gI s3 1), .ref 5], wd s3 rest, 0, 0)) (List.forall_mem_cons.mpr ⟨dX5_writeNext_23, List.forall_mem_cons.mpr ⟨dX5_writeNext_24, List.forall_mem_cons.mpr ⟨dX5_writeNext_27, List.forall_mem_cons.mpr ⟨dX5_writeNext_28, List.forall_mem_cons.mpr ⟨dX5_writeNext_31, List.forall_mem_cons.mpr ⟨dX5_writeNext_32, fun _ h => absurd h List.not_mem_nil⟩⟩⟩⟩⟩⟩) rfl ?_
    obtain ⟨s5, h6, h⟩ := obind h
    refine xcall tn_X5_writeNext dX5_writeNext_35 rfl rfl (w_X3_note h6) ?_
    show X 106 (38, [(0, .ref 0)], [], wd s5 rest, 0, 0) _
    refine xs tn_X5_writeNext [(38, .aload_n 0, 1), (39, .getfield 12, 3), (42, .aload_n 0, 1), (43, .getfield 50, 3), (46, .aload_n 0, 1), (47, .getfield 28, 3), (50, .bipush 32, 2)] (st' := (52, [(0, .ref 0)], [.int (nI 32), .ref 9, .int (gI s5 1), .ref 1], wd s5 rest, 0, 0)) (List.forall_mem_cons.mpr ⟨dX5_writeNext_38, List.forall_mem_cons.mpr ⟨dX5_writeNext_39, List.forall_mem_cons.mpr ⟨dX5_writeNext_42, List.forall_mem_cons.mpr ⟨dX5_writeNext_43, List.forall_mem_cons.mpr ⟨dX5_writeNext_46, List.forall_mem_cons.mpr ⟨dX5_writeNext_47, List.forall_mem_cons.mpr ⟨dX5_writeNext_50, fun _ h => absurd h List.not_mem_nil⟩⟩⟩⟩⟩⟩⟩) rfl ?_
    obtain ⟨s7, h8, h⟩ := obind h
    refine xcall tn_X5_writeNext dX5_writeNext_52 rfl rfl (w_X4_store h8) ?_
    show X 106 (55, [(0, .ref 0)], [], wd s7 rest, 0, 0) _
    refine xs tn_X5_writeNext [(55, .aload_n 0, 1), (56, .dup, 1), (57, .getfield 50, 3), (60, .iconst 1, 1), (61, .iadd, 1)] (st' := (62, [(0, .ref 0)], [.int ((gI s7 1) + (nI 1)), .ref 0], wd s7 rest, 0, 0)) (List.forall_mem_cons.mpr ⟨dX5_writeNext_55, List.forall_mem_cons.mpr ⟨dX5_writeNext_56, List.forall_mem_cons.mpr ⟨dX5_writeNext_57, List.forall_mem_cons.mpr ⟨dX5_writeNext_60, List.forall_mem_cons.mpr ⟨dX5_writeNext_61, fun _ h => absurd h List.not_mem_nil⟩⟩⟩⟩⟩) rfl ?_
    refine xput_a1 tn_X5_writeNext dX5_writeNext_62 rfl h (fun s9 h => ?_)
    refine xs tn_X5_writeNext [(65, .aload_n 0, 1), (66, .getfield 50, 3), (69, .iconst 1, 1), (70, .isub, 1)] (st' := (71, [(0, .ref 0)], [.int ((gI s9 1) - (nI 1))], wd s9 rest, 0, 0)) (List.forall_mem_cons.mpr ⟨dX5_writeNext_65, List.forall_mem_cons.mpr ⟨dX5_writeNext_66, List.forall_mem_cons.mpr ⟨dX5_writeNext_69, List.forall_mem_cons.mpr ⟨dX5_writeNext_70, fun _ h => absurd h List.not_mem_nil⟩⟩⟩⟩) rfl ?_
    cases h
    exact xret tn_X5_writeNext rfl dX5_writeNext_71
  · refine xs tn_X5_writeNext [(14, .iconst (-1), 1)] (st' := (15, [(0, .ref 0)], [.int (-nI 1)], wd s rest, 0, 0)) (List.forall_mem_cons.mpr ⟨dX5_writeNext_14, fun _ h => absurd h List.not_mem_nil⟩) rfl ?_
    cases h
    exact xret tn_X5_writeNext rfl dX5_writeNext_15
def F_X0_setContent (s : St) (x1 : Int32) (x2 : Int32) : Option (St) := bif mx_cnd .lt x1 0 then (some s) else (bif mx_cnd .ge x1 (nI 24) then (some s) else (stA s 6 32 ((nI 4) + x1) (x2 &&& (nI 255)) fun s1 => some s1))
set_option maxRecDepth 100000 in
set_option maxHeartbeats 4000000 in
theorem w_X0_setContent {rest : mx_W} {s : St} {x1 : Int32} {x2 : Int32} {r : St} (h : F_X0_setContent s x1 x2 = some r) : X 7 (0, [(0, .ref 9), (1, .int x1), (2, .int x2)], [], wd s rest, 0, 0) (none, wd r rest, 0, 0) := by
  unfold F_X0_setContent at h
  refine xs tn_X0_setContent [(0, .iload_n 1, 1)] (st' := (1, [(0, .ref 9), (1, .int x1), (2, .int x2)], [.int x1], wd s rest, 0, 0)) (List.forall_mem_cons.mpr ⟨dX0_setContent_0, fun _ h => absurd h List.not_mem_nil⟩) rfl ?_
  refine xifF (t := 23) tn_X0_setContent dX0_setContent_1 (by decide) h (fun h => ?_) (fun h => ?_)
  · cases h
    exact xretv tn_X0_setContent rfl dX0_setContent_23
  · refine xs tn_X0_setContent [(4, .iload_n 1, 1), (5, .bipush 24, 2)] (st' := (7, [(0, .ref 9), (1, .int x1), (2, .int x2)], [.int (nI 24), .int x1], wd s rest, 0, 0)) (List.forall_mem_cons.mpr ⟨dX0_setContent_4, List.forall_mem_cons.mpr ⟨dX0_setContent_5, fun _ h => absurd h List.not_mem_nil⟩⟩) rfl ?_
    refine xcmpF (t := 23) tn_X0_setContent dX0_setContent_7 (by decide) h (fun h => ?_) (fun h => ?_)
    · cases h
      exact xretv tn_X0_setContent rfl dX0_setContent_23
    · refine xs tn_X0_setContent [(10, .aload_n 0, 1), (11, .getfield 9, 3), (14, .iconst 4, 1), (15, .iload_n 1, 1), (16, .iadd, 1), (17, .iload_n 2, 1), (18, .sipush 255, 3), (21, .iand, 1)] (st' := (22, [(0, .ref 9), (1, .int x1), (2, .int x2)], [.int (x2 &&& (nI 255)), .int ((nI 4) + x1), .ref 10], wd s rest, 0, 0)) (List.forall_mem_cons.mpr ⟨dX0_setContent_10, List.forall_mem_cons.mpr ⟨dX0_setContent_11, List.forall_mem_cons.mpr ⟨dX0_setContent_14, List.forall_mem_cons.mpr ⟨dX0_setContent_15, List.forall_mem_cons.mpr ⟨dX0_setContent_16, List.forall_mem_cons.mpr ⟨dX0_setContent_17, List.forall_mem_cons.mpr ⟨dX0_setContent_18, List.forall_mem_cons.mpr ⟨dX0_setContent_21, fun _ h => absurd h List.not_mem_nil⟩⟩⟩⟩⟩⟩⟩⟩) rfl ?_
      refine xstF (W := fun s => wd s rest) tn_X0_setContent dX0_setContent_22 at_10 (fun _ => set_10) h (fun s1 h => ?_)
      cases h
      exact xretv tn_X0_setContent rfl dX0_setContent_23
def F_X5_isInLog (s : St) (x1 : Int32) : Option (Int32) := bif mx_cnd .lt x1 (nI 2) then (some (nI 0)) else (bif mx_cnd .ge x1 (gI s 1) then (some (nI 0)) else (some (nI 1)))
set_option maxRecDepth 100000 in
set_option maxHeartbeats 4000000 in
theorem w_X5_isInLog {rest : mx_W} {s : St} {x1 : Int32} {r : Int32} (h : F_X5_isInLog s x1 = some r) : X 25 (0, [(0, .ref 0), (1, .int x1)], [], wd s rest, 0, 0) (some (.int r), wd s rest, 0, 0) := by
  unfold F_X5_isInLog at h
  refine xs tn_X5_isInLog [(0, .iload_n 1, 1), (1, .iconst 2, 1)] (st' := (2, [(0, .ref 0), (1, .int x1)], [.int (nI 2), .int x1], wd s rest, 0, 0)) (List.forall_mem_cons.mpr ⟨dX5_isInLog_0, List.forall_mem_cons.mpr ⟨dX5_isInLog_1, fun _ h => absurd h List.not_mem_nil⟩⟩) rfl ?_
  refine xcmpF (t := 17) tn_X5_isInLog dX5_isInLog_2 (by decide) h (fun h => ?_) (fun h => ?_)
  · refine xs tn_X5_isInLog [(17, .iconst 0, 1)] (st' := (18, [(0, .ref 0), (1, .int x1)], [.int (nI 0)], wd s rest, 0, 0)) (List.forall_mem_cons.mpr ⟨dX5_isInLog_17, fun _ h => absurd h List.not_mem_nil⟩) rfl ?_
    cases h
    exact xretz tn_X5_isInLog rfl (by decide) dX5_isInLog_18
  · refine xs tn_X5_isInLog [(5, .iload_n 1, 1), (6, .aload_n 0, 1), (7, .getfield 50, 3)] (st' := (10, [(0, .ref 0), (1, .int x1)], [.int (gI s 1), .int x1], wd s rest, 0, 0)) (List.forall_mem_cons.mpr ⟨dX5_isInLog_5, List.forall_mem_cons.mpr ⟨dX5_isInLog_6, List.forall_mem_cons.mpr ⟨dX5_isInLog_7, fun _ h => absurd h List.not_mem_nil⟩⟩⟩) rfl ?_
    refine xcmpF (t := 17) tn_X5_isInLog dX5_isInLog_10 (by decide) h (fun h => ?_) (fun h => ?_)
    · refine xs tn_X5_isInLog [(17, .iconst 0, 1)] (st' := (18, [(0, .ref 0), (1, .int x1)], [.int (nI 0)], wd s rest, 0, 0)) (List.forall_mem_cons.mpr ⟨dX5_isInLog_17, fun _ h => absurd h List.not_mem_nil⟩) rfl ?_
      cases h
      exact xretz tn_X5_isInLog rfl (by decide) dX5_isInLog_18
    · refine xs tn_X5_isInLog [(13, .iconst 1, 1), (14, .goto 4, 3)] (st' := (18, [(0, .ref 0), (1, .int x1)], [.int (nI 1)], wd s rest, 0, 0)) (List.forall_mem_cons.mpr ⟨dX5_isInLog_13, List.forall_mem_cons.mpr ⟨dX5_isInLog_14, fun _ h => absurd h List.not_mem_nil⟩⟩) rfl ?_
      cases h
      exact xretz tn_X5_isInLog rfl (by decide) dX5_isInLog_18
def F_X4_wholeSort (s : St) (x1 : Int32) : Option (Int32) := (F_X4_has s x1).bind fun v1 => bif mx_cnd .eq v1 0 then (some (nI 0)) else (ldA (gA s 2) (gN s) x1 fun v3 => some v3)
set_option maxRecDepth 100000 in
set_option maxHeartbeats 4000000 in
theorem w_X4_wholeSort {rest : mx_W} {s : St} {x1 : Int32} {r : Int32} (h : F_X4_wholeSort s x1 = some r) : X 50 (0, [(0, .ref 1), (1, .int x1)], [], wd s rest, 0, 0) (some (.int r), wd s rest, 0, 0) := by
  unfold F_X4_wholeSort at h
  refine xs tn_X4_wholeSort [(0, .aload_n 0, 1), (1, .iload_n 1, 1)] (st' := (2, [(0, .ref 1), (1, .int x1)], [.int x1, .ref 1], wd s rest, 0, 0)) (List.forall_mem_cons.mpr ⟨dX4_wholeSort_0, List.forall_mem_cons.mpr ⟨dX4_wholeSort_1, fun _ h => absurd h List.not_mem_nil⟩⟩) rfl ?_
  obtain ⟨v1, h2, h⟩ := obind h
  refine xcall tn_X4_wholeSort dX4_wholeSort_2 rfl rfl (w_X4_has h2) ?_
  show X 50 (5, [(0, .ref 1), (1, .int x1)], [.int v1], wd s rest, 0, 0) _
  refine xifF (t := 17) tn_X4_wholeSort dX4_wholeSort_5 (by decide) h (fun h => ?_) (fun h => ?_)
  · refine xs tn_X4_wholeSort [(17, .iconst 0, 1)] (st' := (18, [(0, .ref 1), (1, .int x1)], [.int (nI 0)], wd s rest, 0, 0)) (List.forall_mem_cons.mpr ⟨dX4_wholeSort_17, fun _ h => absurd h List.not_mem_nil⟩) rfl ?_
    cases h
    exact xret tn_X4_wholeSort rfl dX4_wholeSort_18
  · refine xs tn_X4_wholeSort [(8, .aload_n 0, 1), (9, .getfield 32, 3), (12, .iload_n 1, 1)] (st' := (13, [(0, .ref 1), (1, .int x1)], [.int x1, .ref 4], wd s rest, 0, 0)) (List.forall_mem_cons.mpr ⟨dX4_wholeSort_8, List.forall_mem_cons.mpr ⟨dX4_wholeSort_9, List.forall_mem_cons.mpr ⟨dX4_wholeSort_12, fun _ h => absurd h List.not_mem_nil⟩⟩⟩) rfl ?_
    refine xldF tn_X4_wholeSort dX4_wholeSort_13 at_4 h (fun v3 h => ?_)
    refine xs tn_X4_wholeSort [(14, .goto 4, 3)] (st' := (18, [(0, .ref 1), (1, .int x1)], [.int v3], wd s rest, 0, 0)) (List.forall_mem_cons.mpr ⟨dX4_wholeSort_14, fun _ h => absurd h List.not_mem_nil⟩) rfl ?_
    cases h
    exact xret tn_X4_wholeSort rfl dX4_wholeSort_18
def F_X5_isBlock (s : St) (x1 : Int32) : Option (Int32) := (F_X5_isInLog s x1).bind fun v1 => bif mx_cnd .eq v1 0 then (some (nI 0)) else ((F_X4_wholeSort s x1).bind fun v3 => bif mx_cnd .ne v3 (nI 2) then (some (nI 0)) else (some (nI 1)))
set_option maxRecDepth 100000 in
set_option maxHeartbeats 4000000 in
theorem w_X5_isBlock {rest : mx_W} {s : St} {x1 : Int32} {r : Int32} (h : F_X5_isBlock s x1 = some r) : X 78 (0, [(0, .ref 0), (1, .int x1)], [], wd s rest, 0, 0) (some (.int r), wd s rest, 0, 0) := by
  unfold F_X5_isBlock at h
  refine xs tn_X5_isBlock [(0, .aload_n 0, 1), (1, .iload_n 1, 1)] (st' := (2, [(0, .ref 0), (1, .int x1)], [.int x1, .ref 0], wd s rest, 0, 0)) (List.forall_mem_cons.mpr ⟨dX5_isBlock_0, List.forall_mem_cons.mpr ⟨dX5_isBlock_1, fun _ h => absurd h List.not_mem_nil⟩⟩) rfl ?_
  obtain ⟨v1, h2, h⟩ := obind h
  refine xcall tn_X5_isBlock dX5_isBlock_2 rfl rfl (w_X5_isInLog h2) ?_
  show X 78 (5, [(0, .ref 0), (1, .int x1)], [.int v1], wd s rest, 0, 0) _
  refine xifF (t := 24) tn_X5_isBlock dX5_isBlock_5 (by decide) h (fun h => ?_) (fun h => ?_)
  · refine xs tn_X5_isBlock [(24, .iconst 0, 1)] (st' := (25, [(0, .ref 0), (1, .int x1)], [.int (nI 0)], wd s rest, 0, 0)) (List.forall_mem_cons.mpr ⟨dX5_isBlock_24, fun _ h => absurd h List.not_mem_nil⟩) rfl ?_
    cases h
    exact xretz tn_X5_isBlock rfl (by decide) dX5_isBlock_25
  · refine xs tn_X5_isBlock [(8, .aload_n 0, 1), (9, .getfield 12, 3), (12, .iload_n 1, 1)] (st' := (13, [(0, .ref 0), (1, .int x1)], [.int x1, .ref 1], wd s rest, 0, 0)) (List.forall_mem_cons.mpr ⟨dX5_isBlock_8, List.forall_mem_cons.mpr ⟨dX5_isBlock_9, List.forall_mem_cons.mpr ⟨dX5_isBlock_12, fun _ h => absurd h List.not_mem_nil⟩⟩⟩) rfl ?_
    obtain ⟨v3, h4, h⟩ := obind h
    refine xcall tn_X5_isBlock dX5_isBlock_13 rfl rfl (w_X4_wholeSort h4) ?_
    show X 78 (16, [(0, .ref 0), (1, .int x1)], [.int v3], wd s rest, 0, 0) _
    refine xs tn_X5_isBlock [(16, .iconst 2, 1)] (st' := (17, [(0, .ref 0), (1, .int x1)], [.int (nI 2), .int v3], wd s rest, 0, 0)) (List.forall_mem_cons.mpr ⟨dX5_isBlock_16, fun _ h => absurd h List.not_mem_nil⟩) rfl ?_
    refine xcmpF (t := 24) tn_X5_isBlock dX5_isBlock_17 (by decide) h (fun h => ?_) (fun h => ?_)
    · refine xs tn_X5_isBlock [(24, .iconst 0, 1)] (st' := (25, [(0, .ref 0), (1, .int x1)], [.int (nI 0)], wd s rest, 0, 0)) (List.forall_mem_cons.mpr ⟨dX5_isBlock_24, fun _ h => absurd h List.not_mem_nil⟩) rfl ?_
      cases h
      exact xretz tn_X5_isBlock rfl (by decide) dX5_isBlock_25
    · refine xs tn_X5_isBlock [(20, .iconst 1, 1), (21, .goto 4, 3)] (st' := (25, [(0, .ref 0), (1, .int x1)], [.int (nI 1)], wd s rest, 0, 0)) (List.forall_mem_cons.mpr ⟨dX5_isBlock_20, List.forall_mem_cons.mpr ⟨dX5_isBlock_21, fun _ h => absurd h List.not_mem_nil⟩⟩) rfl ?_
      cases h
      exact xretz tn_X5_isBlock rfl (by decide) dX5_isBlock_25
def F_X4_hasContentOf_2 (N : Nat) : Nat → St → Int32 → Int32 → Option (Int32)
  | 0, _, _, _ => none
  | f + 1, s, x1, x3 => bif mx_cnd .ge x3 (nI 28) then (some (nI 1)) else ((F_X4_cell s x1 x3).bind fun v1 => (F_X0_cell s x3).bind fun v3 => bif mx_cnd .eq v1 v3 then (F_X4_hasContentOf_2 N f s x1 (x3 + (nI 1))) else (some (nI 0)))
set_option maxRecDepth 100000 in
set_option maxHeartbeats 4000000 in
theorem w_X4_hasContentOf_2 {rest : mx_W} {N : Nat} : ∀ (f : Nat) (s : St) (x1 : Int32) (x3 : Int32) (r : Int32), F_X4_hasContentOf_2 N f s x1 x3 = some r → X 46 (2, [(0, .ref 1), (1, .int x1), (2, .ref 9), (3, .int x3)], [], wd s rest, 0, 0) (some (.int r), wd s rest, 0, 0) := by
  intro f
  induction f with
  | zero => intro s x1 x3 r h; rw [F_X4_hasContentOf_2.eq_1] at h; cases h
  | succ f ih =>
    intro s x1 x3 r h
    rw [F_X4_hasContentOf_2.eq_2] at h
    refine xs tn_X4_hasContentOf [(2, .iload_n 3, 1), (3, .bipush 28, 2)] (st' := (5, [(0, .ref 1), (1, .int x1), (2, .ref 9), (3, .int x3)], [.int (nI 28), .int x3], wd s rest, 0, 0)) (List.forall_mem_cons.mpr ⟨dX4_hasContentOf_2, List.forall_mem_cons.mpr ⟨dX4_hasContentOf_3, fun _ h => absurd h List.not_mem_nil⟩⟩) rfl ?_
    refine xcmpF (t := 30) tn_X4_hasContentOf dX4_hasContentOf_5 (by decide) h (fun h => ?_) (fun h => ?_)
    · refine xs tn_X4_hasContentOf [(30, .iconst 1, 1)] (st' := (31, [(0, .ref 1), (1, .int x1), (2, .ref 9), (3, .int x3)], [.int (nI 1)], wd s rest, 0, 0)) (List.forall_mem_cons.mpr ⟨dX4_hasContentOf_30, fun _ h => absurd h List.not_mem_nil⟩) rfl ?_
      cases h
      exact xretz tn_X4_hasContentOf rfl (by decide) dX4_hasContentOf_31
    · refine xs tn_X4_hasContentOf [(8, .aload_n 0, 1), (9, .iload_n 1, 1), (10, .iload_n 3, 1)] (st' := (11, [(0, .ref 1), (1, .int x1), (2, .ref 9), (3, .int x3)], [.int x3, .int x1, .ref 1], wd s rest, 0, 0)) (List.forall_mem_cons.mpr ⟨dX4_hasContentOf_8, List.forall_mem_cons.mpr ⟨dX4_hasContentOf_9, List.forall_mem_cons.mpr ⟨dX4_hasContentOf_10, fun _ h => absurd h List.not_mem_nil⟩⟩⟩) rfl ?_
      obtain ⟨v1, h2, h⟩ := obind h
      refine xcall tn_X4_hasContentOf dX4_hasContentOf_11 rfl rfl (w_X4_cell h2) ?_
      show X 46 (14, [(0, .ref 1), (1, .int x1), (2, .ref 9), (3, .int x3)], [.int v1], wd s rest, 0, 0) _
      refine xs tn_X4_hasContentOf [(14, .aload_n 2, 1), (15, .iload_n 3, 1)] (st' := (16, [(0, .ref 1), (1, .int x1), (2, .ref 9), (3, .int x3)], [.int x3, .ref 9, .int v1], wd s rest, 0, 0)) (List.forall_mem_cons.mpr ⟨dX4_hasContentOf_14, List.forall_mem_cons.mpr ⟨dX4_hasContentOf_15, fun _ h => absurd h List.not_mem_nil⟩⟩) rfl ?_
      obtain ⟨v3, h4, h⟩ := obind h
      refine xcall tn_X4_hasContentOf dX4_hasContentOf_16 rfl rfl (w_X0_cell h4) ?_
      show X 46 (19, [(0, .ref 1), (1, .int x1), (2, .ref 9), (3, .int x3)], [.int v3, .int v1], wd s rest, 0, 0) _
      refine xcmpF (t := 24) tn_X4_hasContentOf dX4_hasContentOf_19 (by decide) h (fun h => ?_) (fun h => ?_)
      · refine xs tn_X4_hasContentOf [(24, .iinc 3 1, 3), (27, .goto (-25), 3)] (st' := (2, [(0, .ref 1), (1, .int x1), (2, .ref 9), (3, .int (x3 + (nI 1)))], [], wd s rest, 0, 0)) (List.forall_mem_cons.mpr ⟨dX4_hasContentOf_24, List.forall_mem_cons.mpr ⟨dX4_hasContentOf_27, fun _ h => absurd h List.not_mem_nil⟩⟩) rfl ?_
        refine xwk [0, 1, 2, 3] rfl rfl ?_
        exact ih _ _ _ _ h
      · refine xs tn_X4_hasContentOf [(22, .iconst 0, 1)] (st' := (23, [(0, .ref 1), (1, .int x1), (2, .ref 9), (3, .int x3)], [.int (nI 0)], wd s rest, 0, 0)) (List.forall_mem_cons.mpr ⟨dX4_hasContentOf_22, fun _ h => absurd h List.not_mem_nil⟩) rfl ?_
        cases h
        exact xretz tn_X4_hasContentOf rfl (by decide) dX4_hasContentOf_23
def F_X4_hasContentOf (N : Nat) (s : St) (x1 : Int32) : Option (Int32) := F_X4_hasContentOf_2 N N s x1 (nI 4)
set_option maxRecDepth 100000 in
set_option maxHeartbeats 4000000 in
theorem w_X4_hasContentOf {rest : mx_W} {N : Nat} {s : St} {x1 : Int32} {r : Int32} (h : F_X4_hasContentOf N s x1 = some r) : X 46 (0, [(0, .ref 1), (1, .int x1), (2, .ref 9)], [], wd s rest, 0, 0) (some (.int r), wd s rest, 0, 0) := by
  unfold F_X4_hasContentOf at h
  refine xs tn_X4_hasContentOf [(0, .iconst 4, 1), (1, .istore_n 3, 1)] (st' := (2, [(3, .int (nI 4)), (0, .ref 1), (1, .int x1), (2, .ref 9)], [], wd s rest, 0, 0)) (List.forall_mem_cons.mpr ⟨dX4_hasContentOf_0, List.forall_mem_cons.mpr ⟨dX4_hasContentOf_1, fun _ h => absurd h List.not_mem_nil⟩⟩) rfl ?_
  refine xwk [0, 1, 2, 3] rfl rfl ?_
  exact w_X4_hasContentOf_2 N _ _ _ _ h
def F_X5_findDraftedBlock_2 (N : Nat) : Nat → St → Int32 → Option (Int32)
  | 0, _, _ => none
  | f + 1, s, x1 => bif mx_cnd .ge x1 (gI s 1) then (some (-nI 1)) else ((F_X5_isBlock s x1).bind fun v1 => bif mx_cnd .eq v1 0 then (F_X5_findDraftedBlock_2 N f s (x1 + (nI 1))) else ((F_X4_hasContentOf N s x1).bind fun v3 => bif mx_cnd .eq v3 0 then (F_X5_findDraftedBlock_2 N f s (x1 + (nI 1))) else (some x1)))
set_option maxRecDepth 100000 in
set_option maxHeartbeats 4000000 in
theorem w_X5_findDraftedBlock_2 {rest : mx_W} {N : Nat} : ∀ (f : Nat) (s : St) (x1 : Int32) (r : Int32), F_X5_findDraftedBlock_2 N f s x1 = some r → X 101 (2, [(0, .ref 0), (1, .int x1)], [], wd s rest, 0, 0) (some (.int r), wd s rest, 0, 0) := by
  intro f
  induction f with
  | zero => intro s x1 r h; rw [F_X5_findDraftedBlock_2.eq_1] at h; cases h
  | succ f ih =>
    intro s x1 r h
    rw [F_X5_findDraftedBlock_2.eq_2] at h
    refine xs tn_X5_findDraftedBlock [(2, .iload_n 1, 1), (3, .aload_n 0, 1), (4, .getfield 50, 3)] (st' := (7, [(0, .ref 0), (1, .int x1)], [.int (gI s 1), .int x1], wd s rest, 0, 0)) (List.forall_mem_cons.mpr ⟨dX5_findDraftedBlock_2, List.forall_mem_cons.mpr ⟨dX5_findDraftedBlock_3, List.forall_mem_cons.mpr ⟨dX5_findDraftedBlock_4, fun _ h => absurd h List.not_mem_nil⟩⟩⟩) rfl ?_
    refine xcmpF (t := 41) tn_X5_findDraftedBlock dX5_findDraftedBlock_7 (by decide) h (fun h => ?_) (fun h => ?_)
    · refine xs tn_X5_findDraftedBlock [(41, .iconst (-1), 1)] (st' := (42, [(0, .ref 0), (1, .int x1)], [.int (-nI 1)], wd s rest, 0, 0)) (List.forall_mem_cons.mpr ⟨dX5_findDraftedBlock_41, fun _ h => absurd h List.not_mem_nil⟩) rfl ?_
      cases h
      exact xret tn_X5_findDraftedBlock rfl dX5_findDraftedBlock_42
    · refine xs tn_X5_findDraftedBlock [(10, .aload_n 0, 1), (11, .iload_n 1, 1)] (st' := (12, [(0, .ref 0), (1, .int x1)], [.int x1, .ref 0], wd s rest, 0, 0)) (List.forall_mem_cons.mpr ⟨dX5_findDraftedBlock_10, List.forall_mem_cons.mpr ⟨dX5_findDraftedBlock_11, fun _ h => absurd h List.not_mem_nil⟩⟩) rfl ?_
      obtain ⟨v1, h2, h⟩ := obind h
      refine xcall tn_X5_findDraftedBlock dX5_findDraftedBlock_12 rfl rfl (w_X5_isBlock h2) ?_
      show X 101 (15, [(0, .ref 0), (1, .int x1)], [.int v1], wd s rest, 0, 0) _
      refine xifF (t := 35) tn_X5_findDraftedBlock dX5_findDraftedBlock_15 (by decide) h (fun h => ?_) (fun h => ?_)
      · refine xs tn_X5_findDraftedBlock [(35, .iinc 1 1, 3), (38, .goto (-36), 3)] (st' := (2, [(0, .ref 0), (1, .int (x1 + (nI 1)))], [], wd s rest, 0, 0)) (List.forall_mem_cons.mpr ⟨dX5_findDraftedBlock_35, List.forall_mem_cons.mpr ⟨dX5_findDraftedBlock_38, fun _ h => absurd h List.not_mem_nil⟩⟩) rfl ?_
        refine xwk [0, 1] rfl rfl ?_
        exact ih _ _ _ h
      · refine xs tn_X5_findDraftedBlock [(18, .aload_n 0, 1), (19, .getfield 12, 3), (22, .iload_n 1, 1), (23, .aload_n 0, 1), (24, .getfield 28, 3)] (st' := (27, [(0, .ref 0), (1, .int x1)], [.ref 9, .int x1, .ref 1], wd s rest, 0, 0)) (List.forall_mem_cons.mpr ⟨dX5_findDraftedBlock_18, List.forall_mem_cons.mpr ⟨dX5_findDraftedBlock_19, List.forall_mem_cons.mpr ⟨dX5_findDraftedBlock_22, List.forall_mem_cons.mpr ⟨dX5_findDraftedBlock_23, List.forall_mem_cons.mpr ⟨dX5_findDraftedBlock_24, fun _ h => absurd h List.not_mem_nil⟩⟩⟩⟩⟩) rfl ?_
        obtain ⟨v3, h4, h⟩ := obind h
        refine xcall tn_X5_findDraftedBlock dX5_findDraftedBlock_27 rfl rfl (w_X4_hasContentOf h4) ?_
        show X 101 (30, [(0, .ref 0), (1, .int x1)], [.int v3], wd s rest, 0, 0) _
        refine xifF (t := 35) tn_X5_findDraftedBlock dX5_findDraftedBlock_30 (by decide) h (fun h => ?_) (fun h => ?_)
        · refine xs tn_X5_findDraftedBlock [(35, .iinc 1 1, 3), (38, .goto (-36), 3)] (st' := (2, [(0, .ref 0), (1, .int (x1 + (nI 1)))], [], wd s rest, 0, 0)) (List.forall_mem_cons.mpr ⟨dX5_findDraftedBlock_35, List.forall_mem_cons.mpr ⟨dX5_findDraftedBlock_38, fun _ h => absurd h List.not_mem_nil⟩⟩) rfl ?_
          refine xwk [0, 1] rfl rfl ?_
          exact ih _ _ _ h
        · refine xs tn_X5_findDraftedBlock [(33, .iload_n 1, 1)] (st' := (34, [(0, .ref 0), (1, .int x1)], [.int x1], wd s rest, 0, 0)) (List.forall_mem_cons.mpr ⟨dX5_findDraftedBlock_33, fun _ h => absurd h List.not_mem_nil⟩) rfl ?_
          cases h
          exact xret tn_X5_findDraftedBlock rfl dX5_findDraftedBlock_34
def F_X5_findDraftedBlock (N : Nat) (s : St) : Option (Int32) := F_X5_findDraftedBlock_2 N N s (nI 2)
set_option maxRecDepth 100000 in
set_option maxHeartbeats 4000000 in
theorem w_X5_findDraftedBlock {rest : mx_W} {N : Nat} {s : St} {r : Int32} (h : F_X5_findDraftedBlock N s = some r) : X 101 (0, [(0, .ref 0)], [], wd s rest, 0, 0) (some (.int r), wd s rest, 0, 0) := by
  unfold F_X5_findDraftedBlock at h
  refine xs tn_X5_findDraftedBlock [(0, .iconst 2, 1), (1, .istore_n 1, 1)] (st' := (2, [(1, .int (nI 2)), (0, .ref 0)], [], wd s rest, 0, 0)) (List.forall_mem_cons.mpr ⟨dX5_findDraftedBlock_0, List.forall_mem_cons.mpr ⟨dX5_findDraftedBlock_1, fun _ h => absurd h List.not_mem_nil⟩⟩) rfl ?_
  refine xwk [0, 1] rfl rfl ?_
  exact w_X5_findDraftedBlock_2 N _ _ _ h
def F_X5_placeOpenBlock_13 (N : Nat) : Nat → St → Int32 → Int32 → Option (Int32 × St)
  | 0, _, _, _ => none
  | f + 1, s, x1, x2 => bif mx_cnd .ge x2 (nI 24) then ((F_X5_findDraftedBlock N s).bind fun v1 => bif mx_cnd .ne v1 (-nI 1) then (bnd (sI s 7 ((gI s 7) + (nI 1))) fun s3 => some (v1, s3)) else (bindP (F_X5_writeNext N s) fun v4 s5 => some (v4, s5))) else (bif mx_cnd .lt ((x1 * (nI 24)) + x2) 0 then ((F_X0_setContent s x2 (nI 0)).bind fun s7 => F_X5_placeOpenBlock_13 N f s7 x1 (x2 + (nI 1))) else (bif mx_cnd .ge ((x1 * (nI 24)) + x2) (nI 96) then ((F_X0_setContent s x2 (nI 0)).bind fun s9 => F_X5_placeOpenBlock_13 N f s9 x1 (x2 + (nI 1))) else (ldA (gA s 11) 96 ((x1 * (nI 24)) + x2) fun v11 => (F_X0_setContent s x2 v11).bind fun s12 => F_X5_placeOpenBlock_13 N f s12 x1 (x2 + (nI 1)))))
set_option maxRecDepth 100000 in
set_option maxHeartbeats 4000000 in
theorem w_X5_placeOpenBlock_13 {rest : mx_W} {N : Nat} : ∀ (f : Nat) (s : St) (x1 : Int32) (x2 : Int32) (r : Int32) (t : St), F_X5_placeOpenBlock_13 N f s x1 x2 = some (r, t) → X 119 (13, [(0, .ref 0), (1, .int x1), (2, .int x2)], [], wd s rest, 0, 0) (some (.int r), wd t rest, 0, 0) := by
  intro f
  induction f with
  | zero => intro s x1 x2 r t h; rw [F_X5_placeOpenBlock_13.eq_1] at h; cases h
  | succ f ih =>
    intro s x1 x2 r t h
    rw [F_X5_placeOpenBlock_13.eq_2] at h
    refine xs tn_X5_placeOpenBlock [(13, .iload_n 2, 1), (14, .bipush 24, 2)] (st' := (16, [(0, .ref 0), (1, .int x1), (2, .int x2)], [.int (nI 24), .int x2], wd s rest, 0, 0)) (List.forall_mem_cons.mpr ⟨dX5_placeOpenBlock_13, List.forall_mem_cons.mpr ⟨dX5_placeOpenBlock_14, fun _ h => absurd h List.not_mem_nil⟩⟩) rfl ?_
    refine xcmpF (t := 60) tn_X5_placeOpenBlock dX5_placeOpenBlock_16 (by decide) h (fun h => ?_) (fun h => ?_)
    · refine xs tn_X5_placeOpenBlock [(60, .aload_n 0, 1)] (st' := (61, [(0, .ref 0), (1, .int x1), (2, .int x2)], [.ref 0], wd s rest, 0, 0)) (List.forall_mem_cons.mpr ⟨dX5_placeOpenBlock_60, fun _ h => absurd h List.not_mem_nil⟩) rfl ?_
      obtain ⟨v1, h2, h⟩ := obind h
      refine xcall tn_X5_placeOpenBlock dX5_placeOpenBlock_61 rfl rfl (w_X5_findDraftedBlock h2) ?_
      show X 119 (64, [(0, .ref 0), (1, .int x1), (2, .int x2)], [.int v1], wd s rest, 0, 0) _
      refine xs tn_X5_placeOpenBlock [(64, .istore_n 2, 1), (65, .iload_n 2, 1), (66, .iconst (-1), 1)] (st' := (67, [(0, .ref 0), (1, .int x1), (2, .int v1)], [.int (-nI 1), .int v1], wd s rest, 0, 0)) (List.forall_mem_cons.mpr ⟨dX5_placeOpenBlock_64, List.forall_mem_cons.mpr ⟨dX5_placeOpenBlock_65, List.forall_mem_cons.mpr ⟨dX5_placeOpenBlock_66, fun _ h => absurd h List.not_mem_nil⟩⟩⟩) rfl ?_
      refine xcmpF (t := 75) tn_X5_placeOpenBlock dX5_placeOpenBlock_67 (by decide) h (fun h => ?_) (fun h => ?_)
      · refine xs tn_X5_placeOpenBlock [(75, .aload_n 0, 1), (76, .dup, 1), (77, .getfield 199, 3), (80, .iconst 1, 1), (81, .iadd, 1)] (st' := (82, [(0, .ref 0), (1, .int x1), (2, .int v1)], [.int ((gI s 7) + (nI 1)), .ref 0], wd s rest, 0, 0)) (List.forall_mem_cons.mpr ⟨dX5_placeOpenBlock_75, List.forall_mem_cons.mpr ⟨dX5_placeOpenBlock_76, List.forall_mem_cons.mpr ⟨dX5_placeOpenBlock_77, List.forall_mem_cons.mpr ⟨dX5_placeOpenBlock_80, List.forall_mem_cons.mpr ⟨dX5_placeOpenBlock_81, fun _ h => absurd h List.not_mem_nil⟩⟩⟩⟩⟩) rfl ?_
        refine xput_a7 tn_X5_placeOpenBlock dX5_placeOpenBlock_82 rfl h (fun s3 h => ?_)
        refine xs tn_X5_placeOpenBlock [(85, .iload_n 2, 1)] (st' := (86, [(0, .ref 0), (1, .int x1), (2, .int v1)], [.int v1], wd s3 rest, 0, 0)) (List.forall_mem_cons.mpr ⟨dX5_placeOpenBlock_85, fun _ h => absurd h List.not_mem_nil⟩) rfl ?_
        cases h
        exact xret tn_X5_placeOpenBlock rfl dX5_placeOpenBlock_86
      · refine xs tn_X5_placeOpenBlock [(70, .aload_n 0, 1)] (st' := (71, [(0, .ref 0), (1, .int x1), (2, .int v1)], [.ref 0], wd s rest, 0, 0)) (List.forall_mem_cons.mpr ⟨dX5_placeOpenBlock_70, fun _ h => absurd h List.not_mem_nil⟩) rfl ?_
        obtain ⟨v4, s5, h6, h⟩ := obindP h
        refine xcall tn_X5_placeOpenBlock dX5_placeOpenBlock_71 rfl rfl (w_X5_writeNext h6) ?_
        show X 119 (74, [(0, .ref 0), (1, .int x1), (2, .int v1)], [.int v4], wd s5 rest, 0, 0) _
        cases h
        exact xret tn_X5_placeOpenBlock rfl dX5_placeOpenBlock_74
    · refine xs tn_X5_placeOpenBlock [(19, .iload_n 1, 1), (20, .bipush 24, 2), (22, .imul, 1), (23, .iload_n 2, 1), (24, .iadd, 1), (25, .istore_n 3, 1), (26, .aload_n 0, 1), (27, .getfield 28, 3), (30, .iload_n 2, 1), (31, .iload_n 3, 1)] (st' := (32, [(3, .int ((x1 * (nI 24)) + x2)), (0, .ref 0), (1, .int x1), (2, .int x2)], [.int ((x1 * (nI 24)) + x2), .int x2, .ref 9], wd s rest, 0, 0)) (List.forall_mem_cons.mpr ⟨dX5_placeOpenBlock_19, List.forall_mem_cons.mpr ⟨dX5_placeOpenBlock_20, List.forall_mem_cons.mpr ⟨dX5_placeOpenBlock_22, List.forall_mem_cons.mpr ⟨dX5_placeOpenBlock_23, List.forall_mem_cons.mpr ⟨dX5_placeOpenBlock_24, List.forall_mem_cons.mpr ⟨dX5_placeOpenBlock_25, List.forall_mem_cons.mpr ⟨dX5_placeOpenBlock_26, List.forall_mem_cons.mpr ⟨dX5_placeOpenBlock_27, List.forall_mem_cons.mpr ⟨dX5_placeOpenBlock_30, List.forall_mem_cons.mpr ⟨dX5_placeOpenBlock_31, fun _ h => absurd h List.not_mem_nil⟩⟩⟩⟩⟩⟩⟩⟩⟩⟩) rfl ?_
      refine xifF (t := 50) tn_X5_placeOpenBlock dX5_placeOpenBlock_32 (by decide) h (fun h => ?_) (fun h => ?_)
      · refine xs tn_X5_placeOpenBlock [(50, .iconst 0, 1)] (st' := (51, [(3, .int ((x1 * (nI 24)) + x2)), (0, .ref 0), (1, .int x1), (2, .int x2)], [.int (nI 0), .int x2, .ref 9], wd s rest, 0, 0)) (List.forall_mem_cons.mpr ⟨dX5_placeOpenBlock_50, fun _ h => absurd h List.not_mem_nil⟩) rfl ?_
        obtain ⟨s7, h8, h⟩ := obind h
        refine xcall tn_X5_placeOpenBlock dX5_placeOpenBlock_51 rfl rfl (w_X0_setContent h8) ?_
        show X 119 (54, [(3, .int ((x1 * (nI 24)) + x2)), (0, .ref 0), (1, .int x1), (2, .int x2)], [], wd s7 rest, 0, 0) _
        refine xs tn_X5_placeOpenBlock [(54, .iinc 2 1, 3), (57, .goto (-44), 3)] (st' := (13, [(3, .int ((x1 * (nI 24)) + x2)), (0, .ref 0), (1, .int x1), (2, .int (x2 + (nI 1)))], [], wd s7 rest, 0, 0)) (List.forall_mem_cons.mpr ⟨dX5_placeOpenBlock_54, List.forall_mem_cons.mpr ⟨dX5_placeOpenBlock_57, fun _ h => absurd h List.not_mem_nil⟩⟩) rfl ?_
        refine xwk [0, 1, 2] rfl rfl ?_
        exact ih _ _ _ _ _ h
      · refine xs tn_X5_placeOpenBlock [(35, .iload_n 3, 1), (36, .bipush 96, 2)] (st' := (38, [(3, .int ((x1 * (nI 24)) + x2)), (0, .ref 0), (1, .int x1), (2, .int x2)], [.int (nI 96), .int ((x1 * (nI 24)) + x2), .int x2, .ref 9], wd s rest, 0, 0)) (List.forall_mem_cons.mpr ⟨dX5_placeOpenBlock_35, List.forall_mem_cons.mpr ⟨dX5_placeOpenBlock_36, fun _ h => absurd h List.not_mem_nil⟩⟩) rfl ?_
        refine xcmpF (t := 50) tn_X5_placeOpenBlock dX5_placeOpenBlock_38 (by decide) h (fun h => ?_) (fun h => ?_)
        · refine xs tn_X5_placeOpenBlock [(50, .iconst 0, 1)] (st' := (51, [(3, .int ((x1 * (nI 24)) + x2)), (0, .ref 0), (1, .int x1), (2, .int x2)], [.int (nI 0), .int x2, .ref 9], wd s rest, 0, 0)) (List.forall_mem_cons.mpr ⟨dX5_placeOpenBlock_50, fun _ h => absurd h List.not_mem_nil⟩) rfl ?_
          obtain ⟨s9, h10, h⟩ := obind h
          refine xcall tn_X5_placeOpenBlock dX5_placeOpenBlock_51 rfl rfl (w_X0_setContent h10) ?_
          show X 119 (54, [(3, .int ((x1 * (nI 24)) + x2)), (0, .ref 0), (1, .int x1), (2, .int x2)], [], wd s9 rest, 0, 0) _
          refine xs tn_X5_placeOpenBlock [(54, .iinc 2 1, 3), (57, .goto (-44), 3)] (st' := (13, [(3, .int ((x1 * (nI 24)) + x2)), (0, .ref 0), (1, .int x1), (2, .int (x2 + (nI 1)))], [], wd s9 rest, 0, 0)) (List.forall_mem_cons.mpr ⟨dX5_placeOpenBlock_54, List.forall_mem_cons.mpr ⟨dX5_placeOpenBlock_57, fun _ h => absurd h List.not_mem_nil⟩⟩) rfl ?_
          refine xwk [0, 1, 2] rfl rfl ?_
          exact ih _ _ _ _ _ h
        · refine xs tn_X5_placeOpenBlock [(41, .aload_n 0, 1), (42, .getfield 39, 3), (45, .iload_n 3, 1)] (st' := (46, [(3, .int ((x1 * (nI 24)) + x2)), (0, .ref 0), (1, .int x1), (2, .int x2)], [.int ((x1 * (nI 24)) + x2), .ref 16, .int x2, .ref 9], wd s rest, 0, 0)) (List.forall_mem_cons.mpr ⟨dX5_placeOpenBlock_41, List.forall_mem_cons.mpr ⟨dX5_placeOpenBlock_42, List.forall_mem_cons.mpr ⟨dX5_placeOpenBlock_45, fun _ h => absurd h List.not_mem_nil⟩⟩⟩) rfl ?_
          refine xldF tn_X5_placeOpenBlock dX5_placeOpenBlock_46 at_16 h (fun v11 h => ?_)
          refine xs tn_X5_placeOpenBlock [(47, .goto 4, 3)] (st' := (51, [(3, .int ((x1 * (nI 24)) + x2)), (0, .ref 0), (1, .int x1), (2, .int x2)], [.int v11, .int x2, .ref 9], wd s rest, 0, 0)) (List.forall_mem_cons.mpr ⟨dX5_placeOpenBlock_47, fun _ h => absurd h List.not_mem_nil⟩) rfl ?_
          obtain ⟨s12, h13, h⟩ := obind h
          refine xcall tn_X5_placeOpenBlock dX5_placeOpenBlock_51 rfl rfl (w_X0_setContent h13) ?_
          show X 119 (54, [(3, .int ((x1 * (nI 24)) + x2)), (0, .ref 0), (1, .int x1), (2, .int x2)], [], wd s12 rest, 0, 0) _
          refine xs tn_X5_placeOpenBlock [(54, .iinc 2 1, 3), (57, .goto (-44), 3)] (st' := (13, [(3, .int ((x1 * (nI 24)) + x2)), (0, .ref 0), (1, .int x1), (2, .int (x2 + (nI 1)))], [], wd s12 rest, 0, 0)) (List.forall_mem_cons.mpr ⟨dX5_placeOpenBlock_54, List.forall_mem_cons.mpr ⟨dX5_placeOpenBlock_57, fun _ h => absurd h List.not_mem_nil⟩⟩) rfl ?_
          refine xwk [0, 1, 2] rfl rfl ?_
          exact ih _ _ _ _ _ h
def F_X5_placeOpenBlock (N : Nat) (s : St) (x1 : Int32) : Option (Int32 × St) := (F_X0_begin N s (nI 2) (nI 0) (nI 0) (nI 0)).bind fun s1 => F_X5_placeOpenBlock_13 N N s1 x1 (nI 0)
set_option maxRecDepth 100000 in
set_option maxHeartbeats 4000000 in
theorem w_X5_placeOpenBlock {rest : mx_W} {N : Nat} {s : St} {x1 : Int32} {r : Int32} {t : St} (h : F_X5_placeOpenBlock N s x1 = some (r, t)) : X 119 (0, [(0, .ref 0), (1, .int x1)], [], wd s rest, 0, 0) (some (.int r), wd t rest, 0, 0) := by
  unfold F_X5_placeOpenBlock at h
  refine xs tn_X5_placeOpenBlock [(0, .aload_n 0, 1), (1, .getfield 28, 3), (4, .iconst 2, 1), (5, .iconst 0, 1), (6, .iconst 0, 1), (7, .iconst 0, 1)] (st' := (8, [(0, .ref 0), (1, .int x1)], [.int (nI 0), .int (nI 0), .int (nI 0), .int (nI 2), .ref 9], wd s rest, 0, 0)) (List.forall_mem_cons.mpr ⟨dX5_placeOpenBlock_0, List.forall_mem_cons.mpr ⟨dX5_placeOpenBlock_1, List.forall_mem_cons.mpr ⟨dX5_placeOpenBlock_4, List.forall_mem_cons.mpr ⟨dX5_placeOpenBlock_5, List.forall_mem_cons.mpr ⟨dX5_placeOpenBlock_6, List.forall_mem_cons.mpr ⟨dX5_placeOpenBlock_7, fun _ h => absurd h List.not_mem_nil⟩⟩⟩⟩⟩⟩) rfl ?_
  obtain ⟨s1, h2, h⟩ := obind h
  refine xcall tn_X5_placeOpenBlock dX5_placeOpenBlock_8 rfl rfl (w_X0_begin h2) ?_
  show X 119 (11, [(0, .ref 0), (1, .int x1)], [], wd s1 rest, 0, 0) _
  refine xs tn_X5_placeOpenBlock [(11, .iconst 0, 1), (12, .istore_n 2, 1)] (st' := (13, [(2, .int (nI 0)), (0, .ref 0), (1, .int x1)], [], wd s1 rest, 0, 0)) (List.forall_mem_cons.mpr ⟨dX5_placeOpenBlock_11, List.forall_mem_cons.mpr ⟨dX5_placeOpenBlock_12, fun _ h => absurd h List.not_mem_nil⟩⟩) rfl ?_
  refine xwk [0, 1, 2] rfl rfl ?_
  exact w_X5_placeOpenBlock_13 N _ _ _ _ _ h
def F_X5_end_71 (N : Nat) : Nat → St → Int32 → Int32 → Option (Int32 × St)
  | 0, _, _, _ => none
  | f + 1, s, x1, x2 => bif mx_cnd .ge x2 x1 then (bindP (F_X5_writeNext N s) fun v1 s2 => bnd (sI s2 5 (-nI 1)) fun s4 => bnd (sI s4 2 ((gI s4 2) + (nI 1))) fun s5 => some ((gI s5 2) - (nI 1), s5)) else (ldA (gA s 12) 4 x2 fun v6 => (F_X0_setContent s x2 v6).bind fun s7 => F_X5_end_71 N f s7 x1 (x2 + (nI 1)))
set_option maxRecDepth 100000 in
set_option maxHeartbeats 4000000 in
theorem w_X5_end_71 {rest : mx_W} {N : Nat} : ∀ (f : Nat) (s : St) (x1 : Int32) (x2 : Int32) (r : Int32) (t : St), F_X5_end_71 N f s x1 x2 = some (r, t) → X 129 (71, [(0, .ref 0), (1, .int x1), (2, .int x2)], [], wd s rest, 0, 0) (some (.int r), wd t rest, 0, 0) := by
  intro f
  induction f with
  | zero => intro s x1 x2 r t h; rw [F_X5_end_71.eq_1] at h; cases h
  | succ f ih =>
    intro s x1 x2 r t h
    rw [F_X5_end_71.eq_2] at h
    refine xs tn_X5_end [(71, .iload_n 2, 1), (72, .iload_n 1, 1)] (st' := (73, [(0, .ref 0), (1, .int x1), (2, .int x2)], [.int x1, .int x2], wd s rest, 0, 0)) (List.forall_mem_cons.mpr ⟨dX5_end_71, List.forall_mem_cons.mpr ⟨dX5_end_72, fun _ h => absurd h List.not_mem_nil⟩⟩) rfl ?_
    refine xcmpF (t := 96) tn_X5_end dX5_end_73 (by decide) h (fun h => ?_) (fun h => ?_)
    · refine xs tn_X5_end [(96, .aload_n 0, 1)] (st' := (97, [(0, .ref 0), (1, .int x1), (2, .int x2)], [.ref 0], wd s rest, 0, 0)) (List.forall_mem_cons.mpr ⟨dX5_end_96, fun _ h => absurd h List.not_mem_nil⟩) rfl ?_
      obtain ⟨v1, s2, h3, h⟩ := obindP h
      refine xcall tn_X5_end dX5_end_97 rfl rfl (w_X5_writeNext h3) ?_
      show X 129 (100, [(0, .ref 0), (1, .int x1), (2, .int x2)], [.int v1], wd s2 rest, 0, 0) _
      refine xs tn_X5_end [(100, .pop, 1), (101, .aload_n 0, 1), (102, .iconst (-1), 1)] (st' := (103, [(0, .ref 0), (1, .int x1), (2, .int x2)], [.int (-nI 1), .ref 0], wd s2 rest, 0, 0)) (List.forall_mem_cons.mpr ⟨dX5_end_100, List.forall_mem_cons.mpr ⟨dX5_end_101, List.forall_mem_cons.mpr ⟨dX5_end_102, fun _ h => absurd h List.not_mem_nil⟩⟩⟩) rfl ?_
      refine xput_a5 tn_X5_end dX5_end_103 rfl h (fun s4 h => ?_)
      refine xs tn_X5_end [(106, .aload_n 0, 1), (107, .dup, 1), (108, .getfield 65, 3), (111, .iconst 1, 1), (112, .iadd, 1)] (st' := (113, [(0, .ref 0), (1, .int x1), (2, .int x2)], [.int ((gI s4 2) + (nI 1)), .ref 0], wd s4 rest, 0, 0)) (List.forall_mem_cons.mpr ⟨dX5_end_106, List.forall_mem_cons.mpr ⟨dX5_end_107, List.forall_mem_cons.mpr ⟨dX5_end_108, List.forall_mem_cons.mpr ⟨dX5_end_111, List.forall_mem_cons.mpr ⟨dX5_end_112, fun _ h => absurd h List.not_mem_nil⟩⟩⟩⟩⟩) rfl ?_
      refine xput_a2 tn_X5_end dX5_end_113 rfl h (fun s5 h => ?_)
      refine xs tn_X5_end [(116, .aload_n 0, 1), (117, .getfield 65, 3), (120, .iconst 1, 1), (121, .isub, 1)] (st' := (122, [(0, .ref 0), (1, .int x1), (2, .int x2)], [.int ((gI s5 2) - (nI 1))], wd s5 rest, 0, 0)) (List.forall_mem_cons.mpr ⟨dX5_end_116, List.forall_mem_cons.mpr ⟨dX5_end_117, List.forall_mem_cons.mpr ⟨dX5_end_120, List.forall_mem_cons.mpr ⟨dX5_end_121, fun _ h => absurd h List.not_mem_nil⟩⟩⟩⟩) rfl ?_
      cases h
      exact xret tn_X5_end rfl dX5_end_122
    · refine xs tn_X5_end [(76, .aload_n 0, 1), (77, .getfield 28, 3), (80, .iload_n 2, 1), (81, .aload_n 0, 1), (82, .getfield 43, 3), (85, .iload_n 2, 1)] (st' := (86, [(0, .ref 0), (1, .int x1), (2, .int x2)], [.int x2, .ref 17, .int x2, .ref 9], wd s rest, 0, 0)) (List.forall_mem_cons.mpr ⟨dX5_end_76, List.forall_mem_cons.mpr ⟨dX5_end_77, List.forall_mem_cons.mpr ⟨dX5_end_80, List.forall_mem_cons.mpr ⟨dX5_end_81, List.forall_mem_cons.mpr ⟨dX5_end_82, List.forall_mem_cons.mpr ⟨dX5_end_85, fun _ h => absurd h List.not_mem_nil⟩⟩⟩⟩⟩⟩) rfl ?_
      refine xldF tn_X5_end dX5_end_86 at_17 h (fun v6 h => ?_)
      obtain ⟨s7, h8, h⟩ := obind h
      refine xcall tn_X5_end dX5_end_87 rfl rfl (w_X0_setContent h8) ?_
      show X 129 (90, [(0, .ref 0), (1, .int x1), (2, .int x2)], [], wd s7 rest, 0, 0) _
      refine xs tn_X5_end [(90, .iinc 2 1, 3), (93, .goto (-22), 3)] (st' := (71, [(0, .ref 0), (1, .int x1), (2, .int (x2 + (nI 1)))], [], wd s7 rest, 0, 0)) (List.forall_mem_cons.mpr ⟨dX5_end_90, List.forall_mem_cons.mpr ⟨dX5_end_93, fun _ h => absurd h List.not_mem_nil⟩⟩) rfl ?_
      refine xwk [0, 1, 2] rfl rfl ?_
      exact ih _ _ _ _ _ h
def F_X5_end_27 (N : Nat) : Nat → St → Int32 → Int32 → Option (Int32 × St)
  | 0, _, _, _ => none
  | f + 1, s, x1, x2 => bif mx_cnd .ge x2 x1 then ((F_X0_begin N s (nI 3) (gI s 4) (gI s 2) (gI s 5)).bind fun s1 => F_X5_end_71 N N s1 x1 (nI 0)) else (bindP (F_X5_placeOpenBlock N s x2) fun v3 s4 => stA s4 12 4 x2 v3 fun s6 => F_X5_end_27 N f s6 x1 (x2 + (nI 1)))
set_option maxRecDepth 100000 in
set_option maxHeartbeats 4000000 in
theorem w_X5_end_27 {rest : mx_W} {N : Nat} : ∀ (f : Nat) (s : St) (x1 : Int32) (x2 : Int32) (r : Int32) (t : St), F_X5_end_27 N f s x1 x2 = some (r, t) → X 129 (27, [(0, .ref 0), (1, .int x1), (2, .int x2)], [], wd s rest, 0, 0) (some (.int r), wd t rest, 0, 0) := by
  intro f
  induction f with
  | zero => intro s x1 x2 r t h; rw [F_X5_end_27.eq_1] at h; cases h
  | succ f ih =>
    intro s x1 x2 r t h
    rw [F_X5_end_27.eq_2] at h
    refine xs tn_X5_end [(27, .iload_n 2, 1), (28, .iload_n 1, 1)] (st' := (29, [(0, .ref 0), (1, .int x1), (2, .int x2)], [.int x1, .int x2], wd s rest, 0, 0)) (List.forall_mem_cons.mpr ⟨dX5_end_27, List.forall_mem_cons.mpr ⟨dX5_end_28, fun _ h => absurd h List.not_mem_nil⟩⟩) rfl ?_
    refine xcmpF (t := 49) tn_X5_end dX5_end_29 (by decide) h (fun h => ?_) (fun h => ?_)
    · refine xs tn_X5_end [(49, .aload_n 0, 1), (50, .getfield 28, 3), (53, .iconst 3, 1), (54, .aload_n 0, 1), (55, .getfield 74, 3), (58, .aload_n 0, 1), (59, .getfield 65, 3), (62, .aload_n 0, 1), (63, .getfield 54, 3)] (st' := (66, [(0, .ref 0), (1, .int x1), (2, .int x2)], [.int (gI s 5), .int (gI s 2), .int (gI s 4), .int (nI 3), .ref 9], wd s rest, 0, 0)) (List.forall_mem_cons.mpr ⟨dX5_end_49, List.forall_mem_cons.mpr ⟨dX5_end_50, List.forall_mem_cons.mpr ⟨dX5_end_53, List.forall_mem_cons.mpr ⟨dX5_end_54, List.forall_mem_cons.mpr ⟨dX5_end_55, List.forall_mem_cons.mpr ⟨dX5_end_58, List.forall_mem_cons.mpr ⟨dX5_end_59, List.forall_mem_cons.mpr ⟨dX5_end_62, List.forall_mem_cons.mpr ⟨dX5_end_63, fun _ h => absurd h List.not_mem_nil⟩⟩⟩⟩⟩⟩⟩⟩⟩) rfl ?_
      obtain ⟨s1, h2, h⟩ := obind h
      refine xcall tn_X5_end dX5_end_66 rfl rfl (w_X0_begin h2) ?_
      show X 129 (69, [(0, .ref 0), (1, .int x1), (2, .int x2)], [], wd s1 rest, 0, 0) _
      refine xs tn_X5_end [(69, .iconst 0, 1), (70, .istore_n 2, 1)] (st' := (71, [(0, .ref 0), (1, .int x1), (2, .int (nI 0))], [], wd s1 rest, 0, 0)) (List.forall_mem_cons.mpr ⟨dX5_end_69, List.forall_mem_cons.mpr ⟨dX5_end_70, fun _ h => absurd h List.not_mem_nil⟩⟩) rfl ?_
      refine xwk [0, 1, 2] rfl rfl ?_
      exact w_X5_end_71 N _ _ _ _ _ h
    · refine xs tn_X5_end [(32, .aload_n 0, 1), (33, .getfield 43, 3), (36, .iload_n 2, 1), (37, .aload_n 0, 1), (38, .iload_n 2, 1)] (st' := (39, [(0, .ref 0), (1, .int x1), (2, .int x2)], [.int x2, .ref 0, .int x2, .ref 17], wd s rest, 0, 0)) (List.forall_mem_cons.mpr ⟨dX5_end_32, List.forall_mem_cons.mpr ⟨dX5_end_33, List.forall_mem_cons.mpr ⟨dX5_end_36, List.forall_mem_cons.mpr ⟨dX5_end_37, List.forall_mem_cons.mpr ⟨dX5_end_38, fun _ h => absurd h List.not_mem_nil⟩⟩⟩⟩⟩) rfl ?_
      obtain ⟨v3, s4, h5, h⟩ := obindP h
      refine xcall tn_X5_end dX5_end_39 rfl rfl (w_X5_placeOpenBlock h5) ?_
      show X 129 (42, [(0, .ref 0), (1, .int x1), (2, .int x2)], [.int v3, .int x2, .ref 17], wd s4 rest, 0, 0) _
      refine xstF (W := fun s => wd s rest) tn_X5_end dX5_end_42 at_17 (fun _ => set_17) h (fun s6 h => ?_)
      refine xs tn_X5_end [(43, .iinc 2 1, 3), (46, .goto (-19), 3)] (st' := (27, [(0, .ref 0), (1, .int x1), (2, .int (x2 + (nI 1)))], [], wd s6 rest, 0, 0)) (List.forall_mem_cons.mpr ⟨dX5_end_43, List.forall_mem_cons.mpr ⟨dX5_end_46, fun _ h => absurd h List.not_mem_nil⟩⟩) rfl ?_
      refine xwk [0, 1, 2] rfl rfl ?_
      exact ih _ _ _ _ _ h
def F_X5_end (N : Nat) (s : St) : Option (Int32 × St) := bif mx_cnd .eq (gI s 0) 0 then (some (-nI 3, s)) else ((F_X5_isOpen s).bind fun v1 => bif mx_cnd .ne v1 0 then ((F_X5_blocksForLength (gI s 5)).bind fun v3 => F_X5_end_27 N N s v3 (nI 0)) else (some (-nI 3, s)))
set_option maxRecDepth 100000 in
set_option maxHeartbeats 4000000 in
theorem w_X5_end {rest : mx_W} {N : Nat} {s : St} {r : Int32} {t : St} (h : F_X5_end N s = some (r, t)) : X 129 (0, [(0, .ref 0)], [], wd s rest, 0, 0) (some (.int r), wd t rest, 0, 0) := by
  unfold F_X5_end at h
  refine xs tn_X5_end [(0, .aload_n 0, 1), (1, .getfield 46, 3)] (st' := (4, [(0, .ref 0)], [.int (gI s 0)], wd s rest, 0, 0)) (List.forall_mem_cons.mpr ⟨dX5_end_0, List.forall_mem_cons.mpr ⟨dX5_end_1, fun _ h => absurd h List.not_mem_nil⟩⟩) rfl ?_
  refine xifF (t := 14) tn_X5_end dX5_end_4 (by decide) h (fun h => ?_) (fun h => ?_)
  · refine xs tn_X5_end [(14, .bipush (-3), 2)] (st' := (16, [(0, .ref 0)], [.int (-nI 3)], wd s rest, 0, 0)) (List.forall_mem_cons.mpr ⟨dX5_end_14, fun _ h => absurd h List.not_mem_nil⟩) rfl ?_
    cases h
    exact xret tn_X5_end rfl dX5_end_16
  · refine xs tn_X5_end [(7, .aload_n 0, 1)] (st' := (8, [(0, .ref 0)], [.ref 0], wd s rest, 0, 0)) (List.forall_mem_cons.mpr ⟨dX5_end_7, fun _ h => absurd h List.not_mem_nil⟩) rfl ?_
    obtain ⟨v1, h2, h⟩ := obind h
    refine xcall tn_X5_end dX5_end_8 rfl rfl (w_X5_isOpen h2) ?_
    show X 129 (11, [(0, .ref 0)], [.int v1], wd s rest, 0, 0) _
    refine xifF (t := 17) tn_X5_end dX5_end_11 (by decide) h (fun h => ?_) (fun h => ?_)
    · refine xs tn_X5_end [(17, .aload_n 0, 1), (18, .getfield 54, 3)] (st' := (21, [(0, .ref 0)], [.int (gI s 5)], wd s rest, 0, 0)) (List.forall_mem_cons.mpr ⟨dX5_end_17, List.forall_mem_cons.mpr ⟨dX5_end_18, fun _ h => absurd h List.not_mem_nil⟩⟩) rfl ?_
      obtain ⟨v3, h4, h⟩ := obind h
      refine xcall tn_X5_end dX5_end_21 rfl rfl (w_X5_blocksForLength h4) ?_
      show X 129 (24, [(0, .ref 0)], [.int v3], wd s rest, 0, 0) _
      refine xs tn_X5_end [(24, .istore_n 1, 1), (25, .iconst 0, 1), (26, .istore_n 2, 1)] (st' := (27, [(2, .int (nI 0)), (1, .int v3), (0, .ref 0)], [], wd s rest, 0, 0)) (List.forall_mem_cons.mpr ⟨dX5_end_24, List.forall_mem_cons.mpr ⟨dX5_end_25, List.forall_mem_cons.mpr ⟨dX5_end_26, fun _ h => absurd h List.not_mem_nil⟩⟩⟩) rfl ?_
      refine xwk [0, 1, 2] rfl rfl ?_
      exact w_X5_end_27 N _ _ _ _ _ h
    · refine xs tn_X5_end [(14, .bipush (-3), 2)] (st' := (16, [(0, .ref 0)], [.int (-nI 3)], wd s rest, 0, 0)) (List.forall_mem_cons.mpr ⟨dX5_end_14, fun _ h => absurd h List.not_mem_nil⟩) rfl ?_
      cases h
      exact xret tn_X5_end rfl dX5_end_16
