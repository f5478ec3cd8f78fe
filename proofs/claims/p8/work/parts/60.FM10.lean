def F_X6_head_10 (N : Nat) : Nat → St → Int32 → Int32 → Option (St)
  | 0, _, _, _ => none
  | f + 1, s, x1, x2 => bif mx_cnd .ge x2 (nI 4) then (stA s 6 32 (nI 8) (gI s 2) fun s1 => stA s1 6 32 (nI 9) (gI s1 3) fun s2 => some s2) else (stA s 6 32 ((nI 4) + x2) ((x1 >>> (((nI 24) - ((nI 8) * x2)) &&& 31)) &&& (nI 255)) fun s3 => F_X6_head_10 N f s3 x1 (x2 + (nI 1)))
set_option maxRecDepth 100000 in
set_option maxHeartbeats 4000000 in
theorem w_X6_head_10 {d : St} {rest : mx_W} {N : Nat} : ∀ (f : Nat) (s : St) (x1 : Int32) (x2 : Int32) (r : St), F_X6_head_10 N f s x1 x2 = some r → X 59 (10, [(0, .ref 18), (1, .int x1), (2, .int x2)], [], wd d (wm s rest), 0, 0) (none, wd d (wm r rest), 0, 0) := by
  intro f
  induction f with
  | zero => intro s x1 x2 r h; rw [F_X6_head_10.eq_1] at h; cases h
  | succ f ih =>
    intro s x1 x2 r h
    rw [F_X6_head_10.eq_2] at h
    refine xs tn_X6_head [(10, .iload_n 2, 1), (11, .iconst 4, 1)] (st' := (12, [(0, .ref 18), (1, .int x1), (2, .int x2)], [.int (nI 4), .int x2], wd d (wm s rest), 0, 0)) (List.forall_mem_cons.mpr ⟨dX6_head_10, List.forall_mem_cons.mpr ⟨dX6_head_11, fun _ h => absurd h List.not_mem_nil⟩⟩) rfl ?_
    refine xcmpF (t := 42) tn_X6_head dX6_head_12 (by decide) h (fun h => ?_) (fun h => ?_)
    · refine xs tn_X6_head [(42, .aload_n 0, 1), (43, .getfield 40, 3), (46, .bipush 8, 2), (48, .aload_n 0, 1), (49, .getfield 21, 3)] (st' := (52, [(0, .ref 18), (1, .int x1), (2, .int x2)], [.int (gI s 2), .int (nI 8), .ref 25], wd d (wm s rest), 0, 0)) (List.forall_mem_cons.mpr ⟨dX6_head_42, List.forall_mem_cons.mpr ⟨dX6_head_43, List.forall_mem_cons.mpr ⟨dX6_head_46, List.forall_mem_cons.mpr ⟨dX6_head_48, List.forall_mem_cons.mpr ⟨dX6_head_49, fun _ h => absurd h List.not_mem_nil⟩⟩⟩⟩⟩) rfl ?_
      refine xstF (W := fun s => wd d (wm s rest)) tn_X6_head dX6_head_52 at_25 (fun _ => set_25) h (fun s1 h => ?_)
      refine xs tn_X6_head [(53, .aload_n 0, 1), (54, .getfield 40, 3), (57, .bipush 9, 2), (59, .aload_n 0, 1), (60, .getfield 100, 3)] (st' := (63, [(0, .ref 18), (1, .int x1), (2, .int x2)], [.int (gI s1 3), .int (nI 9), .ref 25], wd d (wm s1 rest), 0, 0)) (List.forall_mem_cons.mpr ⟨dX6_head_53, List.forall_mem_cons.mpr ⟨dX6_head_54, List.forall_mem_cons.mpr ⟨dX6_head_57, List.forall_mem_cons.mpr ⟨dX6_head_59, List.forall_mem_cons.mpr ⟨dX6_head_60, fun _ h => absurd h List.not_mem_nil⟩⟩⟩⟩⟩) rfl ?_
      refine xstF (W := fun s => wd d (wm s rest)) tn_X6_head dX6_head_63 at_25 (fun _ => set_25) h (fun s2 h => ?_)
      cases h
      exact xretv tn_X6_head rfl dX6_head_64
    · refine xs tn_X6_head [(15, .aload_n 0, 1), (16, .getfield 40, 3), (19, .iconst 4, 1), (20, .iload_n 2, 1), (21, .iadd, 1), (22, .iload_n 1, 1), (23, .bipush 24, 2), (25, .bipush 8, 2), (27, .iload_n 2, 1), (28, .imul, 1), (29, .isub, 1), (30, .ishr, 1), (31, .sipush 255, 3), (34, .iand, 1)] (st' := (35, [(0, .ref 18), (1, .int x1), (2, .int x2)], [.int ((x1 >>> (((nI 24) - ((nI 8) * x2)) &&& 31)) &&& (nI 255)), .int ((nI 4) + x2), .ref 25], wd d (wm s rest), 0, 0)) (List.forall_mem_cons.mpr ⟨dX6_head_15, List.forall_mem_cons.mpr ⟨dX6_head_16, List.forall_mem_cons.mpr ⟨dX6_head_19, List.forall_mem_cons.mpr ⟨dX6_head_20, List.forall_mem_cons.mpr ⟨dX6_head_21, List.forall_mem_cons.mpr ⟨dX6_head_22, List.forall_mem_cons.mpr ⟨dX6_head_23, List.forall_mem_cons.mpr ⟨dX6_head_25, List.forall_mem_cons.mpr ⟨dX6_head_27, List.forall_mem_cons.mpr ⟨dX6_head_28, List.forall_mem_cons.mpr ⟨dX6_head_29, List.forall_mem_cons.mpr ⟨dX6_head_30, List.forall_mem_cons.mpr ⟨dX6_head_31, List.forall_mem_cons.mpr ⟨dX6_head_34, fun _ h => absurd h List.not_mem_nil⟩⟩⟩⟩⟩⟩⟩⟩⟩⟩⟩⟩⟩⟩) rfl ?_
      refine xstF (W := fun s => wd d (wm s rest)) tn_X6_head dX6_head_35 at_25 (fun _ => set_25) h (fun s3 h => ?_)
      refine xs tn_X6_head [(36, .iinc 2 1, 3), (39, .goto (-29), 3)] (st' := (10, [(0, .ref 18), (1, .int x1), (2, .int (x2 + (nI 1)))], [], wd d (wm s3 rest), 0, 0)) (List.forall_mem_cons.mpr ⟨dX6_head_36, List.forall_mem_cons.mpr ⟨dX6_head_39, fun _ h => absurd h List.not_mem_nil⟩⟩) rfl ?_
      refine xwk [0, 1, 2] rfl rfl ?_
      exact ih _ _ _ _ h
def F_X6_head (N : Nat) (s : St) (x1 : Int32) : Option (St) := (F_X6_begin N s (nI 1) (nI 0) (nI 0) (nI 0)).bind fun s1 => F_X6_head_10 N N s1 x1 (nI 0)
set_option maxRecDepth 100000 in
set_option maxHeartbeats 4000000 in
theorem w_X6_head {d : St} {rest : mx_W} {N : Nat} {s : St} {x1 : Int32} {r : St} (h : F_X6_head N s x1 = some r) : X 59 (0, [(0, .ref 18), (1, .int x1)], [], wd d (wm s rest), 0, 0) (none, wd d (wm r rest), 0, 0) := by
  unfold F_X6_head at h
  refine xs tn_X6_head [(0, .aload_n 0, 1), (1, .iconst 1, 1), (2, .iconst 0, 1), (3, .iconst 0, 1), (4, .iconst 0, 1)] (st' := (5, [(0, .ref 18), (1, .int x1)], [.int (nI 0), .int (nI 0), .int (nI 0), .int (nI 1), .ref 18], wd d (wm s rest), 0, 0)) (List.forall_mem_cons.mpr ⟨dX6_head_0, List.forall_mem_cons.mpr ⟨dX6_head_1, List.forall_mem_cons.mpr ⟨dX6_head_2, List.forall_mem_cons.mpr ⟨dX6_head_3, List.forall_mem_cons.mpr ⟨dX6_head_4, fun _ h => absurd h List.not_mem_nil⟩⟩⟩⟩⟩) rfl ?_
  obtain ⟨s1, h2, h⟩ := obind h
  refine xcall tn_X6_head dX6_head_5 rfl rfl (w_X6_begin h2) ?_
  show X 59 (8, [(0, .ref 18), (1, .int x1)], [], wd d (wm s1 rest), 0, 0) _
  refine xs tn_X6_head [(8, .iconst 0, 1), (9, .istore_n 2, 1)] (st' := (10, [(2, .int (nI 0)), (0, .ref 18), (1, .int x1)], [], wd d (wm s1 rest), 0, 0)) (List.forall_mem_cons.mpr ⟨dX6_head_8, List.forall_mem_cons.mpr ⟨dX6_head_9, fun _ h => absurd h List.not_mem_nil⟩⟩) rfl ?_
  refine xwk [0, 1, 2] rfl rfl ?_
  exact w_X6_head_10 N _ _ _ _ h
def F_X6_sync (N : Nat) (s : St) : Option (Int32 × St) := bnd (sI s 0 (nI 0)) fun s1 => bif mx_cnd .ne (gI s1 1) 0 then (bnd (sI s1 4 ((gI s1 4) + (nI 1))) fun s2 => (F_X6_head N s2 (gI s2 4)).bind fun s3 => (F_X6_write N s3 ((gI s3 4) &&& (nI 1))).bind fun s5 => bnd (sI s5 9 (nI 0)) fun s7 => some (gI s7 4, s7)) else (some (-nI 3, s1))
set_option maxRecDepth 100000 in
set_option maxHeartbeats 4000000 in
theorem w_X6_sync {d : St} {rest : mx_W} {N : Nat} {s : St} {r : Int32} {t : St} (h : F_X6_sync N s = some (r, t)) : X 116 (0, [(0, .ref 18)], [], wd d (wm s rest), 0, 0) (some (.int r), wd d (wm t rest), 0, 0) := by
  unfold F_X6_sync at h
  refine xs tn_X6_sync [(0, .aload_n 0, 1), (1, .iconst 0, 1)] (st' := (2, [(0, .ref 18)], [.int (nI 0), .ref 18], wd d (wm s rest), 0, 0)) (List.forall_mem_cons.mpr ⟨dX6_sync_0, List.forall_mem_cons.mpr ⟨dX6_sync_1, fun _ h => absurd h List.not_mem_nil⟩⟩) rfl ?_
  refine xput_b0 tn_X6_sync dX6_sync_2 rfl h (fun s1 h => ?_)
  refine xs tn_X6_sync [(5, .aload_n 0, 1), (6, .getfield 17, 3)] (st' := (9, [(0, .ref 18)], [.int (gI s1 1)], wd d (wm s1 rest), 0, 0)) (List.forall_mem_cons.mpr ⟨dX6_sync_5, List.forall_mem_cons.mpr ⟨dX6_sync_6, fun _ h => absurd h List.not_mem_nil⟩⟩) rfl ?_
  refine xifF (t := 15) tn_X6_sync dX6_sync_9 (by decide) h (fun h => ?_) (fun h => ?_)
  · refine xs tn_X6_sync [(15, .aload_n 0, 1), (16, .dup, 1), (17, .getfield 153, 3), (20, .iconst 1, 1), (21, .iadd, 1)] (st' := (22, [(0, .ref 18)], [.int ((gI s1 4) + (nI 1)), .ref 18], wd d (wm s1 rest), 0, 0)) (List.forall_mem_cons.mpr ⟨dX6_sync_15, List.forall_mem_cons.mpr ⟨dX6_sync_16, List.forall_mem_cons.mpr ⟨dX6_sync_17, List.forall_mem_cons.mpr ⟨dX6_sync_20, List.forall_mem_cons.mpr ⟨dX6_sync_21, fun _ h => absurd h List.not_mem_nil⟩⟩⟩⟩⟩) rfl ?_
    refine xput_b4 tn_X6_sync dX6_sync_22 rfl h (fun s2 h => ?_)
    refine xs tn_X6_sync [(25, .aload_n 0, 1), (26, .aload_n 0, 1), (27, .getfield 153, 3)] (st' := (30, [(0, .ref 18)], [.int (gI s2 4), .ref 18], wd d (wm s2 rest), 0, 0)) (List.forall_mem_cons.mpr ⟨dX6_sync_25, List.forall_mem_cons.mpr ⟨dX6_sync_26, List.forall_mem_cons.mpr ⟨dX6_sync_27, fun _ h => absurd h List.not_mem_nil⟩⟩⟩) rfl ?_
    obtain ⟨s3, h4, h⟩ := obind h
    refine xcall tn_X6_sync dX6_sync_30 rfl rfl (w_X6_head h4) ?_
    show X 116 (33, [(0, .ref 18)], [], wd d (wm s3 rest), 0, 0) _
    refine xs tn_X6_sync [(33, .aload_n 0, 1), (34, .aload_n 0, 1), (35, .getfield 153, 3), (38, .iconst 1, 1), (39, .iand, 1)] (st' := (40, [(0, .ref 18)], [.int ((gI s3 4) &&& (nI 1)), .ref 18], wd d (wm s3 rest), 0, 0)) (List.forall_mem_cons.mpr ⟨dX6_sync_33, List.forall_mem_cons.mpr ⟨dX6_sync_34, List.forall_mem_cons.mpr ⟨dX6_sync_35, List.forall_mem_cons.mpr ⟨dX6_sync_38, List.forall_mem_cons.mpr ⟨dX6_sync_39, fun _ h => absurd h List.not_mem_nil⟩⟩⟩⟩⟩) rfl ?_
    obtain ⟨s5, h6, h⟩ := obind h
    refine xcall tn_X6_sync dX6_sync_40 rfl rfl (w_X6_write h6) ?_
    show X 116 (43, [(0, .ref 18)], [], wd d (wm s5 rest), 0, 0) _
    refine xs tn_X6_sync [(43, .aload_n 0, 1), (44, .iconst 0, 1)] (st' := (45, [(0, .ref 18)], [.int (nI 0), .ref 18], wd d (wm s5 rest), 0, 0)) (List.forall_mem_cons.mpr ⟨dX6_sync_43, List.forall_mem_cons.mpr ⟨dX6_sync_44, fun _ h => absurd h List.not_mem_nil⟩⟩) rfl ?_
    refine xput_b9 tn_X6_sync dX6_sync_45 rfl h (fun s7 h => ?_)
    refine xs tn_X6_sync [(48, .aload_n 0, 1), (49, .getfield 153, 3)] (st' := (52, [(0, .ref 18)], [.int (gI s7 4)], wd d (wm s7 rest), 0, 0)) (List.forall_mem_cons.mpr ⟨dX6_sync_48, List.forall_mem_cons.mpr ⟨dX6_sync_49, fun _ h => absurd h List.not_mem_nil⟩⟩) rfl ?_
    cases h
    exact xret tn_X6_sync rfl dX6_sync_52
  · refine xs tn_X6_sync [(12, .bipush (-3), 2)] (st' := (14, [(0, .ref 18)], [.int (-nI 3)], wd d (wm s1 rest), 0, 0)) (List.forall_mem_cons.mpr ⟨dX6_sync_12, fun _ h => absurd h List.not_mem_nil⟩) rfl ?_
    cases h
    exact xret tn_X6_sync rfl dX6_sync_14
def F_X6_cut_102 (N : Nat) (K : St → Int32 → Int32 → Int32 → Option (Int32 × St)) : Nat → St → Int32 → Int32 → Int32 → Int32 → Int32 → Option (Int32 × St)
  | 0, _, _, _, _, _, _ => none
  | f + 1, s, x1, x2, x3, x4, x5 => bif mx_cnd .ge x5 (nI 32) then (bif mx_cnd .le x3 x1 then (stA s 1 60 x4 (vp_nar .boolean (nI 0)) fun s1 => K s1 x1 x2 (x3 + (-nI 1))) else (ldA (gA s 5) 64 x3 fun v2 => bif mx_cnd .eq v2 0 then (stA s 1 60 x4 (vp_nar .boolean (nI 0)) fun s3 => K s3 x1 x2 (x3 + (-nI 1))) else (stA s 1 60 x4 (vp_nar .boolean (nI 1)) fun s4 => K s4 x1 x2 (x3 + (-nI 1))))) else (ldA (gA s 4) 2048 (((nI 32) * x3) + x5) fun v5 => stA s 0 1920 (((nI 32) * x4) + x5) v5 fun s6 => F_X6_cut_102 N K f s6 x1 x2 x3 x4 (x5 + (nI 1)))
set_option maxRecDepth 100000 in
set_option maxHeartbeats 4000000 in
theorem w_X6_cut_102 {d : St} {rest : mx_W} {N : Nat} {K : St → Int32 → Int32 → Int32 → Option (Int32 × St)} (hK : ∀ (s : St) (x1 : Int32) (x2 : Int32) (x3 : Int32) (r : Int32) (t : St), K s x1 x2 x3 = some (r, t) → X 109 (77, [(0, .ref 18), (1, .int x1), (2, .int x2), (3, .int x3)], [], wd d (wm s rest), 0, 0) (some (.int r), wd d (wm t rest), 0, 0)) : ∀ (f : Nat) (s : St) (x1 : Int32) (x2 : Int32) (x3 : Int32) (x4 : Int32) (x5 : Int32) (r : Int32) (t : St), F_X6_cut_102 N K f s x1 x2 x3 x4 x5 = some (r, t) → X 109 (102, [(0, .ref 18), (1, .int x1), (2, .int x2), (3, .int x3), (4, .int x4), (5, .int x5)], [], wd d (wm s rest), 0, 0) (some (.int r), wd d (wm t rest), 0, 0) := by
  intro f
  induction f with
  | zero => intro s x1 x2 x3 x4 x5 r t h; rw [F_X6_cut_102.eq_1] at h; cases h
  | succ f ih =>
    intro s x1 x2 x3 x4 x5 r t h
    rw [F_X6_cut_102.eq_2] at h
    refine xs tn_X6_cut [(102, .iload 5, 2), (104, .bipush 32, 2)] (st' := (106, [(0, .ref 18), (1, .int x1), (2, .int x2), (3, .int x3), (4, .int x4), (5, .int x5)], [.int (nI 32), .int x5], wd d (wm s rest), 0, 0)) (List.forall_mem_cons.mpr ⟨dX6_cut_102, List.forall_mem_cons.mpr ⟨dX6_cut_104, fun _ h => absurd h List.not_mem_nil⟩⟩) rfl ?_
    refine xcmpF (t := 140) tn_X6_cut dX6_cut_106 (by decide) h (fun h => ?_) (fun h => ?_)
    · refine xs tn_X6_cut [(140, .aload_n 0, 1), (141, .getfield 13, 3), (144, .iload 4, 2), (146, .iload_n 3, 1), (147, .iload_n 1, 1)] (st' := (148, [(0, .ref 18), (1, .int x1), (2, .int x2), (3, .int x3), (4, .int x4), (5, .int x5)], [.int x1, .int x3, .int x4, .ref 20], wd d (wm s rest), 0, 0)) (List.forall_mem_cons.mpr ⟨dX6_cut_140, List.forall_mem_cons.mpr ⟨dX6_cut_141, List.forall_mem_cons.mpr ⟨dX6_cut_144, List.forall_mem_cons.mpr ⟨dX6_cut_146, List.forall_mem_cons.mpr ⟨dX6_cut_147, fun _ h => absurd h List.not_mem_nil⟩⟩⟩⟩⟩) rfl ?_
      refine xcmpF (t := 164) tn_X6_cut dX6_cut_148 (by decide) h (fun h => ?_) (fun h => ?_)
      · refine xs tn_X6_cut [(164, .iconst 0, 1)] (st' := (165, [(0, .ref 18), (1, .int x1), (2, .int x2), (3, .int x3), (4, .int x4), (5, .int x5)], [.int (nI 0), .int x4, .ref 20], wd d (wm s rest), 0, 0)) (List.forall_mem_cons.mpr ⟨dX6_cut_164, fun _ h => absurd h List.not_mem_nil⟩) rfl ?_
        refine xzstF (W := fun s => wd d (wm s rest)) tn_X6_cut dX6_cut_165 at_20 (fun _ => set_20) h (fun s1 h => ?_)
        refine xs tn_X6_cut [(166, .iinc 3 (-1), 3), (169, .goto (-92), 3)] (st' := (77, [(0, .ref 18), (1, .int x1), (2, .int x2), (3, .int (x3 + (-nI 1))), (4, .int x4), (5, .int x5)], [], wd d (wm s1 rest), 0, 0)) (List.forall_mem_cons.mpr ⟨dX6_cut_166, List.forall_mem_cons.mpr ⟨dX6_cut_169, fun _ h => absurd h List.not_mem_nil⟩⟩) rfl ?_
        refine xwk [0, 1, 2, 3] rfl rfl ?_
        exact hK _ _ _ _ _ _ h
      · refine xs tn_X6_cut [(151, .aload_n 0, 1), (152, .getfield 37, 3), (155, .iload_n 3, 1)] (st' := (156, [(0, .ref 18), (1, .int x1), (2, .int x2), (3, .int x3), (4, .int x4), (5, .int x5)], [.int x3, .ref 24, .int x4, .ref 20], wd d (wm s rest), 0, 0)) (List.forall_mem_cons.mpr ⟨dX6_cut_151, List.forall_mem_cons.mpr ⟨dX6_cut_152, List.forall_mem_cons.mpr ⟨dX6_cut_155, fun _ h => absurd h List.not_mem_nil⟩⟩⟩) rfl ?_
        refine xzldF tn_X6_cut dX6_cut_156 at_24 h (fun v2 h => ?_)
        refine xifF (t := 164) tn_X6_cut dX6_cut_157 (by decide) h (fun h => ?_) (fun h => ?_)
        · refine xs tn_X6_cut [(164, .iconst 0, 1)] (st' := (165, [(0, .ref 18), (1, .int x1), (2, .int x2), (3, .int x3), (4, .int x4), (5, .int x5)], [.int (nI 0), .int x4, .ref 20], wd d (wm s rest), 0, 0)) (List.forall_mem_cons.mpr ⟨dX6_cut_164, fun _ h => absurd h List.not_mem_nil⟩) rfl ?_
          refine xzstF (W := fun s => wd d (wm s rest)) tn_X6_cut dX6_cut_165 at_20 (fun _ => set_20) h (fun s3 h => ?_)
          refine xs tn_X6_cut [(166, .iinc 3 (-1), 3), (169, .goto (-92), 3)] (st' := (77, [(0, .ref 18), (1, .int x1), (2, .int x2), (3, .int (x3 + (-nI 1))), (4, .int x4), (5, .int x5)], [], wd d (wm s3 rest), 0, 0)) (List.forall_mem_cons.mpr ⟨dX6_cut_166, List.forall_mem_cons.mpr ⟨dX6_cut_169, fun _ h => absurd h List.not_mem_nil⟩⟩) rfl ?_
          refine xwk [0, 1, 2, 3] rfl rfl ?_
          exact hK _ _ _ _ _ _ h
        · refine xs tn_X6_cut [(160, .iconst 1, 1), (161, .goto 4, 3)] (st' := (165, [(0, .ref 18), (1, .int x1), (2, .int x2), (3, .int x3), (4, .int x4), (5, .int x5)], [.int (nI 1), .int x4, .ref 20], wd d (wm s rest), 0, 0)) (List.forall_mem_cons.mpr ⟨dX6_cut_160, List.forall_mem_cons.mpr ⟨dX6_cut_161, fun _ h => absurd h List.not_mem_nil⟩⟩) rfl ?_
          refine xzstF (W := fun s => wd d (wm s rest)) tn_X6_cut dX6_cut_165 at_20 (fun _ => set_20) h (fun s4 h => ?_)
          refine xs tn_X6_cut [(166, .iinc 3 (-1), 3), (169, .goto (-92), 3)] (st' := (77, [(0, .ref 18), (1, .int x1), (2, .int x2), (3, .int (x3 + (-nI 1))), (4, .int x4), (5, .int x5)], [], wd d (wm s4 rest), 0, 0)) (List.forall_mem_cons.mpr ⟨dX6_cut_166, List.forall_mem_cons.mpr ⟨dX6_cut_169, fun _ h => absurd h List.not_mem_nil⟩⟩) rfl ?_
          refine xwk [0, 1, 2, 3] rfl rfl ?_
          exact hK _ _ _ _ _ _ h
    · refine xs tn_X6_cut [(109, .aload_n 0, 1), (110, .getfield 7, 3), (113, .bipush 32, 2), (115, .iload 4, 2), (117, .imul, 1), (118, .iload 5, 2), (120, .iadd, 1), (121, .aload_n 0, 1), (122, .getfield 34, 3), (125, .bipush 32, 2), (127, .iload_n 3, 1), (128, .imul, 1), (129, .iload 5, 2), (131, .iadd, 1)] (st' := (132, [(0, .ref 18), (1, .int x1), (2, .int x2), (3, .int x3), (4, .int x4), (5, .int x5)], [.int (((nI 32) * x3) + x5), .ref 23, .int (((nI 32) * x4) + x5), .ref 19], wd d (wm s rest), 0, 0)) (List.forall_mem_cons.mpr ⟨dX6_cut_109, List.forall_mem_cons.mpr ⟨dX6_cut_110, List.forall_mem_cons.mpr ⟨dX6_cut_113, List.forall_mem_cons.mpr ⟨dX6_cut_115, List.forall_mem_cons.mpr ⟨dX6_cut_117, List.forall_mem_cons.mpr ⟨dX6_cut_118, List.forall_mem_cons.mpr ⟨dX6_cut_120, List.forall_mem_cons.mpr ⟨dX6_cut_121, List.forall_mem_cons.mpr ⟨dX6_cut_122, List.forall_mem_cons.mpr ⟨dX6_cut_125, List.forall_mem_cons.mpr ⟨dX6_cut_127, List.forall_mem_cons.mpr ⟨dX6_cut_128, List.forall_mem_cons.mpr ⟨dX6_cut_129, List.forall_mem_cons.mpr ⟨dX6_cut_131, fun _ h => absurd h List.not_mem_nil⟩⟩⟩⟩⟩⟩⟩⟩⟩⟩⟩⟩⟩⟩) rfl ?_
      refine xldF tn_X6_cut dX6_cut_132 at_23 h (fun v5 h => ?_)
      refine xstF (W := fun s => wd d (wm s rest)) tn_X6_cut dX6_cut_133 at_19 (fun _ => set_19) h (fun s6 h => ?_)
      refine xs tn_X6_cut [(134, .iinc 5 1, 3), (137, .goto (-35), 3)] (st' := (102, [(0, .ref 18), (1, .int x1), (2, .int x2), (3, .int x3), (4, .int x4), (5, .int (x5 + (nI 1)))], [], wd d (wm s6 rest), 0, 0)) (List.forall_mem_cons.mpr ⟨dX6_cut_134, List.forall_mem_cons.mpr ⟨dX6_cut_137, fun _ h => absurd h List.not_mem_nil⟩⟩) rfl ?_
      refine xwk [0, 1, 2, 3, 4, 5] rfl rfl ?_
      exact ih _ _ _ _ _ _ _ _ h
def F_X6_cut_77 (N : Nat) : Nat → St → Int32 → Int32 → Int32 → Option (Int32 × St)
  | 0, _, _, _, _ => none
  | f + 1, s, x1, x2, x3 => bif mx_cnd .lt x3 x1 then (bnd (sI s 9 (nI 0)) fun s1 => bnd (sI s1 7 (-nI 1)) fun s2 => bnd (sI s2 1 (nI 0)) fun s3 => some (nI 1, s3)) else (ldA (gA s 3) 64 x3 fun v4 => bif mx_cnd .ne x3 x1 then (F_X6_cut_102 N (F_X6_cut_77 N f) N s x1 x2 x3 v4 (nI 0)) else (F_X6_cut_102 N (F_X6_cut_77 N f) N s x1 x2 x3 v4 x2))
set_option maxRecDepth 100000 in
set_option maxHeartbeats 4000000 in
theorem w_X6_cut_77 {d : St} {rest : mx_W} {N : Nat} : ∀ (f : Nat) (s : St) (x1 : Int32) (x2 : Int32) (x3 : Int32) (r : Int32) (t : St), F_X6_cut_77 N f s x1 x2 x3 = some (r, t) → X 109 (77, [(0, .ref 18), (1, .int x1), (2, .int x2), (3, .int x3)], [], wd d (wm s rest), 0, 0) (some (.int r), wd d (wm t rest), 0, 0) := by
  intro f
  induction f with
  | zero => intro s x1 x2 x3 r t h; rw [F_X6_cut_77.eq_1] at h; cases h
  | succ f ih =>
    intro s x1 x2 x3 r t h
    rw [F_X6_cut_77.eq_2] at h
    refine xs tn_X6_cut [(77, .iload_n 3, 1), (78, .iload_n 1, 1)] (st' := (79, [(0, .ref 18), (1, .int x1), (2, .int x2), (3, .int x3)], [.int x1, .int x3], wd d (wm s rest), 0, 0)) (List.forall_mem_cons.mpr ⟨dX6_cut_77, List.forall_mem_cons.mpr ⟨dX6_cut_78, fun _ h => absurd h List.not_mem_nil⟩⟩) rfl ?_
    refine xcmpF (t := 172) tn_X6_cut dX6_cut_79 (by decide) h (fun h => ?_) (fun h => ?_)
    · refine xs tn_X6_cut [(172, .aload_n 0, 1), (173, .iconst 0, 1)] (st' := (174, [(0, .ref 18), (1, .int x1), (2, .int x2), (3, .int x3)], [.int (nI 0), .ref 18], wd d (wm s rest), 0, 0)) (List.forall_mem_cons.mpr ⟨dX6_cut_172, List.forall_mem_cons.mpr ⟨dX6_cut_173, fun _ h => absurd h List.not_mem_nil⟩⟩) rfl ?_
      refine xput_b9 tn_X6_cut dX6_cut_174 rfl h (fun s1 h => ?_)
      refine xs tn_X6_cut [(177, .aload_n 0, 1), (178, .iconst (-1), 1)] (st' := (179, [(0, .ref 18), (1, .int x1), (2, .int x2), (3, .int x3)], [.int (-nI 1), .ref 18], wd d (wm s1 rest), 0, 0)) (List.forall_mem_cons.mpr ⟨dX6_cut_177, List.forall_mem_cons.mpr ⟨dX6_cut_178, fun _ h => absurd h List.not_mem_nil⟩⟩) rfl ?_
      refine xput_b7 tn_X6_cut dX6_cut_179 rfl h (fun s2 h => ?_)
      refine xs tn_X6_cut [(182, .aload_n 0, 1), (183, .iconst 0, 1)] (st' := (184, [(0, .ref 18), (1, .int x1), (2, .int x2), (3, .int x3)], [.int (nI 0), .ref 18], wd d (wm s2 rest), 0, 0)) (List.forall_mem_cons.mpr ⟨dX6_cut_182, List.forall_mem_cons.mpr ⟨dX6_cut_183, fun _ h => absurd h List.not_mem_nil⟩⟩) rfl ?_
      refine xput_b1 tn_X6_cut dX6_cut_184 rfl (by decide) h (fun s3 h => ?_)
      refine xs tn_X6_cut [(187, .iconst 1, 1)] (st' := (188, [(0, .ref 18), (1, .int x1), (2, .int x2), (3, .int x3)], [.int (nI 1)], wd d (wm s3 rest), 0, 0)) (List.forall_mem_cons.mpr ⟨dX6_cut_187, fun _ h => absurd h List.not_mem_nil⟩) rfl ?_
      cases h
      exact xret tn_X6_cut rfl dX6_cut_188
    · refine xs tn_X6_cut [(82, .aload_n 0, 1), (83, .getfield 31, 3), (86, .iload_n 3, 1)] (st' := (87, [(0, .ref 18), (1, .int x1), (2, .int x2), (3, .int x3)], [.int x3, .ref 22], wd d (wm s rest), 0, 0)) (List.forall_mem_cons.mpr ⟨dX6_cut_82, List.forall_mem_cons.mpr ⟨dX6_cut_83, List.forall_mem_cons.mpr ⟨dX6_cut_86, fun _ h => absurd h List.not_mem_nil⟩⟩⟩) rfl ?_
      refine xldF tn_X6_cut dX6_cut_87 at_22 h (fun v4 h => ?_)
      refine xs tn_X6_cut [(88, .istore 4, 2), (90, .iload_n 3, 1), (91, .iload_n 1, 1)] (st' := (92, [(4, .int v4), (0, .ref 18), (1, .int x1), (2, .int x2), (3, .int x3)], [.int x1, .int x3], wd d (wm s rest), 0, 0)) (List.forall_mem_cons.mpr ⟨dX6_cut_88, List.forall_mem_cons.mpr ⟨dX6_cut_90, List.forall_mem_cons.mpr ⟨dX6_cut_91, fun _ h => absurd h List.not_mem_nil⟩⟩⟩) rfl ?_
      refine xcmpF (t := 99) tn_X6_cut dX6_cut_92 (by decide) h (fun h => ?_) (fun h => ?_)
      · refine xs tn_X6_cut [(99, .iconst 0, 1), (100, .istore 5, 2)] (st' := (102, [(5, .int (nI 0)), (4, .int v4), (0, .ref 18), (1, .int x1), (2, .int x2), (3, .int x3)], [], wd d (wm s rest), 0, 0)) (List.forall_mem_cons.mpr ⟨dX6_cut_99, List.forall_mem_cons.mpr ⟨dX6_cut_100, fun _ h => absurd h List.not_mem_nil⟩⟩) rfl ?_
        refine xwk [0, 1, 2, 3, 4, 5] rfl rfl ?_
        exact w_X6_cut_102 ih N _ _ _ _ _ _ _ _ h
      · refine xs tn_X6_cut [(95, .iload_n 2, 1), (96, .goto 4, 3), (100, .istore 5, 2)] (st' := (102, [(5, .int x2), (4, .int v4), (0, .ref 18), (1, .int x1), (2, .int x2), (3, .int x3)], [], wd d (wm s rest), 0, 0)) (List.forall_mem_cons.mpr ⟨dX6_cut_95, List.forall_mem_cons.mpr ⟨dX6_cut_96, List.forall_mem_cons.mpr ⟨dX6_cut_100, fun _ h => absurd h List.not_mem_nil⟩⟩⟩) rfl ?_
        refine xwk [0, 1, 2, 3, 4, 5] rfl rfl ?_
        exact w_X6_cut_102 ih N _ _ _ _ _ _ _ _ h
def F_X6_cut_70 (N : Nat) (s : St) (x1 : Int32) (x2 : Int32) : Option (Int32 × St) := F_X6_cut_77 N N s x1 x2 ((gI s 9) - (nI 1))
set_option maxRecDepth 100000 in
set_option maxHeartbeats 4000000 in
theorem w_X6_cut_70 {d : St} {rest : mx_W} {N : Nat} {s : St} {x1 : Int32} {x2 : Int32} {r : Int32} {t : St} (h : F_X6_cut_70 N s x1 x2 = some (r, t)) : X 109 (70, [(0, .ref 18), (1, .int x1), (2, .int x2)], [], wd d (wm s rest), 0, 0) (some (.int r), wd d (wm t rest), 0, 0) := by
  unfold F_X6_cut_70 at h
  refine xs tn_X6_cut [(70, .aload_n 0, 1), (71, .getfield 93, 3), (74, .iconst 1, 1), (75, .isub, 1), (76, .istore_n 3, 1)] (st' := (77, [(3, .int ((gI s 9) - (nI 1))), (0, .ref 18), (1, .int x1), (2, .int x2)], [], wd d (wm s rest), 0, 0)) (List.forall_mem_cons.mpr ⟨dX6_cut_70, List.forall_mem_cons.mpr ⟨dX6_cut_71, List.forall_mem_cons.mpr ⟨dX6_cut_74, List.forall_mem_cons.mpr ⟨dX6_cut_75, List.forall_mem_cons.mpr ⟨dX6_cut_76, fun _ h => absurd h List.not_mem_nil⟩⟩⟩⟩⟩) rfl ?_
  refine xwk [0, 1, 2, 3] rfl rfl ?_
  exact w_X6_cut_77 N _ _ _ _ _ _ h
def F_X6_cut (N : Nat) (s : St) (x1 : Int32) (x2 : Int32) : Option (Int32 × St) := bnd (sI s 0 (nI 0)) fun s1 => (F_X6_in x2 (nI 1) (nI 31)).bind fun v2 => bif mx_cnd .eq v2 0 then (some (-nI 2, s1)) else ((F_X6_in x1 (nI 0) (gI s1 9)).bind fun v4 => bif mx_cnd .ne v4 0 then (bif mx_cnd .ne (gI s1 1) 0 then (bif mx_cnd .ne x1 (gI s1 9) then (F_X6_cut_70 N s1 x1 x2) else ((F_X6_head N s1 ((gI s1 4) + (nI 1))).bind fun s6 => (F_X6_write N s6 (((gI s6 4) + (nI 1)) &&& (nI 1))).bind fun s8 => F_X6_cut_70 N s8 x1 x2)) else (some (-nI 3, s1))) else (some (-nI 2, s1)))
set_option maxRecDepth 100000 in
set_option maxHeartbeats 4000000 in
theorem w_X6_cut {d : St} {rest : mx_W} {N : Nat} {s : St} {x1 : Int32} {x2 : Int32} {r : Int32} {t : St} (h : F_X6_cut N s x1 x2 = some (r, t)) : X 109 (0, [(0, .ref 18), (1, .int x1), (2, .int x2)], [], wd d (wm s rest), 0, 0) (some (.int r), wd d (wm t rest), 0, 0) := by
  unfold F_X6_cut at h
  refine xs tn_X6_cut [(0, .aload_n 0, 1), (1, .iconst 0, 1)] (st' := (2, [(0, .ref 18), (1, .int x1), (2, .int x2)], [.int (nI 0), .ref 18], wd d (wm s rest), 0, 0)) (List.forall_mem_cons.mpr ⟨dX6_cut_0, List.forall_mem_cons.mpr ⟨dX6_cut_1, fun _ h => absurd h List.not_mem_nil⟩⟩) rfl ?_
  refine xput_b0 tn_X6_cut dX6_cut_2 rfl h (fun s1 h => ?_)
  refine xs tn_X6_cut [(5, .iload_n 2, 1), (6, .iconst 1, 1), (7, .bipush 31, 2)] (st' := (9, [(0, .ref 18), (1, .int x1), (2, .int x2)], [.int (nI 31), .int (nI 1), .int x2], wd d (wm s1 rest), 0, 0)) (List.forall_mem_cons.mpr ⟨dX6_cut_5, List.forall_mem_cons.mpr ⟨dX6_cut_6, List.forall_mem_cons.mpr ⟨dX6_cut_7, fun _ h => absurd h List.not_mem_nil⟩⟩⟩) rfl ?_
  obtain ⟨v2, h3, h⟩ := obind h
  refine xcall tn_X6_cut dX6_cut_9 rfl rfl (w_X6_in h3) ?_
  show X 109 (12, [(0, .ref 18), (1, .int x1), (2, .int x2)], [.int v2], wd d (wm s1 rest), 0, 0) _
  refine xifF (t := 27) tn_X6_cut dX6_cut_12 (by decide) h (fun h => ?_) (fun h => ?_)
  · refine xs tn_X6_cut [(27, .bipush (-2), 2)] (st' := (29, [(0, .ref 18), (1, .int x1), (2, .int x2)], [.int (-nI 2)], wd d (wm s1 rest), 0, 0)) (List.forall_mem_cons.mpr ⟨dX6_cut_27, fun _ h => absurd h List.not_mem_nil⟩) rfl ?_
    cases h
    exact xret tn_X6_cut rfl dX6_cut_29
  · refine xs tn_X6_cut [(15, .iload_n 1, 1), (16, .iconst 0, 1), (17, .aload_n 0, 1), (18, .getfield 93, 3)] (st' := (21, [(0, .ref 18), (1, .int x1), (2, .int x2)], [.int (gI s1 9), .int (nI 0), .int x1], wd d (wm s1 rest), 0, 0)) (List.forall_mem_cons.mpr ⟨dX6_cut_15, List.forall_mem_cons.mpr ⟨dX6_cut_16, List.forall_mem_cons.mpr ⟨dX6_cut_17, List.forall_mem_cons.mpr ⟨dX6_cut_18, fun _ h => absurd h List.not_mem_nil⟩⟩⟩⟩) rfl ?_
    obtain ⟨v4, h5, h⟩ := obind h
    refine xcall tn_X6_cut dX6_cut_21 rfl rfl (w_X6_in h5) ?_
    show X 109 (24, [(0, .ref 18), (1, .int x1), (2, .int x2)], [.int v4], wd d (wm s1 rest), 0, 0) _
    refine xifF (t := 30) tn_X6_cut dX6_cut_24 (by decide) h (fun h => ?_) (fun h => ?_)
    · refine xs tn_X6_cut [(30, .aload_n 0, 1), (31, .getfield 17, 3)] (st' := (34, [(0, .ref 18), (1, .int x1), (2, .int x2)], [.int (gI s1 1)], wd d (wm s1 rest), 0, 0)) (List.forall_mem_cons.mpr ⟨dX6_cut_30, List.forall_mem_cons.mpr ⟨dX6_cut_31, fun _ h => absurd h List.not_mem_nil⟩⟩) rfl ?_
      refine xifF (t := 40) tn_X6_cut dX6_cut_34 (by decide) h (fun h => ?_) (fun h => ?_)
      · refine xs tn_X6_cut [(40, .iload_n 1, 1), (41, .aload_n 0, 1), (42, .getfield 93, 3)] (st' := (45, [(0, .ref 18), (1, .int x1), (2, .int x2)], [.int (gI s1 9), .int x1], wd d (wm s1 rest), 0, 0)) (List.forall_mem_cons.mpr ⟨dX6_cut_40, List.forall_mem_cons.mpr ⟨dX6_cut_41, List.forall_mem_cons.mpr ⟨dX6_cut_42, fun _ h => absurd h List.not_mem_nil⟩⟩⟩) rfl ?_
        refine xcmpF (t := 70) tn_X6_cut dX6_cut_45 (by decide) h (fun h => ?_) (fun h => ?_)
        · refine xwk [0, 1, 2] rfl rfl ?_
          exact w_X6_cut_70 h
        · refine xs tn_X6_cut [(48, .aload_n 0, 1), (49, .aload_n 0, 1), (50, .getfield 153, 3), (53, .iconst 1, 1), (54, .iadd, 1)] (st' := (55, [(0, .ref 18), (1, .int x1), (2, .int x2)], [.int ((gI s1 4) + (nI 1)), .ref 18], wd d (wm s1 rest), 0, 0)) (List.forall_mem_cons.mpr ⟨dX6_cut_48, List.forall_mem_cons.mpr ⟨dX6_cut_49, List.forall_mem_cons.mpr ⟨dX6_cut_50, List.forall_mem_cons.mpr ⟨dX6_cut_53, List.forall_mem_cons.mpr ⟨dX6_cut_54, fun _ h => absurd h List.not_mem_nil⟩⟩⟩⟩⟩) rfl ?_
          obtain ⟨s6, h7, h⟩ := obind h
          refine xcall tn_X6_cut dX6_cut_55 rfl rfl (w_X6_head h7) ?_
          show X 109 (58, [(0, .ref 18), (1, .int x1), (2, .int x2)], [], wd d (wm s6 rest), 0, 0) _
          refine xs tn_X6_cut [(58, .aload_n 0, 1), (59, .aload_n 0, 1), (60, .getfield 153, 3), (63, .iconst 1, 1), (64, .iadd, 1), (65, .iconst 1, 1), (66, .iand, 1)] (st' := (67, [(0, .ref 18), (1, .int x1), (2, .int x2)], [.int (((gI s6 4) + (nI 1)) &&& (nI 1)), .ref 18], wd d (wm s6 rest), 0, 0)) (List.forall_mem_cons.mpr ⟨dX6_cut_58, List.forall_mem_cons.mpr ⟨dX6_cut_59, List.forall_mem_cons.mpr ⟨dX6_cut_60, List.forall_mem_cons.mpr ⟨dX6_cut_63, List.forall_mem_cons.mpr ⟨dX6_cut_64, List.forall_mem_cons.mpr ⟨dX6_cut_65, List.forall_mem_cons.mpr ⟨dX6_cut_66, fun _ h => absurd h List.not_mem_nil⟩⟩⟩⟩⟩⟩⟩) rfl ?_
          obtain ⟨s8, h9, h⟩ := obind h
          refine xcall tn_X6_cut dX6_cut_67 rfl rfl (w_X6_write h9) ?_
          show X 109 (70, [(0, .ref 18), (1, .int x1), (2, .int x2)], [], wd d (wm s8 rest), 0, 0) _
          refine xwk [0, 1, 2] rfl rfl ?_
          exact w_X6_cut_70 h
      · refine xs tn_X6_cut [(37, .bipush (-3), 2)] (st' := (39, [(0, .ref 18), (1, .int x1), (2, .int x2)], [.int (-nI 3)], wd d (wm s1 rest), 0, 0)) (List.forall_mem_cons.mpr ⟨dX6_cut_37, fun _ h => absurd h List.not_mem_nil⟩) rfl ?_
        cases h
        exact xret tn_X6_cut rfl dX6_cut_39
    · refine xs tn_X6_cut [(27, .bipush (-2), 2)] (st' := (29, [(0, .ref 18), (1, .int x1), (2, .int x2)], [.int (-nI 2)], wd d (wm s1 rest), 0, 0)) (List.forall_mem_cons.mpr ⟨dX6_cut_27, fun _ h => absurd h List.not_mem_nil⟩) rfl ?_
      cases h
      exact xret tn_X6_cut rfl dX6_cut_29
def F_X6_isHead (N : Nat) (s : St) (x1 : Int32) : Option (Int32) := (F_X6_sortOf N s x1).bind fun v1 => bif mx_cnd .ne v1 (nI 1) then (some (nI 0)) else (ldA (gA s 0) 1920 (((nI 32) * x1) + (nI 8)) fun v3 => (F_X6_in v3 (nI 2) (nI (gN s))).bind fun v4 => bif mx_cnd .eq v4 0 then (some (nI 0)) else (ldA (gA s 0) 1920 (((nI 32) * x1) + (nI 9)) fun v6 => bif mx_cnd .gt v6 (nI 60) then (some (nI 0)) else (some (nI 1))))
set_option maxRecDepth 100000 in
set_option maxHeartbeats 4000000 in
theorem w_X6_isHead {d : St} {rest : mx_W} {N : Nat} {s : St} {x1 : Int32} {r : Int32} (h : F_X6_isHead N s x1 = some r) : X 84 (0, [(0, .ref 18), (1, .int x1)], [], wd d (wm s rest), 0, 0) (some (.int r), wd d (wm s rest), 0, 0) := by
  unfold F_X6_isHead at h
  refine xs tn_X6_isHead [(0, .aload_n 0, 1), (1, .iload_n 1, 1)] (st' := (2, [(0, .ref 18), (1, .int x1)], [.int x1, .ref 18], wd d (wm s rest), 0, 0)) (List.forall_mem_cons.mpr ⟨dX6_isHead_0, List.forall_mem_cons.mpr ⟨dX6_isHead_1, fun _ h => absurd h List.not_mem_nil⟩⟩) rfl ?_
  obtain ⟨v1, h2, h⟩ := obind h
  refine xcall tn_X6_isHead dX6_isHead_2 rfl rfl (w_X6_sortOf h2) ?_
  show X 84 (5, [(0, .ref 18), (1, .int x1)], [.int v1], wd d (wm s rest), 0, 0) _
  refine xs tn_X6_isHead [(5, .iconst 1, 1)] (st' := (6, [(0, .ref 18), (1, .int x1)], [.int (nI 1), .int v1], wd d (wm s rest), 0, 0)) (List.forall_mem_cons.mpr ⟨dX6_isHead_5, fun _ h => absurd h List.not_mem_nil⟩) rfl ?_
  refine xcmpF (t := 53) tn_X6_isHead dX6_isHead_6 (by decide) h (fun h => ?_) (fun h => ?_)
  · refine xs tn_X6_isHead [(53, .iconst 0, 1)] (st' := (54, [(0, .ref 18), (1, .int x1)], [.int (nI 0)], wd d (wm s rest), 0, 0)) (List.forall_mem_cons.mpr ⟨dX6_isHead_53, fun _ h => absurd h List.not_mem_nil⟩) rfl ?_
    cases h
    exact xretz tn_X6_isHead rfl (by decide) dX6_isHead_54
  · refine xs tn_X6_isHead [(9, .aload_n 0, 1), (10, .getfield 7, 3), (13, .bipush 32, 2), (15, .iload_n 1, 1), (16, .imul, 1), (17, .bipush 8, 2), (19, .iadd, 1)] (st' := (20, [(0, .ref 18), (1, .int x1)], [.int (((nI 32) * x1) + (nI 8)), .ref 19], wd d (wm s rest), 0, 0)) (List.forall_mem_cons.mpr ⟨dX6_isHead_9, List.forall_mem_cons.mpr ⟨dX6_isHead_10, List.forall_mem_cons.mpr ⟨dX6_isHead_13, List.forall_mem_cons.mpr ⟨dX6_isHead_15, List.forall_mem_cons.mpr ⟨dX6_isHead_16, List.forall_mem_cons.mpr ⟨dX6_isHead_17, List.forall_mem_cons.mpr ⟨dX6_isHead_19, fun _ h => absurd h List.not_mem_nil⟩⟩⟩⟩⟩⟩⟩) rfl ?_
    refine xldF tn_X6_isHead dX6_isHead_20 at_19 h (fun v3 h => ?_)
    refine xs tn_X6_isHead [(21, .iconst 2, 1), (22, .aload_n 0, 1), (23, .getfield 67, 3)] (st' := (26, [(0, .ref 18), (1, .int x1)], [.int (nI (gN s)), .int (nI 2), .int v3], wd d (wm s rest), 0, 0)) (List.forall_mem_cons.mpr ⟨dX6_isHead_21, List.forall_mem_cons.mpr ⟨dX6_isHead_22, List.forall_mem_cons.mpr ⟨dX6_isHead_23, fun _ h => absurd h List.not_mem_nil⟩⟩⟩) rfl ?_
    obtain ⟨v4, h5, h⟩ := obind h
    refine xcall tn_X6_isHead dX6_isHead_26 rfl rfl (w_X6_in h5) ?_
    show X 84 (29, [(0, .ref 18), (1, .int x1)], [.int v4], wd d (wm s rest), 0, 0) _
    refine xifF (t := 53) tn_X6_isHead dX6_isHead_29 (by decide) h (fun h => ?_) (fun h => ?_)
    · refine xs tn_X6_isHead [(53, .iconst 0, 1)] (st' := (54, [(0, .ref 18), (1, .int x1)], [.int (nI 0)], wd d (wm s rest), 0, 0)) (List.forall_mem_cons.mpr ⟨dX6_isHead_53, fun _ h => absurd h List.not_mem_nil⟩) rfl ?_
      cases h
      exact xretz tn_X6_isHead rfl (by decide) dX6_isHead_54
    · refine xs tn_X6_isHead [(32, .aload_n 0, 1), (33, .getfield 7, 3), (36, .bipush 32, 2), (38, .iload_n 1, 1), (39, .imul, 1), (40, .bipush 9, 2), (42, .iadd, 1)] (st' := (43, [(0, .ref 18), (1, .int x1)], [.int (((nI 32) * x1) + (nI 9)), .ref 19], wd d (wm s rest), 0, 0)) (List.forall_mem_cons.mpr ⟨dX6_isHead_32, List.forall_mem_cons.mpr ⟨dX6_isHead_33, List.forall_mem_cons.mpr ⟨dX6_isHead_36, List.forall_mem_cons.mpr ⟨dX6_isHead_38, List.forall_mem_cons.mpr ⟨dX6_isHead_39, List.forall_mem_cons.mpr ⟨dX6_isHead_40, List.forall_mem_cons.mpr ⟨dX6_isHead_42, fun _ h => absurd h List.not_mem_nil⟩⟩⟩⟩⟩⟩⟩) rfl ?_
      refine xldF tn_X6_isHead dX6_isHead_43 at_19 h (fun v6 h => ?_)
      refine xs tn_X6_isHead [(44, .bipush 60, 2)] (st' := (46, [(0, .ref 18), (1, .int x1)], [.int (nI 60), .int v6], wd d (wm s rest), 0, 0)) (List.forall_mem_cons.mpr ⟨dX6_isHead_44, fun _ h => absurd h List.not_mem_nil⟩) rfl ?_
      refine xcmpF (t := 53) tn_X6_isHead dX6_isHead_46 (by decide) h (fun h => ?_) (fun h => ?_)
      · refine xs tn_X6_isHead [(53, .iconst 0, 1)] (st' := (54, [(0, .ref 18), (1, .int x1)], [.int (nI 0)], wd d (wm s rest), 0, 0)) (List.forall_mem_cons.mpr ⟨dX6_isHead_53, fun _ h => absurd h List.not_mem_nil⟩) rfl ?_
        cases h
        exact xretz tn_X6_isHead rfl (by decide) dX6_isHead_54
      · refine xs tn_X6_isHead [(49, .iconst 1, 1), (50, .goto 4, 3)] (st' := (54, [(0, .ref 18), (1, .int x1)], [.int (nI 1)], wd d (wm s rest), 0, 0)) (List.forall_mem_cons.mpr ⟨dX6_isHead_49, List.forall_mem_cons.mpr ⟨dX6_isHead_50, fun _ h => absurd h List.not_mem_nil⟩⟩) rfl ?_
        cases h
        exact xretz tn_X6_isHead rfl (by decide) dX6_isHead_54
def F_X6_generationAt (s : St) (x1 : Int32) : Option (Int32) := ldA (gA s 0) 1920 (((nI 32) * x1) + (nI 4)) fun v1 => ldA (gA s 0) 1920 ((((nI 32) * x1) + (nI 4)) + (nI 1)) fun v2 => ldA (gA s 0) 1920 ((((nI 32) * x1) + (nI 4)) + (nI 2)) fun v3 => ldA (gA s 0) 1920 ((((nI 32) * x1) + (nI 4)) + (nI 3)) fun v4 => some ((((v1 <<< ((nI 24) &&& 31)) ||| (v2 <<< ((nI 16) &&& 31))) ||| (v3 <<< ((nI 8) &&& 31))) ||| v4)
set_option maxRecDepth 100000 in
set_option maxHeartbeats 4000000 in
theorem w_X6_generationAt {d : St} {rest : mx_W} {s : St} {x1 : Int32} {r : Int32} (h : F_X6_generationAt s x1 = some r) : X 31 (0, [(0, .ref 18), (1, .int x1)], [], wd d (wm s rest), 0, 0) (some (.int r), wd d (wm s rest), 0, 0) := by
  unfold F_X6_generationAt at h
  refine xs tn_X6_generationAt [(0, .bipush 32, 2), (2, .iload_n 1, 1), (3, .imul, 1), (4, .iconst 4, 1), (5, .iadd, 1), (6, .istore_n 2, 1), (7, .aload_n 0, 1), (8, .getfield 7, 3), (11, .iload_n 2, 1)] (st' := (12, [(2, .int (((nI 32) * x1) + (nI 4))), (0, .ref 18), (1, .int x1)], [.int (((nI 32) * x1) + (nI 4)), .ref 19], wd d (wm s rest), 0, 0)) (List.forall_mem_cons.mpr ⟨dX6_generationAt_0, List.forall_mem_cons.mpr ⟨dX6_generationAt_2, List.forall_mem_cons.mpr ⟨dX6_generationAt_3, List.forall_mem_cons.mpr ⟨dX6_generationAt_4, List.forall_mem_cons.mpr ⟨dX6_generationAt_5, List.forall_mem_cons.mpr ⟨dX6_generationAt_6, List.forall_mem_cons.mpr ⟨dX6_generationAt_7, List.forall_mem_cons.mpr ⟨dX6_generationAt_8, List.forall_mem_cons.mpr ⟨dX6_generationAt_11, fun _ h => absurd h List.not_mem_nil⟩⟩⟩⟩⟩⟩⟩⟩⟩) rfl ?_
  refine xldF tn_X6_generationAt dX6_generationAt_12 at_19 h (fun v1 h => ?_)
  refine xs tn_X6_generationAt [(13, .bipush 24, 2), (15, .ishl, 1), (16, .aload_n 0, 1), (17, .getfield 7, 3), (20, .iload_n 2, 1), (21, .iconst 1, 1), (22, .iadd, 1)] (st' := (23, [(2, .int (((nI 32) * x1) + (nI 4))), (0, .ref 18), (1, .int x1)], [.int ((((nI 32) * x1) + (nI 4)) + (nI 1)), .ref 19, .int (v1 <<< ((nI 24) &&& 31))], wd d (wm s rest), 0, 0)) (List.forall_mem_cons.mpr ⟨dX6_generationAt_13, List.forall_mem_cons.mpr ⟨dX6_generationAt_15, List.forall_mem_cons.mpr ⟨dX6_generationAt_16, List.forall_mem_cons.mpr ⟨dX6_generationAt_17, List.forall_mem_cons.mpr ⟨dX6_generationAt_20, List.forall_mem_cons.mpr ⟨dX6_generationAt_21, List.forall_mem_cons.mpr ⟨dX6_generationAt_22, fun _ h => absurd h List.not_mem_nil⟩⟩⟩⟩⟩⟩⟩) rfl ?_
  refine xldF tn_X6_generationAt dX6_generationAt_23 at_19 h (fun v2 h => ?_)
  refine xs tn_X6_generationAt [(24, .bipush 16, 2), (26, .ishl, 1), (27, .ior, 1), (28, .aload_n 0, 1), (29, .getfield 7, 3), (32, .iload_n 2, 1), (33, .iconst 2, 1), (34, .iadd, 1)] (st' := (35, [(2, .int (((nI 32) * x1) + (nI 4))), (0, .ref 18), (1, .int x1)], [.int ((((nI 32) * x1) + (nI 4)) + (nI 2)), .ref 19, .int ((v1 <<< ((nI 24) &&& 31)) ||| (v2 <<< ((nI 16) &&& 31)))], wd d (wm s rest), 0, 0)) (List.forall_mem_cons.mpr ⟨dX6_generationAt_24, List.forall_mem_cons.mpr ⟨dX6_generationAt_26, List.forall_mem_cons.mpr ⟨dX6_generationAt_27, List.forall_mem_cons.mpr ⟨dX6_generationAt_28, List.forall_mem_cons.mpr ⟨dX6_generationAt_29, List.forall_mem_cons.mpr ⟨dX6_generationAt_32, List.forall_mem_cons.mpr ⟨dX6_generationAt_33, List.forall_mem_cons.mpr ⟨dX6_generationAt_34, fun _ h => absurd h List.not_mem_nil⟩⟩⟩⟩⟩⟩⟩⟩) rfl ?_
  refine xldF tn_X6_generationAt dX6_generationAt_35 at_19 h (fun v3 h => ?_)
  refine xs tn_X6_generationAt [(36, .bipush 8, 2), (38, .ishl, 1), (39, .ior, 1), (40, .aload_n 0, 1), (41, .getfield 7, 3), (44, .iload_n 2, 1), (45, .iconst 3, 1), (46, .iadd, 1)] (st' := (47, [(2, .int (((nI 32) * x1) + (nI 4))), (0, .ref 18), (1, .int x1)], [.int ((((nI 32) * x1) + (nI 4)) + (nI 3)), .ref 19, .int (((v1 <<< ((nI 24) &&& 31)) ||| (v2 <<< ((nI 16) &&& 31))) ||| (v3 <<< ((nI 8) &&& 31)))], wd d (wm s rest), 0, 0)) (List.forall_mem_cons.mpr ⟨dX6_generationAt_36, List.forall_mem_cons.mpr ⟨dX6_generationAt_38, List.forall_mem_cons.mpr ⟨dX6_generationAt_39, List.forall_mem_cons.mpr ⟨dX6_generationAt_40, List.forall_mem_cons.mpr ⟨dX6_generationAt_41, List.forall_mem_cons.mpr ⟨dX6_generationAt_44, List.forall_mem_cons.mpr ⟨dX6_generationAt_45, List.forall_mem_cons.mpr ⟨dX6_generationAt_46, fun _ h => absurd h List.not_mem_nil⟩⟩⟩⟩⟩⟩⟩⟩) rfl ?_
  refine xldF tn_X6_generationAt dX6_generationAt_47 at_19 h (fun v4 h => ?_)
  refine xs tn_X6_generationAt [(48, .ior, 1)] (st' := (49, [(2, .int (((nI 32) * x1) + (nI 4))), (0, .ref 18), (1, .int x1)], [.int ((((v1 <<< ((nI 24) &&& 31)) ||| (v2 <<< ((nI 16) &&& 31))) ||| (v3 <<< ((nI 8) &&& 31))) ||| v4)], wd d (wm s rest), 0, 0)) (List.forall_mem_cons.mpr ⟨dX6_generationAt_48, fun _ h => absurd h List.not_mem_nil⟩) rfl ?_
  cases h
  exact xret tn_X6_generationAt rfl dX6_generationAt_49
def F_X6_findUnknown_60 (N : Nat) (K : St → Int32 → Int32 → Int32 → Option (Int32 × St)) : Nat → St → Int32 → Int32 → Int32 → Int32 → Int32 → Option (Int32 × St)
  | 0, _, _, _, _, _, _ => none
  | f + 1, s, x1, x2, x3, x4, x5 => bif mx_cnd .ge x5 (gI s 10) then (bif mx_cnd .ne x5 (gI s 10) then (ldA (gA s 9) 4 x5 fun v1 => stA s 9 4 x5 (v1 ^^^ (nI 1)) fun s2 => ldA (gA s2 10) 4 x5 fun v3 => (F_X6_weight (nI 1) x3).bind fun v4 => stA s2 10 4 x5 (v3 ^^^ v4) fun s6 => K s6 x1 x2 (x3 + (nI 1))) else (stA s 8 4 x5 x4 fun s7 => stA s7 9 4 x5 (nI 0) fun s8 => stA s8 10 4 x5 (nI 0) fun s9 => bnd (sI s9 10 ((gI s9 10) + (nI 1))) fun s10 => ldA (gA s10 9) 4 x5 fun v11 => stA s10 9 4 x5 (v11 ^^^ (nI 1)) fun s12 => ldA (gA s12 10) 4 x5 fun v13 => (F_X6_weight (nI 1) x3).bind fun v14 => stA s12 10 4 x5 (v13 ^^^ v14) fun s16 => K s16 x1 x2 (x3 + (nI 1)))) else (ldA (gA s 8) 4 x5 fun v17 => bif mx_cnd .eq v17 x4 then (bif mx_cnd .ne x5 (gI s 10) then (ldA (gA s 9) 4 x5 fun v18 => stA s 9 4 x5 (v18 ^^^ (nI 1)) fun s19 => ldA (gA s19 10) 4 x5 fun v20 => (F_X6_weight (nI 1) x3).bind fun v21 => stA s19 10 4 x5 (v20 ^^^ v21) fun s23 => K s23 x1 x2 (x3 + (nI 1))) else (stA s 8 4 x5 x4 fun s24 => stA s24 9 4 x5 (nI 0) fun s25 => stA s25 10 4 x5 (nI 0) fun s26 => bnd (sI s26 10 ((gI s26 10) + (nI 1))) fun s27 => ldA (gA s27 9) 4 x5 fun v28 => stA s27 9 4 x5 (v28 ^^^ (nI 1)) fun s29 => ldA (gA s29 10) 4 x5 fun v30 => (F_X6_weight (nI 1) x3).bind fun v31 => stA s29 10 4 x5 (v30 ^^^ v31) fun s33 => K s33 x1 x2 (x3 + (nI 1)))) else (F_X6_findUnknown_60 N K f s x1 x2 x3 x4 (x5 + (nI 1))))
set_option maxRecDepth 100000 in
set_option maxHeartbeats 4000000 in
theorem w_X6_findUnknown_60 {d : St} {rest : mx_W} {N : Nat} {K : St → Int32 → Int32 → Int32 → Option (Int32 × St)} (hK : ∀ (s : St) (x1 : Int32) (x2 : Int32) (x3 : Int32) (r : Int32) (t : St), K s x1 x2 x3 = some (r, t) → X 112 (9, [(0, .ref 18), (1, .int x1), (2, .int x2), (3, .int x3)], [], wd d (wm s rest), 0, 0) (some (.int r), wd d (wm t rest), 0, 0)) : ∀ (f : Nat) (s : St) (x1 : Int32) (x2 : Int32) (x3 : Int32) (x4 : Int32) (x5 : Int32) (r : Int32) (t : St), F_X6_findUnknown_60 N K f s x1 x2 x3 x4 x5 = some (r, t) → X 112 (60, [(0, .ref 18), (1, .int x1), (2, .int x2), (3, .int x3), (4, .int x4), (5, .int x5)], [], wd d (wm s rest), 0, 0) (some (.int r), wd d (wm t rest), 0, 0) := by
  intro f
  induction f with
  | zero => intro s x1 x2 x3 x4 x5 r t h; rw [F_X6_findUnknown_60.eq_1] at h; cases h
  | succ f ih =>
    intro s x1 x2 x3 x4 x5 r t h
    rw [F_X6_findUnknown_60.eq_2] at h
    refine xs tn_X6_findUnknown [(60, .iload 5, 2), (62, .aload_n 0, 1), (63, .getfield 172, 3)] (st' := (66, [(0, .ref 18), (1, .int x1), (2, .int x2), (3, .int x3), (4, .int x4), (5, .int x5)], [.int (gI s 10), .int x5], wd d (wm s rest), 0, 0)) (List.forall_mem_cons.mpr ⟨dX6_findUnknown_60, List.forall_mem_cons.mpr ⟨dX6_findUnknown_62, List.forall_mem_cons.mpr ⟨dX6_findUnknown_63, fun _ h => absurd h List.not_mem_nil⟩⟩⟩) rfl ?_
    refine xcmpF (t := 87) tn_X6_findUnknown dX6_findUnknown_66 (by decide) h (fun h => ?_) (fun h => ?_)
    · refine xs tn_X6_findUnknown [(87, .iload 5, 2), (89, .aload_n 0, 1), (90, .getfield 172, 3)] (st' := (93, [(0, .ref 18), (1, .int x1), (2, .int x2), (3, .int x3), (4, .int x4), (5, .int x5)], [.int (gI s 10), .int x5], wd d (wm s rest), 0, 0)) (List.forall_mem_cons.mpr ⟨dX6_findUnknown_87, List.forall_mem_cons.mpr ⟨dX6_findUnknown_89, List.forall_mem_cons.mpr ⟨dX6_findUnknown_90, fun _ h => absurd h List.not_mem_nil⟩⟩⟩) rfl ?_
      refine xcmpF (t := 131) tn_X6_findUnknown dX6_findUnknown_93 (by decide) h (fun h => ?_) (fun h => ?_)
      · refine xs tn_X6_findUnknown [(131, .aload_n 0, 1), (132, .getfield 49, 3), (135, .iload 5, 2), (137, .aload_n 0, 1), (138, .getfield 49, 3), (141, .iload 5, 2)] (st' := (143, [(0, .ref 18), (1, .int x1), (2, .int x2), (3, .int x3), (4, .int x4), (5, .int x5)], [.int x5, .ref 28, .int x5, .ref 28], wd d (wm s rest), 0, 0)) (List.forall_mem_cons.mpr ⟨dX6_findUnknown_131, List.forall_mem_cons.mpr ⟨dX6_findUnknown_132, List.forall_mem_cons.mpr ⟨dX6_findUnknown_135, List.forall_mem_cons.mpr ⟨dX6_findUnknown_137, List.forall_mem_cons.mpr ⟨dX6_findUnknown_138, List.forall_mem_cons.mpr ⟨dX6_findUnknown_141, fun _ h => absurd h List.not_mem_nil⟩⟩⟩⟩⟩⟩) rfl ?_
        refine xldF tn_X6_findUnknown dX6_findUnknown_143 at_28 h (fun v1 h => ?_)
        refine xs tn_X6_findUnknown [(144, .iconst 1, 1), (145, .ixor, 1)] (st' := (146, [(0, .ref 18), (1, .int x1), (2, .int x2), (3, .int x3), (4, .int x4), (5, .int x5)], [.int (v1 ^^^ (nI 1)), .int x5, .ref 28], wd d (wm s rest), 0, 0)) (List.forall_mem_cons.mpr ⟨dX6_findUnknown_144, List.forall_mem_cons.mpr ⟨dX6_findUnknown_145, fun _ h => absurd h List.not_mem_nil⟩⟩) rfl ?_
        refine xstF (W := fun s => wd d (wm s rest)) tn_X6_findUnknown dX6_findUnknown_146 at_28 (fun _ => set_28) h (fun s2 h => ?_)
        refine xs tn_X6_findUnknown [(147, .aload_n 0, 1), (148, .getfield 52, 3), (151, .iload 5, 2), (153, .aload_n 0, 1), (154, .getfield 52, 3), (157, .iload 5, 2)] (st' := (159, [(0, .ref 18), (1, .int x1), (2, .int x2), (3, .int x3), (4, .int x4), (5, .int x5)], [.int x5, .ref 29, .int x5, .ref 29], wd d (wm s2 rest), 0, 0)) (List.forall_mem_cons.mpr ⟨dX6_findUnknown_147, List.forall_mem_cons.mpr ⟨dX6_findUnknown_148, List.forall_mem_cons.mpr ⟨dX6_findUnknown_151, List.forall_mem_cons.mpr ⟨dX6_findUnknown_153, List.forall_mem_cons.mpr ⟨dX6_findUnknown_154, List.forall_mem_cons.mpr ⟨dX6_findUnknown_157, fun _ h => absurd h List.not_mem_nil⟩⟩⟩⟩⟩⟩) rfl ?_
        refine xldF tn_X6_findUnknown dX6_findUnknown_159 at_29 h (fun v3 h => ?_)
        refine xs tn_X6_findUnknown [(160, .iconst 1, 1), (161, .iload_n 3, 1)] (st' := (162, [(0, .ref 18), (1, .int x1), (2, .int x2), (3, .int x3), (4, .int x4), (5, .int x5)], [.int x3, .int (nI 1), .int v3, .int x5, .ref 29], wd d (wm s2 rest), 0, 0)) (List.forall_mem_cons.mpr ⟨dX6_findUnknown_160, List.forall_mem_cons.mpr ⟨dX6_findUnknown_161, fun _ h => absurd h List.not_mem_nil⟩⟩) rfl ?_
        obtain ⟨v4, h5, h⟩ := obind h
        refine xcall tn_X6_findUnknown dX6_findUnknown_162 rfl rfl (w_X6_weight h5) ?_
        show X 112 (165, [(0, .ref 18), (1, .int x1), (2, .int x2), (3, .int x3), (4, .int x4), (5, .int x5)], [.int v4, .int v3, .int x5, .ref 29], wd d (wm s2 rest), 0, 0) _
        refine xs tn_X6_findUnknown [(165, .ixor, 1)] (st' := (166, [(0, .ref 18), (1, .int x1), (2, .int x2), (3, .int x3), (4, .int x4), (5, .int x5)], [.int (v3 ^^^ v4), .int x5, .ref 29], wd d (wm s2 rest), 0, 0)) (List.forall_mem_cons.mpr ⟨dX6_findUnknown_165, fun _ h => absurd h List.not_mem_nil⟩) rfl ?_
        refine xstF (W := fun s => wd d (wm s rest)) tn_X6_findUnknown dX6_findUnknown_166 at_29 (fun _ => set_29) h (fun s6 h => ?_)
        refine xs tn_X6_findUnknown [(167, .iinc 3 1, 3), (170, .goto (-161), 3)] (st' := (9, [(0, .ref 18), (1, .int x1), (2, .int x2), (3, .int (x3 + (nI 1))), (4, .int x4), (5, .int x5)], [], wd d (wm s6 rest), 0, 0)) (List.forall_mem_cons.mpr ⟨dX6_findUnknown_167, List.forall_mem_cons.mpr ⟨dX6_findUnknown_170, fun _ h => absurd h List.not_mem_nil⟩⟩) rfl ?_
        refine xwk [0, 1, 2, 3] rfl rfl ?_
        exact hK _ _ _ _ _ _ h
      · refine xs tn_X6_findUnknown [(96, .aload_n 0, 1), (97, .getfield 46, 3), (100, .iload 5, 2), (102, .iload 4, 2)] (st' := (104, [(0, .ref 18), (1, .int x1), (2, .int x2), (3, .int x3), (4, .int x4), (5, .int x5)], [.int x4, .int x5, .ref 27], wd d (wm s rest), 0, 0)) (List.forall_mem_cons.mpr ⟨dX6_findUnknown_96, List.forall_mem_cons.mpr ⟨dX6_findUnknown_97, List.forall_mem_cons.mpr ⟨dX6_findUnknown_100, List.forall_mem_cons.mpr ⟨dX6_findUnknown_102, fun _ h => absurd h List.not_mem_nil⟩⟩⟩⟩) rfl ?_
        refine xstF (W := fun s => wd d (wm s rest)) tn_X6_findUnknown dX6_findUnknown_104 at_27 (fun _ => set_27) h (fun s7 h => ?_)
        refine xs tn_X6_findUnknown [(105, .aload_n 0, 1), (106, .getfield 49, 3), (109, .iload 5, 2), (111, .iconst 0, 1)] (st' := (112, [(0, .ref 18), (1, .int x1), (2, .int x2), (3, .int x3), (4, .int x4), (5, .int x5)], [.int (nI 0), .int x5, .ref 28], wd d (wm s7 rest), 0, 0)) (List.forall_mem_cons.mpr ⟨dX6_findUnknown_105, List.forall_mem_cons.mpr ⟨dX6_findUnknown_106, List.forall_mem_cons.mpr ⟨dX6_findUnknown_109, List.forall_mem_cons.mpr ⟨dX6_findUnknown_111, fun _ h => absurd h List.not_mem_nil⟩⟩⟩⟩) rfl ?_
        refine xstF (W := fun s => wd d (wm s rest)) tn_X6_findUnknown dX6_findUnknown_112 at_28 (fun _ => set_28) h (fun s8 h => ?_)
        refine xs tn_X6_findUnknown [(113, .aload_n 0, 1), (114, .getfield 52, 3), (117, .iload 5, 2), (119, .iconst 0, 1)] (st' := (120, [(0, .ref 18), (1, .int x1), (2, .int x2), (3, .int x3), (4, .int x4), (5, .int x5)], [.int (nI 0), .int x5, .ref 29], wd d (wm s8 rest), 0, 0)) (List.forall_mem_cons.mpr ⟨dX6_findUnknown_113, List.forall_mem_cons.mpr ⟨dX6_findUnknown_114, List.forall_mem_cons.mpr ⟨dX6_findUnknown_117, List.forall_mem_cons.mpr ⟨dX6_findUnknown_119, fun _ h => absurd h List.not_mem_nil⟩⟩⟩⟩) rfl ?_
        refine xstF (W := fun s => wd d (wm s rest)) tn_X6_findUnknown dX6_findUnknown_120 at_29 (fun _ => set_29) h (fun s9 h => ?_)
        refine xs tn_X6_findUnknown [(121, .aload_n 0, 1), (122, .dup, 1), (123, .getfield 172, 3), (126, .iconst 1, 1), (127, .iadd, 1)] (st' := (128, [(0, .ref 18), (1, .int x1), (2, .int x2), (3, .int x3), (4, .int x4), (5, .int x5)], [.int ((gI s9 10) + (nI 1)), .ref 18], wd d (wm s9 rest), 0, 0)) (List.forall_mem_cons.mpr ⟨dX6_findUnknown_121, List.forall_mem_cons.mpr ⟨dX6_findUnknown_122, List.forall_mem_cons.mpr ⟨dX6_findUnknown_123, List.forall_mem_cons.mpr ⟨dX6_findUnknown_126, List.forall_mem_cons.mpr ⟨dX6_findUnknown_127, fun _ h => absurd h List.not_mem_nil⟩⟩⟩⟩⟩) rfl ?_
        refine xput_b10 tn_X6_findUnknown dX6_findUnknown_128 rfl h (fun s10 h => ?_)
        refine xs tn_X6_findUnknown [(131, .aload_n 0, 1), (132, .getfield 49, 3), (135, .iload 5, 2), (137, .aload_n 0, 1), (138, .getfield 49, 3), (141, .iload 5, 2)] (st' := (143, [(0, .ref 18), (1, .int x1), (2, .int x2), (3, .int x3), (4, .int x4), (5, .int x5)], [.int x5, .ref 28, .int x5, .ref 28], wd d (wm s10 rest), 0, 0)) (List.forall_mem_cons.mpr ⟨dX6_findUnknown_131, List.forall_mem_cons.mpr ⟨dX6_findUnknown_132, List.forall_mem_cons.mpr ⟨dX6_findUnknown_135, List.forall_mem_cons.mpr ⟨dX6_findUnknown_137, List.forall_mem_cons.mpr ⟨dX6_findUnknown_138, List.forall_mem_cons.mpr ⟨dX6_findUnknown_141, fun _ h => absurd h List.not_mem_nil⟩⟩⟩⟩⟩⟩) rfl ?_
        refine xldF tn_X6_findUnknown dX6_findUnknown_143 at_28 h (fun v11 h => ?_)
        refine xs tn_X6_findUnknown [(144, .iconst 1, 1), (145, .ixor, 1)] (st' := (146, [(0, .ref 18), (1, .int x1), (2, .int x2), (3, .int x3), (4, .int x4), (5, .int x5)], [.int (v11 ^^^ (nI 1)), .int x5, .ref 28], wd d (wm s10 rest), 0, 0)) (List.forall_mem_cons.mpr ⟨dX6_findUnknown_144, List.forall_mem_cons.mpr ⟨dX6_findUnknown_145, fun _ h => absurd h List.not_mem_nil⟩⟩) rfl ?_
        refine xstF (W := fun s => wd d (wm s rest)) tn_X6_findUnknown dX6_findUnknown_146 at_28 (fun _ => set_28) h (fun s12 h => ?_)
        refine xs tn_X6_findUnknown [(147, .aload_n 0, 1), (148, .getfield 52, 3), (151, .iload 5, 2), (153, .aload_n 0, 1), (154, .getfield 52, 3), (157, .iload 5, 2)] (st' := (159, [(0, .ref 18), (1, .int x1), (2, .int x2), (3, .int x3), (4, .int x4), (5, .int x5)], [.int x5, .ref 29, .int x5, .ref 29], wd d (wm s12 rest), 0, 0)) (List.forall_mem_cons.mpr ⟨dX6_findUnknown_147, List.forall_mem_cons.mpr ⟨dX6_findUnknown_148, List.forall_mem_cons.mpr ⟨dX6_findUnknown_151, List.forall_mem_cons.mpr ⟨dX6_findUnknown_153, List.forall_mem_cons.mpr ⟨dX6_findUnknown_154, List.forall_mem_cons.mpr ⟨dX6_findUnknown_157, fun _ h => absurd h List.not_mem_nil⟩⟩⟩⟩⟩⟩) rfl ?_
        refine xldF tn_X6_findUnknown dX6_findUnknown_159 at_29 h (fun v13 h => ?_)
        refine xs tn_X6_findUnknown [(160, .iconst 1, 1), (161, .iload_n 3, 1)] (st' := (162, [(0, .ref 18), (1, .int x1), (2, .int x2), (3, .int x3), (4, .int x4), (5, .int x5)], [.int x3, .int (nI 1), .int v13, .int x5, .ref 29], wd d (wm s12 rest), 0, 0)) (List.forall_mem_cons.mpr ⟨dX6_findUnknown_160, List.forall_mem_cons.mpr ⟨dX6_findUnknown_161, fun _ h => absurd h List.not_mem_nil⟩⟩) rfl ?_
        obtain ⟨v14, h15, h⟩ := obind h
        refine xcall tn_X6_findUnknown dX6_findUnknown_162 rfl rfl (w_X6_weight h15) ?_
        show X 112 (165, [(0, .ref 18), (1, .int x1), (2, .int x2), (3, .int x3), (4, .int x4), (5, .int x5)], [.int v14, .int v13, .int x5, .ref 29], wd d (wm s12 rest), 0, 0) _
        refine xs tn_X6_findUnknown [(165, .ixor, 1)] (st' := (166, [(0, .ref 18), (1, .int x1), (2, .int x2), (3, .int x3), (4, .int x4), (5, .int x5)], [.int (v13 ^^^ v14), .int x5, .ref 29], wd d (wm s12 rest), 0, 0)) (List.forall_mem_cons.mpr ⟨dX6_findUnknown_165, fun _ h => absurd h List.not_mem_nil⟩) rfl ?_
        refine xstF (W := fun s => wd d (wm s rest)) tn_X6_findUnknown dX6_findUnknown_166 at_29 (fun _ => set_29) h (fun s16 h => ?_)
        refine xs tn_X6_findUnknown [(167, .iinc 3 1, 3), (170, .goto (-161), 3)] (st' := (9, [(0, .ref 18), (1, .int x1), (2, .int x2), (3, .int (x3 + (nI 1))), (4, .int x4), (5, .int x5)], [], wd d (wm s16 rest), 0, 0)) (List.forall_mem_cons.mpr ⟨dX6_findUnknown_167, List.forall_mem_cons.mpr ⟨dX6_findUnknown_170, fun _ h => absurd h List.not_mem_nil⟩⟩) rfl ?_
        refine xwk [0, 1, 2, 3] rfl rfl ?_
        exact hK _ _ _ _ _ _ h
    · refine xs tn_X6_findUnknown [(69, .aload_n 0, 1), (70, .getfield 46, 3), (73, .iload 5, 2)] (st' := (75, [(0, .ref 18), (1, .int x1), (2, .int x2), (3, .int x3), (4, .int x4), (5, .int x5)], [.int x5, .ref 27], wd d (wm s rest), 0, 0)) (List.forall_mem_cons.mpr ⟨dX6_findUnknown_69, List.forall_mem_cons.mpr ⟨dX6_findUnknown_70, List.forall_mem_cons.mpr ⟨dX6_findUnknown_73, fun _ h => absurd h List.not_mem_nil⟩⟩⟩) rfl ?_
      refine xldF tn_X6_findUnknown dX6_findUnknown_75 at_27 h (fun v17 h => ?_)
      refine xs tn_X6_findUnknown [(76, .iload 4, 2)] (st' := (78, [(0, .ref 18), (1, .int x1), (2, .int x2), (3, .int x3), (4, .int x4), (5, .int x5)], [.int x4, .int v17], wd d (wm s rest), 0, 0)) (List.forall_mem_cons.mpr ⟨dX6_findUnknown_76, fun _ h => absurd h List.not_mem_nil⟩) rfl ?_
      refine xcmpF (t := 87) tn_X6_findUnknown dX6_findUnknown_78 (by decide) h (fun h => ?_) (fun h => ?_)
      · refine xs tn_X6_findUnknown [(87, .iload 5, 2), (89, .aload_n 0, 1), (90, .getfield 172, 3)] (st' := (93, [(0, .ref 18), (1, .int x1), (2, .int x2), (3, .int x3), (4, .int x4), (5, .int x5)], [.int (gI s 10), .int x5], wd d (wm s rest), 0, 0)) (List.forall_mem_cons.mpr ⟨dX6_findUnknown_87, List.forall_mem_cons.mpr ⟨dX6_findUnknown_89, List.forall_mem_cons.mpr ⟨dX6_findUnknown_90, fun _ h => absurd h List.not_mem_nil⟩⟩⟩) rfl ?_
        refine xcmpF (t := 131) tn_X6_findUnknown dX6_findUnknown_93 (by decide) h (fun h => ?_) (fun h => ?_)
        · refine xs tn_X6_findUnknown [(131, .aload_n 0, 1), (132, .getfield 49, 3), (135, .iload 5, 2), (137, .aload_n 0, 1), (138, .getfield 49, 3), (141, .iload 5, 2)] (st' := (143, [(0, .ref 18), (1, .int x1), (2, .int x2), (3, .int x3), (4, .int x4), (5, .int x5)], [.int x5, .ref 28, .int x5, .ref 28], wd d (wm s rest), 0, 0)) (List.forall_mem_cons.mpr ⟨dX6_findUnknown_131, List.forall_mem_cons.mpr ⟨dX6_findUnknown_132, List.forall_mem_cons.mpr ⟨dX6_findUnknown_135, List.forall_mem_cons.mpr ⟨dX6_findUnknown_137, List.forall_mem_cons.mpr ⟨dX6_findUnknown_138, List.forall_mem_cons.mpr ⟨dX6_findUnknown_141, fun _ h => absurd h List.not_mem_nil⟩⟩⟩⟩⟩⟩) rfl ?_
          refine xldF tn_X6_findUnknown dX6_findUnknown_143 at_28 h (fun v18 h => ?_)
          refine xs tn_X6_findUnknown [(144, .iconst 1, 1), (145, .ixor, 1)] (st' := (146, [(0, .ref 18), (1, .int x1), (2, .int x2), (3, .int x3), (4, .int x4), (5, .int x5)], [.int (v18 ^^^ (nI 1)), .int x5, .ref 28], wd d (wm s rest), 0, 0)) (List.forall_mem_cons.mpr ⟨dX6_findUnknown_144, List.forall_mem_cons.mpr ⟨dX6_findUnknown_145, fun _ h => absurd h List.not_mem_nil⟩⟩) rfl ?_
          refine xstF (W := fun s => wd d (wm s rest)) tn_X6_findUnknown dX6_findUnknown_146 at_28 (fun _ => set_28) h (fun s19 h => ?_)
          refine xs tn_X6_findUnknown [(147, .aload_n 0, 1), (148, .getfield 52, 3), (151, .iload 5, 2), (153, .aload_n 0, 1), (154, .getfield 52, 3), (157, .iload 5, 2)] (st' := (159, [(0, .ref 18), (1, .int x1), (2, .int x2), (3, .int x3), (4, .int x4), (5, .int x5)], [.int x5, .ref 29, .int x5, .ref 29], wd d (wm s19 rest), 0, 0)) (List.forall_mem_cons.mpr ⟨dX6_findUnknown_147, List.forall_mem_cons.mpr ⟨dX6_findUnknown_148, List.forall_mem_cons.mpr ⟨dX6_findUnknown_151, List.forall_mem_cons.mpr ⟨dX6_findUnknown_153, List.forall_mem_cons.mpr ⟨dX6_findUnknown_154, List.forall_mem_cons.mpr ⟨dX6_findUnknown_157, fun _ h => absurd h List.not_mem_nil⟩⟩⟩⟩⟩⟩) rfl ?_
          refine xldF tn_X6_findUnknown dX6_findUnknown_159 at_29 h (fun v20 h => ?_)
          refine xs tn_X6_findUnknown [(160, .iconst 1, 1), (161, .iload_n 3, 1)] (st' := (162, [(0, .ref 18), (1, .int x1), (2, .int x2), (3, .int x3), (4, .int x4), (5, .int x5)], [.int x3, .int (nI 1), .int v20, .int x5, .ref 29], wd d (wm s19 rest), 0, 0)) (List.forall_mem_cons.mpr ⟨dX6_findUnknown_160, List.forall_mem_cons.mpr ⟨dX6_findUnknown_161, fun _ h => absurd h List.not_mem_nil⟩⟩) rfl ?_
          obtain ⟨v21, h22, h⟩ := obind h
          refine xcall tn_X6_findUnknown dX6_findUnknown_162 rfl rfl (w_X6_weight h22) ?_
          show X 112 (165, [(0, .ref 18), (1, .int x1), (2, .int x2), (3, .int x3), (4, .int x4), (5, .int x5)], [.int v21, .int v20, .int x5, .ref 29], wd d (wm s19 rest), 0, 0) _
          refine xs tn_X6_findUnknown [(165, .ixor, 1)] (st' := (166, [(0, .ref 18), (1, .int x1), (2, .int x2), (3, .int x3), (4, .int x4), (5, .int x5)], [.int (v20 ^^^ v21), .int x5, .ref 29], wd d (wm s19 rest), 0, 0)) (List.forall_mem_cons.mpr ⟨dX6_findUnknown_165, fun _ h => absurd h List.not_mem_nil⟩) rfl ?_
          refine xstF (W := fun s => wd d (wm s rest)) tn_X6_findUnknown dX6_findUnknown_166 at_29 (fun _ => set_29) h (fun s23 h => ?_)
          refine xs tn_X6_findUnknown [(167, .iinc 3 1, 3), (170, .goto (-161), 3)] (st' := (9, [(0, .ref 18), (1, .int x1), (2, .int x2), (3, .int (x3 + (nI 1))), (4, .int x4), (5, .int x5)], [], wd d (wm s23 rest), 0, 0)) (List.forall_mem_cons.mpr ⟨dX6_findUnknown_167, List.forall_mem_cons.mpr ⟨dX6_findUnknown_170, fun _ h => absurd h List.not_mem_nil⟩⟩) rfl ?_
          refine xwk [0, 1, 2, 3] rfl rfl ?_
          exact hK _ _ _ _ _ _ h
        · refine xs tn_X6_findUnknown [(96, .aload_n 0, 1), (97, .getfield 46, 3), (100, .iload 5, 2), (102, .iload 4, 2)] (st' := (104, [(0, .ref 18), (1, .int x1), (2, .int x2), (3, .int x3), (4, .int x4), (5, .int x5)], [.int x4, .int x5, .ref 27], wd d (wm s rest), 0, 0)) (List.forall_mem_cons.mpr ⟨dX6_findUnknown_96, List.forall_mem_cons.mpr ⟨dX6_findUnknown_97, List.forall_mem_cons.mpr ⟨dX6_findUnknown_100, List.forall_mem_cons.mpr ⟨dX6_findUnknown_102, fun _ h => absurd h List.not_mem_nil⟩⟩⟩⟩) rfl ?_
          refine xstF (W := fun s => wd d (wm s rest)) tn_X6_findUnknown dX6_findUnknown_104 at_27 (fun _ => set_27) h (fun s24 h => ?_)
          refine xs tn_X6_findUnknown [(105, .aload_n 0, 1), (106, .getfield 49, 3), (109, .iload 5, 2), (111, .iconst 0, 1)] (st' := (112, [(0, .ref 18), (1, .int x1), (2, .int x2), (3, .int x3), (4, .int x4), (5, .int x5)], [.int (nI 0), .int x5, .ref 28], wd d (wm s24 rest), 0, 0)) (List.forall_mem_cons.mpr ⟨dX6_findUnknown_105, List.forall_mem_cons.mpr ⟨dX6_findUnknown_106, List.forall_mem_cons.mpr ⟨dX6_findUnknown_109, List.forall_mem_cons.mpr ⟨dX6_findUnknown_111, fun _ h => absurd h List.not_mem_nil⟩⟩⟩⟩) rfl ?_
          refine xstF (W := fun s => wd d (wm s rest)) tn_X6_findUnknown dX6_findUnknown_112 at_28 (fun _ => set_28) h (fun s25 h => ?_)
          refine xs tn_X6_findUnknown [(113, .aload_n 0, 1), (114, .getfield 52, 3), (117, .iload 5, 2), (119, .iconst 0, 1)] (st' := (120, [(0, .ref 18), (1, .int x1), (2, .int x2), (3, .int x3), (4, .int x4), (5, .int x5)], [.int (nI 0), .int x5, .ref 29], wd d (wm s25 rest), 0, 0)) (List.forall_mem_cons.mpr ⟨dX6_findUnknown_113, List.forall_mem_cons.mpr ⟨dX6_findUnknown_114, List.forall_mem_cons.mpr ⟨dX6_findUnknown_117, List.forall_mem_cons.mpr ⟨dX6_findUnknown_119, fun _ h => absurd h List.not_mem_nil⟩⟩⟩⟩) rfl ?_
          refine xstF (W := fun s => wd d (wm s rest)) tn_X6_findUnknown dX6_findUnknown_120 at_29 (fun _ => set_29) h (fun s26 h => ?_)
          refine xs tn_X6_findUnknown [(121, .aload_n 0, 1), (122, .dup, 1), (123, .getfield 172, 3), (126, .iconst 1, 1), (127, .iadd, 1)] (st' := (128, [(0, .ref 18), (1, .int x1), (2, .int x2), (3, .int x3), (4, .int x4), (5, .int x5)], [.int ((gI s26 10) + (nI 1)), .ref 18], wd d (wm s26 rest), 0, 0)) (List.forall_mem_cons.mpr ⟨dX6_findUnknown_121, List.forall_mem_cons.mpr ⟨dX6_findUnknown_122, List.forall_mem_cons.mpr ⟨dX6_findUnknown_123, List.forall_mem_cons.mpr ⟨dX6_findUnknown_126, List.forall_mem_cons.mpr ⟨dX6_findUnknown_127, fun _ h => absurd h List.not_mem_nil⟩⟩⟩⟩⟩) rfl ?_
          refine xput_b10 tn_X6_findUnknown dX6_findUnknown_128 rfl h (fun s27 h => ?_)
          refine xs tn_X6_findUnknown [(131, .aload_n 0, 1), (132, .getfield 49, 3), (135, .iload 5, 2), (137, .aload_n 0, 1), (138, .getfield 49, 3), (141, .iload 5, 2)] (st' := (143, [(0, .ref 18), (1, .int x1), (2, .int x2), (3, .int x3), (4, .int x4), (5, .int x5)], [.int x5, .ref 28, .int x5, .ref 28], wd d (wm s27 rest), 0, 0)) (List.forall_mem_cons.mpr ⟨dX6_findUnknown_131, List.forall_mem_cons.mpr ⟨dX6_findUnknown_132, List.forall_mem_cons.mpr ⟨dX6_findUnknown_135, List.forall_mem_cons.mpr ⟨dX6_findUnknown_137, List.forall_mem_cons.mpr ⟨dX6_findUnknown_138, List.forall_mem_cons.mpr ⟨dX6_findUnknown_141, fun _ h => absurd h List.not_mem_nil⟩⟩⟩⟩⟩⟩) rfl ?_
          refine xldF tn_X6_findUnknown dX6_findUnknown_143 at_28 h (fun v28 h => ?_)
          refine xs tn_X6_findUnknown [(144, .iconst 1, 1), (145, .ixor, 1)] (st' := (146, [(0, .ref 18), (1, .int x1), (2, .int x2), (3, .int x3), (4, .int x4), (5, .int x5)], [.int (v28 ^^^ (nI 1)), .int x5, .ref 28], wd d (wm s27 rest), 0, 0)) (List.forall_mem_cons.mpr ⟨dX6_findUnknown_144, List.forall_mem_cons.mpr ⟨dX6_findUnknown_145, fun _ h => absurd h List.not_mem_nil⟩⟩) rfl ?_
          refine xstF (W := fun s => wd d (wm s rest)) tn_X6_findUnknown dX6_findUnknown_146 at_28 (fun _ => set_28) h (fun s29 h => ?_)
          refine xs tn_X6_findUnknown [(147, .aload_n 0, 1), (148, .getfield 52, 3), (151, .iload 5, 2), (153, .aload_n 0, 1), (154, .getfield 52, 3), (157, .iload 5, 2)] (st' := (159, [(0, .ref 18), (1, .int x1), (2, .int x2), (3, .int x3), (4, .int x4), (5, .int x5)], [.int x5, .ref 29, .int x5, .ref 29], wd d (wm s29 rest), 0, 0)) (List.forall_mem_cons.mpr ⟨dX6_findUnknown_147, List.forall_mem_cons.mpr ⟨dX6_findUnknown_148, List.forall_mem_cons.mpr ⟨dX6_findUnknown_151, List.forall_mem_cons.mpr ⟨dX6_findUnknown_153, List.forall_mem_cons.mpr ⟨dX6_findUnknown_154, List.forall_mem_cons.mpr ⟨dX6_findUnknown_157, fun _ h => absurd h List.not_mem_nil⟩⟩⟩⟩⟩⟩) rfl ?_
          refine xldF tn_X6_findUnknown dX6_findUnknown_159 at_29 h (fun v30 h => ?_)
          refine xs tn_X6_findUnknown [(160, .iconst 1, 1), (161, .iload_n 3, 1)] (st' := (162, [(0, .ref 18), (1, .int x1), (2, .int x2), (3, .int x3), (4, .int x4), (5, .int x5)], [.int x3, .int (nI 1), .int v30, .int x5, .ref 29], wd d (wm s29 rest), 0, 0)) (List.forall_mem_cons.mpr ⟨dX6_findUnknown_160, List.forall_mem_cons.mpr ⟨dX6_findUnknown_161, fun _ h => absurd h List.not_mem_nil⟩⟩) rfl ?_
          obtain ⟨v31, h32, h⟩ := obind h
          refine xcall tn_X6_findUnknown dX6_findUnknown_162 rfl rfl (w_X6_weight h32) ?_
          show X 112 (165, [(0, .ref 18), (1, .int x1), (2, .int x2), (3, .int x3), (4, .int x4), (5, .int x5)], [.int v31, .int v30, .int x5, .ref 29], wd d (wm s29 rest), 0, 0) _
          refine xs tn_X6_findUnknown [(165, .ixor, 1)] (st' := (166, [(0, .ref 18), (1, .int x1), (2, .int x2), (3, .int x3), (4, .int x4), (5, .int x5)], [.int (v30 ^^^ v31), .int x5, .ref 29], wd d (wm s29 rest), 0, 0)) (List.forall_mem_cons.mpr ⟨dX6_findUnknown_165, fun _ h => absurd h List.not_mem_nil⟩) rfl ?_
          refine xstF (W := fun s => wd d (wm s rest)) tn_X6_findUnknown dX6_findUnknown_166 at_29 (fun _ => set_29) h (fun s33 h => ?_)
          refine xs tn_X6_findUnknown [(167, .iinc 3 1, 3), (170, .goto (-161), 3)] (st' := (9, [(0, .ref 18), (1, .int x1), (2, .int x2), (3, .int (x3 + (nI 1))), (4, .int x4), (5, .int x5)], [], wd d (wm s33 rest), 0, 0)) (List.forall_mem_cons.mpr ⟨dX6_findUnknown_167, List.forall_mem_cons.mpr ⟨dX6_findUnknown_170, fun _ h => absurd h List.not_mem_nil⟩⟩) rfl ?_
          refine xwk [0, 1, 2, 3] rfl rfl ?_
          exact hK _ _ _ _ _ _ h
      · refine xs tn_X6_findUnknown [(81, .iinc 5 1, 3), (84, .goto (-24), 3)] (st' := (60, [(0, .ref 18), (1, .int x1), (2, .int x2), (3, .int x3), (4, .int x4), (5, .int (x5 + (nI 1)))], [], wd d (wm s rest), 0, 0)) (List.forall_mem_cons.mpr ⟨dX6_findUnknown_81, List.forall_mem_cons.mpr ⟨dX6_findUnknown_84, fun _ h => absurd h List.not_mem_nil⟩⟩) rfl ?_
        refine xwk [0, 1, 2, 3, 4, 5] rfl rfl ?_
        exact ih _ _ _ _ _ _ _ _ h
def F_X6_findUnknown_9 (N : Nat) : Nat → St → Int32 → Int32 → Int32 → Option (Int32 × St)
  | 0, _, _, _, _ => none
  | f + 1, s, x1, x2, x3 => (F_X6_blocksAt s x1).bind fun v1 => bif mx_cnd .ge x3 v1 then (rz x2 (some (x2, s))) else ((F_X6_blockAt s x1 x3).bind fun v3 => (F_X6_isBlock N s v3).bind fun v5 => bif mx_cnd .eq v5 0 then (bif mx_cnd .eq x2 0 then (F_X6_findUnknown_60 N (F_X6_findUnknown_9 N f) N s x1 (nI 0) x3 v3 (nI 0)) else ((F_X6_isInLog s v3).bind fun v7 => bif mx_cnd .eq v7 0 then (F_X6_findUnknown_60 N (F_X6_findUnknown_9 N f) N s x1 (nI 0) x3 v3 (nI 0)) else (F_X6_findUnknown_60 N (F_X6_findUnknown_9 N f) N s x1 (nI 1) x3 v3 (nI 0)))) else (F_X6_findUnknown_9 N f s x1 x2 (x3 + (nI 1))))
set_option maxRecDepth 100000 in
set_option maxHeartbeats 4000000 in
theorem w_X6_findUnknown_9 {d : St} {rest : mx_W} {N : Nat} : ∀ (f : Nat) (s : St) (x1 : Int32) (x2 : Int32) (x3 : Int32) (r : Int32) (t : St), F_X6_findUnknown_9 N f s x1 x2 x3 = some (r, t) → X 112 (9, [(0, .ref 18), (1, .int x1), (2, .int x2), (3, .int x3)], [], wd d (wm s rest), 0, 0) (some (.int r), wd d (wm t rest), 0, 0) := by
  intro f
  induction f with
  | zero => intro s x1 x2 x3 r t h; rw [F_X6_findUnknown_9.eq_1] at h; cases h
  | succ f ih =>
    intro s x1 x2 x3 r t h
    rw [F_X6_findUnknown_9.eq_2] at h
    refine xs tn_X6_findUnknown [(9, .iload_n 3, 1), (10, .aload_n 0, 1), (11, .iload_n 1, 1)] (st' := (12, [(0, .ref 18), (1, .int x1), (2, .int x2), (3, .int x3)], [.int x1, .ref 18, .int x3], wd d (wm s rest), 0, 0)) (List.forall_mem_cons.mpr ⟨dX6_findUnknown_9, List.forall_mem_cons.mpr ⟨dX6_findUnknown_10, List.forall_mem_cons.mpr ⟨dX6_findUnknown_11, fun _ h => absurd h List.not_mem_nil⟩⟩⟩) rfl ?_
    obtain ⟨v1, h2, h⟩ := obind h
    refine xcall tn_X6_findUnknown dX6_findUnknown_12 rfl rfl (w_X6_blocksAt h2) ?_
    show X 112 (15, [(0, .ref 18), (1, .int x1), (2, .int x2), (3, .int x3)], [.int v1, .int x3], wd d (wm s rest), 0, 0) _
    refine xcmpF (t := 173) tn_X6_findUnknown dX6_findUnknown_15 (by decide) h (fun h => ?_) (fun h => ?_)
    · refine xs tn_X6_findUnknown [(173, .iload_n 2, 1)] (st' := (174, [(0, .ref 18), (1, .int x1), (2, .int x2), (3, .int x3)], [.int x2], wd d (wm s rest), 0, 0)) (List.forall_mem_cons.mpr ⟨dX6_findUnknown_173, fun _ h => absurd h List.not_mem_nil⟩) rfl ?_
      obtain ⟨hz, h⟩ := orz h
      cases h
      exact xretz tn_X6_findUnknown rfl hz dX6_findUnknown_174
    · refine xs tn_X6_findUnknown [(18, .aload_n 0, 1), (19, .iload_n 1, 1), (20, .iload_n 3, 1)] (st' := (21, [(0, .ref 18), (1, .int x1), (2, .int x2), (3, .int x3)], [.int x3, .int x1, .ref 18], wd d (wm s rest), 0, 0)) (List.forall_mem_cons.mpr ⟨dX6_findUnknown_18, List.forall_mem_cons.mpr ⟨dX6_findUnknown_19, List.forall_mem_cons.mpr ⟨dX6_findUnknown_20, fun _ h => absurd h List.not_mem_nil⟩⟩⟩) rfl ?_
      obtain ⟨v3, h4, h⟩ := obind h
      refine xcall tn_X6_findUnknown dX6_findUnknown_21 rfl rfl (w_X6_blockAt h4) ?_
      show X 112 (24, [(0, .ref 18), (1, .int x1), (2, .int x2), (3, .int x3)], [.int v3], wd d (wm s rest), 0, 0) _
      refine xs tn_X6_findUnknown [(24, .istore 4, 2), (26, .aload_n 0, 1), (27, .iload 4, 2)] (st' := (29, [(4, .int v3), (0, .ref 18), (1, .int x1), (2, .int x2), (3, .int x3)], [.int v3, .ref 18], wd d (wm s rest), 0, 0)) (List.forall_mem_cons.mpr ⟨dX6_findUnknown_24, List.forall_mem_cons.mpr ⟨dX6_findUnknown_26, List.forall_mem_cons.mpr ⟨dX6_findUnknown_27, fun _ h => absurd h List.not_mem_nil⟩⟩⟩) rfl ?_
      obtain ⟨v5, h6, h⟩ := obind h
      refine xcall tn_X6_findUnknown dX6_findUnknown_29 rfl rfl (w_X6_isBlock h6) ?_
      show X 112 (32, [(4, .int v3), (0, .ref 18), (1, .int x1), (2, .int x2), (3, .int x3)], [.int v5], wd d (wm s rest), 0, 0) _
      refine xifF (t := 38) tn_X6_findUnknown dX6_findUnknown_32 (by decide) h (fun h => ?_) (fun h => ?_)
      · refine xs tn_X6_findUnknown [(38, .iload_n 2, 1)] (st' := (39, [(4, .int v3), (0, .ref 18), (1, .int x1), (2, .int x2), (3, .int x3)], [.int x2], wd d (wm s rest), 0, 0)) (List.forall_mem_cons.mpr ⟨dX6_findUnknown_38, fun _ h => absurd h List.not_mem_nil⟩) rfl ?_
        refine xifF (t := 55) tn_X6_findUnknown dX6_findUnknown_39 (by decide) h (fun h => ?_) (fun h => ?_)
        · refine xs tn_X6_findUnknown [(55, .iconst 0, 1), (56, .istore_n 2, 1), (57, .iconst 0, 1), (58, .istore 5, 2)] (st' := (60, [(5, .int (nI 0)), (4, .int v3), (0, .ref 18), (1, .int x1), (2, .int (nI 0)), (3, .int x3)], [], wd d (wm s rest), 0, 0)) (List.forall_mem_cons.mpr ⟨dX6_findUnknown_55, List.forall_mem_cons.mpr ⟨dX6_findUnknown_56, List.forall_mem_cons.mpr ⟨dX6_findUnknown_57, List.forall_mem_cons.mpr ⟨dX6_findUnknown_58, fun _ h => absurd h List.not_mem_nil⟩⟩⟩⟩) rfl ?_
          refine xwk [0, 1, 2, 3, 4, 5] rfl rfl ?_
          exact w_X6_findUnknown_60 ih N _ _ _ _ _ _ _ _ h
        · refine xs tn_X6_findUnknown [(42, .aload_n 0, 1), (43, .iload 4, 2)] (st' := (45, [(4, .int v3), (0, .ref 18), (1, .int x1), (2, .int x2), (3, .int x3)], [.int v3, .ref 18], wd d (wm s rest), 0, 0)) (List.forall_mem_cons.mpr ⟨dX6_findUnknown_42, List.forall_mem_cons.mpr ⟨dX6_findUnknown_43, fun _ h => absurd h List.not_mem_nil⟩⟩) rfl ?_
          obtain ⟨v7, h8, h⟩ := obind h
          refine xcall tn_X6_findUnknown dX6_findUnknown_45 rfl rfl (w_X6_isInLog h8) ?_
          show X 112 (48, [(4, .int v3), (0, .ref 18), (1, .int x1), (2, .int x2), (3, .int x3)], [.int v7], wd d (wm s rest), 0, 0) _
          refine xifF (t := 55) tn_X6_findUnknown dX6_findUnknown_48 (by decide) h (fun h => ?_) (fun h => ?_)
          · refine xs tn_X6_findUnknown [(55, .iconst 0, 1), (56, .istore_n 2, 1), (57, .iconst 0, 1), (58, .istore 5, 2)] (st' := (60, [(5, .int (nI 0)), (4, .int v3), (0, .ref 18), (1, .int x1), (2, .int (nI 0)), (3, .int x3)], [], wd d (wm s rest), 0, 0)) (List.forall_mem_cons.mpr ⟨dX6_findUnknown_55, List.forall_mem_cons.mpr ⟨dX6_findUnknown_56, List.forall_mem_cons.mpr ⟨dX6_findUnknown_57, List.forall_mem_cons.mpr ⟨dX6_findUnknown_58, fun _ h => absurd h List.not_mem_nil⟩⟩⟩⟩) rfl ?_
            refine xwk [0, 1, 2, 3, 4, 5] rfl rfl ?_
            exact w_X6_findUnknown_60 ih N _ _ _ _ _ _ _ _ h
          · refine xs tn_X6_findUnknown [(51, .iconst 1, 1), (52, .goto 4, 3), (56, .istore_n 2, 1), (57, .iconst 0, 1), (58, .istore 5, 2)] (st' := (60, [(5, .int (nI 0)), (4, .int v3), (0, .ref 18), (1, .int x1), (2, .int (nI 1)), (3, .int x3)], [], wd d (wm s rest), 0, 0)) (List.forall_mem_cons.mpr ⟨dX6_findUnknown_51, List.forall_mem_cons.mpr ⟨dX6_findUnknown_52, List.forall_mem_cons.mpr ⟨dX6_findUnknown_56, List.forall_mem_cons.mpr ⟨dX6_findUnknown_57, List.forall_mem_cons.mpr ⟨dX6_findUnknown_58, fun _ h => absurd h List.not_mem_nil⟩⟩⟩⟩⟩) rfl ?_
            refine xwk [0, 1, 2, 3, 4, 5] rfl rfl ?_
            exact w_X6_findUnknown_60 ih N _ _ _ _ _ _ _ _ h
      · refine xs tn_X6_findUnknown [(35, .goto 132, 3), (167, .iinc 3 1, 3), (170, .goto (-161), 3)] (st' := (9, [(4, .int v3), (0, .ref 18), (1, .int x1), (2, .int x2), (3, .int (x3 + (nI 1)))], [], wd d (wm s rest), 0, 0)) (List.forall_mem_cons.mpr ⟨dX6_findUnknown_35, List.forall_mem_cons.mpr ⟨dX6_findUnknown_167, List.forall_mem_cons.mpr ⟨dX6_findUnknown_170, fun _ h => absurd h List.not_mem_nil⟩⟩⟩) rfl ?_
        refine xwk [0, 1, 2, 3] rfl rfl ?_
        exact ih _ _ _ _ _ _ h
def F_X6_findUnknown (N : Nat) (s : St) (x1 : Int32) : Option (Int32 × St) := bnd (sI s 10 (nI 0)) fun s1 => F_X6_findUnknown_9 N N s1 x1 (nI 1) (nI 0)
set_option maxRecDepth 100000 in
set_option maxHeartbeats 4000000 in
theorem w_X6_findUnknown {d : St} {rest : mx_W} {N : Nat} {s : St} {x1 : Int32} {r : Int32} {t : St} (h : F_X6_findUnknown N s x1 = some (r, t)) : X 112 (0, [(0, .ref 18), (1, .int x1)], [], wd d (wm s rest), 0, 0) (some (.int r), wd d (wm t rest), 0, 0) := by
  unfold F_X6_findUnknown at h
  refine xs tn_X6_findUnknown [(0, .aload_n 0, 1), (1, .iconst 0, 1)] (st' := (2, [(0, .ref 18), (1, .int x1)], [.int (nI 0), .ref 18], wd d (wm s rest), 0, 0)) (List.forall_mem_cons.mpr ⟨dX6_findUnknown_0, List.forall_mem_cons.mpr ⟨dX6_findUnknown_1, fun _ h => absurd h List.not_mem_nil⟩⟩) rfl ?_
  refine xput_b10 tn_X6_findUnknown dX6_findUnknown_2 rfl h (fun s1 h => ?_)
  refine xs tn_X6_findUnknown [(5, .iconst 1, 1), (6, .istore_n 2, 1), (7, .iconst 0, 1), (8, .istore_n 3, 1)] (st' := (9, [(3, .int (nI 0)), (2, .int (nI 1)), (0, .ref 18), (1, .int x1)], [], wd d (wm s1 rest), 0, 0)) (List.forall_mem_cons.mpr ⟨dX6_findUnknown_5, List.forall_mem_cons.mpr ⟨dX6_findUnknown_6, List.forall_mem_cons.mpr ⟨dX6_findUnknown_7, List.forall_mem_cons.mpr ⟨dX6_findUnknown_8, fun _ h => absurd h List.not_mem_nil⟩⟩⟩⟩) rfl ?_
  refine xwk [0, 1, 2, 3] rfl rfl ?_
  exact w_X6_findUnknown_9 N _ _ _ _ _ _ h
