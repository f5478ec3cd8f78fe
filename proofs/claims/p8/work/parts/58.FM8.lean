def F_X6_in (x0 : Int32) (x1 : Int32) (x2 : Int32) : Option (Int32) := bif mx_cnd .lt x0 x1 then (some (nI 0)) else (bif mx_cnd .gt x0 x2 then (some (nI 0)) else (some (nI 1)))
set_option maxRecDepth 100000 in
set_option maxHeartbeats 4000000 in
theorem w_X6_in {w : mx_W} {x0 : Int32} {x1 : Int32} {x2 : Int32} {r : Int32} (h : F_X6_in x0 x1 x2 = some r) : X 32 (0, [(0, .int x0), (1, .int x1), (2, .int x2)], [], w, 0, 0) (some (.int r), w, 0, 0) := by
  unfold F_X6_in at h
  refine xs tn_X6_in [(0, .iload_n 0, 1), (1, .iload_n 1, 1)] (st' := (2, [(0, .int x0), (1, .int x1), (2, .int x2)], [.int x1, .int x0], w, 0, 0)) (List.forall_mem_cons.mpr ⟨dX6_in_0, List.forall_mem_cons.mpr ⟨dX6_in_1, fun _ h => absurd h List.not_mem_nil⟩⟩) rfl ?_
  refine xcmpF (t := 14) tn_X6_in dX6_in_2 (by decide) h (fun h => ?_) (fun h => ?_)
  · refine xs tn_X6_in [(14, .iconst 0, 1)] (st' := (15, [(0, .int x0), (1, .int x1), (2, .int x2)], [.int (nI 0)], w, 0, 0)) (List.forall_mem_cons.mpr ⟨dX6_in_14, fun _ h => absurd h List.not_mem_nil⟩) rfl ?_
    cases h
    exact xretz tn_X6_in rfl (by decide) dX6_in_15
  · refine xs tn_X6_in [(5, .iload_n 0, 1), (6, .iload_n 2, 1)] (st' := (7, [(0, .int x0), (1, .int x1), (2, .int x2)], [.int x2, .int x0], w, 0, 0)) (List.forall_mem_cons.mpr ⟨dX6_in_5, List.forall_mem_cons.mpr ⟨dX6_in_6, fun _ h => absurd h List.not_mem_nil⟩⟩) rfl ?_
    refine xcmpF (t := 14) tn_X6_in dX6_in_7 (by decide) h (fun h => ?_) (fun h => ?_)
    · refine xs tn_X6_in [(14, .iconst 0, 1)] (st' := (15, [(0, .int x0), (1, .int x1), (2, .int x2)], [.int (nI 0)], w, 0, 0)) (List.forall_mem_cons.mpr ⟨dX6_in_14, fun _ h => absurd h List.not_mem_nil⟩) rfl ?_
      cases h
      exact xretz tn_X6_in rfl (by decide) dX6_in_15
    · refine xs tn_X6_in [(10, .iconst 1, 1), (11, .goto 4, 3)] (st' := (15, [(0, .int x0), (1, .int x1), (2, .int x2)], [.int (nI 1)], w, 0, 0)) (List.forall_mem_cons.mpr ⟨dX6_in_10, List.forall_mem_cons.mpr ⟨dX6_in_11, fun _ h => absurd h List.not_mem_nil⟩⟩) rfl ?_
      cases h
      exact xretz tn_X6_in rfl (by decide) dX6_in_15
def F_X6_open (s : St) (x1 : Int32) : Option (Int32 × St) := bnd (sI s 0 (nI 0)) fun s1 => (F_X6_in x1 (nI 0) (nI 9)).bind fun v2 => bif mx_cnd .ne v2 0 then (bif mx_cnd .eq (gI s1 1) 0 then (some (-nI 3, s1)) else (bif mx_cnd .eq (gI s1 7) (-nI 1) then (bif mx_cnd .lt ((nI (gN s1)) - (gI s1 2)) (nI 5) then (some (-nI 4, s1)) else (bif mx_cnd .ne (gI s1 3) (nI 60) then (bnd (sI s1 7 x1) fun s4 => bnd (sI s4 8 (nI 0)) fun s5 => some (gI s5 3, s5)) else (some (-nI 4, s1)))) else (some (-nI 3, s1)))) else (some (-nI 2, s1))
set_option maxRecDepth 100000 in
set_option maxHeartbeats 4000000 in
theorem w_X6_open {d : St} {rest : mx_W} {s : St} {x1 : Int32} {r : Int32} {t : St} (h : F_X6_open s x1 = some (r, t)) : X 62 (0, [(0, .ref 18), (1, .int x1)], [], wd d (wm s rest), 0, 0) (some (.int r), wd d (wm t rest), 0, 0) := by
  unfold F_X6_open at h
  refine xs tn_X6_open [(0, .aload_n 0, 1), (1, .iconst 0, 1)] (st' := (2, [(0, .ref 18), (1, .int x1)], [.int (nI 0), .ref 18], wd d (wm s rest), 0, 0)) (List.forall_mem_cons.mpr ⟨dX6_open_0, List.forall_mem_cons.mpr ⟨dX6_open_1, fun _ h => absurd h List.not_mem_nil⟩⟩) rfl ?_
  refine xput_b0 tn_X6_open dX6_open_2 rfl h (fun s1 h => ?_)
  refine xs tn_X6_open [(5, .iload_n 1, 1), (6, .iconst 0, 1), (7, .bipush 9, 2)] (st' := (9, [(0, .ref 18), (1, .int x1)], [.int (nI 9), .int (nI 0), .int x1], wd d (wm s1 rest), 0, 0)) (List.forall_mem_cons.mpr ⟨dX6_open_5, List.forall_mem_cons.mpr ⟨dX6_open_6, List.forall_mem_cons.mpr ⟨dX6_open_7, fun _ h => absurd h List.not_mem_nil⟩⟩⟩) rfl ?_
  obtain ⟨v2, h3, h⟩ := obind h
  refine xcall tn_X6_open dX6_open_9 rfl rfl (w_X6_in h3) ?_
  show X 62 (12, [(0, .ref 18), (1, .int x1)], [.int v2], wd d (wm s1 rest), 0, 0) _
  refine xifF (t := 18) tn_X6_open dX6_open_12 (by decide) h (fun h => ?_) (fun h => ?_)
  · refine xs tn_X6_open [(18, .aload_n 0, 1), (19, .getfield 17, 3)] (st' := (22, [(0, .ref 18), (1, .int x1)], [.int (gI s1 1)], wd d (wm s1 rest), 0, 0)) (List.forall_mem_cons.mpr ⟨dX6_open_18, List.forall_mem_cons.mpr ⟨dX6_open_19, fun _ h => absurd h List.not_mem_nil⟩⟩) rfl ?_
    refine xifF (t := 33) tn_X6_open dX6_open_22 (by decide) h (fun h => ?_) (fun h => ?_)
    · refine xs tn_X6_open [(33, .bipush (-3), 2)] (st' := (35, [(0, .ref 18), (1, .int x1)], [.int (-nI 3)], wd d (wm s1 rest), 0, 0)) (List.forall_mem_cons.mpr ⟨dX6_open_33, fun _ h => absurd h List.not_mem_nil⟩) rfl ?_
      cases h
      exact xret tn_X6_open rfl dX6_open_35
    · refine xs tn_X6_open [(25, .aload_n 0, 1), (26, .getfield 25, 3), (29, .iconst (-1), 1)] (st' := (30, [(0, .ref 18), (1, .int x1)], [.int (-nI 1), .int (gI s1 7)], wd d (wm s1 rest), 0, 0)) (List.forall_mem_cons.mpr ⟨dX6_open_25, List.forall_mem_cons.mpr ⟨dX6_open_26, List.forall_mem_cons.mpr ⟨dX6_open_29, fun _ h => absurd h List.not_mem_nil⟩⟩⟩) rfl ?_
      refine xcmpF (t := 36) tn_X6_open dX6_open_30 (by decide) h (fun h => ?_) (fun h => ?_)
      · refine xs tn_X6_open [(36, .aload_n 0, 1), (37, .getfield 67, 3), (40, .aload_n 0, 1), (41, .getfield 21, 3), (44, .isub, 1), (45, .iconst 5, 1)] (st' := (46, [(0, .ref 18), (1, .int x1)], [.int (nI 5), .int ((nI (gN s1)) - (gI s1 2))], wd d (wm s1 rest), 0, 0)) (List.forall_mem_cons.mpr ⟨dX6_open_36, List.forall_mem_cons.mpr ⟨dX6_open_37, List.forall_mem_cons.mpr ⟨dX6_open_40, List.forall_mem_cons.mpr ⟨dX6_open_41, List.forall_mem_cons.mpr ⟨dX6_open_44, List.forall_mem_cons.mpr ⟨dX6_open_45, fun _ h => absurd h List.not_mem_nil⟩⟩⟩⟩⟩⟩) rfl ?_
        refine xcmpF (t := 58) tn_X6_open dX6_open_46 (by decide) h (fun h => ?_) (fun h => ?_)
        · refine xs tn_X6_open [(58, .bipush (-4), 2)] (st' := (60, [(0, .ref 18), (1, .int x1)], [.int (-nI 4)], wd d (wm s1 rest), 0, 0)) (List.forall_mem_cons.mpr ⟨dX6_open_58, fun _ h => absurd h List.not_mem_nil⟩) rfl ?_
          cases h
          exact xret tn_X6_open rfl dX6_open_60
        · refine xs tn_X6_open [(49, .aload_n 0, 1), (50, .getfield 100, 3), (53, .bipush 60, 2)] (st' := (55, [(0, .ref 18), (1, .int x1)], [.int (nI 60), .int (gI s1 3)], wd d (wm s1 rest), 0, 0)) (List.forall_mem_cons.mpr ⟨dX6_open_49, List.forall_mem_cons.mpr ⟨dX6_open_50, List.forall_mem_cons.mpr ⟨dX6_open_53, fun _ h => absurd h List.not_mem_nil⟩⟩⟩) rfl ?_
          refine xcmpF (t := 61) tn_X6_open dX6_open_55 (by decide) h (fun h => ?_) (fun h => ?_)
          · refine xs tn_X6_open [(61, .aload_n 0, 1), (62, .iload_n 1, 1)] (st' := (63, [(0, .ref 18), (1, .int x1)], [.int x1, .ref 18], wd d (wm s1 rest), 0, 0)) (List.forall_mem_cons.mpr ⟨dX6_open_61, List.forall_mem_cons.mpr ⟨dX6_open_62, fun _ h => absurd h List.not_mem_nil⟩⟩) rfl ?_
            refine xput_b7 tn_X6_open dX6_open_63 rfl h (fun s4 h => ?_)
            refine xs tn_X6_open [(66, .aload_n 0, 1), (67, .iconst 0, 1)] (st' := (68, [(0, .ref 18), (1, .int x1)], [.int (nI 0), .ref 18], wd d (wm s4 rest), 0, 0)) (List.forall_mem_cons.mpr ⟨dX6_open_66, List.forall_mem_cons.mpr ⟨dX6_open_67, fun _ h => absurd h List.not_mem_nil⟩⟩) rfl ?_
            refine xput_b8 tn_X6_open dX6_open_68 rfl h (fun s5 h => ?_)
            refine xs tn_X6_open [(71, .aload_n 0, 1), (72, .getfield 100, 3)] (st' := (75, [(0, .ref 18), (1, .int x1)], [.int (gI s5 3)], wd d (wm s5 rest), 0, 0)) (List.forall_mem_cons.mpr ⟨dX6_open_71, List.forall_mem_cons.mpr ⟨dX6_open_72, fun _ h => absurd h List.not_mem_nil⟩⟩) rfl ?_
            cases h
            exact xret tn_X6_open rfl dX6_open_75
          · refine xs tn_X6_open [(58, .bipush (-4), 2)] (st' := (60, [(0, .ref 18), (1, .int x1)], [.int (-nI 4)], wd d (wm s1 rest), 0, 0)) (List.forall_mem_cons.mpr ⟨dX6_open_58, fun _ h => absurd h List.not_mem_nil⟩) rfl ?_
            cases h
            exact xret tn_X6_open rfl dX6_open_60
      · refine xs tn_X6_open [(33, .bipush (-3), 2)] (st' := (35, [(0, .ref 18), (1, .int x1)], [.int (-nI 3)], wd d (wm s1 rest), 0, 0)) (List.forall_mem_cons.mpr ⟨dX6_open_33, fun _ h => absurd h List.not_mem_nil⟩) rfl ?_
        cases h
        exact xret tn_X6_open rfl dX6_open_35
  · refine xs tn_X6_open [(15, .bipush (-2), 2)] (st' := (17, [(0, .ref 18), (1, .int x1)], [.int (-nI 2)], wd d (wm s1 rest), 0, 0)) (List.forall_mem_cons.mpr ⟨dX6_open_15, fun _ h => absurd h List.not_mem_nil⟩) rfl ?_
    cases h
    exact xret tn_X6_open rfl dX6_open_17
def F_X6_add_53 (N : Nat) : Nat → St → Int64 → Int32 → Int32 → Option (Int32 × St)
  | 0, _, _, _, _ => none
  | f + 1, s, x1, x3, x4 => bif mx_cnd .ge x4 x3 then (some (gI s 8, s)) else (stA s 2 96 (gI s 8) (((x1 >>> (((nI 8) * x4).toInt64 &&& 63)) &&& (255 : Int64)).toInt32) fun s1 => bnd (sI s1 8 ((gI s1 8) + (nI 1))) fun s2 => F_X6_add_53 N f s2 x1 x3 (x4 + (nI 1)))
set_option maxRecDepth 100000 in
set_option maxHeartbeats 4000000 in
theorem w_X6_add_53 {d : St} {rest : mx_W} {N : Nat} : ∀ (f : Nat) (s : St) (x1 : Int64) (x3 : Int32) (x4 : Int32) (r : Int32) (t : St), F_X6_add_53 N f s x1 x3 x4 = some (r, t) → X 57 (53, [(0, .ref 18), (1, .long x1), (3, .int x3), (4, .int x4)], [], wd d (wm s rest), 0, 0) (some (.int r), wd d (wm t rest), 0, 0) := by
  intro f
  induction f with
  | zero => intro s x1 x3 x4 r t h; rw [F_X6_add_53.eq_1] at h; cases h
  | succ f ih =>
    intro s x1 x3 x4 r t h
    rw [F_X6_add_53.eq_2] at h
    refine xs tn_X6_add [(53, .iload 4, 2), (55, .iload_n 3, 1)] (st' := (56, [(0, .ref 18), (1, .long x1), (3, .int x3), (4, .int x4)], [.int x3, .int x4], wd d (wm s rest), 0, 0)) (List.forall_mem_cons.mpr ⟨dX6_add_53, List.forall_mem_cons.mpr ⟨dX6_add_55, fun _ h => absurd h List.not_mem_nil⟩⟩) rfl ?_
    refine xcmpF (t := 96) tn_X6_add dX6_add_56 (by decide) h (fun h => ?_) (fun h => ?_)
    · refine xs tn_X6_add [(96, .aload_n 0, 1), (97, .getfield 116, 3)] (st' := (100, [(0, .ref 18), (1, .long x1), (3, .int x3), (4, .int x4)], [.int (gI s 8)], wd d (wm s rest), 0, 0)) (List.forall_mem_cons.mpr ⟨dX6_add_96, List.forall_mem_cons.mpr ⟨dX6_add_97, fun _ h => absurd h List.not_mem_nil⟩⟩) rfl ?_
      cases h
      exact xret tn_X6_add rfl dX6_add_100
    · refine xs tn_X6_add [(59, .aload_n 0, 1), (60, .getfield 28, 3), (63, .aload_n 0, 1), (64, .getfield 116, 3), (67, .lload_n 1, 1), (68, .bipush 8, 2), (70, .iload 4, 2), (72, .imul, 1), (73, .lshr, 1), (74, .ldc2_w 119, 3), (77, .land, 1), (78, .l2i, 1)] (st' := (79, [(0, .ref 18), (1, .long x1), (3, .int x3), (4, .int x4)], [.int (((x1 >>> (((nI 8) * x4).toInt64 &&& 63)) &&& (255 : Int64)).toInt32), .int (gI s 8), .ref 21], wd d (wm s rest), 0, 0)) (List.forall_mem_cons.mpr ⟨dX6_add_59, List.forall_mem_cons.mpr ⟨dX6_add_60, List.forall_mem_cons.mpr ⟨dX6_add_63, List.forall_mem_cons.mpr ⟨dX6_add_64, List.forall_mem_cons.mpr ⟨dX6_add_67, List.forall_mem_cons.mpr ⟨dX6_add_68, List.forall_mem_cons.mpr ⟨dX6_add_70, List.forall_mem_cons.mpr ⟨dX6_add_72, List.forall_mem_cons.mpr ⟨dX6_add_73, List.forall_mem_cons.mpr ⟨dX6_add_74, List.forall_mem_cons.mpr ⟨dX6_add_77, List.forall_mem_cons.mpr ⟨dX6_add_78, fun _ h => absurd h List.not_mem_nil⟩⟩⟩⟩⟩⟩⟩⟩⟩⟩⟩⟩) rfl ?_
      refine xstF (W := fun s => wd d (wm s rest)) tn_X6_add dX6_add_79 at_21 (fun _ => set_21) h (fun s1 h => ?_)
      refine xs tn_X6_add [(80, .aload_n 0, 1), (81, .dup, 1), (82, .getfield 116, 3), (85, .iconst 1, 1), (86, .iadd, 1)] (st' := (87, [(0, .ref 18), (1, .long x1), (3, .int x3), (4, .int x4)], [.int ((gI s1 8) + (nI 1)), .ref 18], wd d (wm s1 rest), 0, 0)) (List.forall_mem_cons.mpr ⟨dX6_add_80, List.forall_mem_cons.mpr ⟨dX6_add_81, List.forall_mem_cons.mpr ⟨dX6_add_82, List.forall_mem_cons.mpr ⟨dX6_add_85, List.forall_mem_cons.mpr ⟨dX6_add_86, fun _ h => absurd h List.not_mem_nil⟩⟩⟩⟩⟩) rfl ?_
      refine xput_b8 tn_X6_add dX6_add_87 rfl h (fun s2 h => ?_)
      refine xs tn_X6_add [(90, .iinc 4 1, 3), (93, .goto (-40), 3)] (st' := (53, [(0, .ref 18), (1, .long x1), (3, .int x3), (4, .int (x4 + (nI 1)))], [], wd d (wm s2 rest), 0, 0)) (List.forall_mem_cons.mpr ⟨dX6_add_90, List.forall_mem_cons.mpr ⟨dX6_add_93, fun _ h => absurd h List.not_mem_nil⟩⟩) rfl ?_
      refine xwk [0, 1, 3, 4] rfl rfl ?_
      exact ih _ _ _ _ _ _ h
def F_X6_add (N : Nat) (s : St) (x1 : Int64) (x3 : Int32) : Option (Int32 × St) := bnd (sI s 0 (nI 0)) fun s1 => (F_X6_in x3 (nI 1) (nI 8)).bind fun v2 => bif mx_cnd .ne v2 0 then (bif mx_cnd .eq (gI s1 1) 0 then (some (-nI 3, s1)) else (bif mx_cnd .ne (gI s1 7) (-nI 1) then (bif mx_cnd .le ((gI s1 8) + x3) (nI 96) then (F_X6_add_53 N N s1 x1 x3 (nI 0)) else (some (-nI 4, s1))) else (some (-nI 3, s1)))) else (some (-nI 2, s1))
set_option maxRecDepth 100000 in
set_option maxHeartbeats 4000000 in
theorem w_X6_add {d : St} {rest : mx_W} {N : Nat} {s : St} {x1 : Int64} {x3 : Int32} {r : Int32} {t : St} (h : F_X6_add N s x1 x3 = some (r, t)) : X 57 (0, [(0, .ref 18), (1, .long x1), (3, .int x3)], [], wd d (wm s rest), 0, 0) (some (.int r), wd d (wm t rest), 0, 0) := by
  unfold F_X6_add at h
  refine xs tn_X6_add [(0, .aload_n 0, 1), (1, .iconst 0, 1)] (st' := (2, [(0, .ref 18), (1, .long x1), (3, .int x3)], [.int (nI 0), .ref 18], wd d (wm s rest), 0, 0)) (List.forall_mem_cons.mpr ⟨dX6_add_0, List.forall_mem_cons.mpr ⟨dX6_add_1, fun _ h => absurd h List.not_mem_nil⟩⟩) rfl ?_
  refine xput_b0 tn_X6_add dX6_add_2 rfl h (fun s1 h => ?_)
  refine xs tn_X6_add [(5, .iload_n 3, 1), (6, .iconst 1, 1), (7, .bipush 8, 2)] (st' := (9, [(0, .ref 18), (1, .long x1), (3, .int x3)], [.int (nI 8), .int (nI 1), .int x3], wd d (wm s1 rest), 0, 0)) (List.forall_mem_cons.mpr ⟨dX6_add_5, List.forall_mem_cons.mpr ⟨dX6_add_6, List.forall_mem_cons.mpr ⟨dX6_add_7, fun _ h => absurd h List.not_mem_nil⟩⟩⟩) rfl ?_
  obtain ⟨v2, h3, h⟩ := obind h
  refine xcall tn_X6_add dX6_add_9 rfl rfl (w_X6_in h3) ?_
  show X 57 (12, [(0, .ref 18), (1, .long x1), (3, .int x3)], [.int v2], wd d (wm s1 rest), 0, 0) _
  refine xifF (t := 18) tn_X6_add dX6_add_12 (by decide) h (fun h => ?_) (fun h => ?_)
  · refine xs tn_X6_add [(18, .aload_n 0, 1), (19, .getfield 17, 3)] (st' := (22, [(0, .ref 18), (1, .long x1), (3, .int x3)], [.int (gI s1 1)], wd d (wm s1 rest), 0, 0)) (List.forall_mem_cons.mpr ⟨dX6_add_18, List.forall_mem_cons.mpr ⟨dX6_add_19, fun _ h => absurd h List.not_mem_nil⟩⟩) rfl ?_
    refine xifF (t := 33) tn_X6_add dX6_add_22 (by decide) h (fun h => ?_) (fun h => ?_)
    · refine xs tn_X6_add [(33, .bipush (-3), 2)] (st' := (35, [(0, .ref 18), (1, .long x1), (3, .int x3)], [.int (-nI 3)], wd d (wm s1 rest), 0, 0)) (List.forall_mem_cons.mpr ⟨dX6_add_33, fun _ h => absurd h List.not_mem_nil⟩) rfl ?_
      cases h
      exact xret tn_X6_add rfl dX6_add_35
    · refine xs tn_X6_add [(25, .aload_n 0, 1), (26, .getfield 25, 3), (29, .iconst (-1), 1)] (st' := (30, [(0, .ref 18), (1, .long x1), (3, .int x3)], [.int (-nI 1), .int (gI s1 7)], wd d (wm s1 rest), 0, 0)) (List.forall_mem_cons.mpr ⟨dX6_add_25, List.forall_mem_cons.mpr ⟨dX6_add_26, List.forall_mem_cons.mpr ⟨dX6_add_29, fun _ h => absurd h List.not_mem_nil⟩⟩⟩) rfl ?_
      refine xcmpF (t := 36) tn_X6_add dX6_add_30 (by decide) h (fun h => ?_) (fun h => ?_)
      · refine xs tn_X6_add [(36, .aload_n 0, 1), (37, .getfield 116, 3), (40, .iload_n 3, 1), (41, .iadd, 1), (42, .bipush 96, 2)] (st' := (44, [(0, .ref 18), (1, .long x1), (3, .int x3)], [.int (nI 96), .int ((gI s1 8) + x3)], wd d (wm s1 rest), 0, 0)) (List.forall_mem_cons.mpr ⟨dX6_add_36, List.forall_mem_cons.mpr ⟨dX6_add_37, List.forall_mem_cons.mpr ⟨dX6_add_40, List.forall_mem_cons.mpr ⟨dX6_add_41, List.forall_mem_cons.mpr ⟨dX6_add_42, fun _ h => absurd h List.not_mem_nil⟩⟩⟩⟩⟩) rfl ?_
        refine xcmpF (t := 50) tn_X6_add dX6_add_44 (by decide) h (fun h => ?_) (fun h => ?_)
        · refine xs tn_X6_add [(50, .iconst 0, 1), (51, .istore 4, 2)] (st' := (53, [(4, .int (nI 0)), (0, .ref 18), (1, .long x1), (3, .int x3)], [], wd d (wm s1 rest), 0, 0)) (List.forall_mem_cons.mpr ⟨dX6_add_50, List.forall_mem_cons.mpr ⟨dX6_add_51, fun _ h => absurd h List.not_mem_nil⟩⟩) rfl ?_
          refine xwk [0, 1, 3, 4] rfl rfl ?_
          exact w_X6_add_53 N _ _ _ _ _ _ h
        · refine xs tn_X6_add [(47, .bipush (-4), 2)] (st' := (49, [(0, .ref 18), (1, .long x1), (3, .int x3)], [.int (-nI 4)], wd d (wm s1 rest), 0, 0)) (List.forall_mem_cons.mpr ⟨dX6_add_47, fun _ h => absurd h List.not_mem_nil⟩) rfl ?_
          cases h
          exact xret tn_X6_add rfl dX6_add_49
      · refine xs tn_X6_add [(33, .bipush (-3), 2)] (st' := (35, [(0, .ref 18), (1, .long x1), (3, .int x3)], [.int (-nI 3)], wd d (wm s1 rest), 0, 0)) (List.forall_mem_cons.mpr ⟨dX6_add_33, fun _ h => absurd h List.not_mem_nil⟩) rfl ?_
        cases h
        exact xret tn_X6_add rfl dX6_add_35
  · refine xs tn_X6_add [(15, .bipush (-2), 2)] (st' := (17, [(0, .ref 18), (1, .long x1), (3, .int x3)], [.int (-nI 2)], wd d (wm s1 rest), 0, 0)) (List.forall_mem_cons.mpr ⟨dX6_add_15, fun _ h => absurd h List.not_mem_nil⟩) rfl ?_
    cases h
    exact xret tn_X6_add rfl dX6_add_17
def F_X6_begin_3 (N : Nat) : Nat → St → Int32 → Int32 → Int32 → Int32 → Int32 → Option (St)
  | 0, _, _, _, _, _, _ => none
  | f + 1, s, x1, x2, x3, x4, x5 => bif mx_cnd .ge x5 (nI 32) then (stA s 6 32 (nI 0) x1 fun s1 => stA s1 6 32 (nI 1) x2 fun s2 => stA s2 6 32 (nI 2) x3 fun s3 => stA s3 6 32 (nI 3) x4 fun s4 => some s4) else (stA s 6 32 x5 (nI 0) fun s5 => F_X6_begin_3 N f s5 x1 x2 x3 x4 (x5 + (nI 1)))
set_option maxRecDepth 100000 in
set_option maxHeartbeats 4000000 in
theorem w_X6_begin_3 {d : St} {rest : mx_W} {N : Nat} : ∀ (f : Nat) (s : St) (x1 : Int32) (x2 : Int32) (x3 : Int32) (x4 : Int32) (x5 : Int32) (r : St), F_X6_begin_3 N f s x1 x2 x3 x4 x5 = some r → X 29 (3, [(0, .ref 18), (1, .int x1), (2, .int x2), (3, .int x3), (4, .int x4), (5, .int x5)], [], wd d (wm s rest), 0, 0) (none, wd d (wm r rest), 0, 0) := by
  intro f
  induction f with
  | zero => intro s x1 x2 x3 x4 x5 r h; rw [F_X6_begin_3.eq_1] at h; cases h
  | succ f ih =>
    intro s x1 x2 x3 x4 x5 r h
    rw [F_X6_begin_3.eq_2] at h
    refine xs tn_X6_begin [(3, .iload 5, 2), (5, .bipush 32, 2)] (st' := (7, [(0, .ref 18), (1, .int x1), (2, .int x2), (3, .int x3), (4, .int x4), (5, .int x5)], [.int (nI 32), .int x5], wd d (wm s rest), 0, 0)) (List.forall_mem_cons.mpr ⟨dX6_begin_3, List.forall_mem_cons.mpr ⟨dX6_begin_5, fun _ h => absurd h List.not_mem_nil⟩⟩) rfl ?_
    refine xcmpF (t := 24) tn_X6_begin dX6_begin_7 (by decide) h (fun h => ?_) (fun h => ?_)
    · refine xs tn_X6_begin [(24, .aload_n 0, 1), (25, .getfield 40, 3), (28, .iconst 0, 1), (29, .iload_n 1, 1)] (st' := (30, [(0, .ref 18), (1, .int x1), (2, .int x2), (3, .int x3), (4, .int x4), (5, .int x5)], [.int x1, .int (nI 0), .ref 25], wd d (wm s rest), 0, 0)) (List.forall_mem_cons.mpr ⟨dX6_begin_24, List.forall_mem_cons.mpr ⟨dX6_begin_25, List.forall_mem_cons.mpr ⟨dX6_begin_28, List.forall_mem_cons.mpr ⟨dX6_begin_29, fun _ h => absurd h List.not_mem_nil⟩⟩⟩⟩) rfl ?_
      refine xstF (W := fun s => wd d (wm s rest)) tn_X6_begin dX6_begin_30 at_25 (fun _ => set_25) h (fun s1 h => ?_)
      refine xs tn_X6_begin [(31, .aload_n 0, 1), (32, .getfield 40, 3), (35, .iconst 1, 1), (36, .iload_n 2, 1)] (st' := (37, [(0, .ref 18), (1, .int x1), (2, .int x2), (3, .int x3), (4, .int x4), (5, .int x5)], [.int x2, .int (nI 1), .ref 25], wd d (wm s1 rest), 0, 0)) (List.forall_mem_cons.mpr ⟨dX6_begin_31, List.forall_mem_cons.mpr ⟨dX6_begin_32, List.forall_mem_cons.mpr ⟨dX6_begin_35, List.forall_mem_cons.mpr ⟨dX6_begin_36, fun _ h => absurd h List.not_mem_nil⟩⟩⟩⟩) rfl ?_
      refine xstF (W := fun s => wd d (wm s rest)) tn_X6_begin dX6_begin_37 at_25 (fun _ => set_25) h (fun s2 h => ?_)
      refine xs tn_X6_begin [(38, .aload_n 0, 1), (39, .getfield 40, 3), (42, .iconst 2, 1), (43, .iload_n 3, 1)] (st' := (44, [(0, .ref 18), (1, .int x1), (2, .int x2), (3, .int x3), (4, .int x4), (5, .int x5)], [.int x3, .int (nI 2), .ref 25], wd d (wm s2 rest), 0, 0)) (List.forall_mem_cons.mpr ⟨dX6_begin_38, List.forall_mem_cons.mpr ⟨dX6_begin_39, List.forall_mem_cons.mpr ⟨dX6_begin_42, List.forall_mem_cons.mpr ⟨dX6_begin_43, fun _ h => absurd h List.not_mem_nil⟩⟩⟩⟩) rfl ?_
      refine xstF (W := fun s => wd d (wm s rest)) tn_X6_begin dX6_begin_44 at_25 (fun _ => set_25) h (fun s3 h => ?_)
      refine xs tn_X6_begin [(45, .aload_n 0, 1), (46, .getfield 40, 3), (49, .iconst 3, 1), (50, .iload 4, 2)] (st' := (52, [(0, .ref 18), (1, .int x1), (2, .int x2), (3, .int x3), (4, .int x4), (5, .int x5)], [.int x4, .int (nI 3), .ref 25], wd d (wm s3 rest), 0, 0)) (List.forall_mem_cons.mpr ⟨dX6_begin_45, List.forall_mem_cons.mpr ⟨dX6_begin_46, List.forall_mem_cons.mpr ⟨dX6_begin_49, List.forall_mem_cons.mpr ⟨dX6_begin_50, fun _ h => absurd h List.not_mem_nil⟩⟩⟩⟩) rfl ?_
      refine xstF (W := fun s => wd d (wm s rest)) tn_X6_begin dX6_begin_52 at_25 (fun _ => set_25) h (fun s4 h => ?_)
      cases h
      exact xretv tn_X6_begin rfl dX6_begin_53
    · refine xs tn_X6_begin [(10, .aload_n 0, 1), (11, .getfield 40, 3), (14, .iload 5, 2), (16, .iconst 0, 1)] (st' := (17, [(0, .ref 18), (1, .int x1), (2, .int x2), (3, .int x3), (4, .int x4), (5, .int x5)], [.int (nI 0), .int x5, .ref 25], wd d (wm s rest), 0, 0)) (List.forall_mem_cons.mpr ⟨dX6_begin_10, List.forall_mem_cons.mpr ⟨dX6_begin_11, List.forall_mem_cons.mpr ⟨dX6_begin_14, List.forall_mem_cons.mpr ⟨dX6_begin_16, fun _ h => absurd h List.not_mem_nil⟩⟩⟩⟩) rfl ?_
      refine xstF (W := fun s => wd d (wm s rest)) tn_X6_begin dX6_begin_17 at_25 (fun _ => set_25) h (fun s5 h => ?_)
      refine xs tn_X6_begin [(18, .iinc 5 1, 3), (21, .goto (-18), 3)] (st' := (3, [(0, .ref 18), (1, .int x1), (2, .int x2), (3, .int x3), (4, .int x4), (5, .int (x5 + (nI 1)))], [], wd d (wm s5 rest), 0, 0)) (List.forall_mem_cons.mpr ⟨dX6_begin_18, List.forall_mem_cons.mpr ⟨dX6_begin_21, fun _ h => absurd h List.not_mem_nil⟩⟩) rfl ?_
      refine xwk [0, 1, 2, 3, 4, 5] rfl rfl ?_
      exact ih _ _ _ _ _ _ _ h
def F_X6_begin (N : Nat) (s : St) (x1 : Int32) (x2 : Int32) (x3 : Int32) (x4 : Int32) : Option (St) := F_X6_begin_3 N N s x1 x2 x3 x4 (nI 0)
set_option maxRecDepth 100000 in
set_option maxHeartbeats 4000000 in
theorem w_X6_begin {d : St} {rest : mx_W} {N : Nat} {s : St} {x1 : Int32} {x2 : Int32} {x3 : Int32} {x4 : Int32} {r : St} (h : F_X6_begin N s x1 x2 x3 x4 = some r) : X 29 (0, [(0, .ref 18), (1, .int x1), (2, .int x2), (3, .int x3), (4, .int x4)], [], wd d (wm s rest), 0, 0) (none, wd d (wm r rest), 0, 0) := by
  unfold F_X6_begin at h
  refine xs tn_X6_begin [(0, .iconst 0, 1), (1, .istore 5, 2)] (st' := (3, [(5, .int (nI 0)), (0, .ref 18), (1, .int x1), (2, .int x2), (3, .int x3), (4, .int x4)], [], wd d (wm s rest), 0, 0)) (List.forall_mem_cons.mpr ⟨dX6_begin_0, List.forall_mem_cons.mpr ⟨dX6_begin_1, fun _ h => absurd h List.not_mem_nil⟩⟩) rfl ?_
  refine xwk [0, 1, 2, 3, 4, 5] rfl rfl ?_
  exact w_X6_begin_3 N _ _ _ _ _ _ _ h
def F_X6_sumOf_25_4 (N : Nat) : Nat → St → Int32 → Int32 → Int32 → Option (Int32)
  | 0, _, _, _, _ => none
  | f + 1, s, x1, x2, x3 => bif mx_cnd .ge x3 (nI 28) then (some x2) else (ldA (gA s 6) 32 (x1 + x3) fun v1 => F_X6_sumOf_25_4 N f s x1 ((((x2 ^^^ v1) <<< ((nI 7) &&& 31)) ||| (((x2 ^^^ v1).toUInt32 >>> ((nI 25).toUInt32 &&& Int32.toUInt32 31)).toInt32)) * (461845907 : Int32)) (x3 + (nI 1)))
set_option maxRecDepth 100000 in
set_option maxHeartbeats 4000000 in
theorem w_X6_sumOf_25_4 {d : St} {rest : mx_W} {N : Nat} : ∀ (f : Nat) (s : St) (x1 : Int32) (x2 : Int32) (x3 : Int32) (r : Int32), F_X6_sumOf_25_4 N f s x1 x2 x3 = some r → X 36 (4, [(0, .ref 25), (1, .int x1), (2, .int x2), (3, .int x3)], [], wd d (wm s rest), 0, 0) (some (.int r), wd d (wm s rest), 0, 0) := by
  intro f
  induction f with
  | zero => intro s x1 x2 x3 r h; rw [F_X6_sumOf_25_4.eq_1] at h; cases h
  | succ f ih =>
    intro s x1 x2 x3 r h
    rw [F_X6_sumOf_25_4.eq_2] at h
    refine xs tn_X6_sumOf [(4, .iload_n 3, 1), (5, .bipush 28, 2)] (st' := (7, [(0, .ref 25), (1, .int x1), (2, .int x2), (3, .int x3)], [.int (nI 28), .int x3], wd d (wm s rest), 0, 0)) (List.forall_mem_cons.mpr ⟨dX6_sumOf_4, List.forall_mem_cons.mpr ⟨dX6_sumOf_5, fun _ h => absurd h List.not_mem_nil⟩⟩) rfl ?_
    refine xcmpF (t := 40) tn_X6_sumOf dX6_sumOf_7 (by decide) h (fun h => ?_) (fun h => ?_)
    · refine xs tn_X6_sumOf [(40, .iload_n 2, 1)] (st' := (41, [(0, .ref 25), (1, .int x1), (2, .int x2), (3, .int x3)], [.int x2], wd d (wm s rest), 0, 0)) (List.forall_mem_cons.mpr ⟨dX6_sumOf_40, fun _ h => absurd h List.not_mem_nil⟩) rfl ?_
      cases h
      exact xret tn_X6_sumOf rfl dX6_sumOf_41
    · refine xs tn_X6_sumOf [(10, .iload_n 2, 1), (11, .aload_n 0, 1), (12, .iload_n 1, 1), (13, .iload_n 3, 1), (14, .iadd, 1)] (st' := (15, [(0, .ref 25), (1, .int x1), (2, .int x2), (3, .int x3)], [.int (x1 + x3), .ref 25, .int x2], wd d (wm s rest), 0, 0)) (List.forall_mem_cons.mpr ⟨dX6_sumOf_10, List.forall_mem_cons.mpr ⟨dX6_sumOf_11, List.forall_mem_cons.mpr ⟨dX6_sumOf_12, List.forall_mem_cons.mpr ⟨dX6_sumOf_13, List.forall_mem_cons.mpr ⟨dX6_sumOf_14, fun _ h => absurd h List.not_mem_nil⟩⟩⟩⟩⟩) rfl ?_
      refine xldF tn_X6_sumOf dX6_sumOf_15 at_25 h (fun v1 h => ?_)
      refine xs tn_X6_sumOf [(16, .ixor, 1), (17, .istore 4, 2), (19, .iload 4, 2), (21, .bipush 7, 2), (23, .ishl, 1), (24, .iload 4, 2), (26, .bipush 25, 2), (28, .iushr, 1), (29, .ior, 1), (30, .ldc 77, 2), (32, .imul, 1), (33, .istore_n 2, 1), (34, .iinc 3 1, 3), (37, .goto (-33), 3)] (st' := (4, [(4, .int (x2 ^^^ v1)), (0, .ref 25), (1, .int x1), (2, .int ((((x2 ^^^ v1) <<< ((nI 7) &&& 31)) ||| (((x2 ^^^ v1).toUInt32 >>> ((nI 25).toUInt32 &&& Int32.toUInt32 31)).toInt32)) * (461845907 : Int32))), (3, .int (x3 + (nI 1)))], [], wd d (wm s rest), 0, 0)) (List.forall_mem_cons.mpr ⟨dX6_sumOf_16, List.forall_mem_cons.mpr ⟨dX6_sumOf_17, List.forall_mem_cons.mpr ⟨dX6_sumOf_19, List.forall_mem_cons.mpr ⟨dX6_sumOf_21, List.forall_mem_cons.mpr ⟨dX6_sumOf_23, List.forall_mem_cons.mpr ⟨dX6_sumOf_24, List.forall_mem_cons.mpr ⟨dX6_sumOf_26, List.forall_mem_cons.mpr ⟨dX6_sumOf_28, List.forall_mem_cons.mpr ⟨dX6_sumOf_29, List.forall_mem_cons.mpr ⟨dX6_sumOf_30, List.forall_mem_cons.mpr ⟨dX6_sumOf_32, List.forall_mem_cons.mpr ⟨dX6_sumOf_33, List.forall_mem_cons.mpr ⟨dX6_sumOf_34, List.forall_mem_cons.mpr ⟨dX6_sumOf_37, fun _ h => absurd h List.not_mem_nil⟩⟩⟩⟩⟩⟩⟩⟩⟩⟩⟩⟩⟩⟩) rfl ?_
      refine xwk [0, 1, 2, 3] rfl rfl ?_
      exact ih _ _ _ _ _ h
def F_X6_sumOf_25 (N : Nat) (s : St) (x1 : Int32) : Option (Int32) := F_X6_sumOf_25_4 N N s x1 (nI 0) (nI 0)
set_option maxRecDepth 100000 in
set_option maxHeartbeats 4000000 in
theorem w_X6_sumOf_25 {d : St} {rest : mx_W} {N : Nat} {s : St} {x1 : Int32} {r : Int32} (h : F_X6_sumOf_25 N s x1 = some r) : X 36 (0, [(0, .ref 25), (1, .int x1)], [], wd d (wm s rest), 0, 0) (some (.int r), wd d (wm s rest), 0, 0) := by
  unfold F_X6_sumOf_25 at h
  refine xs tn_X6_sumOf [(0, .iconst 0, 1), (1, .istore_n 2, 1), (2, .iconst 0, 1), (3, .istore_n 3, 1)] (st' := (4, [(3, .int (nI 0)), (2, .int (nI 0)), (0, .ref 25), (1, .int x1)], [], wd d (wm s rest), 0, 0)) (List.forall_mem_cons.mpr ⟨dX6_sumOf_0, List.forall_mem_cons.mpr ⟨dX6_sumOf_1, List.forall_mem_cons.mpr ⟨dX6_sumOf_2, List.forall_mem_cons.mpr ⟨dX6_sumOf_3, fun _ h => absurd h List.not_mem_nil⟩⟩⟩⟩) rfl ?_
  refine xwk [0, 1, 2, 3] rfl rfl ?_
  exact w_X6_sumOf_25_4 N _ _ _ _ _ h
def F_X6_seal_11 (N : Nat) : Nat → St → Int32 → Int32 → Option (St)
  | 0, _, _, _ => none
  | f + 1, s, x1, x2 => bif mx_cnd .ge x2 (nI 4) then (some s) else (stA s 6 32 ((nI 28) + x2) ((x1 >>> (((nI 24) - ((nI 8) * x2)) &&& 31)) &&& (nI 255)) fun s1 => F_X6_seal_11 N f s1 x1 (x2 + (nI 1)))
set_option maxRecDepth 100000 in
set_option maxHeartbeats 4000000 in
theorem w_X6_seal_11 {d : St} {rest : mx_W} {N : Nat} : ∀ (f : Nat) (s : St) (x1 : Int32) (x2 : Int32) (r : St), F_X6_seal_11 N f s x1 x2 = some r → X 64 (11, [(0, .ref 18), (1, .int x1), (2, .int x2)], [], wd d (wm s rest), 0, 0) (none, wd d (wm r rest), 0, 0) := by
  intro f
  induction f with
  | zero => intro s x1 x2 r h; rw [F_X6_seal_11.eq_1] at h; cases h
  | succ f ih =>
    intro s x1 x2 r h
    rw [F_X6_seal_11.eq_2] at h
    refine xs tn_X6_seal [(11, .iload_n 2, 1), (12, .iconst 4, 1)] (st' := (13, [(0, .ref 18), (1, .int x1), (2, .int x2)], [.int (nI 4), .int x2], wd d (wm s rest), 0, 0)) (List.forall_mem_cons.mpr ⟨dX6_seal_11, List.forall_mem_cons.mpr ⟨dX6_seal_12, fun _ h => absurd h List.not_mem_nil⟩⟩) rfl ?_
    refine xcmpF (t := 44) tn_X6_seal dX6_seal_13 (by decide) h (fun h => ?_) (fun h => ?_)
    · cases h
      exact xretv tn_X6_seal rfl dX6_seal_44
    · refine xs tn_X6_seal [(16, .aload_n 0, 1), (17, .getfield 40, 3), (20, .bipush 28, 2), (22, .iload_n 2, 1), (23, .iadd, 1), (24, .iload_n 1, 1), (25, .bipush 24, 2), (27, .bipush 8, 2), (29, .iload_n 2, 1), (30, .imul, 1), (31, .isub, 1), (32, .ishr, 1), (33, .sipush 255, 3), (36, .iand, 1)] (st' := (37, [(0, .ref 18), (1, .int x1), (2, .int x2)], [.int ((x1 >>> (((nI 24) - ((nI 8) * x2)) &&& 31)) &&& (nI 255)), .int ((nI 28) + x2), .ref 25], wd d (wm s rest), 0, 0)) (List.forall_mem_cons.mpr ⟨dX6_seal_16, List.forall_mem_cons.mpr ⟨dX6_seal_17, List.forall_mem_cons.mpr ⟨dX6_seal_20, List.forall_mem_cons.mpr ⟨dX6_seal_22, List.forall_mem_cons.mpr ⟨dX6_seal_23, List.forall_mem_cons.mpr ⟨dX6_seal_24, List.forall_mem_cons.mpr ⟨dX6_seal_25, List.forall_mem_cons.mpr ⟨dX6_seal_27, List.forall_mem_cons.mpr ⟨dX6_seal_29, List.forall_mem_cons.mpr ⟨dX6_seal_30, List.forall_mem_cons.mpr ⟨dX6_seal_31, List.forall_mem_cons.mpr ⟨dX6_seal_32, List.forall_mem_cons.mpr ⟨dX6_seal_33, List.forall_mem_cons.mpr ⟨dX6_seal_36, fun _ h => absurd h List.not_mem_nil⟩⟩⟩⟩⟩⟩⟩⟩⟩⟩⟩⟩⟩⟩) rfl ?_
      refine xstF (W := fun s => wd d (wm s rest)) tn_X6_seal dX6_seal_37 at_25 (fun _ => set_25) h (fun s1 h => ?_)
      refine xs tn_X6_seal [(38, .iinc 2 1, 3), (41, .goto (-30), 3)] (st' := (11, [(0, .ref 18), (1, .int x1), (2, .int (x2 + (nI 1)))], [], wd d (wm s1 rest), 0, 0)) (List.forall_mem_cons.mpr ⟨dX6_seal_38, List.forall_mem_cons.mpr ⟨dX6_seal_41, fun _ h => absurd h List.not_mem_nil⟩⟩) rfl ?_
      refine xwk [0, 1, 2] rfl rfl ?_
      exact ih _ _ _ _ h
def F_X6_seal (N : Nat) (s : St) : Option (St) := (F_X6_sumOf_25 N s (nI 0)).bind fun v1 => F_X6_seal_11 N N s v1 (nI 0)
set_option maxRecDepth 100000 in
set_option maxHeartbeats 4000000 in
theorem w_X6_seal {d : St} {rest : mx_W} {N : Nat} {s : St} {r : St} (h : F_X6_seal N s = some r) : X 64 (0, [(0, .ref 18)], [], wd d (wm s rest), 0, 0) (none, wd d (wm r rest), 0, 0) := by
  unfold F_X6_seal at h
  refine xs tn_X6_seal [(0, .aload_n 0, 1), (1, .getfield 40, 3), (4, .iconst 0, 1)] (st' := (5, [(0, .ref 18)], [.int (nI 0), .ref 25], wd d (wm s rest), 0, 0)) (List.forall_mem_cons.mpr ⟨dX6_seal_0, List.forall_mem_cons.mpr ⟨dX6_seal_1, List.forall_mem_cons.mpr ⟨dX6_seal_4, fun _ h => absurd h List.not_mem_nil⟩⟩⟩) rfl ?_
  obtain ⟨v1, h2, h⟩ := obind h
  refine xcall tn_X6_seal dX6_seal_5 rfl rfl (w_X6_sumOf_25 h2) ?_
  show X 64 (8, [(0, .ref 18)], [.int v1], wd d (wm s rest), 0, 0) _
  refine xs tn_X6_seal [(8, .istore_n 1, 1), (9, .iconst 0, 1), (10, .istore_n 2, 1)] (st' := (11, [(2, .int (nI 0)), (1, .int v1), (0, .ref 18)], [], wd d (wm s rest), 0, 0)) (List.forall_mem_cons.mpr ⟨dX6_seal_8, List.forall_mem_cons.mpr ⟨dX6_seal_9, List.forall_mem_cons.mpr ⟨dX6_seal_10, fun _ h => absurd h List.not_mem_nil⟩⟩⟩) rfl ?_
  refine xwk [0, 1, 2] rfl rfl ?_
  exact w_X6_seal_11 N _ _ _ _ h
def F_X6_write_31 (N : Nat) : Nat → St → Int32 → Int32 → Option (St)
  | 0, _, _, _ => none
  | f + 1, s, x1, x2 => bif mx_cnd .ge x2 (nI 32) then (stA s 1 60 x1 (vp_nar .boolean (nI 0)) fun s1 => bnd (sI s1 9 ((gI s1 9) + (nI 1))) fun s2 => some s2) else (ldA (gA s 0) 1920 (((nI 32) * x1) + x2) fun v3 => stA s 4 2048 (((nI 32) * (gI s 9)) + x2) v3 fun s4 => ldA (gA s4 6) 32 x2 fun v5 => stA s4 0 1920 (((nI 32) * x1) + x2) v5 fun s6 => F_X6_write_31 N f s6 x1 (x2 + (nI 1)))
set_option maxRecDepth 100000 in
set_option maxHeartbeats 4000000 in
theorem w_X6_write_31 {d : St} {rest : mx_W} {N : Nat} : ∀ (f : Nat) (s : St) (x1 : Int32) (x2 : Int32) (r : St), F_X6_write_31 N f s x1 x2 = some r → X 92 (31, [(0, .ref 18), (1, .int x1), (2, .int x2)], [], wd d (wm s rest), 0, 0) (none, wd d (wm r rest), 0, 0) := by
  intro f
  induction f with
  | zero => intro s x1 x2 r h; rw [F_X6_write_31.eq_1] at h; cases h
  | succ f ih =>
    intro s x1 x2 r h
    rw [F_X6_write_31.eq_2] at h
    refine xs tn_X6_write [(31, .iload_n 2, 1), (32, .bipush 32, 2)] (st' := (34, [(0, .ref 18), (1, .int x1), (2, .int x2)], [.int (nI 32), .int x2], wd d (wm s rest), 0, 0)) (List.forall_mem_cons.mpr ⟨dX6_write_31, List.forall_mem_cons.mpr ⟨dX6_write_32, fun _ h => absurd h List.not_mem_nil⟩⟩) rfl ?_
    refine xcmpF (t := 85) tn_X6_write dX6_write_34 (by decide) h (fun h => ?_) (fun h => ?_)
    · refine xs tn_X6_write [(85, .aload_n 0, 1), (86, .getfield 13, 3), (89, .iload_n 1, 1), (90, .iconst 0, 1)] (st' := (91, [(0, .ref 18), (1, .int x1), (2, .int x2)], [.int (nI 0), .int x1, .ref 20], wd d (wm s rest), 0, 0)) (List.forall_mem_cons.mpr ⟨dX6_write_85, List.forall_mem_cons.mpr ⟨dX6_write_86, List.forall_mem_cons.mpr ⟨dX6_write_89, List.forall_mem_cons.mpr ⟨dX6_write_90, fun _ h => absurd h List.not_mem_nil⟩⟩⟩⟩) rfl ?_
      refine xzstF (W := fun s => wd d (wm s rest)) tn_X6_write dX6_write_91 at_20 (fun _ => set_20) h (fun s1 h => ?_)
      refine xs tn_X6_write [(92, .aload_n 0, 1), (93, .dup, 1), (94, .getfield 93, 3), (97, .iconst 1, 1), (98, .iadd, 1)] (st' := (99, [(0, .ref 18), (1, .int x1), (2, .int x2)], [.int ((gI s1 9) + (nI 1)), .ref 18], wd d (wm s1 rest), 0, 0)) (List.forall_mem_cons.mpr ⟨dX6_write_92, List.forall_mem_cons.mpr ⟨dX6_write_93, List.forall_mem_cons.mpr ⟨dX6_write_94, List.forall_mem_cons.mpr ⟨dX6_write_97, List.forall_mem_cons.mpr ⟨dX6_write_98, fun _ h => absurd h List.not_mem_nil⟩⟩⟩⟩⟩) rfl ?_
      refine xput_b9 tn_X6_write dX6_write_99 rfl h (fun s2 h => ?_)
      cases h
      exact xretv tn_X6_write rfl dX6_write_102
    · refine xs tn_X6_write [(37, .aload_n 0, 1), (38, .getfield 34, 3), (41, .bipush 32, 2), (43, .aload_n 0, 1), (44, .getfield 93, 3), (47, .imul, 1), (48, .iload_n 2, 1), (49, .iadd, 1), (50, .aload_n 0, 1), (51, .getfield 7, 3), (54, .bipush 32, 2), (56, .iload_n 1, 1), (57, .imul, 1), (58, .iload_n 2, 1), (59, .iadd, 1)] (st' := (60, [(0, .ref 18), (1, .int x1), (2, .int x2)], [.int (((nI 32) * x1) + x2), .ref 19, .int (((nI 32) * (gI s 9)) + x2), .ref 23], wd d (wm s rest), 0, 0)) (List.forall_mem_cons.mpr ⟨dX6_write_37, List.forall_mem_cons.mpr ⟨dX6_write_38, List.forall_mem_cons.mpr ⟨dX6_write_41, List.forall_mem_cons.mpr ⟨dX6_write_43, List.forall_mem_cons.mpr ⟨dX6_write_44, List.forall_mem_cons.mpr ⟨dX6_write_47, List.forall_mem_cons.mpr ⟨dX6_write_48, List.forall_mem_cons.mpr ⟨dX6_write_49, List.forall_mem_cons.mpr ⟨dX6_write_50, List.forall_mem_cons.mpr ⟨dX6_write_51, List.forall_mem_cons.mpr ⟨dX6_write_54, List.forall_mem_cons.mpr ⟨dX6_write_56, List.forall_mem_cons.mpr ⟨dX6_write_57, List.forall_mem_cons.mpr ⟨dX6_write_58, List.forall_mem_cons.mpr ⟨dX6_write_59, fun _ h => absurd h List.not_mem_nil⟩⟩⟩⟩⟩⟩⟩⟩⟩⟩⟩⟩⟩⟩⟩) rfl ?_
      refine xldF tn_X6_write dX6_write_60 at_19 h (fun v3 h => ?_)
      refine xstF (W := fun s => wd d (wm s rest)) tn_X6_write dX6_write_61 at_23 (fun _ => set_23) h (fun s4 h => ?_)
      refine xs tn_X6_write [(62, .aload_n 0, 1), (63, .getfield 7, 3), (66, .bipush 32, 2), (68, .iload_n 1, 1), (69, .imul, 1), (70, .iload_n 2, 1), (71, .iadd, 1), (72, .aload_n 0, 1), (73, .getfield 40, 3), (76, .iload_n 2, 1)] (st' := (77, [(0, .ref 18), (1, .int x1), (2, .int x2)], [.int x2, .ref 25, .int (((nI 32) * x1) + x2), .ref 19], wd d (wm s4 rest), 0, 0)) (List.forall_mem_cons.mpr ⟨dX6_write_62, List.forall_mem_cons.mpr ⟨dX6_write_63, List.forall_mem_cons.mpr ⟨dX6_write_66, List.forall_mem_cons.mpr ⟨dX6_write_68, List.forall_mem_cons.mpr ⟨dX6_write_69, List.forall_mem_cons.mpr ⟨dX6_write_70, List.forall_mem_cons.mpr ⟨dX6_write_71, List.forall_mem_cons.mpr ⟨dX6_write_72, List.forall_mem_cons.mpr ⟨dX6_write_73, List.forall_mem_cons.mpr ⟨dX6_write_76, fun _ h => absurd h List.not_mem_nil⟩⟩⟩⟩⟩⟩⟩⟩⟩⟩) rfl ?_
      refine xldF tn_X6_write dX6_write_77 at_25 h (fun v5 h => ?_)
      refine xstF (W := fun s => wd d (wm s rest)) tn_X6_write dX6_write_78 at_19 (fun _ => set_19) h (fun s6 h => ?_)
      refine xs tn_X6_write [(79, .iinc 2 1, 3), (82, .goto (-51), 3)] (st' := (31, [(0, .ref 18), (1, .int x1), (2, .int (x2 + (nI 1)))], [], wd d (wm s6 rest), 0, 0)) (List.forall_mem_cons.mpr ⟨dX6_write_79, List.forall_mem_cons.mpr ⟨dX6_write_82, fun _ h => absurd h List.not_mem_nil⟩⟩) rfl ?_
      refine xwk [0, 1, 2] rfl rfl ?_
      exact ih _ _ _ _ h
def F_X6_write (N : Nat) (s : St) (x1 : Int32) : Option (St) := (F_X6_seal N s).bind fun s1 => stA s1 3 64 (gI s1 9) x1 fun s3 => ldA (gA s3 1) 60 x1 fun v4 => stA s3 5 64 (gI s3 9) (vp_nar .boolean v4) fun s5 => F_X6_write_31 N N s5 x1 (nI 0)
set_option maxRecDepth 100000 in
set_option maxHeartbeats 4000000 in
theorem w_X6_write {d : St} {rest : mx_W} {N : Nat} {s : St} {x1 : Int32} {r : St} (h : F_X6_write N s x1 = some r) : X 92 (0, [(0, .ref 18), (1, .int x1)], [], wd d (wm s rest), 0, 0) (none, wd d (wm r rest), 0, 0) := by
  unfold F_X6_write at h
  refine xs tn_X6_write [(0, .aload_n 0, 1)] (st' := (1, [(0, .ref 18), (1, .int x1)], [.ref 18], wd d (wm s rest), 0, 0)) (List.forall_mem_cons.mpr ⟨dX6_write_0, fun _ h => absurd h List.not_mem_nil⟩) rfl ?_
  obtain ⟨s1, h2, h⟩ := obind h
  refine xcall tn_X6_write dX6_write_1 rfl rfl (w_X6_seal h2) ?_
  show X 92 (4, [(0, .ref 18), (1, .int x1)], [], wd d (wm s1 rest), 0, 0) _
  refine xs tn_X6_write [(4, .aload_n 0, 1), (5, .getfield 31, 3), (8, .aload_n 0, 1), (9, .getfield 93, 3), (12, .iload_n 1, 1)] (st' := (13, [(0, .ref 18), (1, .int x1)], [.int x1, .int (gI s1 9), .ref 22], wd d (wm s1 rest), 0, 0)) (List.forall_mem_cons.mpr ⟨dX6_write_4, List.forall_mem_cons.mpr ⟨dX6_write_5, List.forall_mem_cons.mpr ⟨dX6_write_8, List.forall_mem_cons.mpr ⟨dX6_write_9, List.forall_mem_cons.mpr ⟨dX6_write_12, fun _ h => absurd h List.not_mem_nil⟩⟩⟩⟩⟩) rfl ?_
  refine xstF (W := fun s => wd d (wm s rest)) tn_X6_write dX6_write_13 at_22 (fun _ => set_22) h (fun s3 h => ?_)
  refine xs tn_X6_write [(14, .aload_n 0, 1), (15, .getfield 37, 3), (18, .aload_n 0, 1), (19, .getfield 93, 3), (22, .aload_n 0, 1), (23, .getfield 13, 3), (26, .iload_n 1, 1)] (st' := (27, [(0, .ref 18), (1, .int x1)], [.int x1, .ref 20, .int (gI s3 9), .ref 24], wd d (wm s3 rest), 0, 0)) (List.forall_mem_cons.mpr ⟨dX6_write_14, List.forall_mem_cons.mpr ⟨dX6_write_15, List.forall_mem_cons.mpr ⟨dX6_write_18, List.forall_mem_cons.mpr ⟨dX6_write_19, List.forall_mem_cons.mpr ⟨dX6_write_22, List.forall_mem_cons.mpr ⟨dX6_write_23, List.forall_mem_cons.mpr ⟨dX6_write_26, fun _ h => absurd h List.not_mem_nil⟩⟩⟩⟩⟩⟩⟩) rfl ?_
  refine xzldF tn_X6_write dX6_write_27 at_20 h (fun v4 h => ?_)
  refine xzstF (W := fun s => wd d (wm s rest)) tn_X6_write dX6_write_28 at_24 (fun _ => set_24) h (fun s5 h => ?_)
  refine xs tn_X6_write [(29, .iconst 0, 1), (30, .istore_n 2, 1)] (st' := (31, [(2, .int (nI 0)), (0, .ref 18), (1, .int x1)], [], wd d (wm s5 rest), 0, 0)) (List.forall_mem_cons.mpr ⟨dX6_write_29, List.forall_mem_cons.mpr ⟨dX6_write_30, fun _ h => absurd h List.not_mem_nil⟩⟩) rfl ?_
  refine xwk [0, 1, 2] rfl rfl ?_
  exact w_X6_write_31 N _ _ _ _ h
def F_X6_append (N : Nat) (s : St) : Option (Int32 × St) := (F_X6_write N s (gI s 2)).bind fun s1 => bnd (sI s1 2 ((gI s1 2) + (nI 1))) fun s3 => some ((gI s3 2) - (nI 1), s3)
set_option maxRecDepth 100000 in
set_option maxHeartbeats 4000000 in
theorem w_X6_append {d : St} {rest : mx_W} {N : Nat} {s : St} {r : Int32} {t : St} (h : F_X6_append N s = some (r, t)) : X 107 (0, [(0, .ref 18)], [], wd d (wm s rest), 0, 0) (some (.int r), wd d (wm t rest), 0, 0) := by
  unfold F_X6_append at h
  refine xs tn_X6_append [(0, .aload_n 0, 1), (1, .aload_n 0, 1), (2, .getfield 21, 3)] (st' := (5, [(0, .ref 18)], [.int (gI s 2), .ref 18], wd d (wm s rest), 0, 0)) (List.forall_mem_cons.mpr ⟨dX6_append_0, List.forall_mem_cons.mpr ⟨dX6_append_1, List.forall_mem_cons.mpr ⟨dX6_append_2, fun _ h => absurd h List.not_mem_nil⟩⟩⟩) rfl ?_
  obtain ⟨s1, h2, h⟩ := obind h
  refine xcall tn_X6_append dX6_append_5 rfl rfl (w_X6_write h2) ?_
  show X 107 (8, [(0, .ref 18)], [], wd d (wm s1 rest), 0, 0) _
  refine xs tn_X6_append [(8, .aload_n 0, 1), (9, .dup, 1), (10, .getfield 21, 3), (13, .iconst 1, 1), (14, .iadd, 1)] (st' := (15, [(0, .ref 18)], [.int ((gI s1 2) + (nI 1)), .ref 18], wd d (wm s1 rest), 0, 0)) (List.forall_mem_cons.mpr ⟨dX6_append_8, List.forall_mem_cons.mpr ⟨dX6_append_9, List.forall_mem_cons.mpr ⟨dX6_append_10, List.forall_mem_cons.mpr ⟨dX6_append_13, List.forall_mem_cons.mpr ⟨dX6_append_14, fun _ h => absurd h List.not_mem_nil⟩⟩⟩⟩⟩) rfl ?_
  refine xput_b2 tn_X6_append dX6_append_15 rfl h (fun s3 h => ?_)
  refine xs tn_X6_append [(18, .aload_n 0, 1), (19, .getfield 21, 3), (22, .iconst 1, 1), (23, .isub, 1)] (st' := (24, [(0, .ref 18)], [.int ((gI s3 2) - (nI 1))], wd d (wm s3 rest), 0, 0)) (List.forall_mem_cons.mpr ⟨dX6_append_18, List.forall_mem_cons.mpr ⟨dX6_append_19, List.forall_mem_cons.mpr ⟨dX6_append_22, List.forall_mem_cons.mpr ⟨dX6_append_23, fun _ h => absurd h List.not_mem_nil⟩⟩⟩⟩) rfl ?_
  cases h
  exact xret tn_X6_append rfl dX6_append_24
def F_X6_sumOf_19_4 (N : Nat) : Nat → St → Int32 → Int32 → Int32 → Option (Int32)
  | 0, _, _, _, _ => none
  | f + 1, s, x1, x2, x3 => bif mx_cnd .ge x3 (nI 28) then (some x2) else (ldA (gA s 0) 1920 (x1 + x3) fun v1 => F_X6_sumOf_19_4 N f s x1 ((((x2 ^^^ v1) <<< ((nI 7) &&& 31)) ||| (((x2 ^^^ v1).toUInt32 >>> ((nI 25).toUInt32 &&& Int32.toUInt32 31)).toInt32)) * (461845907 : Int32)) (x3 + (nI 1)))
set_option maxRecDepth 100000 in
set_option maxHeartbeats 4000000 in
theorem w_X6_sumOf_19_4 {d : St} {rest : mx_W} {N : Nat} : ∀ (f : Nat) (s : St) (x1 : Int32) (x2 : Int32) (x3 : Int32) (r : Int32), F_X6_sumOf_19_4 N f s x1 x2 x3 = some r → X 36 (4, [(0, .ref 19), (1, .int x1), (2, .int x2), (3, .int x3)], [], wd d (wm s rest), 0, 0) (some (.int r), wd d (wm s rest), 0, 0) := by
  intro f
  induction f with
  | zero => intro s x1 x2 x3 r h; rw [F_X6_sumOf_19_4.eq_1] at h; cases h
  | succ f ih =>
    intro s x1 x2 x3 r h
    rw [F_X6_sumOf_19_4.eq_2] at h
    refine xs tn_X6_sumOf [(4, .iload_n 3, 1), (5, .bipush 28, 2)] (st' := (7, [(0, .ref 19), (1, .int x1), (2, .int x2), (3, .int x3)], [.int (nI 28), .int x3], wd d (wm s rest), 0, 0)) (List.forall_mem_cons.mpr ⟨dX6_sumOf_4, List.forall_mem_cons.mpr ⟨dX6_sumOf_5, fun _ h => absurd h List.not_mem_nil⟩⟩) rfl ?_
    refine xcmpF (t := 40) tn_X6_sumOf dX6_sumOf_7 (by decide) h (fun h => ?_) (fun h => ?_)
    · refine xs tn_X6_sumOf [(40, .iload_n 2, 1)] (st' := (41, [(0, .ref 19), (1, .int x1), (2, .int x2), (3, .int x3)], [.int x2], wd d (wm s rest), 0, 0)) (List.forall_mem_cons.mpr ⟨dX6_sumOf_40, fun _ h => absurd h List.not_mem_nil⟩) rfl ?_
      cases h
      exact xret tn_X6_sumOf rfl dX6_sumOf_41
    · refine xs tn_X6_sumOf [(10, .iload_n 2, 1), (11, .aload_n 0, 1), (12, .iload_n 1, 1), (13, .iload_n 3, 1), (14, .iadd, 1)] (st' := (15, [(0, .ref 19), (1, .int x1), (2, .int x2), (3, .int x3)], [.int (x1 + x3), .ref 19, .int x2], wd d (wm s rest), 0, 0)) (List.forall_mem_cons.mpr ⟨dX6_sumOf_10, List.forall_mem_cons.mpr ⟨dX6_sumOf_11, List.forall_mem_cons.mpr ⟨dX6_sumOf_12, List.forall_mem_cons.mpr ⟨dX6_sumOf_13, List.forall_mem_cons.mpr ⟨dX6_sumOf_14, fun _ h => absurd h List.not_mem_nil⟩⟩⟩⟩⟩) rfl ?_
      refine xldF tn_X6_sumOf dX6_sumOf_15 at_19 h (fun v1 h => ?_)
      refine xs tn_X6_sumOf [(16, .ixor, 1), (17, .istore 4, 2), (19, .iload 4, 2), (21, .bipush 7, 2), (23, .ishl, 1), (24, .iload 4, 2), (26, .bipush 25, 2), (28, .iushr, 1), (29, .ior, 1), (30, .ldc 77, 2), (32, .imul, 1), (33, .istore_n 2, 1), (34, .iinc 3 1, 3), (37, .goto (-33), 3)] (st' := (4, [(4, .int (x2 ^^^ v1)), (0, .ref 19), (1, .int x1), (2, .int ((((x2 ^^^ v1) <<< ((nI 7) &&& 31)) ||| (((x2 ^^^ v1).toUInt32 >>> ((nI 25).toUInt32 &&& Int32.toUInt32 31)).toInt32)) * (461845907 : Int32))), (3, .int (x3 + (nI 1)))], [], wd d (wm s rest), 0, 0)) (List.forall_mem_cons.mpr ⟨dX6_sumOf_16, List.forall_mem_cons.mpr ⟨dX6_sumOf_17, List.forall_mem_cons.mpr ⟨dX6_sumOf_19, List.forall_mem_cons.mpr ⟨dX6_sumOf_21, List.forall_mem_cons.mpr ⟨dX6_sumOf_23, List.forall_mem_cons.mpr ⟨dX6_sumOf_24, List.forall_mem_cons.mpr ⟨dX6_sumOf_26, List.forall_mem_cons.mpr ⟨dX6_sumOf_28, List.forall_mem_cons.mpr ⟨dX6_sumOf_29, List.forall_mem_cons.mpr ⟨dX6_sumOf_30, List.forall_mem_cons.mpr ⟨dX6_sumOf_32, List.forall_mem_cons.mpr ⟨dX6_sumOf_33, List.forall_mem_cons.mpr ⟨dX6_sumOf_34, List.forall_mem_cons.mpr ⟨dX6_sumOf_37, fun _ h => absurd h List.not_mem_nil⟩⟩⟩⟩⟩⟩⟩⟩⟩⟩⟩⟩⟩⟩) rfl ?_
      refine xwk [0, 1, 2, 3] rfl rfl ?_
      exact ih _ _ _ _ _ h
def F_X6_sumOf_19 (N : Nat) (s : St) (x1 : Int32) : Option (Int32) := F_X6_sumOf_19_4 N N s x1 (nI 0) (nI 0)
set_option maxRecDepth 100000 in
set_option maxHeartbeats 4000000 in
theorem w_X6_sumOf_19 {d : St} {rest : mx_W} {N : Nat} {s : St} {x1 : Int32} {r : Int32} (h : F_X6_sumOf_19 N s x1 = some r) : X 36 (0, [(0, .ref 19), (1, .int x1)], [], wd d (wm s rest), 0, 0) (some (.int r), wd d (wm s rest), 0, 0) := by
  unfold F_X6_sumOf_19 at h
  refine xs tn_X6_sumOf [(0, .iconst 0, 1), (1, .istore_n 2, 1), (2, .iconst 0, 1), (3, .istore_n 3, 1)] (st' := (4, [(3, .int (nI 0)), (2, .int (nI 0)), (0, .ref 19), (1, .int x1)], [], wd d (wm s rest), 0, 0)) (List.forall_mem_cons.mpr ⟨dX6_sumOf_0, List.forall_mem_cons.mpr ⟨dX6_sumOf_1, List.forall_mem_cons.mpr ⟨dX6_sumOf_2, List.forall_mem_cons.mpr ⟨dX6_sumOf_3, fun _ h => absurd h List.not_mem_nil⟩⟩⟩⟩) rfl ?_
  refine xwk [0, 1, 2, 3] rfl rfl ?_
  exact w_X6_sumOf_19_4 N _ _ _ _ _ h
def F_X6_sortOf (N : Nat) (s : St) (x1 : Int32) : Option (Int32) := ldA (gA s 0) 1920 (((nI 32) * x1) + (nI 28)) fun v1 => ldA (gA s 0) 1920 (((nI 32) * x1) + (nI 29)) fun v2 => ldA (gA s 0) 1920 (((nI 32) * x1) + (nI 30)) fun v3 => ldA (gA s 0) 1920 (((nI 32) * x1) + (nI 31)) fun v4 => ldA (gA s 1) 60 x1 fun v5 => bif mx_cnd .ne v5 0 then (some (nI 0)) else (ldA (gA s 0) 1920 ((nI 32) * x1) fun v6 => (F_X6_in v6 (nI 1) (nI 4)).bind fun v7 => bif mx_cnd .eq v7 0 then (some (nI 0)) else ((F_X6_sumOf_19 N s ((nI 32) * x1)).bind fun v9 => bif mx_cnd .ne ((((v1 <<< ((nI 24) &&& 31)) ||| (v2 <<< ((nI 16) &&& 31))) ||| (v3 <<< ((nI 8) &&& 31))) ||| v4) v9 then (some (nI 0)) else (ldA (gA s 0) 1920 ((nI 32) * x1) fun v11 => some v11)))
set_option maxRecDepth 100000 in
set_option maxHeartbeats 4000000 in
theorem w_X6_sortOf {d : St} {rest : mx_W} {N : Nat} {s : St} {x1 : Int32} {r : Int32} (h : F_X6_sortOf N s x1 = some r) : X 65 (0, [(0, .ref 18), (1, .int x1)], [], wd d (wm s rest), 0, 0) (some (.int r), wd d (wm s rest), 0, 0) := by
  unfold F_X6_sortOf at h
  refine xs tn_X6_sortOf [(0, .bipush 32, 2), (2, .iload_n 1, 1), (3, .imul, 1), (4, .istore_n 2, 1), (5, .aload_n 0, 1), (6, .getfield 7, 3), (9, .iload_n 2, 1), (10, .bipush 28, 2), (12, .iadd, 1)] (st' := (13, [(2, .int ((nI 32) * x1)), (0, .ref 18), (1, .int x1)], [.int (((nI 32) * x1) + (nI 28)), .ref 19], wd d (wm s rest), 0, 0)) (List.forall_mem_cons.mpr ⟨dX6_sortOf_0, List.forall_mem_cons.mpr ⟨dX6_sortOf_2, List.forall_mem_cons.mpr ⟨dX6_sortOf_3, List.forall_mem_cons.mpr ⟨dX6_sortOf_4, List.forall_mem_cons.mpr ⟨dX6_sortOf_5, List.forall_mem_cons.mpr ⟨dX6_sortOf_6, List.forall_mem_cons.mpr ⟨dX6_sortOf_9, List.forall_mem_cons.mpr ⟨dX6_sortOf_10, List.forall_mem_cons.mpr ⟨dX6_sortOf_12, fun _ h => absurd h List.not_mem_nil⟩⟩⟩⟩⟩⟩⟩⟩⟩) rfl ?_
  refine xldF tn_X6_sortOf dX6_sortOf_13 at_19 h (fun v1 h => ?_)
  refine xs tn_X6_sortOf [(14, .bipush 24, 2), (16, .ishl, 1), (17, .aload_n 0, 1), (18, .getfield 7, 3), (21, .iload_n 2, 1), (22, .bipush 29, 2), (24, .iadd, 1)] (st' := (25, [(2, .int ((nI 32) * x1)), (0, .ref 18), (1, .int x1)], [.int (((nI 32) * x1) + (nI 29)), .ref 19, .int (v1 <<< ((nI 24) &&& 31))], wd d (wm s rest), 0, 0)) (List.forall_mem_cons.mpr ⟨dX6_sortOf_14, List.forall_mem_cons.mpr ⟨dX6_sortOf_16, List.forall_mem_cons.mpr ⟨dX6_sortOf_17, List.forall_mem_cons.mpr ⟨dX6_sortOf_18, List.forall_mem_cons.mpr ⟨dX6_sortOf_21, List.forall_mem_cons.mpr ⟨dX6_sortOf_22, List.forall_mem_cons.mpr ⟨dX6_sortOf_24, fun _ h => absurd h List.not_mem_nil⟩⟩⟩⟩⟩⟩⟩) rfl ?_
  refine xldF tn_X6_sortOf dX6_sortOf_25 at_19 h (fun v2 h => ?_)
  refine xs tn_X6_sortOf [(26, .bipush 16, 2), (28, .ishl, 1), (29, .ior, 1), (30, .aload_n 0, 1), (31, .getfield 7, 3), (34, .iload_n 2, 1), (35, .bipush 30, 2), (37, .iadd, 1)] (st' := (38, [(2, .int ((nI 32) * x1)), (0, .ref 18), (1, .int x1)], [.int (((nI 32) * x1) + (nI 30)), .ref 19, .int ((v1 <<< ((nI 24) &&& 31)) ||| (v2 <<< ((nI 16) &&& 31)))], wd d (wm s rest), 0, 0)) (List.forall_mem_cons.mpr ⟨dX6_sortOf_26, List.forall_mem_cons.mpr ⟨dX6_sortOf_28, List.forall_mem_cons.mpr ⟨dX6_sortOf_29, List.forall_mem_cons.mpr ⟨dX6_sortOf_30, List.forall_mem_cons.mpr ⟨dX6_sortOf_31, List.forall_mem_cons.mpr ⟨dX6_sortOf_34, List.forall_mem_cons.mpr ⟨dX6_sortOf_35, List.forall_mem_cons.mpr ⟨dX6_sortOf_37, fun _ h => absurd h List.not_mem_nil⟩⟩⟩⟩⟩⟩⟩⟩) rfl ?_
  refine xldF tn_X6_sortOf dX6_sortOf_38 at_19 h (fun v3 h => ?_)
  refine xs tn_X6_sortOf [(39, .bipush 8, 2), (41, .ishl, 1), (42, .ior, 1), (43, .aload_n 0, 1), (44, .getfield 7, 3), (47, .iload_n 2, 1), (48, .bipush 31, 2), (50, .iadd, 1)] (st' := (51, [(2, .int ((nI 32) * x1)), (0, .ref 18), (1, .int x1)], [.int (((nI 32) * x1) + (nI 31)), .ref 19, .int (((v1 <<< ((nI 24) &&& 31)) ||| (v2 <<< ((nI 16) &&& 31))) ||| (v3 <<< ((nI 8) &&& 31)))], wd d (wm s rest), 0, 0)) (List.forall_mem_cons.mpr ⟨dX6_sortOf_39, List.forall_mem_cons.mpr ⟨dX6_sortOf_41, List.forall_mem_cons.mpr ⟨dX6_sortOf_42, List.forall_mem_cons.mpr ⟨dX6_sortOf_43, List.forall_mem_cons.mpr ⟨dX6_sortOf_44, List.forall_mem_cons.mpr ⟨dX6_sortOf_47, List.forall_mem_cons.mpr ⟨dX6_sortOf_48, List.forall_mem_cons.mpr ⟨dX6_sortOf_50, fun _ h => absurd h List.not_mem_nil⟩⟩⟩⟩⟩⟩⟩⟩) rfl ?_
  refine xldF tn_X6_sortOf dX6_sortOf_51 at_19 h (fun v4 h => ?_)
  refine xs tn_X6_sortOf [(52, .ior, 1), (53, .istore_n 3, 1), (54, .aload_n 0, 1), (55, .getfield 13, 3), (58, .iload_n 1, 1)] (st' := (59, [(3, .int ((((v1 <<< ((nI 24) &&& 31)) ||| (v2 <<< ((nI 16) &&& 31))) ||| (v3 <<< ((nI 8) &&& 31))) ||| v4)), (2, .int ((nI 32) * x1)), (0, .ref 18), (1, .int x1)], [.int x1, .ref 20], wd d (wm s rest), 0, 0)) (List.forall_mem_cons.mpr ⟨dX6_sortOf_52, List.forall_mem_cons.mpr ⟨dX6_sortOf_53, List.forall_mem_cons.mpr ⟨dX6_sortOf_54, List.forall_mem_cons.mpr ⟨dX6_sortOf_55, List.forall_mem_cons.mpr ⟨dX6_sortOf_58, fun _ h => absurd h List.not_mem_nil⟩⟩⟩⟩⟩) rfl ?_
  refine xzldF tn_X6_sortOf dX6_sortOf_59 at_20 h (fun v5 h => ?_)
  refine xifF (t := 98) tn_X6_sortOf dX6_sortOf_60 (by decide) h (fun h => ?_) (fun h => ?_)
  · refine xs tn_X6_sortOf [(98, .iconst 0, 1)] (st' := (99, [(3, .int ((((v1 <<< ((nI 24) &&& 31)) ||| (v2 <<< ((nI 16) &&& 31))) ||| (v3 <<< ((nI 8) &&& 31))) ||| v4)), (2, .int ((nI 32) * x1)), (0, .ref 18), (1, .int x1)], [.int (nI 0)], wd d (wm s rest), 0, 0)) (List.forall_mem_cons.mpr ⟨dX6_sortOf_98, fun _ h => absurd h List.not_mem_nil⟩) rfl ?_
    cases h
    exact xret tn_X6_sortOf rfl dX6_sortOf_99
  · refine xs tn_X6_sortOf [(63, .aload_n 0, 1), (64, .getfield 7, 3), (67, .iload_n 2, 1)] (st' := (68, [(3, .int ((((v1 <<< ((nI 24) &&& 31)) ||| (v2 <<< ((nI 16) &&& 31))) ||| (v3 <<< ((nI 8) &&& 31))) ||| v4)), (2, .int ((nI 32) * x1)), (0, .ref 18), (1, .int x1)], [.int ((nI 32) * x1), .ref 19], wd d (wm s rest), 0, 0)) (List.forall_mem_cons.mpr ⟨dX6_sortOf_63, List.forall_mem_cons.mpr ⟨dX6_sortOf_64, List.forall_mem_cons.mpr ⟨dX6_sortOf_67, fun _ h => absurd h List.not_mem_nil⟩⟩⟩) rfl ?_
    refine xldF tn_X6_sortOf dX6_sortOf_68 at_19 h (fun v6 h => ?_)
    refine xs tn_X6_sortOf [(69, .iconst 1, 1), (70, .iconst 4, 1)] (st' := (71, [(3, .int ((((v1 <<< ((nI 24) &&& 31)) ||| (v2 <<< ((nI 16) &&& 31))) ||| (v3 <<< ((nI 8) &&& 31))) ||| v4)), (2, .int ((nI 32) * x1)), (0, .ref 18), (1, .int x1)], [.int (nI 4), .int (nI 1), .int v6], wd d (wm s rest), 0, 0)) (List.forall_mem_cons.mpr ⟨dX6_sortOf_69, List.forall_mem_cons.mpr ⟨dX6_sortOf_70, fun _ h => absurd h List.not_mem_nil⟩⟩) rfl ?_
    obtain ⟨v7, h8, h⟩ := obind h
    refine xcall tn_X6_sortOf dX6_sortOf_71 rfl rfl (w_X6_in h8) ?_
    show X 65 (74, [(3, .int ((((v1 <<< ((nI 24) &&& 31)) ||| (v2 <<< ((nI 16) &&& 31))) ||| (v3 <<< ((nI 8) &&& 31))) ||| v4)), (2, .int ((nI 32) * x1)), (0, .ref 18), (1, .int x1)], [.int v7], wd d (wm s rest), 0, 0) _
    refine xifF (t := 98) tn_X6_sortOf dX6_sortOf_74 (by decide) h (fun h => ?_) (fun h => ?_)
    · refine xs tn_X6_sortOf [(98, .iconst 0, 1)] (st' := (99, [(3, .int ((((v1 <<< ((nI 24) &&& 31)) ||| (v2 <<< ((nI 16) &&& 31))) ||| (v3 <<< ((nI 8) &&& 31))) ||| v4)), (2, .int ((nI 32) * x1)), (0, .ref 18), (1, .int x1)], [.int (nI 0)], wd d (wm s rest), 0, 0)) (List.forall_mem_cons.mpr ⟨dX6_sortOf_98, fun _ h => absurd h List.not_mem_nil⟩) rfl ?_
      cases h
      exact xret tn_X6_sortOf rfl dX6_sortOf_99
    · refine xs tn_X6_sortOf [(77, .iload_n 3, 1), (78, .aload_n 0, 1), (79, .getfield 7, 3), (82, .iload_n 2, 1)] (st' := (83, [(3, .int ((((v1 <<< ((nI 24) &&& 31)) ||| (v2 <<< ((nI 16) &&& 31))) ||| (v3 <<< ((nI 8) &&& 31))) ||| v4)), (2, .int ((nI 32) * x1)), (0, .ref 18), (1, .int x1)], [.int ((nI 32) * x1), .ref 19, .int ((((v1 <<< ((nI 24) &&& 31)) ||| (v2 <<< ((nI 16) &&& 31))) ||| (v3 <<< ((nI 8) &&& 31))) ||| v4)], wd d (wm s rest), 0, 0)) (List.forall_mem_cons.mpr ⟨dX6_sortOf_77, List.forall_mem_cons.mpr ⟨dX6_sortOf_78, List.forall_mem_cons.mpr ⟨dX6_sortOf_79, List.forall_mem_cons.mpr ⟨dX6_sortOf_82, fun _ h => absurd h List.not_mem_nil⟩⟩⟩⟩) rfl ?_
      obtain ⟨v9, h10, h⟩ := obind h
      refine xcall tn_X6_sortOf dX6_sortOf_83 rfl rfl (w_X6_sumOf_19 h10) ?_
      show X 65 (86, [(3, .int ((((v1 <<< ((nI 24) &&& 31)) ||| (v2 <<< ((nI 16) &&& 31))) ||| (v3 <<< ((nI 8) &&& 31))) ||| v4)), (2, .int ((nI 32) * x1)), (0, .ref 18), (1, .int x1)], [.int v9, .int ((((v1 <<< ((nI 24) &&& 31)) ||| (v2 <<< ((nI 16) &&& 31))) ||| (v3 <<< ((nI 8) &&& 31))) ||| v4)], wd d (wm s rest), 0, 0) _
      refine xcmpF (t := 98) tn_X6_sortOf dX6_sortOf_86 (by decide) h (fun h => ?_) (fun h => ?_)
      · refine xs tn_X6_sortOf [(98, .iconst 0, 1)] (st' := (99, [(3, .int ((((v1 <<< ((nI 24) &&& 31)) ||| (v2 <<< ((nI 16) &&& 31))) ||| (v3 <<< ((nI 8) &&& 31))) ||| v4)), (2, .int ((nI 32) * x1)), (0, .ref 18), (1, .int x1)], [.int (nI 0)], wd d (wm s rest), 0, 0)) (List.forall_mem_cons.mpr ⟨dX6_sortOf_98, fun _ h => absurd h List.not_mem_nil⟩) rfl ?_
        cases h
        exact xret tn_X6_sortOf rfl dX6_sortOf_99
      · refine xs tn_X6_sortOf [(89, .aload_n 0, 1), (90, .getfield 7, 3), (93, .iload_n 2, 1)] (st' := (94, [(3, .int ((((v1 <<< ((nI 24) &&& 31)) ||| (v2 <<< ((nI 16) &&& 31))) ||| (v3 <<< ((nI 8) &&& 31))) ||| v4)), (2, .int ((nI 32) * x1)), (0, .ref 18), (1, .int x1)], [.int ((nI 32) * x1), .ref 19], wd d (wm s rest), 0, 0)) (List.forall_mem_cons.mpr ⟨dX6_sortOf_89, List.forall_mem_cons.mpr ⟨dX6_sortOf_90, List.forall_mem_cons.mpr ⟨dX6_sortOf_93, fun _ h => absurd h List.not_mem_nil⟩⟩⟩) rfl ?_
        refine xldF tn_X6_sortOf dX6_sortOf_94 at_19 h (fun v11 h => ?_)
        refine xs tn_X6_sortOf [(95, .goto 4, 3)] (st' := (99, [(3, .int ((((v1 <<< ((nI 24) &&& 31)) ||| (v2 <<< ((nI 16) &&& 31))) ||| (v3 <<< ((nI 8) &&& 31))) ||| v4)), (2, .int ((nI 32) * x1)), (0, .ref 18), (1, .int x1)], [.int v11], wd d (wm s rest), 0, 0)) (List.forall_mem_cons.mpr ⟨dX6_sortOf_95, fun _ h => absurd h List.not_mem_nil⟩) rfl ?_
        cases h
        exact xret tn_X6_sortOf rfl dX6_sortOf_99
def F_X6_blockFor_80 (N : Nat) (K : St → Int32 → Option (Int32 × St)) : Nat → St → Int32 → Int32 → Int32 → Option (Int32 × St)
  | 0, _, _, _, _ => none
  | f + 1, s, x2, x3, x4 => bif mx_cnd .ge x4 (nI 24) then (bif mx_cnd .eq x3 0 then (K s (x2 + (nI 1))) else (bnd (sI s 6 ((gI s 6) + (nI 1))) fun s1 => some (x2, s1))) else (bif mx_cnd .eq x3 0 then (bif mx_cnd .eq x3 0 then (K s (x2 + (nI 1))) else (bnd (sI s 6 ((gI s 6) + (nI 1))) fun s2 => some (x2, s2))) else (ldA (gA s 0) 1920 ((((nI 32) * x2) + (nI 4)) + x4) fun v3 => ldA (gA s 6) 32 ((nI 4) + x4) fun v4 => bif mx_cnd .ne v3 v4 then (F_X6_blockFor_80 N K f s x2 (nI 0) (x4 + (nI 1))) else (F_X6_blockFor_80 N K f s x2 (nI 1) (x4 + (nI 1)))))
set_option maxRecDepth 100000 in
set_option maxHeartbeats 4000000 in
theorem w_X6_blockFor_80 {d : St} {rest : mx_W} {N : Nat} {K : St → Int32 → Option (Int32 × St)} (hK : ∀ (s : St) (x2 : Int32) (r : Int32) (t : St), K s x2 = some (r, t) → X 124 (54, [(0, .ref 18), (2, .int x2)], [], wd d (wm s rest), 0, 0) (some (.int r), wd d (wm t rest), 0, 0)) : ∀ (f : Nat) (s : St) (x2 : Int32) (x3 : Int32) (x4 : Int32) (r : Int32) (t : St), F_X6_blockFor_80 N K f s x2 x3 x4 = some (r, t) → X 124 (80, [(0, .ref 18), (2, .int x2), (3, .int x3), (4, .int x4)], [], wd d (wm s rest), 0, 0) (some (.int r), wd d (wm t rest), 0, 0) := by
  intro f
  induction f with
  | zero => intro s x2 x3 x4 r t h; rw [F_X6_blockFor_80.eq_1] at h; cases h
  | succ f ih =>
    intro s x2 x3 x4 r t h
    rw [F_X6_blockFor_80.eq_2] at h
    refine xs tn_X6_blockFor [(80, .iload 4, 2), (82, .bipush 24, 2)] (st' := (84, [(0, .ref 18), (2, .int x2), (3, .int x3), (4, .int x4)], [.int (nI 24), .int x4], wd d (wm s rest), 0, 0)) (List.forall_mem_cons.mpr ⟨dX6_blockFor_80, List.forall_mem_cons.mpr ⟨dX6_blockFor_82, fun _ h => absurd h List.not_mem_nil⟩⟩) rfl ?_
    refine xcmpF (t := 129) tn_X6_blockFor dX6_blockFor_84 (by decide) h (fun h => ?_) (fun h => ?_)
    · refine xs tn_X6_blockFor [(129, .iload_n 3, 1)] (st' := (130, [(0, .ref 18), (2, .int x2), (3, .int x3), (4, .int x4)], [.int x3], wd d (wm s rest), 0, 0)) (List.forall_mem_cons.mpr ⟨dX6_blockFor_129, fun _ h => absurd h List.not_mem_nil⟩) rfl ?_
      refine xifF (t := 145) tn_X6_blockFor dX6_blockFor_130 (by decide) h (fun h => ?_) (fun h => ?_)
      · refine xs tn_X6_blockFor [(145, .iinc 2 1, 3), (148, .goto (-94), 3)] (st' := (54, [(0, .ref 18), (2, .int (x2 + (nI 1))), (3, .int x3), (4, .int x4)], [], wd d (wm s rest), 0, 0)) (List.forall_mem_cons.mpr ⟨dX6_blockFor_145, List.forall_mem_cons.mpr ⟨dX6_blockFor_148, fun _ h => absurd h List.not_mem_nil⟩⟩) rfl ?_
        refine xwk [0, 2] rfl rfl ?_
        exact hK _ _ _ _ h
      · refine xs tn_X6_blockFor [(133, .aload_n 0, 1), (134, .dup, 1), (135, .getfield 125, 3), (138, .iconst 1, 1), (139, .iadd, 1)] (st' := (140, [(0, .ref 18), (2, .int x2), (3, .int x3), (4, .int x4)], [.int ((gI s 6) + (nI 1)), .ref 18], wd d (wm s rest), 0, 0)) (List.forall_mem_cons.mpr ⟨dX6_blockFor_133, List.forall_mem_cons.mpr ⟨dX6_blockFor_134, List.forall_mem_cons.mpr ⟨dX6_blockFor_135, List.forall_mem_cons.mpr ⟨dX6_blockFor_138, List.forall_mem_cons.mpr ⟨dX6_blockFor_139, fun _ h => absurd h List.not_mem_nil⟩⟩⟩⟩⟩) rfl ?_
        refine xput_b6 tn_X6_blockFor dX6_blockFor_140 rfl h (fun s1 h => ?_)
        refine xs tn_X6_blockFor [(143, .iload_n 2, 1)] (st' := (144, [(0, .ref 18), (2, .int x2), (3, .int x3), (4, .int x4)], [.int x2], wd d (wm s1 rest), 0, 0)) (List.forall_mem_cons.mpr ⟨dX6_blockFor_143, fun _ h => absurd h List.not_mem_nil⟩) rfl ?_
        cases h
        exact xret tn_X6_blockFor rfl dX6_blockFor_144
    · refine xs tn_X6_blockFor [(87, .iload_n 3, 1)] (st' := (88, [(0, .ref 18), (2, .int x2), (3, .int x3), (4, .int x4)], [.int x3], wd d (wm s rest), 0, 0)) (List.forall_mem_cons.mpr ⟨dX6_blockFor_87, fun _ h => absurd h List.not_mem_nil⟩) rfl ?_
      refine xifF (t := 129) tn_X6_blockFor dX6_blockFor_88 (by decide) h (fun h => ?_) (fun h => ?_)
      · refine xs tn_X6_blockFor [(129, .iload_n 3, 1)] (st' := (130, [(0, .ref 18), (2, .int x2), (3, .int x3), (4, .int x4)], [.int x3], wd d (wm s rest), 0, 0)) (List.forall_mem_cons.mpr ⟨dX6_blockFor_129, fun _ h => absurd h List.not_mem_nil⟩) rfl ?_
        refine xifF (t := 145) tn_X6_blockFor dX6_blockFor_130 (by decide) h (fun h => ?_) (fun h => ?_)
        · refine xs tn_X6_blockFor [(145, .iinc 2 1, 3), (148, .goto (-94), 3)] (st' := (54, [(0, .ref 18), (2, .int (x2 + (nI 1))), (3, .int x3), (4, .int x4)], [], wd d (wm s rest), 0, 0)) (List.forall_mem_cons.mpr ⟨dX6_blockFor_145, List.forall_mem_cons.mpr ⟨dX6_blockFor_148, fun _ h => absurd h List.not_mem_nil⟩⟩) rfl ?_
          refine xwk [0, 2] rfl rfl ?_
          exact hK _ _ _ _ h
        · refine xs tn_X6_blockFor [(133, .aload_n 0, 1), (134, .dup, 1), (135, .getfield 125, 3), (138, .iconst 1, 1), (139, .iadd, 1)] (st' := (140, [(0, .ref 18), (2, .int x2), (3, .int x3), (4, .int x4)], [.int ((gI s 6) + (nI 1)), .ref 18], wd d (wm s rest), 0, 0)) (List.forall_mem_cons.mpr ⟨dX6_blockFor_133, List.forall_mem_cons.mpr ⟨dX6_blockFor_134, List.forall_mem_cons.mpr ⟨dX6_blockFor_135, List.forall_mem_cons.mpr ⟨dX6_blockFor_138, List.forall_mem_cons.mpr ⟨dX6_blockFor_139, fun _ h => absurd h List.not_mem_nil⟩⟩⟩⟩⟩) rfl ?_
          refine xput_b6 tn_X6_blockFor dX6_blockFor_140 rfl h (fun s2 h => ?_)
          refine xs tn_X6_blockFor [(143, .iload_n 2, 1)] (st' := (144, [(0, .ref 18), (2, .int x2), (3, .int x3), (4, .int x4)], [.int x2], wd d (wm s2 rest), 0, 0)) (List.forall_mem_cons.mpr ⟨dX6_blockFor_143, fun _ h => absurd h List.not_mem_nil⟩) rfl ?_
          cases h
          exact xret tn_X6_blockFor rfl dX6_blockFor_144
      · refine xs tn_X6_blockFor [(91, .aload_n 0, 1), (92, .getfield 7, 3), (95, .bipush 32, 2), (97, .iload_n 2, 1), (98, .imul, 1), (99, .iconst 4, 1), (100, .iadd, 1), (101, .iload 4, 2), (103, .iadd, 1)] (st' := (104, [(0, .ref 18), (2, .int x2), (3, .int x3), (4, .int x4)], [.int ((((nI 32) * x2) + (nI 4)) + x4), .ref 19], wd d (wm s rest), 0, 0)) (List.forall_mem_cons.mpr ⟨dX6_blockFor_91, List.forall_mem_cons.mpr ⟨dX6_blockFor_92, List.forall_mem_cons.mpr ⟨dX6_blockFor_95, List.forall_mem_cons.mpr ⟨dX6_blockFor_97, List.forall_mem_cons.mpr ⟨dX6_blockFor_98, List.forall_mem_cons.mpr ⟨dX6_blockFor_99, List.forall_mem_cons.mpr ⟨dX6_blockFor_100, List.forall_mem_cons.mpr ⟨dX6_blockFor_101, List.forall_mem_cons.mpr ⟨dX6_blockFor_103, fun _ h => absurd h List.not_mem_nil⟩⟩⟩⟩⟩⟩⟩⟩⟩) rfl ?_
        refine xldF tn_X6_blockFor dX6_blockFor_104 at_19 h (fun v3 h => ?_)
        refine xs tn_X6_blockFor [(105, .aload_n 0, 1), (106, .getfield 40, 3), (109, .iconst 4, 1), (110, .iload 4, 2), (112, .iadd, 1)] (st' := (113, [(0, .ref 18), (2, .int x2), (3, .int x3), (4, .int x4)], [.int ((nI 4) + x4), .ref 25, .int v3], wd d (wm s rest), 0, 0)) (List.forall_mem_cons.mpr ⟨dX6_blockFor_105, List.forall_mem_cons.mpr ⟨dX6_blockFor_106, List.forall_mem_cons.mpr ⟨dX6_blockFor_109, List.forall_mem_cons.mpr ⟨dX6_blockFor_110, List.forall_mem_cons.mpr ⟨dX6_blockFor_112, fun _ h => absurd h List.not_mem_nil⟩⟩⟩⟩⟩) rfl ?_
        refine xldF tn_X6_blockFor dX6_blockFor_113 at_25 h (fun v4 h => ?_)
        refine xcmpF (t := 121) tn_X6_blockFor dX6_blockFor_114 (by decide) h (fun h => ?_) (fun h => ?_)
        · refine xs tn_X6_blockFor [(121, .iconst 0, 1), (122, .istore_n 3, 1), (123, .iinc 4 1, 3), (126, .goto (-46), 3)] (st' := (80, [(0, .ref 18), (2, .int x2), (3, .int (nI 0)), (4, .int (x4 + (nI 1)))], [], wd d (wm s rest), 0, 0)) (List.forall_mem_cons.mpr ⟨dX6_blockFor_121, List.forall_mem_cons.mpr ⟨dX6_blockFor_122, List.forall_mem_cons.mpr ⟨dX6_blockFor_123, List.forall_mem_cons.mpr ⟨dX6_blockFor_126, fun _ h => absurd h List.not_mem_nil⟩⟩⟩⟩) rfl ?_
          refine xwk [0, 2, 3, 4] rfl rfl ?_
          exact ih _ _ _ _ _ _ h
        · refine xs tn_X6_blockFor [(117, .iconst 1, 1), (118, .goto 4, 3), (122, .istore_n 3, 1), (123, .iinc 4 1, 3), (126, .goto (-46), 3)] (st' := (80, [(0, .ref 18), (2, .int x2), (3, .int (nI 1)), (4, .int (x4 + (nI 1)))], [], wd d (wm s rest), 0, 0)) (List.forall_mem_cons.mpr ⟨dX6_blockFor_117, List.forall_mem_cons.mpr ⟨dX6_blockFor_118, List.forall_mem_cons.mpr ⟨dX6_blockFor_122, List.forall_mem_cons.mpr ⟨dX6_blockFor_123, List.forall_mem_cons.mpr ⟨dX6_blockFor_126, fun _ h => absurd h List.not_mem_nil⟩⟩⟩⟩⟩) rfl ?_
          refine xwk [0, 2, 3, 4] rfl rfl ?_
          exact ih _ _ _ _ _ _ h
def F_X6_blockFor_54 (N : Nat) : Nat → St → Int32 → Option (Int32 × St)
  | 0, _, _ => none
  | f + 1, s, x2 => bif mx_cnd .ge x2 (gI s 2) then (bindP (F_X6_append N s) fun v1 s2 => some (v1, s2)) else ((F_X6_sortOf N s x2).bind fun v4 => bif mx_cnd .ne v4 (nI 2) then (F_X6_blockFor_80 N (F_X6_blockFor_54 N f) N s x2 (nI 0) (nI 0)) else (F_X6_blockFor_80 N (F_X6_blockFor_54 N f) N s x2 (nI 1) (nI 0)))
set_option maxRecDepth 100000 in
set_option maxHeartbeats 4000000 in
theorem w_X6_blockFor_54 {d : St} {rest : mx_W} {N : Nat} : ∀ (f : Nat) (s : St) (x2 : Int32) (r : Int32) (t : St), F_X6_blockFor_54 N f s x2 = some (r, t) → X 124 (54, [(0, .ref 18), (2, .int x2)], [], wd d (wm s rest), 0, 0) (some (.int r), wd d (wm t rest), 0, 0) := by
  intro f
  induction f with
  | zero => intro s x2 r t h; rw [F_X6_blockFor_54.eq_1] at h; cases h
  | succ f ih =>
    intro s x2 r t h
    rw [F_X6_blockFor_54.eq_2] at h
    refine xs tn_X6_blockFor [(54, .iload_n 2, 1), (55, .aload_n 0, 1), (56, .getfield 21, 3)] (st' := (59, [(0, .ref 18), (2, .int x2)], [.int (gI s 2), .int x2], wd d (wm s rest), 0, 0)) (List.forall_mem_cons.mpr ⟨dX6_blockFor_54, List.forall_mem_cons.mpr ⟨dX6_blockFor_55, List.forall_mem_cons.mpr ⟨dX6_blockFor_56, fun _ h => absurd h List.not_mem_nil⟩⟩⟩) rfl ?_
    refine xcmpF (t := 151) tn_X6_blockFor dX6_blockFor_59 (by decide) h (fun h => ?_) (fun h => ?_)
    · refine xs tn_X6_blockFor [(151, .aload_n 0, 1)] (st' := (152, [(0, .ref 18), (2, .int x2)], [.ref 18], wd d (wm s rest), 0, 0)) (List.forall_mem_cons.mpr ⟨dX6_blockFor_151, fun _ h => absurd h List.not_mem_nil⟩) rfl ?_
      obtain ⟨v1, s2, h3, h⟩ := obindP h
      refine xcall tn_X6_blockFor dX6_blockFor_152 rfl rfl (w_X6_append h3) ?_
      show X 124 (155, [(0, .ref 18), (2, .int x2)], [.int v1], wd d (wm s2 rest), 0, 0) _
      cases h
      exact xret tn_X6_blockFor rfl dX6_blockFor_155
    · refine xs tn_X6_blockFor [(62, .aload_n 0, 1), (63, .iload_n 2, 1)] (st' := (64, [(0, .ref 18), (2, .int x2)], [.int x2, .ref 18], wd d (wm s rest), 0, 0)) (List.forall_mem_cons.mpr ⟨dX6_blockFor_62, List.forall_mem_cons.mpr ⟨dX6_blockFor_63, fun _ h => absurd h List.not_mem_nil⟩⟩) rfl ?_
      obtain ⟨v4, h5, h⟩ := obind h
      refine xcall tn_X6_blockFor dX6_blockFor_64 rfl rfl (w_X6_sortOf h5) ?_
      show X 124 (67, [(0, .ref 18), (2, .int x2)], [.int v4], wd d (wm s rest), 0, 0) _
      refine xs tn_X6_blockFor [(67, .iconst 2, 1)] (st' := (68, [(0, .ref 18), (2, .int x2)], [.int (nI 2), .int v4], wd d (wm s rest), 0, 0)) (List.forall_mem_cons.mpr ⟨dX6_blockFor_67, fun _ h => absurd h List.not_mem_nil⟩) rfl ?_
      refine xcmpF (t := 75) tn_X6_blockFor dX6_blockFor_68 (by decide) h (fun h => ?_) (fun h => ?_)
      · refine xs tn_X6_blockFor [(75, .iconst 0, 1), (76, .istore_n 3, 1), (77, .iconst 0, 1), (78, .istore 4, 2)] (st' := (80, [(4, .int (nI 0)), (3, .int (nI 0)), (0, .ref 18), (2, .int x2)], [], wd d (wm s rest), 0, 0)) (List.forall_mem_cons.mpr ⟨dX6_blockFor_75, List.forall_mem_cons.mpr ⟨dX6_blockFor_76, List.forall_mem_cons.mpr ⟨dX6_blockFor_77, List.forall_mem_cons.mpr ⟨dX6_blockFor_78, fun _ h => absurd h List.not_mem_nil⟩⟩⟩⟩) rfl ?_
        refine xwk [0, 2, 3, 4] rfl rfl ?_
        exact w_X6_blockFor_80 ih N _ _ _ _ _ _ h
      · refine xs tn_X6_blockFor [(71, .iconst 1, 1), (72, .goto 4, 3), (76, .istore_n 3, 1), (77, .iconst 0, 1), (78, .istore 4, 2)] (st' := (80, [(4, .int (nI 0)), (3, .int (nI 1)), (0, .ref 18), (2, .int x2)], [], wd d (wm s rest), 0, 0)) (List.forall_mem_cons.mpr ⟨dX6_blockFor_71, List.forall_mem_cons.mpr ⟨dX6_blockFor_72, List.forall_mem_cons.mpr ⟨dX6_blockFor_76, List.forall_mem_cons.mpr ⟨dX6_blockFor_77, List.forall_mem_cons.mpr ⟨dX6_blockFor_78, fun _ h => absurd h List.not_mem_nil⟩⟩⟩⟩⟩) rfl ?_
        refine xwk [0, 2, 3, 4] rfl rfl ?_
        exact w_X6_blockFor_80 ih N _ _ _ _ _ _ h
def F_X6_blockFor_10 (N : Nat) : Nat → St → Int32 → Int32 → Option (Int32 × St)
  | 0, _, _, _ => none
  | f + 1, s, x1, x2 => bif mx_cnd .ge x2 (nI 24) then (F_X6_blockFor_54 N N s (nI 2)) else (bif mx_cnd .ge (x1 + x2) (gI s 8) then (stA s 6 32 ((nI 4) + x2) (nI 0) fun s1 => F_X6_blockFor_10 N f s1 x1 (x2 + (nI 1))) else (ldA (gA s 2) 96 (x1 + x2) fun v2 => stA s 6 32 ((nI 4) + x2) v2 fun s3 => F_X6_blockFor_10 N f s3 x1 (x2 + (nI 1))))
set_option maxRecDepth 100000 in
set_option maxHeartbeats 4000000 in
theorem w_X6_blockFor_10 {d : St} {rest : mx_W} {N : Nat} : ∀ (f : Nat) (s : St) (x1 : Int32) (x2 : Int32) (r : Int32) (t : St), F_X6_blockFor_10 N f s x1 x2 = some (r, t) → X 124 (10, [(0, .ref 18), (1, .int x1), (2, .int x2)], [], wd d (wm s rest), 0, 0) (some (.int r), wd d (wm t rest), 0, 0) := by
  intro f
  induction f with
  | zero => intro s x1 x2 r t h; rw [F_X6_blockFor_10.eq_1] at h; cases h
  | succ f ih =>
    intro s x1 x2 r t h
    rw [F_X6_blockFor_10.eq_2] at h
    refine xs tn_X6_blockFor [(10, .iload_n 2, 1), (11, .bipush 24, 2)] (st' := (13, [(0, .ref 18), (1, .int x1), (2, .int x2)], [.int (nI 24), .int x2], wd d (wm s rest), 0, 0)) (List.forall_mem_cons.mpr ⟨dX6_blockFor_10, List.forall_mem_cons.mpr ⟨dX6_blockFor_11, fun _ h => absurd h List.not_mem_nil⟩⟩) rfl ?_
    refine xcmpF (t := 52) tn_X6_blockFor dX6_blockFor_13 (by decide) h (fun h => ?_) (fun h => ?_)
    · refine xs tn_X6_blockFor [(52, .iconst 2, 1), (53, .istore_n 2, 1)] (st' := (54, [(0, .ref 18), (1, .int x1), (2, .int (nI 2))], [], wd d (wm s rest), 0, 0)) (List.forall_mem_cons.mpr ⟨dX6_blockFor_52, List.forall_mem_cons.mpr ⟨dX6_blockFor_53, fun _ h => absurd h List.not_mem_nil⟩⟩) rfl ?_
      refine xwk [0, 2] rfl rfl ?_
      exact w_X6_blockFor_54 N _ _ _ _ h
    · refine xs tn_X6_blockFor [(16, .aload_n 0, 1), (17, .getfield 40, 3), (20, .iconst 4, 1), (21, .iload_n 2, 1), (22, .iadd, 1), (23, .iload_n 1, 1), (24, .iload_n 2, 1), (25, .iadd, 1), (26, .aload_n 0, 1), (27, .getfield 116, 3)] (st' := (30, [(0, .ref 18), (1, .int x1), (2, .int x2)], [.int (gI s 8), .int (x1 + x2), .int ((nI 4) + x2), .ref 25], wd d (wm s rest), 0, 0)) (List.forall_mem_cons.mpr ⟨dX6_blockFor_16, List.forall_mem_cons.mpr ⟨dX6_blockFor_17, List.forall_mem_cons.mpr ⟨dX6_blockFor_20, List.forall_mem_cons.mpr ⟨dX6_blockFor_21, List.forall_mem_cons.mpr ⟨dX6_blockFor_22, List.forall_mem_cons.mpr ⟨dX6_blockFor_23, List.forall_mem_cons.mpr ⟨dX6_blockFor_24, List.forall_mem_cons.mpr ⟨dX6_blockFor_25, List.forall_mem_cons.mpr ⟨dX6_blockFor_26, List.forall_mem_cons.mpr ⟨dX6_blockFor_27, fun _ h => absurd h List.not_mem_nil⟩⟩⟩⟩⟩⟩⟩⟩⟩⟩) rfl ?_
      refine xcmpF (t := 44) tn_X6_blockFor dX6_blockFor_30 (by decide) h (fun h => ?_) (fun h => ?_)
      · refine xs tn_X6_blockFor [(44, .iconst 0, 1)] (st' := (45, [(0, .ref 18), (1, .int x1), (2, .int x2)], [.int (nI 0), .int ((nI 4) + x2), .ref 25], wd d (wm s rest), 0, 0)) (List.forall_mem_cons.mpr ⟨dX6_blockFor_44, fun _ h => absurd h List.not_mem_nil⟩) rfl ?_
        refine xstF (W := fun s => wd d (wm s rest)) tn_X6_blockFor dX6_blockFor_45 at_25 (fun _ => set_25) h (fun s1 h => ?_)
        refine xs tn_X6_blockFor [(46, .iinc 2 1, 3), (49, .goto (-39), 3)] (st' := (10, [(0, .ref 18), (1, .int x1), (2, .int (x2 + (nI 1)))], [], wd d (wm s1 rest), 0, 0)) (List.forall_mem_cons.mpr ⟨dX6_blockFor_46, List.forall_mem_cons.mpr ⟨dX6_blockFor_49, fun _ h => absurd h List.not_mem_nil⟩⟩) rfl ?_
        refine xwk [0, 1, 2] rfl rfl ?_
        exact ih _ _ _ _ _ h
      · refine xs tn_X6_blockFor [(33, .aload_n 0, 1), (34, .getfield 28, 3), (37, .iload_n 1, 1), (38, .iload_n 2, 1), (39, .iadd, 1)] (st' := (40, [(0, .ref 18), (1, .int x1), (2, .int x2)], [.int (x1 + x2), .ref 21, .int ((nI 4) + x2), .ref 25], wd d (wm s rest), 0, 0)) (List.forall_mem_cons.mpr ⟨dX6_blockFor_33, List.forall_mem_cons.mpr ⟨dX6_blockFor_34, List.forall_mem_cons.mpr ⟨dX6_blockFor_37, List.forall_mem_cons.mpr ⟨dX6_blockFor_38, List.forall_mem_cons.mpr ⟨dX6_blockFor_39, fun _ h => absurd h List.not_mem_nil⟩⟩⟩⟩⟩) rfl ?_
        refine xldF tn_X6_blockFor dX6_blockFor_40 at_21 h (fun v2 h => ?_)
        refine xs tn_X6_blockFor [(41, .goto 4, 3)] (st' := (45, [(0, .ref 18), (1, .int x1), (2, .int x2)], [.int v2, .int ((nI 4) + x2), .ref 25], wd d (wm s rest), 0, 0)) (List.forall_mem_cons.mpr ⟨dX6_blockFor_41, fun _ h => absurd h List.not_mem_nil⟩) rfl ?_
        refine xstF (W := fun s => wd d (wm s rest)) tn_X6_blockFor dX6_blockFor_45 at_25 (fun _ => set_25) h (fun s3 h => ?_)
        refine xs tn_X6_blockFor [(46, .iinc 2 1, 3), (49, .goto (-39), 3)] (st' := (10, [(0, .ref 18), (1, .int x1), (2, .int (x2 + (nI 1)))], [], wd d (wm s3 rest), 0, 0)) (List.forall_mem_cons.mpr ⟨dX6_blockFor_46, List.forall_mem_cons.mpr ⟨dX6_blockFor_49, fun _ h => absurd h List.not_mem_nil⟩⟩) rfl ?_
        refine xwk [0, 1, 2] rfl rfl ?_
        exact ih _ _ _ _ _ h
def F_X6_blockFor (N : Nat) (s : St) (x1 : Int32) : Option (Int32 × St) := (F_X6_begin N s (nI 2) (nI 0) (nI 0) (nI 0)).bind fun s1 => F_X6_blockFor_10 N N s1 x1 (nI 0)
set_option maxRecDepth 100000 in
set_option maxHeartbeats 4000000 in
theorem w_X6_blockFor {d : St} {rest : mx_W} {N : Nat} {s : St} {x1 : Int32} {r : Int32} {t : St} (h : F_X6_blockFor N s x1 = some (r, t)) : X 124 (0, [(0, .ref 18), (1, .int x1)], [], wd d (wm s rest), 0, 0) (some (.int r), wd d (wm t rest), 0, 0) := by
  unfold F_X6_blockFor at h
  refine xs tn_X6_blockFor [(0, .aload_n 0, 1), (1, .iconst 2, 1), (2, .iconst 0, 1), (3, .iconst 0, 1), (4, .iconst 0, 1)] (st' := (5, [(0, .ref 18), (1, .int x1)], [.int (nI 0), .int (nI 0), .int (nI 0), .int (nI 2), .ref 18], wd d (wm s rest), 0, 0)) (List.forall_mem_cons.mpr ⟨dX6_blockFor_0, List.forall_mem_cons.mpr ⟨dX6_blockFor_1, List.forall_mem_cons.mpr ⟨dX6_blockFor_2, List.forall_mem_cons.mpr ⟨dX6_blockFor_3, List.forall_mem_cons.mpr ⟨dX6_blockFor_4, fun _ h => absurd h List.not_mem_nil⟩⟩⟩⟩⟩) rfl ?_
  obtain ⟨s1, h2, h⟩ := obind h
  refine xcall tn_X6_blockFor dX6_blockFor_5 rfl rfl (w_X6_begin h2) ?_
  show X 124 (8, [(0, .ref 18), (1, .int x1)], [], wd d (wm s1 rest), 0, 0) _
  refine xs tn_X6_blockFor [(8, .iconst 0, 1), (9, .istore_n 2, 1)] (st' := (10, [(2, .int (nI 0)), (0, .ref 18), (1, .int x1)], [], wd d (wm s1 rest), 0, 0)) (List.forall_mem_cons.mpr ⟨dX6_blockFor_8, List.forall_mem_cons.mpr ⟨dX6_blockFor_9, fun _ h => absurd h List.not_mem_nil⟩⟩) rfl ?_
  refine xwk [0, 1, 2] rfl rfl ?_
  exact w_X6_blockFor_10 N _ _ _ _ _ h
