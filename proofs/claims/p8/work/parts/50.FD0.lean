def F_X5_isOpen (s : St) : Option (Int32) := bif mx_cnd .eq (gI s 5) (-nI 1) then (some (nI 0)) else (some (nI 1))
set_option maxRecDepth 100000 in
set_option maxHeartbeats 4000000 in
theorem w_X5_isOpen {rest : mx_W} {s : St} {r : Int32} (h : F_X5_isOpen s = some r) : X 26 (0, [(0, .ref 0)], [], wd s rest, 0, 0) (some (.int r), wd s rest, 0, 0) := by
  unfold F_X5_isOpen at h
  refine xs tn_X5_isOpen [(0, .aload_n 0, 1), (1, .getfield 54, 3), (4, .iconst (-1), 1)] (st' := (5, [(0, .ref 0)], [.int (-nI 1), .int (gI s 5)], wd s rest, 0, 0)) (List.forall_mem_cons.mpr ⟨dX5_isOpen_0, List.forall_mem_cons.mpr ⟨dX5_isOpen_1, List.forall_mem_cons.mpr ⟨dX5_isOpen_4, fun _ h => absurd h List.not_mem_nil⟩⟩⟩) rfl ?_
  refine xcmpF (t := 12) tn_X5_isOpen dX5_isOpen_5 (by decide) h (fun h => ?_) (fun h => ?_)
  · refine xs tn_X5_isOpen [(12, .iconst 0, 1)] (st' := (13, [(0, .ref 0)], [.int (nI 0)], wd s rest, 0, 0)) (List.forall_mem_cons.mpr ⟨dX5_isOpen_12, fun _ h => absurd h List.not_mem_nil⟩) rfl ?_
    cases h
    exact xretz tn_X5_isOpen rfl (by decide) dX5_isOpen_13
  · refine xs tn_X5_isOpen [(8, .iconst 1, 1), (9, .goto 4, 3)] (st' := (13, [(0, .ref 0)], [.int (nI 1)], wd s rest, 0, 0)) (List.forall_mem_cons.mpr ⟨dX5_isOpen_8, List.forall_mem_cons.mpr ⟨dX5_isOpen_9, fun _ h => absurd h List.not_mem_nil⟩⟩) rfl ?_
    cases h
    exact xretz tn_X5_isOpen rfl (by decide) dX5_isOpen_13
def F_X4_count (s : St) : Option (Int32) := some (nI (gN s))
set_option maxRecDepth 100000 in
set_option maxHeartbeats 4000000 in
theorem w_X4_count {rest : mx_W} {s : St} {r : Int32} (h : F_X4_count s = some r) : X 18 (0, [(0, .ref 1)], [], wd s rest, 0, 0) (some (.int r), wd s rest, 0, 0) := by
  unfold F_X4_count at h
  refine xs tn_X4_count [(0, .aload_n 0, 1), (1, .getfield 18, 3)] (st' := (4, [(0, .ref 1)], [.int (nI (gN s))], wd s rest, 0, 0)) (List.forall_mem_cons.mpr ⟨dX4_count_0, List.forall_mem_cons.mpr ⟨dX4_count_1, fun _ h => absurd h List.not_mem_nil⟩⟩) rfl ?_
  cases h
  exact xret tn_X4_count rfl dX4_count_4
def F_X5_sectorsLeft (s : St) : Option (Int32) := (F_X4_count s).bind fun v1 => some (v1 - (gI s 1))
set_option maxRecDepth 100000 in
set_option maxHeartbeats 4000000 in
theorem w_X5_sectorsLeft {rest : mx_W} {s : St} {r : Int32} (h : F_X5_sectorsLeft s = some r) : X 55 (0, [(0, .ref 0)], [], wd s rest, 0, 0) (some (.int r), wd s rest, 0, 0) := by
  unfold F_X5_sectorsLeft at h
  refine xs tn_X5_sectorsLeft [(0, .aload_n 0, 1), (1, .getfield 12, 3)] (st' := (4, [(0, .ref 0)], [.ref 1], wd s rest, 0, 0)) (List.forall_mem_cons.mpr ⟨dX5_sectorsLeft_0, List.forall_mem_cons.mpr ⟨dX5_sectorsLeft_1, fun _ h => absurd h List.not_mem_nil⟩⟩) rfl ?_
  obtain ⟨v1, h2, h⟩ := obind h
  refine xcall tn_X5_sectorsLeft dX5_sectorsLeft_4 rfl rfl (w_X4_count h2) ?_
  show X 55 (7, [(0, .ref 0)], [.int v1], wd s rest, 0, 0) _
  refine xs tn_X5_sectorsLeft [(7, .aload_n 0, 1), (8, .getfield 50, 3), (11, .isub, 1)] (st' := (12, [(0, .ref 0)], [.int (v1 - (gI s 1))], wd s rest, 0, 0)) (List.forall_mem_cons.mpr ⟨dX5_sectorsLeft_7, List.forall_mem_cons.mpr ⟨dX5_sectorsLeft_8, List.forall_mem_cons.mpr ⟨dX5_sectorsLeft_11, fun _ h => absurd h List.not_mem_nil⟩⟩⟩) rfl ?_
  cases h
  exact xret tn_X5_sectorsLeft rfl dX5_sectorsLeft_12
def F_J7_fill_16_5 (N : Nat) : Nat → St → Int32 → Int32 → Int32 → Option (St)
  | 0, _, _, _, _ => none
  | f + 1, s, x1, x2, x3 => bif mx_cnd .ge x2 x3 then (some s) else (stA s 11 96 x2 x1 fun s1 => F_J7_fill_16_5 N f s1 x1 (x2 + (nI 1)) x3)
set_option maxRecDepth 100000 in
set_option maxHeartbeats 4000000 in
theorem w_J7_fill_16_5 {rest : mx_W} {N : Nat} : ∀ (f : Nat) (s : St) (x1 : Int32) (x2 : Int32) (x3 : Int32) (r : St), F_J7_fill_16_5 N f s x1 x2 x3 = some r → X 4 (5, [(0, .ref 16), (1, .int x1), (2, .int x2), (3, .int x3)], [], wd s rest, 0, 0) (none, wd r rest, 0, 0) := by
  intro f
  induction f with
  | zero => intro s x1 x2 x3 r h; rw [F_J7_fill_16_5.eq_1] at h; cases h
  | succ f ih =>
    intro s x1 x2 x3 r h
    rw [F_J7_fill_16_5.eq_2] at h
    refine xs tn_J7_fill_53178 [(5, .iload_n 2, 1), (6, .iload_n 3, 1)] (st' := (7, [(0, .ref 16), (1, .int x1), (2, .int x2), (3, .int x3)], [.int x3, .int x2], wd s rest, 0, 0)) (List.forall_mem_cons.mpr ⟨dJ7_fill_53178_5, List.forall_mem_cons.mpr ⟨dJ7_fill_53178_6, fun _ h => absurd h List.not_mem_nil⟩⟩) rfl ?_
    refine xcmpF (t := 20) tn_J7_fill_53178 dJ7_fill_53178_7 (by decide) h (fun h => ?_) (fun h => ?_)
    · cases h
      exact xretv tn_J7_fill_53178 rfl dJ7_fill_53178_20
    · refine xs tn_J7_fill_53178 [(10, .aload_n 0, 1), (11, .iload_n 2, 1), (12, .iload_n 1, 1)] (st' := (13, [(0, .ref 16), (1, .int x1), (2, .int x2), (3, .int x3)], [.int x1, .int x2, .ref 16], wd s rest, 0, 0)) (List.forall_mem_cons.mpr ⟨dJ7_fill_53178_10, List.forall_mem_cons.mpr ⟨dJ7_fill_53178_11, List.forall_mem_cons.mpr ⟨dJ7_fill_53178_12, fun _ h => absurd h List.not_mem_nil⟩⟩⟩) rfl ?_
      refine xstF (W := fun s => wd s rest) tn_J7_fill_53178 dJ7_fill_53178_13 at_16 (fun _ => set_16) h (fun s1 h => ?_)
      refine xs tn_J7_fill_53178 [(14, .iinc 2 1, 3), (17, .goto (-12), 3)] (st' := (5, [(0, .ref 16), (1, .int x1), (2, .int (x2 + (nI 1))), (3, .int x3)], [], wd s1 rest, 0, 0)) (List.forall_mem_cons.mpr ⟨dJ7_fill_53178_14, List.forall_mem_cons.mpr ⟨dJ7_fill_53178_17, fun _ h => absurd h List.not_mem_nil⟩⟩) rfl ?_
      refine xwk [0, 1, 2, 3] rfl rfl ?_
      exact ih _ _ _ _ _ h
def F_J7_fill_16 (N : Nat) (s : St) (x1 : Int32) : Option (St) := F_J7_fill_16_5 N N s x1 (nI 0) (nI 96)
set_option maxRecDepth 100000 in
set_option maxHeartbeats 4000000 in
theorem w_J7_fill_16 {rest : mx_W} {N : Nat} {s : St} {x1 : Int32} {r : St} (h : F_J7_fill_16 N s x1 = some r) : X 4 (0, [(0, .ref 16), (1, .int x1)], [], wd s rest, 0, 0) (none, wd r rest, 0, 0) := by
  unfold F_J7_fill_16 at h
  refine xs tn_J7_fill_53178 [(0, .iconst 0, 1), (1, .istore_n 2, 1), (2, .aload_n 0, 1), (3, .arraylength, 1), (4, .istore_n 3, 1)] (st' := (5, [(3, .int (nI 96)), (2, .int (nI 0)), (0, .ref 16), (1, .int x1)], [], wd s rest, 0, 0)) (List.forall_mem_cons.mpr ⟨dJ7_fill_53178_0, List.forall_mem_cons.mpr ⟨dJ7_fill_53178_1, List.forall_mem_cons.mpr ⟨dJ7_fill_53178_2, List.forall_mem_cons.mpr ⟨dJ7_fill_53178_3, List.forall_mem_cons.mpr ⟨dJ7_fill_53178_4, fun _ h => absurd h List.not_mem_nil⟩⟩⟩⟩⟩) rfl ?_
  refine xwk [0, 1, 2, 3] rfl rfl ?_
  exact w_J7_fill_16_5 N _ _ _ _ _ h
def F_X5_open (N : Nat) (s : St) (x1 : Int32) : Option (Int32 × St) := bif mx_cnd .lt x1 0 then (some (-nI 2, s)) else (bif mx_cnd .le x1 (nI 9) then (bif mx_cnd .eq (gI s 0) 0 then (some (-nI 3, s)) else ((F_X5_isOpen s).bind fun v1 => bif mx_cnd .eq v1 0 then ((F_X5_sectorsLeft s).bind fun v3 => bif mx_cnd .lt v3 (nI 5) then (some (-nI 4, s)) else (bif mx_cnd .lt (gI s 2) (nI 60) then ((F_J7_fill_16 N s (nI 0)).bind fun s5 => bnd (sI s5 4 x1) fun s7 => bnd (sI s7 5 (nI 0)) fun s8 => some (gI s8 2, s8)) else (some (-nI 4, s)))) else (some (-nI 3, s)))) else (some (-nI 2, s)))
set_option maxRecDepth 100000 in
set_option maxHeartbeats 4000000 in
theorem w_X5_open {rest : mx_W} {N : Nat} {s : St} {x1 : Int32} {r : Int32} {t : St} (h : F_X5_open N s x1 = some (r, t)) : X 81 (0, [(0, .ref 0), (1, .int x1)], [], wd s rest, 0, 0) (some (.int r), wd t rest, 0, 0) := by
  unfold F_X5_open at h
  refine xs tn_X5_open [(0, .iload_n 1, 1)] (st' := (1, [(0, .ref 0), (1, .int x1)], [.int x1], wd s rest, 0, 0)) (List.forall_mem_cons.mpr ⟨dX5_open_0, fun _ h => absurd h List.not_mem_nil⟩) rfl ?_
  refine xifF (t := 10) tn_X5_open dX5_open_1 (by decide) h (fun h => ?_) (fun h => ?_)
  · refine xs tn_X5_open [(10, .bipush (-2), 2)] (st' := (12, [(0, .ref 0), (1, .int x1)], [.int (-nI 2)], wd s rest, 0, 0)) (List.forall_mem_cons.mpr ⟨dX5_open_10, fun _ h => absurd h List.not_mem_nil⟩) rfl ?_
    cases h
    exact xret tn_X5_open rfl dX5_open_12
  · refine xs tn_X5_open [(4, .iload_n 1, 1), (5, .bipush 9, 2)] (st' := (7, [(0, .ref 0), (1, .int x1)], [.int (nI 9), .int x1], wd s rest, 0, 0)) (List.forall_mem_cons.mpr ⟨dX5_open_4, List.forall_mem_cons.mpr ⟨dX5_open_5, fun _ h => absurd h List.not_mem_nil⟩⟩) rfl ?_
    refine xcmpF (t := 13) tn_X5_open dX5_open_7 (by decide) h (fun h => ?_) (fun h => ?_)
    · refine xs tn_X5_open [(13, .aload_n 0, 1), (14, .getfield 46, 3)] (st' := (17, [(0, .ref 0), (1, .int x1)], [.int (gI s 0)], wd s rest, 0, 0)) (List.forall_mem_cons.mpr ⟨dX5_open_13, List.forall_mem_cons.mpr ⟨dX5_open_14, fun _ h => absurd h List.not_mem_nil⟩⟩) rfl ?_
      refine xifF (t := 27) tn_X5_open dX5_open_17 (by decide) h (fun h => ?_) (fun h => ?_)
      · refine xs tn_X5_open [(27, .bipush (-3), 2)] (st' := (29, [(0, .ref 0), (1, .int x1)], [.int (-nI 3)], wd s rest, 0, 0)) (List.forall_mem_cons.mpr ⟨dX5_open_27, fun _ h => absurd h List.not_mem_nil⟩) rfl ?_
        cases h
        exact xret tn_X5_open rfl dX5_open_29
      · refine xs tn_X5_open [(20, .aload_n 0, 1)] (st' := (21, [(0, .ref 0), (1, .int x1)], [.ref 0], wd s rest, 0, 0)) (List.forall_mem_cons.mpr ⟨dX5_open_20, fun _ h => absurd h List.not_mem_nil⟩) rfl ?_
        obtain ⟨v1, h2, h⟩ := obind h
        refine xcall tn_X5_open dX5_open_21 rfl rfl (w_X5_isOpen h2) ?_
        show X 81 (24, [(0, .ref 0), (1, .int x1)], [.int v1], wd s rest, 0, 0) _
        refine xifF (t := 30) tn_X5_open dX5_open_24 (by decide) h (fun h => ?_) (fun h => ?_)
        · refine xs tn_X5_open [(30, .aload_n 0, 1)] (st' := (31, [(0, .ref 0), (1, .int x1)], [.ref 0], wd s rest, 0, 0)) (List.forall_mem_cons.mpr ⟨dX5_open_30, fun _ h => absurd h List.not_mem_nil⟩) rfl ?_
          obtain ⟨v3, h4, h⟩ := obind h
          refine xcall tn_X5_open dX5_open_31 rfl rfl (w_X5_sectorsLeft h4) ?_
          show X 81 (34, [(0, .ref 0), (1, .int x1)], [.int v3], wd s rest, 0, 0) _
          refine xs tn_X5_open [(34, .iconst 5, 1)] (st' := (35, [(0, .ref 0), (1, .int x1)], [.int (nI 5), .int v3], wd s rest, 0, 0)) (List.forall_mem_cons.mpr ⟨dX5_open_34, fun _ h => absurd h List.not_mem_nil⟩) rfl ?_
          refine xcmpF (t := 47) tn_X5_open dX5_open_35 (by decide) h (fun h => ?_) (fun h => ?_)
          · refine xs tn_X5_open [(47, .bipush (-4), 2)] (st' := (49, [(0, .ref 0), (1, .int x1)], [.int (-nI 4)], wd s rest, 0, 0)) (List.forall_mem_cons.mpr ⟨dX5_open_47, fun _ h => absurd h List.not_mem_nil⟩) rfl ?_
            cases h
            exact xret tn_X5_open rfl dX5_open_49
          · refine xs tn_X5_open [(38, .aload_n 0, 1), (39, .getfield 65, 3), (42, .bipush 60, 2)] (st' := (44, [(0, .ref 0), (1, .int x1)], [.int (nI 60), .int (gI s 2)], wd s rest, 0, 0)) (List.forall_mem_cons.mpr ⟨dX5_open_38, List.forall_mem_cons.mpr ⟨dX5_open_39, List.forall_mem_cons.mpr ⟨dX5_open_42, fun _ h => absurd h List.not_mem_nil⟩⟩⟩) rfl ?_
            refine xcmpF (t := 50) tn_X5_open dX5_open_44 (by decide) h (fun h => ?_) (fun h => ?_)
            · refine xs tn_X5_open [(50, .aload_n 0, 1), (51, .getfield 39, 3), (54, .iconst 0, 1)] (st' := (55, [(0, .ref 0), (1, .int x1)], [.int (nI 0), .ref 16], wd s rest, 0, 0)) (List.forall_mem_cons.mpr ⟨dX5_open_50, List.forall_mem_cons.mpr ⟨dX5_open_51, List.forall_mem_cons.mpr ⟨dX5_open_54, fun _ h => absurd h List.not_mem_nil⟩⟩⟩) rfl ?_
              obtain ⟨s5, h6, h⟩ := obind h
              refine xcall tn_X5_open dX5_open_55 rfl rfl (w_J7_fill_16 h6) ?_
              show X 81 (58, [(0, .ref 0), (1, .int x1)], [], wd s5 rest, 0, 0) _
              refine xs tn_X5_open [(58, .aload_n 0, 1), (59, .iload_n 1, 1)] (st' := (60, [(0, .ref 0), (1, .int x1)], [.int x1, .ref 0], wd s5 rest, 0, 0)) (List.forall_mem_cons.mpr ⟨dX5_open_58, List.forall_mem_cons.mpr ⟨dX5_open_59, fun _ h => absurd h List.not_mem_nil⟩⟩) rfl ?_
              refine xput_a4 tn_X5_open dX5_open_60 rfl h (fun s7 h => ?_)
              refine xs tn_X5_open [(63, .aload_n 0, 1), (64, .iconst 0, 1)] (st' := (65, [(0, .ref 0), (1, .int x1)], [.int (nI 0), .ref 0], wd s7 rest, 0, 0)) (List.forall_mem_cons.mpr ⟨dX5_open_63, List.forall_mem_cons.mpr ⟨dX5_open_64, fun _ h => absurd h List.not_mem_nil⟩⟩) rfl ?_
              refine xput_a5 tn_X5_open dX5_open_65 rfl h (fun s8 h => ?_)
              refine xs tn_X5_open [(68, .aload_n 0, 1), (69, .getfield 65, 3)] (st' := (72, [(0, .ref 0), (1, .int x1)], [.int (gI s8 2)], wd s8 rest, 0, 0)) (List.forall_mem_cons.mpr ⟨dX5_open_68, List.forall_mem_cons.mpr ⟨dX5_open_69, fun _ h => absurd h List.not_mem_nil⟩⟩) rfl ?_
              cases h
              exact xret tn_X5_open rfl dX5_open_72
            · refine xs tn_X5_open [(47, .bipush (-4), 2)] (st' := (49, [(0, .ref 0), (1, .int x1)], [.int (-nI 4)], wd s rest, 0, 0)) (List.forall_mem_cons.mpr ⟨dX5_open_47, fun _ h => absurd h List.not_mem_nil⟩) rfl ?_
              cases h
              exact xret tn_X5_open rfl dX5_open_49
        · refine xs tn_X5_open [(27, .bipush (-3), 2)] (st' := (29, [(0, .ref 0), (1, .int x1)], [.int (-nI 3)], wd s rest, 0, 0)) (List.forall_mem_cons.mpr ⟨dX5_open_27, fun _ h => absurd h List.not_mem_nil⟩) rfl ?_
          cases h
          exact xret tn_X5_open rfl dX5_open_29
    · refine xs tn_X5_open [(10, .bipush (-2), 2)] (st' := (12, [(0, .ref 0), (1, .int x1)], [.int (-nI 2)], wd s rest, 0, 0)) (List.forall_mem_cons.mpr ⟨dX5_open_10, fun _ h => absurd h List.not_mem_nil⟩) rfl ?_
      cases h
      exact xret tn_X5_open rfl dX5_open_12
def F_X5_add_48 (N : Nat) : Nat → St → Int64 → Int32 → Int32 → Option (Int32 × St)
  | 0, _, _, _, _ => none
  | f + 1, s, x1, x3, x4 => bif mx_cnd .ge x4 x3 then (bnd (sI s 5 ((gI s 5) + x3)) fun s1 => some (gI s1 5, s1)) else (stA s 11 96 ((gI s 5) + x4) ((((x1.toUInt64 >>> (((nI 8) * x4).toInt64.toUInt64 &&& Int64.toUInt64 63)).toInt64).toInt32) &&& (nI 255)) fun s2 => F_X5_add_48 N f s2 x1 x3 (x4 + (nI 1)))
set_option maxRecDepth 100000 in
set_option maxHeartbeats 4000000 in
theorem w_X5_add_48 {rest : mx_W} {N : Nat} : ∀ (f : Nat) (s : St) (x1 : Int64) (x3 : Int32) (x4 : Int32) (r : Int32) (t : St), F_X5_add_48 N f s x1 x3 x4 = some (r, t) → X 51 (48, [(0, .ref 0), (1, .long x1), (3, .int x3), (4, .int x4)], [], wd s rest, 0, 0) (some (.int r), wd t rest, 0, 0) := by
  intro f
  induction f with
  | zero => intro s x1 x3 x4 r t h; rw [F_X5_add_48.eq_1] at h; cases h
  | succ f ih =>
    intro s x1 x3 x4 r t h
    rw [F_X5_add_48.eq_2] at h
    refine xs tn_X5_add [(48, .iload 4, 2), (50, .iload_n 3, 1)] (st' := (51, [(0, .ref 0), (1, .long x1), (3, .int x3), (4, .int x4)], [.int x3, .int x4], wd s rest, 0, 0)) (List.forall_mem_cons.mpr ⟨dX5_add_48, List.forall_mem_cons.mpr ⟨dX5_add_50, fun _ h => absurd h List.not_mem_nil⟩⟩) rfl ?_
    refine xcmpF (t := 84) tn_X5_add dX5_add_51 (by decide) h (fun h => ?_) (fun h => ?_)
    · refine xs tn_X5_add [(84, .aload_n 0, 1), (85, .dup, 1), (86, .getfield 54, 3), (89, .iload_n 3, 1), (90, .iadd, 1)] (st' := (91, [(0, .ref 0), (1, .long x1), (3, .int x3), (4, .int x4)], [.int ((gI s 5) + x3), .ref 0], wd s rest, 0, 0)) (List.forall_mem_cons.mpr ⟨dX5_add_84, List.forall_mem_cons.mpr ⟨dX5_add_85, List.forall_mem_cons.mpr ⟨dX5_add_86, List.forall_mem_cons.mpr ⟨dX5_add_89, List.forall_mem_cons.mpr ⟨dX5_add_90, fun _ h => absurd h List.not_mem_nil⟩⟩⟩⟩⟩) rfl ?_
      refine xput_a5 tn_X5_add dX5_add_91 rfl h (fun s1 h => ?_)
      refine xs tn_X5_add [(94, .aload_n 0, 1), (95, .getfield 54, 3)] (st' := (98, [(0, .ref 0), (1, .long x1), (3, .int x3), (4, .int x4)], [.int (gI s1 5)], wd s1 rest, 0, 0)) (List.forall_mem_cons.mpr ⟨dX5_add_94, List.forall_mem_cons.mpr ⟨dX5_add_95, fun _ h => absurd h List.not_mem_nil⟩⟩) rfl ?_
      cases h
      exact xret tn_X5_add rfl dX5_add_98
    · refine xs tn_X5_add [(54, .aload_n 0, 1), (55, .getfield 39, 3), (58, .aload_n 0, 1), (59, .getfield 54, 3), (62, .iload 4, 2), (64, .iadd, 1), (65, .lload_n 1, 1), (66, .bipush 8, 2), (68, .iload 4, 2), (70, .imul, 1), (71, .lushr, 1), (72, .l2i, 1), (73, .sipush 255, 3), (76, .iand, 1)] (st' := (77, [(0, .ref 0), (1, .long x1), (3, .int x3), (4, .int x4)], [.int ((((x1.toUInt64 >>> (((nI 8) * x4).toInt64.toUInt64 &&& Int64.toUInt64 63)).toInt64).toInt32) &&& (nI 255)), .int ((gI s 5) + x4), .ref 16], wd s rest, 0, 0)) (List.forall_mem_cons.mpr ⟨dX5_add_54, List.forall_mem_cons.mpr ⟨dX5_add_55, List.forall_mem_cons.mpr ⟨dX5_add_58, List.forall_mem_cons.mpr ⟨dX5_add_59, List.forall_mem_cons.mpr ⟨dX5_add_62, List.forall_mem_cons.mpr ⟨dX5_add_64, List.forall_mem_cons.mpr ⟨dX5_add_65, List.forall_mem_cons.mpr ⟨dX5_add_66, List.forall_mem_cons.mpr ⟨dX5_add_68, List.forall_mem_cons.mpr ⟨dX5_add_70, List.forall_mem_cons.mpr ⟨dX5_add_71, List.forall_mem_cons.mpr ⟨dX5_add_72, List.forall_mem_cons.mpr ⟨dX5_add_73, List.forall_mem_cons.mpr ⟨dX5_add_76, fun _ h => absurd h List.not_mem_nil⟩⟩⟩⟩⟩⟩⟩⟩⟩⟩⟩⟩⟩⟩) rfl ?_
      refine xstF (W := fun s => wd s rest) tn_X5_add dX5_add_77 at_16 (fun _ => set_16) h (fun s2 h => ?_)
      refine xs tn_X5_add [(78, .iinc 4 1, 3), (81, .goto (-33), 3)] (st' := (48, [(0, .ref 0), (1, .long x1), (3, .int x3), (4, .int (x4 + (nI 1)))], [], wd s2 rest, 0, 0)) (List.forall_mem_cons.mpr ⟨dX5_add_78, List.forall_mem_cons.mpr ⟨dX5_add_81, fun _ h => absurd h List.not_mem_nil⟩⟩) rfl ?_
      refine xwk [0, 1, 3, 4] rfl rfl ?_
      exact ih _ _ _ _ _ _ h
def F_X5_add (N : Nat) (s : St) (x1 : Int64) (x3 : Int32) : Option (Int32 × St) := bif mx_cnd .lt x3 (nI 1) then (some (-nI 2, s)) else (bif mx_cnd .le x3 (nI 8) then (bif mx_cnd .eq (gI s 0) 0 then (some (-nI 3, s)) else ((F_X5_isOpen s).bind fun v1 => bif mx_cnd .ne v1 0 then (bif mx_cnd .le ((gI s 5) + x3) (nI 96) then (F_X5_add_48 N N s x1 x3 (nI 0)) else (some (-nI 4, s))) else (some (-nI 3, s)))) else (some (-nI 2, s)))
set_option maxRecDepth 100000 in
set_option maxHeartbeats 4000000 in
theorem w_X5_add {rest : mx_W} {N : Nat} {s : St} {x1 : Int64} {x3 : Int32} {r : Int32} {t : St} (h : F_X5_add N s x1 x3 = some (r, t)) : X 51 (0, [(0, .ref 0), (1, .long x1), (3, .int x3)], [], wd s rest, 0, 0) (some (.int r), wd t rest, 0, 0) := by
  unfold F_X5_add at h
  refine xs tn_X5_add [(0, .iload_n 3, 1), (1, .iconst 1, 1)] (st' := (2, [(0, .ref 0), (1, .long x1), (3, .int x3)], [.int (nI 1), .int x3], wd s rest, 0, 0)) (List.forall_mem_cons.mpr ⟨dX5_add_0, List.forall_mem_cons.mpr ⟨dX5_add_1, fun _ h => absurd h List.not_mem_nil⟩⟩) rfl ?_
  refine xcmpF (t := 11) tn_X5_add dX5_add_2 (by decide) h (fun h => ?_) (fun h => ?_)
  · refine xs tn_X5_add [(11, .bipush (-2), 2)] (st' := (13, [(0, .ref 0), (1, .long x1), (3, .int x3)], [.int (-nI 2)], wd s rest, 0, 0)) (List.forall_mem_cons.mpr ⟨dX5_add_11, fun _ h => absurd h List.not_mem_nil⟩) rfl ?_
    cases h
    exact xret tn_X5_add rfl dX5_add_13
  · refine xs tn_X5_add [(5, .iload_n 3, 1), (6, .bipush 8, 2)] (st' := (8, [(0, .ref 0), (1, .long x1), (3, .int x3)], [.int (nI 8), .int x3], wd s rest, 0, 0)) (List.forall_mem_cons.mpr ⟨dX5_add_5, List.forall_mem_cons.mpr ⟨dX5_add_6, fun _ h => absurd h List.not_mem_nil⟩⟩) rfl ?_
    refine xcmpF (t := 14) tn_X5_add dX5_add_8 (by decide) h (fun h => ?_) (fun h => ?_)
    · refine xs tn_X5_add [(14, .aload_n 0, 1), (15, .getfield 46, 3)] (st' := (18, [(0, .ref 0), (1, .long x1), (3, .int x3)], [.int (gI s 0)], wd s rest, 0, 0)) (List.forall_mem_cons.mpr ⟨dX5_add_14, List.forall_mem_cons.mpr ⟨dX5_add_15, fun _ h => absurd h List.not_mem_nil⟩⟩) rfl ?_
      refine xifF (t := 28) tn_X5_add dX5_add_18 (by decide) h (fun h => ?_) (fun h => ?_)
      · refine xs tn_X5_add [(28, .bipush (-3), 2)] (st' := (30, [(0, .ref 0), (1, .long x1), (3, .int x3)], [.int (-nI 3)], wd s rest, 0, 0)) (List.forall_mem_cons.mpr ⟨dX5_add_28, fun _ h => absurd h List.not_mem_nil⟩) rfl ?_
        cases h
        exact xret tn_X5_add rfl dX5_add_30
      · refine xs tn_X5_add [(21, .aload_n 0, 1)] (st' := (22, [(0, .ref 0), (1, .long x1), (3, .int x3)], [.ref 0], wd s rest, 0, 0)) (List.forall_mem_cons.mpr ⟨dX5_add_21, fun _ h => absurd h List.not_mem_nil⟩) rfl ?_
        obtain ⟨v1, h2, h⟩ := obind h
        refine xcall tn_X5_add dX5_add_22 rfl rfl (w_X5_isOpen h2) ?_
        show X 51 (25, [(0, .ref 0), (1, .long x1), (3, .int x3)], [.int v1], wd s rest, 0, 0) _
        refine xifF (t := 31) tn_X5_add dX5_add_25 (by decide) h (fun h => ?_) (fun h => ?_)
        · refine xs tn_X5_add [(31, .aload_n 0, 1), (32, .getfield 54, 3), (35, .iload_n 3, 1), (36, .iadd, 1), (37, .bipush 96, 2)] (st' := (39, [(0, .ref 0), (1, .long x1), (3, .int x3)], [.int (nI 96), .int ((gI s 5) + x3)], wd s rest, 0, 0)) (List.forall_mem_cons.mpr ⟨dX5_add_31, List.forall_mem_cons.mpr ⟨dX5_add_32, List.forall_mem_cons.mpr ⟨dX5_add_35, List.forall_mem_cons.mpr ⟨dX5_add_36, List.forall_mem_cons.mpr ⟨dX5_add_37, fun _ h => absurd h List.not_mem_nil⟩⟩⟩⟩⟩) rfl ?_
          refine xcmpF (t := 45) tn_X5_add dX5_add_39 (by decide) h (fun h => ?_) (fun h => ?_)
          · refine xs tn_X5_add [(45, .iconst 0, 1), (46, .istore 4, 2)] (st' := (48, [(4, .int (nI 0)), (0, .ref 0), (1, .long x1), (3, .int x3)], [], wd s rest, 0, 0)) (List.forall_mem_cons.mpr ⟨dX5_add_45, List.forall_mem_cons.mpr ⟨dX5_add_46, fun _ h => absurd h List.not_mem_nil⟩⟩) rfl ?_
            refine xwk [0, 1, 3, 4] rfl rfl ?_
            exact w_X5_add_48 N _ _ _ _ _ _ h
          · refine xs tn_X5_add [(42, .bipush (-4), 2)] (st' := (44, [(0, .ref 0), (1, .long x1), (3, .int x3)], [.int (-nI 4)], wd s rest, 0, 0)) (List.forall_mem_cons.mpr ⟨dX5_add_42, fun _ h => absurd h List.not_mem_nil⟩) rfl ?_
            cases h
            exact xret tn_X5_add rfl dX5_add_44
        · refine xs tn_X5_add [(28, .bipush (-3), 2)] (st' := (30, [(0, .ref 0), (1, .long x1), (3, .int x3)], [.int (-nI 3)], wd s rest, 0, 0)) (List.forall_mem_cons.mpr ⟨dX5_add_28, fun _ h => absurd h List.not_mem_nil⟩) rfl ?_
          cases h
          exact xret tn_X5_add rfl dX5_add_30
    · refine xs tn_X5_add [(11, .bipush (-2), 2)] (st' := (13, [(0, .ref 0), (1, .long x1), (3, .int x3)], [.int (-nI 2)], wd s rest, 0, 0)) (List.forall_mem_cons.mpr ⟨dX5_add_11, fun _ h => absurd h List.not_mem_nil⟩) rfl ?_
      cases h
      exact xret tn_X5_add rfl dX5_add_13
def F_X5_blocksForLength (x0 : Int32) : Option (Int32) := some (if nI 4 < ((x0 + (nI 24)) - (nI 1)) / (nI 24) then nI 4 else ((x0 + (nI 24)) - (nI 1)) / (nI 24))
set_option maxRecDepth 100000 in
set_option maxHeartbeats 4000000 in
theorem w_X5_blocksForLength {w : mx_W} {x0 : Int32} {r : Int32} (h : F_X5_blocksForLength x0 = some r) : X 23 (0, [(0, .int x0)], [], w, 0, 0) (some (.int r), w, 0, 0) := by
  unfold F_X5_blocksForLength at h
  refine xs tn_X5_blocksForLength [(0, .iload_n 0, 1), (1, .bipush 24, 2), (3, .iadd, 1), (4, .iconst 1, 1), (5, .isub, 1), (6, .bipush 24, 2)] (st' := (8, [(0, .int x0)], [.int (nI 24), .int ((x0 + (nI 24)) - (nI 1))], w, 0, 0)) (List.forall_mem_cons.mpr ⟨dX5_blocksForLength_0, List.forall_mem_cons.mpr ⟨dX5_blocksForLength_1, List.forall_mem_cons.mpr ⟨dX5_blocksForLength_3, List.forall_mem_cons.mpr ⟨dX5_blocksForLength_4, List.forall_mem_cons.mpr ⟨dX5_blocksForLength_5, List.forall_mem_cons.mpr ⟨dX5_blocksForLength_6, fun _ h => absurd h List.not_mem_nil⟩⟩⟩⟩⟩⟩) rfl ?_
  refine xdivF tn_X5_blocksForLength dX5_blocksForLength_8 (by decide) ?_
  refine xs tn_X5_blocksForLength [(9, .iconst 4, 1), (10, .invokestatic 215, 3)] (st' := (13, [(0, .int x0)], [.int (if nI 4 < ((x0 + (nI 24)) - (nI 1)) / (nI 24) then nI 4 else ((x0 + (nI 24)) - (nI 1)) / (nI 24))], w, 0, 0)) (List.forall_mem_cons.mpr ⟨dX5_blocksForLength_9, List.forall_mem_cons.mpr ⟨dX5_blocksForLength_10, fun _ h => absurd h List.not_mem_nil⟩⟩) rfl ?_
  cases h
  exact xret tn_X5_blocksForLength rfl dX5_blocksForLength_13
def F_J7_fill_10_5 (N : Nat) : Nat → St → Int32 → Int32 → Int32 → Option (St)
  | 0, _, _, _, _ => none
  | f + 1, s, x1, x2, x3 => bif mx_cnd .ge x2 x3 then (some s) else (stA s 6 32 x2 x1 fun s1 => F_J7_fill_10_5 N f s1 x1 (x2 + (nI 1)) x3)
set_option maxRecDepth 100000 in
set_option maxHeartbeats 4000000 in
theorem w_J7_fill_10_5 {rest : mx_W} {N : Nat} : ∀ (f : Nat) (s : St) (x1 : Int32) (x2 : Int32) (x3 : Int32) (r : St), F_J7_fill_10_5 N f s x1 x2 x3 = some r → X 4 (5, [(0, .ref 10), (1, .int x1), (2, .int x2), (3, .int x3)], [], wd s rest, 0, 0) (none, wd r rest, 0, 0) := by
  intro f
  induction f with
  | zero => intro s x1 x2 x3 r h; rw [F_J7_fill_10_5.eq_1] at h; cases h
  | succ f ih =>
    intro s x1 x2 x3 r h
    rw [F_J7_fill_10_5.eq_2] at h
    refine xs tn_J7_fill_53178 [(5, .iload_n 2, 1), (6, .iload_n 3, 1)] (st' := (7, [(0, .ref 10), (1, .int x1), (2, .int x2), (3, .int x3)], [.int x3, .int x2], wd s rest, 0, 0)) (List.forall_mem_cons.mpr ⟨dJ7_fill_53178_5, List.forall_mem_cons.mpr ⟨dJ7_fill_53178_6, fun _ h => absurd h List.not_mem_nil⟩⟩) rfl ?_
    refine xcmpF (t := 20) tn_J7_fill_53178 dJ7_fill_53178_7 (by decide) h (fun h => ?_) (fun h => ?_)
    · cases h
      exact xretv tn_J7_fill_53178 rfl dJ7_fill_53178_20
    · refine xs tn_J7_fill_53178 [(10, .aload_n 0, 1), (11, .iload_n 2, 1), (12, .iload_n 1, 1)] (st' := (13, [(0, .ref 10), (1, .int x1), (2, .int x2), (3, .int x3)], [.int x1, .int x2, .ref 10], wd s rest, 0, 0)) (List.forall_mem_cons.mpr ⟨dJ7_fill_53178_10, List.forall_mem_cons.mpr ⟨dJ7_fill_53178_11, List.forall_mem_cons.mpr ⟨dJ7_fill_53178_12, fun _ h => absurd h List.not_mem_nil⟩⟩⟩) rfl ?_
      refine xstF (W := fun s => wd s rest) tn_J7_fill_53178 dJ7_fill_53178_13 at_10 (fun _ => set_10) h (fun s1 h => ?_)
      refine xs tn_J7_fill_53178 [(14, .iinc 2 1, 3), (17, .goto (-12), 3)] (st' := (5, [(0, .ref 10), (1, .int x1), (2, .int (x2 + (nI 1))), (3, .int x3)], [], wd s1 rest, 0, 0)) (List.forall_mem_cons.mpr ⟨dJ7_fill_53178_14, List.forall_mem_cons.mpr ⟨dJ7_fill_53178_17, fun _ h => absurd h List.not_mem_nil⟩⟩) rfl ?_
      refine xwk [0, 1, 2, 3] rfl rfl ?_
      exact ih _ _ _ _ _ h
def F_J7_fill_10 (N : Nat) (s : St) (x1 : Int32) : Option (St) := F_J7_fill_10_5 N N s x1 (nI 0) (nI 32)
set_option maxRecDepth 100000 in
set_option maxHeartbeats 4000000 in
theorem w_J7_fill_10 {rest : mx_W} {N : Nat} {s : St} {x1 : Int32} {r : St} (h : F_J7_fill_10 N s x1 = some r) : X 4 (0, [(0, .ref 10), (1, .int x1)], [], wd s rest, 0, 0) (none, wd r rest, 0, 0) := by
  unfold F_J7_fill_10 at h
  refine xs tn_J7_fill_53178 [(0, .iconst 0, 1), (1, .istore_n 2, 1), (2, .aload_n 0, 1), (3, .arraylength, 1), (4, .istore_n 3, 1)] (st' := (5, [(3, .int (nI 32)), (2, .int (nI 0)), (0, .ref 10), (1, .int x1)], [], wd s rest, 0, 0)) (List.forall_mem_cons.mpr ⟨dJ7_fill_53178_0, List.forall_mem_cons.mpr ⟨dJ7_fill_53178_1, List.forall_mem_cons.mpr ⟨dJ7_fill_53178_2, List.forall_mem_cons.mpr ⟨dJ7_fill_53178_3, List.forall_mem_cons.mpr ⟨dJ7_fill_53178_4, fun _ h => absurd h List.not_mem_nil⟩⟩⟩⟩⟩) rfl ?_
  refine xwk [0, 1, 2, 3] rfl rfl ?_
  exact w_J7_fill_10_5 N _ _ _ _ _ h
def F_X0_begin (N : Nat) (s : St) (x1 : Int32) (x2 : Int32) (x3 : Int32) (x4 : Int32) : Option (St) := (F_J7_fill_10 N s (nI 0)).bind fun s1 => stA s1 6 32 (nI 0) x1 fun s3 => stA s3 6 32 (nI 1) x2 fun s4 => stA s4 6 32 (nI 2) x3 fun s5 => stA s5 6 32 (nI 3) x4 fun s6 => some s6
set_option maxRecDepth 100000 in
set_option maxHeartbeats 4000000 in
theorem w_X0_begin {rest : mx_W} {N : Nat} {s : St} {x1 : Int32} {x2 : Int32} {x3 : Int32} {x4 : Int32} {r : St} (h : F_X0_begin N s x1 x2 x3 x4 = some r) : X 40 (0, [(0, .ref 9), (1, .int x1), (2, .int x2), (3, .int x3), (4, .int x4)], [], wd s rest, 0, 0) (none, wd r rest, 0, 0) := by
  unfold F_X0_begin at h
  refine xs tn_X0_begin [(0, .aload_n 0, 1), (1, .getfield 9, 3), (4, .iconst 0, 1)] (st' := (5, [(0, .ref 9), (1, .int x1), (2, .int x2), (3, .int x3), (4, .int x4)], [.int (nI 0), .ref 10], wd s rest, 0, 0)) (List.forall_mem_cons.mpr ⟨dX0_begin_0, List.forall_mem_cons.mpr ⟨dX0_begin_1, List.forall_mem_cons.mpr ⟨dX0_begin_4, fun _ h => absurd h List.not_mem_nil⟩⟩⟩) rfl ?_
  obtain ⟨s1, h2, h⟩ := obind h
  refine xcall tn_X0_begin dX0_begin_5 rfl rfl (w_J7_fill_10 h2) ?_
  show X 40 (8, [(0, .ref 9), (1, .int x1), (2, .int x2), (3, .int x3), (4, .int x4)], [], wd s1 rest, 0, 0) _
  refine xs tn_X0_begin [(8, .aload_n 0, 1), (9, .getfield 9, 3), (12, .iconst 0, 1), (13, .iload_n 1, 1)] (st' := (14, [(0, .ref 9), (1, .int x1), (2, .int x2), (3, .int x3), (4, .int x4)], [.int x1, .int (nI 0), .ref 10], wd s1 rest, 0, 0)) (List.forall_mem_cons.mpr ⟨dX0_begin_8, List.forall_mem_cons.mpr ⟨dX0_begin_9, List.forall_mem_cons.mpr ⟨dX0_begin_12, List.forall_mem_cons.mpr ⟨dX0_begin_13, fun _ h => absurd h List.not_mem_nil⟩⟩⟩⟩) rfl ?_
  refine xstF (W := fun s => wd s rest) tn_X0_begin dX0_begin_14 at_10 (fun _ => set_10) h (fun s3 h => ?_)
  refine xs tn_X0_begin [(15, .aload_n 0, 1), (16, .getfield 9, 3), (19, .iconst 1, 1), (20, .iload_n 2, 1)] (st' := (21, [(0, .ref 9), (1, .int x1), (2, .int x2), (3, .int x3), (4, .int x4)], [.int x2, .int (nI 1), .ref 10], wd s3 rest, 0, 0)) (List.forall_mem_cons.mpr ⟨dX0_begin_15, List.forall_mem_cons.mpr ⟨dX0_begin_16, List.forall_mem_cons.mpr ⟨dX0_begin_19, List.forall_mem_cons.mpr ⟨dX0_begin_20, fun _ h => absurd h List.not_mem_nil⟩⟩⟩⟩) rfl ?_
  refine xstF (W := fun s => wd s rest) tn_X0_begin dX0_begin_21 at_10 (fun _ => set_10) h (fun s4 h => ?_)
  refine xs tn_X0_begin [(22, .aload_n 0, 1), (23, .getfield 9, 3), (26, .iconst 2, 1), (27, .iload_n 3, 1)] (st' := (28, [(0, .ref 9), (1, .int x1), (2, .int x2), (3, .int x3), (4, .int x4)], [.int x3, .int (nI 2), .ref 10], wd s4 rest, 0, 0)) (List.forall_mem_cons.mpr ⟨dX0_begin_22, List.forall_mem_cons.mpr ⟨dX0_begin_23, List.forall_mem_cons.mpr ⟨dX0_begin_26, List.forall_mem_cons.mpr ⟨dX0_begin_27, fun _ h => absurd h List.not_mem_nil⟩⟩⟩⟩) rfl ?_
  refine xstF (W := fun s => wd s rest) tn_X0_begin dX0_begin_28 at_10 (fun _ => set_10) h (fun s5 h => ?_)
  refine xs tn_X0_begin [(29, .aload_n 0, 1), (30, .getfield 9, 3), (33, .iconst 3, 1), (34, .iload 4, 2)] (st' := (36, [(0, .ref 9), (1, .int x1), (2, .int x2), (3, .int x3), (4, .int x4)], [.int x4, .int (nI 3), .ref 10], wd s5 rest, 0, 0)) (List.forall_mem_cons.mpr ⟨dX0_begin_29, List.forall_mem_cons.mpr ⟨dX0_begin_30, List.forall_mem_cons.mpr ⟨dX0_begin_33, List.forall_mem_cons.mpr ⟨dX0_begin_34, fun _ h => absurd h List.not_mem_nil⟩⟩⟩⟩) rfl ?_
  refine xstF (W := fun s => wd s rest) tn_X0_begin dX0_begin_36 at_10 (fun _ => set_10) h (fun s6 h => ?_)
  cases h
  exact xretv tn_X0_begin rfl dX0_begin_37
def F_X4_has (s : St) (x1 : Int32) : Option (Int32) := bif mx_cnd .lt x1 0 then (some (nI 0)) else (bif mx_cnd .ge x1 (nI (gN s)) then (some (nI 0)) else (some (nI 1)))
set_option maxRecDepth 100000 in
set_option maxHeartbeats 4000000 in
theorem w_X4_has {rest : mx_W} {s : St} {x1 : Int32} {r : Int32} (h : F_X4_has s x1 = some r) : X 20 (0, [(0, .ref 1), (1, .int x1)], [], wd s rest, 0, 0) (some (.int r), wd s rest, 0, 0) := by
  unfold F_X4_has at h
  refine xs tn_X4_has [(0, .iload_n 1, 1)] (st' := (1, [(0, .ref 1), (1, .int x1)], [.int x1], wd s rest, 0, 0)) (List.forall_mem_cons.mpr ⟨dX4_has_0, fun _ h => absurd h List.not_mem_nil⟩) rfl ?_
  refine xifF (t := 16) tn_X4_has dX4_has_1 (by decide) h (fun h => ?_) (fun h => ?_)
  · refine xs tn_X4_has [(16, .iconst 0, 1)] (st' := (17, [(0, .ref 1), (1, .int x1)], [.int (nI 0)], wd s rest, 0, 0)) (List.forall_mem_cons.mpr ⟨dX4_has_16, fun _ h => absurd h List.not_mem_nil⟩) rfl ?_
    cases h
    exact xretz tn_X4_has rfl (by decide) dX4_has_17
  · refine xs tn_X4_has [(4, .iload_n 1, 1), (5, .aload_n 0, 1), (6, .getfield 18, 3)] (st' := (9, [(0, .ref 1), (1, .int x1)], [.int (nI (gN s)), .int x1], wd s rest, 0, 0)) (List.forall_mem_cons.mpr ⟨dX4_has_4, List.forall_mem_cons.mpr ⟨dX4_has_5, List.forall_mem_cons.mpr ⟨dX4_has_6, fun _ h => absurd h List.not_mem_nil⟩⟩⟩) rfl ?_
    refine xcmpF (t := 16) tn_X4_has dX4_has_9 (by decide) h (fun h => ?_) (fun h => ?_)
    · refine xs tn_X4_has [(16, .iconst 0, 1)] (st' := (17, [(0, .ref 1), (1, .int x1)], [.int (nI 0)], wd s rest, 0, 0)) (List.forall_mem_cons.mpr ⟨dX4_has_16, fun _ h => absurd h List.not_mem_nil⟩) rfl ?_
      cases h
      exact xretz tn_X4_has rfl (by decide) dX4_has_17
    · refine xs tn_X4_has [(12, .iconst 1, 1), (13, .goto 4, 3)] (st' := (17, [(0, .ref 1), (1, .int x1)], [.int (nI 1)], wd s rest, 0, 0)) (List.forall_mem_cons.mpr ⟨dX4_has_12, List.forall_mem_cons.mpr ⟨dX4_has_13, fun _ h => absurd h List.not_mem_nil⟩⟩) rfl ?_
      cases h
      exact xretz tn_X4_has rfl (by decide) dX4_has_17
def F_X5_sumOf_10_19 (N : Nat) : Nat → St → Int32 → Int32 → Int32 → Option (Int32)
  | 0, _, _, _, _ => none
  | f + 1, s, x1, x2, x3 => bif mx_cnd .ge x3 (nI 28) then (some x2) else (ldA (gA s 6) 32 (x1 + x3) fun v1 => F_X5_sumOf_10_19 N f s x1 ((((x2 ^^^ v1) <<< ((nI 7) &&& 31)) ||| (((x2 ^^^ v1).toUInt32 >>> ((nI 25).toUInt32 &&& Int32.toUInt32 31)).toInt32)) * (461845907 : Int32)) (x3 + (nI 1)))
set_option maxRecDepth 100000 in
set_option maxHeartbeats 4000000 in
theorem w_X5_sumOf_10_19 {rest : mx_W} {N : Nat} : ∀ (f : Nat) (s : St) (x1 : Int32) (x2 : Int32) (x3 : Int32) (r : Int32), F_X5_sumOf_10_19 N f s x1 x2 x3 = some r → X 28 (19, [(0, .ref 10), (1, .int x1), (2, .int x2), (3, .int x3)], [], wd s rest, 0, 0) (some (.int r), wd s rest, 0, 0) := by
  intro f
  induction f with
  | zero => intro s x1 x2 x3 r h; rw [F_X5_sumOf_10_19.eq_1] at h; cases h
  | succ f ih =>
    intro s x1 x2 x3 r h
    rw [F_X5_sumOf_10_19.eq_2] at h
    refine xs tn_X5_sumOf [(19, .iload_n 3, 1), (20, .bipush 28, 2)] (st' := (22, [(0, .ref 10), (1, .int x1), (2, .int x2), (3, .int x3)], [.int (nI 28), .int x3], wd s rest, 0, 0)) (List.forall_mem_cons.mpr ⟨dX5_sumOf_19, List.forall_mem_cons.mpr ⟨dX5_sumOf_20, fun _ h => absurd h List.not_mem_nil⟩⟩) rfl ?_
    refine xcmpF (t := 56) tn_X5_sumOf dX5_sumOf_22 (by decide) h (fun h => ?_) (fun h => ?_)
    · refine xs tn_X5_sumOf [(56, .iload_n 2, 1)] (st' := (57, [(0, .ref 10), (1, .int x1), (2, .int x2), (3, .int x3)], [.int x2], wd s rest, 0, 0)) (List.forall_mem_cons.mpr ⟨dX5_sumOf_56, fun _ h => absurd h List.not_mem_nil⟩) rfl ?_
      cases h
      exact xret tn_X5_sumOf rfl dX5_sumOf_57
    · refine xs tn_X5_sumOf [(25, .iload_n 2, 1), (26, .aload_n 0, 1), (27, .iload_n 1, 1), (28, .iload_n 3, 1), (29, .iadd, 1)] (st' := (30, [(0, .ref 10), (1, .int x1), (2, .int x2), (3, .int x3)], [.int (x1 + x3), .ref 10, .int x2], wd s rest, 0, 0)) (List.forall_mem_cons.mpr ⟨dX5_sumOf_25, List.forall_mem_cons.mpr ⟨dX5_sumOf_26, List.forall_mem_cons.mpr ⟨dX5_sumOf_27, List.forall_mem_cons.mpr ⟨dX5_sumOf_28, List.forall_mem_cons.mpr ⟨dX5_sumOf_29, fun _ h => absurd h List.not_mem_nil⟩⟩⟩⟩⟩) rfl ?_
      refine xldF tn_X5_sumOf dX5_sumOf_30 at_10 h (fun v1 h => ?_)
      refine xs tn_X5_sumOf [(31, .ixor, 1), (32, .istore 4, 2), (34, .iload 4, 2), (36, .bipush 7, 2), (38, .ishl, 1), (39, .iload 4, 2), (41, .bipush 25, 2), (43, .iushr, 1), (44, .ior, 1), (45, .ldc_w 274, 3), (48, .imul, 1), (49, .istore_n 2, 1), (50, .iinc 3 1, 3), (53, .goto (-34), 3)] (st' := (19, [(4, .int (x2 ^^^ v1)), (0, .ref 10), (1, .int x1), (2, .int ((((x2 ^^^ v1) <<< ((nI 7) &&& 31)) ||| (((x2 ^^^ v1).toUInt32 >>> ((nI 25).toUInt32 &&& Int32.toUInt32 31)).toInt32)) * (461845907 : Int32))), (3, .int (x3 + (nI 1)))], [], wd s rest, 0, 0)) (List.forall_mem_cons.mpr ⟨dX5_sumOf_31, List.forall_mem_cons.mpr ⟨dX5_sumOf_32, List.forall_mem_cons.mpr ⟨dX5_sumOf_34, List.forall_mem_cons.mpr ⟨dX5_sumOf_36, List.forall_mem_cons.mpr ⟨dX5_sumOf_38, List.forall_mem_cons.mpr ⟨dX5_sumOf_39, List.forall_mem_cons.mpr ⟨dX5_sumOf_41, List.forall_mem_cons.mpr ⟨dX5_sumOf_43, List.forall_mem_cons.mpr ⟨dX5_sumOf_44, List.forall_mem_cons.mpr ⟨dX5_sumOf_45, List.forall_mem_cons.mpr ⟨dX5_sumOf_48, List.forall_mem_cons.mpr ⟨dX5_sumOf_49, List.forall_mem_cons.mpr ⟨dX5_sumOf_50, List.forall_mem_cons.mpr ⟨dX5_sumOf_53, fun _ h => absurd h List.not_mem_nil⟩⟩⟩⟩⟩⟩⟩⟩⟩⟩⟩⟩⟩⟩) rfl ?_
      refine xwk [0, 1, 2, 3] rfl rfl ?_
      exact ih _ _ _ _ _ h
def F_X5_sumOf_10 (N : Nat) (s : St) (x1 : Int32) : Option (Int32) := bif mx_cnd .lt x1 0 then (some (nI 0)) else (bif mx_cnd .le x1 ((nI 32) - (nI 32)) then (F_X5_sumOf_10_19 N N s x1 (nI 0) (nI 0)) else (some (nI 0)))
set_option maxRecDepth 100000 in
set_option maxHeartbeats 4000000 in
theorem w_X5_sumOf_10 {rest : mx_W} {N : Nat} {s : St} {x1 : Int32} {r : Int32} (h : F_X5_sumOf_10 N s x1 = some r) : X 28 (0, [(0, .ref 10), (1, .int x1)], [], wd s rest, 0, 0) (some (.int r), wd s rest, 0, 0) := by
  unfold F_X5_sumOf_10 at h
  refine xs tn_X5_sumOf [(0, .iconst 0, 1), (1, .istore_n 2, 1), (2, .iload_n 1, 1)] (st' := (3, [(2, .int (nI 0)), (0, .ref 10), (1, .int x1)], [.int x1], wd s rest, 0, 0)) (List.forall_mem_cons.mpr ⟨dX5_sumOf_0, List.forall_mem_cons.mpr ⟨dX5_sumOf_1, List.forall_mem_cons.mpr ⟨dX5_sumOf_2, fun _ h => absurd h List.not_mem_nil⟩⟩⟩) rfl ?_
  refine xifF (t := 15) tn_X5_sumOf dX5_sumOf_3 (by decide) h (fun h => ?_) (fun h => ?_)
  · refine xs tn_X5_sumOf [(15, .iload_n 2, 1)] (st' := (16, [(2, .int (nI 0)), (0, .ref 10), (1, .int x1)], [.int (nI 0)], wd s rest, 0, 0)) (List.forall_mem_cons.mpr ⟨dX5_sumOf_15, fun _ h => absurd h List.not_mem_nil⟩) rfl ?_
    cases h
    exact xret tn_X5_sumOf rfl dX5_sumOf_16
  · refine xs tn_X5_sumOf [(6, .iload_n 1, 1), (7, .aload_n 0, 1), (8, .arraylength, 1), (9, .bipush 32, 2), (11, .isub, 1)] (st' := (12, [(2, .int (nI 0)), (0, .ref 10), (1, .int x1)], [.int ((nI 32) - (nI 32)), .int x1], wd s rest, 0, 0)) (List.forall_mem_cons.mpr ⟨dX5_sumOf_6, List.forall_mem_cons.mpr ⟨dX5_sumOf_7, List.forall_mem_cons.mpr ⟨dX5_sumOf_8, List.forall_mem_cons.mpr ⟨dX5_sumOf_9, List.forall_mem_cons.mpr ⟨dX5_sumOf_11, fun _ h => absurd h List.not_mem_nil⟩⟩⟩⟩⟩) rfl ?_
    refine xcmpF (t := 17) tn_X5_sumOf dX5_sumOf_12 (by decide) h (fun h => ?_) (fun h => ?_)
    · refine xs tn_X5_sumOf [(17, .iconst 0, 1), (18, .istore_n 3, 1)] (st' := (19, [(3, .int (nI 0)), (2, .int (nI 0)), (0, .ref 10), (1, .int x1)], [], wd s rest, 0, 0)) (List.forall_mem_cons.mpr ⟨dX5_sumOf_17, List.forall_mem_cons.mpr ⟨dX5_sumOf_18, fun _ h => absurd h List.not_mem_nil⟩⟩) rfl ?_
      refine xwk [0, 1, 2, 3] rfl rfl ?_
      exact w_X5_sumOf_10_19 N _ _ _ _ _ h
    · refine xs tn_X5_sumOf [(15, .iload_n 2, 1)] (st' := (16, [(2, .int (nI 0)), (0, .ref 10), (1, .int x1)], [.int (nI 0)], wd s rest, 0, 0)) (List.forall_mem_cons.mpr ⟨dX5_sumOf_15, fun _ h => absurd h List.not_mem_nil⟩) rfl ?_
      cases h
      exact xret tn_X5_sumOf rfl dX5_sumOf_16
def F_X0_seal_11 (N : Nat) : Nat → St → Int32 → Int32 → Option (St)
  | 0, _, _, _ => none
  | f + 1, s, x1, x2 => bif mx_cnd .ge x2 (nI 4) then (some s) else (stA s 6 32 ((nI 28) + x2) (((x1.toUInt32 >>> (((nI 24) - ((nI 8) * x2)).toUInt32 &&& Int32.toUInt32 31)).toInt32) &&& (nI 255)) fun s1 => F_X0_seal_11 N f s1 x1 (x2 + (nI 1)))
set_option maxRecDepth 100000 in
set_option maxHeartbeats 4000000 in
theorem w_X0_seal_11 {rest : mx_W} {N : Nat} : ∀ (f : Nat) (s : St) (x1 : Int32) (x2 : Int32) (r : St), F_X0_seal_11 N f s x1 x2 = some r → X 41 (11, [(0, .ref 9), (1, .int x1), (2, .int x2)], [], wd s rest, 0, 0) (none, wd r rest, 0, 0) := by
  intro f
  induction f with
  | zero => intro s x1 x2 r h; rw [F_X0_seal_11.eq_1] at h; cases h
  | succ f ih =>
    intro s x1 x2 r h
    rw [F_X0_seal_11.eq_2] at h
    refine xs tn_X0_seal [(11, .iload_n 2, 1), (12, .iconst 4, 1)] (st' := (13, [(0, .ref 9), (1, .int x1), (2, .int x2)], [.int (nI 4), .int x2], wd s rest, 0, 0)) (List.forall_mem_cons.mpr ⟨dX0_seal_11, List.forall_mem_cons.mpr ⟨dX0_seal_12, fun _ h => absurd h List.not_mem_nil⟩⟩) rfl ?_
    refine xcmpF (t := 44) tn_X0_seal dX0_seal_13 (by decide) h (fun h => ?_) (fun h => ?_)
    · cases h
      exact xretv tn_X0_seal rfl dX0_seal_44
    · refine xs tn_X0_seal [(16, .aload_n 0, 1), (17, .getfield 9, 3), (20, .bipush 28, 2), (22, .iload_n 2, 1), (23, .iadd, 1), (24, .iload_n 1, 1), (25, .bipush 24, 2), (27, .bipush 8, 2), (29, .iload_n 2, 1), (30, .imul, 1), (31, .isub, 1), (32, .iushr, 1), (33, .sipush 255, 3), (36, .iand, 1)] (st' := (37, [(0, .ref 9), (1, .int x1), (2, .int x2)], [.int (((x1.toUInt32 >>> (((nI 24) - ((nI 8) * x2)).toUInt32 &&& Int32.toUInt32 31)).toInt32) &&& (nI 255)), .int ((nI 28) + x2), .ref 10], wd s rest, 0, 0)) (List.forall_mem_cons.mpr ⟨dX0_seal_16, List.forall_mem_cons.mpr ⟨dX0_seal_17, List.forall_mem_cons.mpr ⟨dX0_seal_20, List.forall_mem_cons.mpr ⟨dX0_seal_22, List.forall_mem_cons.mpr ⟨dX0_seal_23, List.forall_mem_cons.mpr ⟨dX0_seal_24, List.forall_mem_cons.mpr ⟨dX0_seal_25, List.forall_mem_cons.mpr ⟨dX0_seal_27, List.forall_mem_cons.mpr ⟨dX0_seal_29, List.forall_mem_cons.mpr ⟨dX0_seal_30, List.forall_mem_cons.mpr ⟨dX0_seal_31, List.forall_mem_cons.mpr ⟨dX0_seal_32, List.forall_mem_cons.mpr ⟨dX0_seal_33, List.forall_mem_cons.mpr ⟨dX0_seal_36, fun _ h => absurd h List.not_mem_nil⟩⟩⟩⟩⟩⟩⟩⟩⟩⟩⟩⟩⟩⟩) rfl ?_
      refine xstF (W := fun s => wd s rest) tn_X0_seal dX0_seal_37 at_10 (fun _ => set_10) h (fun s1 h => ?_)
      refine xs tn_X0_seal [(38, .iinc 2 1, 3), (41, .goto (-30), 3)] (st' := (11, [(0, .ref 9), (1, .int x1), (2, .int (x2 + (nI 1)))], [], wd s1 rest, 0, 0)) (List.forall_mem_cons.mpr ⟨dX0_seal_38, List.forall_mem_cons.mpr ⟨dX0_seal_41, fun _ h => absurd h List.not_mem_nil⟩⟩) rfl ?_
      refine xwk [0, 1, 2] rfl rfl ?_
      exact ih _ _ _ _ h
def F_X0_seal (N : Nat) (s : St) : Option (St) := (F_X5_sumOf_10 N s (nI 0)).bind fun v1 => F_X0_seal_11 N N s v1 (nI 0)
set_option maxRecDepth 100000 in
set_option maxHeartbeats 4000000 in
theorem w_X0_seal {rest : mx_W} {N : Nat} {s : St} {r : St} (h : F_X0_seal N s = some r) : X 41 (0, [(0, .ref 9)], [], wd s rest, 0, 0) (none, wd r rest, 0, 0) := by
  unfold F_X0_seal at h
  refine xs tn_X0_seal [(0, .aload_n 0, 1), (1, .getfield 9, 3), (4, .iconst 0, 1)] (st' := (5, [(0, .ref 9)], [.int (nI 0), .ref 10], wd s rest, 0, 0)) (List.forall_mem_cons.mpr ⟨dX0_seal_0, List.forall_mem_cons.mpr ⟨dX0_seal_1, List.forall_mem_cons.mpr ⟨dX0_seal_4, fun _ h => absurd h List.not_mem_nil⟩⟩⟩) rfl ?_
  obtain ⟨v1, h2, h⟩ := obind h
  refine xcall tn_X0_seal dX0_seal_5 rfl rfl (w_X5_sumOf_10 h2) ?_
  show X 41 (8, [(0, .ref 9)], [.int v1], wd s rest, 0, 0) _
  refine xs tn_X0_seal [(8, .istore_n 1, 1), (9, .iconst 0, 1), (10, .istore_n 2, 1)] (st' := (11, [(2, .int (nI 0)), (1, .int v1), (0, .ref 9)], [], wd s rest, 0, 0)) (List.forall_mem_cons.mpr ⟨dX0_seal_8, List.forall_mem_cons.mpr ⟨dX0_seal_9, List.forall_mem_cons.mpr ⟨dX0_seal_10, fun _ h => absurd h List.not_mem_nil⟩⟩⟩) rfl ?_
  refine xwk [0, 1, 2] rfl rfl ?_
  exact w_X0_seal_11 N _ _ _ _ h
def F_X4_isLost (s : St) (x1 : Int32) : Option (Int32) := (F_X4_has s x1).bind fun v1 => bif mx_cnd .eq v1 0 then (some (nI 0)) else (ldA (gA s 1) (gN s) x1 fun v3 => bif mx_cnd .eq v3 0 then (some (nI 0)) else (some (nI 1)))
set_option maxRecDepth 100000 in
set_option maxHeartbeats 4000000 in
theorem w_X4_isLost {rest : mx_W} {s : St} {x1 : Int32} {r : Int32} (h : F_X4_isLost s x1 = some r) : X 47 (0, [(0, .ref 1), (1, .int x1)], [], wd s rest, 0, 0) (some (.int r), wd s rest, 0, 0) := by
  unfold F_X4_isLost at h
  refine xs tn_X4_isLost [(0, .aload_n 0, 1), (1, .iload_n 1, 1)] (st' := (2, [(0, .ref 1), (1, .int x1)], [.int x1, .ref 1], wd s rest, 0, 0)) (List.forall_mem_cons.mpr ⟨dX4_isLost_0, List.forall_mem_cons.mpr ⟨dX4_isLost_1, fun _ h => absurd h List.not_mem_nil⟩⟩) rfl ?_
  obtain ⟨v1, h2, h⟩ := obind h
  refine xcall tn_X4_isLost dX4_isLost_2 rfl rfl (w_X4_has h2) ?_
  show X 47 (5, [(0, .ref 1), (1, .int x1)], [.int v1], wd s rest, 0, 0) _
  refine xifF (t := 21) tn_X4_isLost dX4_isLost_5 (by decide) h (fun h => ?_) (fun h => ?_)
  · refine xs tn_X4_isLost [(21, .iconst 0, 1)] (st' := (22, [(0, .ref 1), (1, .int x1)], [.int (nI 0)], wd s rest, 0, 0)) (List.forall_mem_cons.mpr ⟨dX4_isLost_21, fun _ h => absurd h List.not_mem_nil⟩) rfl ?_
    cases h
    exact xretz tn_X4_isLost rfl (by decide) dX4_isLost_22
  · refine xs tn_X4_isLost [(8, .aload_n 0, 1), (9, .getfield 28, 3), (12, .iload_n 1, 1)] (st' := (13, [(0, .ref 1), (1, .int x1)], [.int x1, .ref 3], wd s rest, 0, 0)) (List.forall_mem_cons.mpr ⟨dX4_isLost_8, List.forall_mem_cons.mpr ⟨dX4_isLost_9, List.forall_mem_cons.mpr ⟨dX4_isLost_12, fun _ h => absurd h List.not_mem_nil⟩⟩⟩) rfl ?_
    refine xzldF tn_X4_isLost dX4_isLost_13 at_3 h (fun v3 h => ?_)
    refine xifF (t := 21) tn_X4_isLost dX4_isLost_14 (by decide) h (fun h => ?_) (fun h => ?_)
    · refine xs tn_X4_isLost [(21, .iconst 0, 1)] (st' := (22, [(0, .ref 1), (1, .int x1)], [.int (nI 0)], wd s rest, 0, 0)) (List.forall_mem_cons.mpr ⟨dX4_isLost_21, fun _ h => absurd h List.not_mem_nil⟩) rfl ?_
      cases h
      exact xretz tn_X4_isLost rfl (by decide) dX4_isLost_22
    · refine xs tn_X4_isLost [(17, .iconst 1, 1), (18, .goto 4, 3)] (st' := (22, [(0, .ref 1), (1, .int x1)], [.int (nI 1)], wd s rest, 0, 0)) (List.forall_mem_cons.mpr ⟨dX4_isLost_17, List.forall_mem_cons.mpr ⟨dX4_isLost_18, fun _ h => absurd h List.not_mem_nil⟩⟩) rfl ?_
      cases h
      exact xretz tn_X4_isLost rfl (by decide) dX4_isLost_22
def F_X4_copyTo (s : St) (x1 : Int32) (x3 : Int32) : Option (St) := (F_X4_has s x1).bind fun v1 => bif mx_cnd .eq v1 0 then (some s) else (bif mx_cnd .lt x3 0 then (some s) else (bif mx_cnd .gt x3 ((nI 1920) - (nI 32)) then (some s) else (cpA s 0 (32 * gN s) 4 1920 (x1 * (nI 32)) x3 (nI 32) fun s3 => some s3)))
set_option maxRecDepth 100000 in
set_option maxHeartbeats 4000000 in
theorem w_X4_copyTo {rest : mx_W} {s : St} {x1 : Int32} {x3 : Int32} {r : St} (h : F_X4_copyTo s x1 x3 = some r) : X 45 (0, [(0, .ref 1), (1, .int x1), (2, .ref 7), (3, .int x3)], [], wd s rest, 0, 0) (none, wd r rest, 0, 0) := by
  unfold F_X4_copyTo at h
  refine xs tn_X4_copyTo [(0, .aload_n 0, 1), (1, .iload_n 1, 1)] (st' := (2, [(0, .ref 1), (1, .int x1), (2, .ref 7), (3, .int x3)], [.int x1, .ref 1], wd s rest, 0, 0)) (List.forall_mem_cons.mpr ⟨dX4_copyTo_0, List.forall_mem_cons.mpr ⟨dX4_copyTo_1, fun _ h => absurd h List.not_mem_nil⟩⟩) rfl ?_
  obtain ⟨v1, h2, h⟩ := obind h
  refine xcall tn_X4_copyTo dX4_copyTo_2 rfl rfl (w_X4_has h2) ?_
  show X 45 (5, [(0, .ref 1), (1, .int x1), (2, .ref 7), (3, .int x3)], [.int v1], wd s rest, 0, 0) _
  refine xifF (t := 36) tn_X4_copyTo dX4_copyTo_5 (by decide) h (fun h => ?_) (fun h => ?_)
  · cases h
    exact xretv tn_X4_copyTo rfl dX4_copyTo_36
  · refine xs tn_X4_copyTo [(8, .iload_n 3, 1)] (st' := (9, [(0, .ref 1), (1, .int x1), (2, .ref 7), (3, .int x3)], [.int x3], wd s rest, 0, 0)) (List.forall_mem_cons.mpr ⟨dX4_copyTo_8, fun _ h => absurd h List.not_mem_nil⟩) rfl ?_
    refine xifF (t := 36) tn_X4_copyTo dX4_copyTo_9 (by decide) h (fun h => ?_) (fun h => ?_)
    · cases h
      exact xretv tn_X4_copyTo rfl dX4_copyTo_36
    · refine xs tn_X4_copyTo [(12, .iload_n 3, 1), (13, .aload_n 2, 1), (14, .arraylength, 1), (15, .bipush 32, 2), (17, .isub, 1)] (st' := (18, [(0, .ref 1), (1, .int x1), (2, .ref 7), (3, .int x3)], [.int ((nI 1920) - (nI 32)), .int x3], wd s rest, 0, 0)) (List.forall_mem_cons.mpr ⟨dX4_copyTo_12, List.forall_mem_cons.mpr ⟨dX4_copyTo_13, List.forall_mem_cons.mpr ⟨dX4_copyTo_14, List.forall_mem_cons.mpr ⟨dX4_copyTo_15, List.forall_mem_cons.mpr ⟨dX4_copyTo_17, fun _ h => absurd h List.not_mem_nil⟩⟩⟩⟩⟩) rfl ?_
      refine xcmpF (t := 36) tn_X4_copyTo dX4_copyTo_18 (by decide) h (fun h => ?_) (fun h => ?_)
      · cases h
        exact xretv tn_X4_copyTo rfl dX4_copyTo_36
      · refine xs tn_X4_copyTo [(21, .aload_n 0, 1), (22, .getfield 24, 3), (25, .iload_n 1, 1), (26, .bipush 32, 2), (28, .imul, 1), (29, .aload_n 2, 1), (30, .iload_n 3, 1), (31, .bipush 32, 2)] (st' := (33, [(0, .ref 1), (1, .int x1), (2, .ref 7), (3, .int x3)], [.int (nI 32), .int x3, .ref 7, .int (x1 * (nI 32)), .ref 2], wd s rest, 0, 0)) (List.forall_mem_cons.mpr ⟨dX4_copyTo_21, List.forall_mem_cons.mpr ⟨dX4_copyTo_22, List.forall_mem_cons.mpr ⟨dX4_copyTo_25, List.forall_mem_cons.mpr ⟨dX4_copyTo_26, List.forall_mem_cons.mpr ⟨dX4_copyTo_28, List.forall_mem_cons.mpr ⟨dX4_copyTo_29, List.forall_mem_cons.mpr ⟨dX4_copyTo_30, List.forall_mem_cons.mpr ⟨dX4_copyTo_31, fun _ h => absurd h List.not_mem_nil⟩⟩⟩⟩⟩⟩⟩⟩) rfl ?_
        refine xcpF (W := fun s => wd s rest) tn_X4_copyTo dX4_copyTo_33 rfl at_2 at_7 (fun _ => set_7) rfl h (fun s3 h => ?_)
        cases h
        exact xretv tn_X4_copyTo rfl dX4_copyTo_36
def F_X3_note (s : St) (x1 : Int32) : Option (St) := bif mx_cnd .lt (gI s 8) (nI 60) then (stA s 3 60 (gI s 8) x1 fun s1 => (F_X4_isLost s1 x1).bind fun v2 => stA s1 5 60 (gI s1 8) (vp_nar .boolean v2) fun s4 => (F_X4_copyTo s4 x1 ((gI s4 8) * (nI 32))).bind fun s5 => bnd (sI s5 8 ((gI s5 8) + (nI 1))) fun s7 => some s7) else (some s)
set_option maxRecDepth 100000 in
set_option maxHeartbeats 4000000 in
theorem w_X3_note {rest : mx_W} {s : St} {x1 : Int32} {r : St} (h : F_X3_note s x1 = some r) : X 68 (0, [(0, .ref 5), (1, .int x1), (2, .ref 1)], [], wd s rest, 0, 0) (none, wd r rest, 0, 0) := by
  unfold F_X3_note at h
  refine xs tn_X3_note [(0, .aload_n 0, 1), (1, .getfield 22, 3), (4, .bipush 60, 2)] (st' := (6, [(0, .ref 5), (1, .int x1), (2, .ref 1)], [.int (nI 60), .int (gI s 8)], wd s rest, 0, 0)) (List.forall_mem_cons.mpr ⟨dX3_note_0, List.forall_mem_cons.mpr ⟨dX3_note_1, List.forall_mem_cons.mpr ⟨dX3_note_4, fun _ h => absurd h List.not_mem_nil⟩⟩⟩) rfl ?_
  refine xcmpF (t := 10) tn_X3_note dX3_note_6 (by decide) h (fun h => ?_) (fun h => ?_)
  · refine xs tn_X3_note [(10, .aload_n 0, 1), (11, .getfield 9, 3), (14, .aload_n 0, 1), (15, .getfield 22, 3), (18, .iload_n 1, 1)] (st' := (19, [(0, .ref 5), (1, .int x1), (2, .ref 1)], [.int x1, .int (gI s 8), .ref 6], wd s rest, 0, 0)) (List.forall_mem_cons.mpr ⟨dX3_note_10, List.forall_mem_cons.mpr ⟨dX3_note_11, List.forall_mem_cons.mpr ⟨dX3_note_14, List.forall_mem_cons.mpr ⟨dX3_note_15, List.forall_mem_cons.mpr ⟨dX3_note_18, fun _ h => absurd h List.not_mem_nil⟩⟩⟩⟩⟩) rfl ?_
    refine xstF (W := fun s => wd s rest) tn_X3_note dX3_note_19 at_6 (fun _ => set_6) h (fun s1 h => ?_)
    refine xs tn_X3_note [(20, .aload_n 0, 1), (21, .getfield 18, 3), (24, .aload_n 0, 1), (25, .getfield 22, 3), (28, .aload_n 2, 1), (29, .iload_n 1, 1)] (st' := (30, [(0, .ref 5), (1, .int x1), (2, .ref 1)], [.int x1, .ref 1, .int (gI s1 8), .ref 8], wd s1 rest, 0, 0)) (List.forall_mem_cons.mpr ⟨dX3_note_20, List.forall_mem_cons.mpr ⟨dX3_note_21, List.forall_mem_cons.mpr ⟨dX3_note_24, List.forall_mem_cons.mpr ⟨dX3_note_25, List.forall_mem_cons.mpr ⟨dX3_note_28, List.forall_mem_cons.mpr ⟨dX3_note_29, fun _ h => absurd h List.not_mem_nil⟩⟩⟩⟩⟩⟩) rfl ?_
    obtain ⟨v2, h3, h⟩ := obind h
    refine xcall tn_X3_note dX3_note_30 rfl rfl (w_X4_isLost h3) ?_
    show X 68 (33, [(0, .ref 5), (1, .int x1), (2, .ref 1)], [.int v2, .int (gI s1 8), .ref 8], wd s1 rest, 0, 0) _
    refine xzstF (W := fun s => wd s rest) tn_X3_note dX3_note_33 at_8 (fun _ => set_8) h (fun s4 h => ?_)
    refine xs tn_X3_note [(34, .aload_n 2, 1), (35, .iload_n 1, 1), (36, .aload_n 0, 1), (37, .getfield 15, 3), (40, .aload_n 0, 1), (41, .getfield 22, 3), (44, .bipush 32, 2), (46, .imul, 1)] (st' := (47, [(0, .ref 5), (1, .int x1), (2, .ref 1)], [.int ((gI s4 8) * (nI 32)), .ref 7, .int x1, .ref 1], wd s4 rest, 0, 0)) (List.forall_mem_cons.mpr ⟨dX3_note_34, List.forall_mem_cons.mpr ⟨dX3_note_35, List.forall_mem_cons.mpr ⟨dX3_note_36, List.forall_mem_cons.mpr ⟨dX3_note_37, List.forall_mem_cons.mpr ⟨dX3_note_40, List.forall_mem_cons.mpr ⟨dX3_note_41, List.forall_mem_cons.mpr ⟨dX3_note_44, List.forall_mem_cons.mpr ⟨dX3_note_46, fun _ h => absurd h List.not_mem_nil⟩⟩⟩⟩⟩⟩⟩⟩) rfl ?_
    obtain ⟨s5, h6, h⟩ := obind h
    refine xcall tn_X3_note dX3_note_47 rfl rfl (w_X4_copyTo h6) ?_
    show X 68 (50, [(0, .ref 5), (1, .int x1), (2, .ref 1)], [], wd s5 rest, 0, 0) _
    refine xs tn_X3_note [(50, .aload_n 0, 1), (51, .dup, 1), (52, .getfield 22, 3), (55, .iconst 1, 1), (56, .iadd, 1)] (st' := (57, [(0, .ref 5), (1, .int x1), (2, .ref 1)], [.int ((gI s5 8) + (nI 1)), .ref 5], wd s5 rest, 0, 0)) (List.forall_mem_cons.mpr ⟨dX3_note_50, List.forall_mem_cons.mpr ⟨dX3_note_51, List.forall_mem_cons.mpr ⟨dX3_note_52, List.forall_mem_cons.mpr ⟨dX3_note_55, List.forall_mem_cons.mpr ⟨dX3_note_56, fun _ h => absurd h List.not_mem_nil⟩⟩⟩⟩⟩) rfl ?_
    refine xput_a8 tn_X3_note dX3_note_57 rfl h (fun s7 h => ?_)
    cases h
    exact xretv tn_X3_note rfl dX3_note_60
  · cases h
    exact xretv tn_X3_note rfl dX3_note_9
def F_X4_cell (s : St) (x1 : Int32) (x2 : Int32) : Option (Int32) := bif mx_cnd .lt x1 0 then (some (nI 0)) else (bif mx_cnd .ge x1 (nI (gN s)) then (some (nI 0)) else (bif mx_cnd .lt x2 0 then (some (nI 0)) else (bif mx_cnd .ge x2 (nI 32) then (some (nI 0)) else (ldA (gA s 0) (32 * gN s) ((x1 * (nI 32)) + x2) fun v1 => some v1))))
set_option maxRecDepth 100000 in
set_option maxHeartbeats 4000000 in
theorem w_X4_cell {rest : mx_W} {s : St} {x1 : Int32} {x2 : Int32} {r : Int32} (h : F_X4_cell s x1 x2 = some r) : X 17 (0, [(0, .ref 1), (1, .int x1), (2, .int x2)], [], wd s rest, 0, 0) (some (.int r), wd s rest, 0, 0) := by
  unfold F_X4_cell at h
  refine xs tn_X4_cell [(0, .iload_n 1, 1)] (st' := (1, [(0, .ref 1), (1, .int x1), (2, .int x2)], [.int x1], wd s rest, 0, 0)) (List.forall_mem_cons.mpr ⟨dX4_cell_0, fun _ h => absurd h List.not_mem_nil⟩) rfl ?_
  refine xifF (t := 26) tn_X4_cell dX4_cell_1 (by decide) h (fun h => ?_) (fun h => ?_)
  · refine xs tn_X4_cell [(26, .iconst 0, 1), (27, .istore_n 3, 1), (28, .iload_n 3, 1)] (st' := (29, [(3, .int (nI 0)), (0, .ref 1), (1, .int x1), (2, .int x2)], [.int (nI 0)], wd s rest, 0, 0)) (List.forall_mem_cons.mpr ⟨dX4_cell_26, List.forall_mem_cons.mpr ⟨dX4_cell_27, List.forall_mem_cons.mpr ⟨dX4_cell_28, fun _ h => absurd h List.not_mem_nil⟩⟩⟩) rfl ?_
    refine xifT (t := 46) tn_X4_cell dX4_cell_29 (by decide) (by decide) ?_
    refine xs tn_X4_cell [(46, .iconst 0, 1)] (st' := (47, [(3, .int (nI 0)), (0, .ref 1), (1, .int x1), (2, .int x2)], [.int (nI 0)], wd s rest, 0, 0)) (List.forall_mem_cons.mpr ⟨dX4_cell_46, fun _ h => absurd h List.not_mem_nil⟩) rfl ?_
    cases h
    exact xret tn_X4_cell rfl dX4_cell_47
  · refine xs tn_X4_cell [(4, .iload_n 1, 1), (5, .aload_n 0, 1), (6, .getfield 18, 3)] (st' := (9, [(0, .ref 1), (1, .int x1), (2, .int x2)], [.int (nI (gN s)), .int x1], wd s rest, 0, 0)) (List.forall_mem_cons.mpr ⟨dX4_cell_4, List.forall_mem_cons.mpr ⟨dX4_cell_5, List.forall_mem_cons.mpr ⟨dX4_cell_6, fun _ h => absurd h List.not_mem_nil⟩⟩⟩) rfl ?_
    refine xcmpF (t := 26) tn_X4_cell dX4_cell_9 (by decide) h (fun h => ?_) (fun h => ?_)
    · refine xs tn_X4_cell [(26, .iconst 0, 1), (27, .istore_n 3, 1), (28, .iload_n 3, 1)] (st' := (29, [(3, .int (nI 0)), (0, .ref 1), (1, .int x1), (2, .int x2)], [.int (nI 0)], wd s rest, 0, 0)) (List.forall_mem_cons.mpr ⟨dX4_cell_26, List.forall_mem_cons.mpr ⟨dX4_cell_27, List.forall_mem_cons.mpr ⟨dX4_cell_28, fun _ h => absurd h List.not_mem_nil⟩⟩⟩) rfl ?_
      refine xifT (t := 46) tn_X4_cell dX4_cell_29 (by decide) (by decide) ?_
      refine xs tn_X4_cell [(46, .iconst 0, 1)] (st' := (47, [(3, .int (nI 0)), (0, .ref 1), (1, .int x1), (2, .int x2)], [.int (nI 0)], wd s rest, 0, 0)) (List.forall_mem_cons.mpr ⟨dX4_cell_46, fun _ h => absurd h List.not_mem_nil⟩) rfl ?_
      cases h
      exact xret tn_X4_cell rfl dX4_cell_47
    · refine xs tn_X4_cell [(12, .iload_n 2, 1)] (st' := (13, [(0, .ref 1), (1, .int x1), (2, .int x2)], [.int x2], wd s rest, 0, 0)) (List.forall_mem_cons.mpr ⟨dX4_cell_12, fun _ h => absurd h List.not_mem_nil⟩) rfl ?_
      refine xifF (t := 26) tn_X4_cell dX4_cell_13 (by decide) h (fun h => ?_) (fun h => ?_)
      · refine xs tn_X4_cell [(26, .iconst 0, 1), (27, .istore_n 3, 1), (28, .iload_n 3, 1)] (st' := (29, [(3, .int (nI 0)), (0, .ref 1), (1, .int x1), (2, .int x2)], [.int (nI 0)], wd s rest, 0, 0)) (List.forall_mem_cons.mpr ⟨dX4_cell_26, List.forall_mem_cons.mpr ⟨dX4_cell_27, List.forall_mem_cons.mpr ⟨dX4_cell_28, fun _ h => absurd h List.not_mem_nil⟩⟩⟩) rfl ?_
        refine xifT (t := 46) tn_X4_cell dX4_cell_29 (by decide) (by decide) ?_
        refine xs tn_X4_cell [(46, .iconst 0, 1)] (st' := (47, [(3, .int (nI 0)), (0, .ref 1), (1, .int x1), (2, .int x2)], [.int (nI 0)], wd s rest, 0, 0)) (List.forall_mem_cons.mpr ⟨dX4_cell_46, fun _ h => absurd h List.not_mem_nil⟩) rfl ?_
        cases h
        exact xret tn_X4_cell rfl dX4_cell_47
      · refine xs tn_X4_cell [(16, .iload_n 2, 1), (17, .bipush 32, 2)] (st' := (19, [(0, .ref 1), (1, .int x1), (2, .int x2)], [.int (nI 32), .int x2], wd s rest, 0, 0)) (List.forall_mem_cons.mpr ⟨dX4_cell_16, List.forall_mem_cons.mpr ⟨dX4_cell_17, fun _ h => absurd h List.not_mem_nil⟩⟩) rfl ?_
        refine xcmpF (t := 26) tn_X4_cell dX4_cell_19 (by decide) h (fun h => ?_) (fun h => ?_)
        · refine xs tn_X4_cell [(26, .iconst 0, 1), (27, .istore_n 3, 1), (28, .iload_n 3, 1)] (st' := (29, [(3, .int (nI 0)), (0, .ref 1), (1, .int x1), (2, .int x2)], [.int (nI 0)], wd s rest, 0, 0)) (List.forall_mem_cons.mpr ⟨dX4_cell_26, List.forall_mem_cons.mpr ⟨dX4_cell_27, List.forall_mem_cons.mpr ⟨dX4_cell_28, fun _ h => absurd h List.not_mem_nil⟩⟩⟩) rfl ?_
          refine xifT (t := 46) tn_X4_cell dX4_cell_29 (by decide) (by decide) ?_
          refine xs tn_X4_cell [(46, .iconst 0, 1)] (st' := (47, [(3, .int (nI 0)), (0, .ref 1), (1, .int x1), (2, .int x2)], [.int (nI 0)], wd s rest, 0, 0)) (List.forall_mem_cons.mpr ⟨dX4_cell_46, fun _ h => absurd h List.not_mem_nil⟩) rfl ?_
          cases h
          exact xret tn_X4_cell rfl dX4_cell_47
        · refine xs tn_X4_cell [(22, .iconst 1, 1), (23, .goto 4, 3), (27, .istore_n 3, 1), (28, .iload_n 3, 1)] (st' := (29, [(3, .int (nI 1)), (0, .ref 1), (1, .int x1), (2, .int x2)], [.int (nI 1)], wd s rest, 0, 0)) (List.forall_mem_cons.mpr ⟨dX4_cell_22, List.forall_mem_cons.mpr ⟨dX4_cell_23, List.forall_mem_cons.mpr ⟨dX4_cell_27, List.forall_mem_cons.mpr ⟨dX4_cell_28, fun _ h => absurd h List.not_mem_nil⟩⟩⟩⟩) rfl ?_
          refine xifN (t := 46) tn_X4_cell dX4_cell_29 (by decide) (by decide) ?_
          refine xs tn_X4_cell [(32, .aload_n 0, 1), (33, .getfield 24, 3), (36, .iload_n 1, 1), (37, .bipush 32, 2), (39, .imul, 1), (40, .iload_n 2, 1), (41, .iadd, 1)] (st' := (42, [(3, .int (nI 1)), (0, .ref 1), (1, .int x1), (2, .int x2)], [.int ((x1 * (nI 32)) + x2), .ref 2], wd s rest, 0, 0)) (List.forall_mem_cons.mpr ⟨dX4_cell_32, List.forall_mem_cons.mpr ⟨dX4_cell_33, List.forall_mem_cons.mpr ⟨dX4_cell_36, List.forall_mem_cons.mpr ⟨dX4_cell_37, List.forall_mem_cons.mpr ⟨dX4_cell_39, List.forall_mem_cons.mpr ⟨dX4_cell_40, List.forall_mem_cons.mpr ⟨dX4_cell_41, fun _ h => absurd h List.not_mem_nil⟩⟩⟩⟩⟩⟩⟩) rfl ?_
          refine xldF tn_X4_cell dX4_cell_42 at_2 h (fun v1 h => ?_)
          refine xs tn_X4_cell [(43, .goto 4, 3)] (st' := (47, [(3, .int (nI 1)), (0, .ref 1), (1, .int x1), (2, .int x2)], [.int v1], wd s rest, 0, 0)) (List.forall_mem_cons.mpr ⟨dX4_cell_43, fun _ h => absurd h List.not_mem_nil⟩) rfl ?_
          cases h
          exact xret tn_X4_cell rfl dX4_cell_47
def F_X5_sumOf_2_19 (N : Nat) : Nat → St → Int32 → Int32 → Int32 → Option (Int32)
  | 0, _, _, _, _ => none
  | f + 1, s, x1, x2, x3 => bif mx_cnd .ge x3 (nI 28) then (some x2) else (ldA (gA s 0) (32 * gN s) (x1 + x3) fun v1 => F_X5_sumOf_2_19 N f s x1 ((((x2 ^^^ v1) <<< ((nI 7) &&& 31)) ||| (((x2 ^^^ v1).toUInt32 >>> ((nI 25).toUInt32 &&& Int32.toUInt32 31)).toInt32)) * (461845907 : Int32)) (x3 + (nI 1)))
set_option maxRecDepth 100000 in
set_option maxHeartbeats 4000000 in
theorem w_X5_sumOf_2_19 {rest : mx_W} {N : Nat} : ∀ (f : Nat) (s : St) (x1 : Int32) (x2 : Int32) (x3 : Int32) (r : Int32), F_X5_sumOf_2_19 N f s x1 x2 x3 = some r → X 28 (19, [(0, .ref 2), (1, .int x1), (2, .int x2), (3, .int x3)], [], wd s rest, 0, 0) (some (.int r), wd s rest, 0, 0) := by
  intro f
  induction f with
  | zero => intro s x1 x2 x3 r h; rw [F_X5_sumOf_2_19.eq_1] at h; cases h
  | succ f ih =>
    intro s x1 x2 x3 r h
    rw [F_X5_sumOf_2_19.eq_2] at h
    refine xs tn_X5_sumOf [(19, .iload_n 3, 1), (20, .bipush 28, 2)] (st' := (22, [(0, .ref 2), (1, .int x1), (2, .int x2), (3, .int x3)], [.int (nI 28), .int x3], wd s rest, 0, 0)) (List.forall_mem_cons.mpr ⟨dX5_sumOf_19, List.forall_mem_cons.mpr ⟨dX5_sumOf_20, fun _ h => absurd h List.not_mem_nil⟩⟩) rfl ?_
    refine xcmpF (t := 56) tn_X5_sumOf dX5_sumOf_22 (by decide) h (fun h => ?_) (fun h => ?_)
    · refine xs tn_X5_sumOf [(56, .iload_n 2, 1)] (st' := (57, [(0, .ref 2), (1, .int x1), (2, .int x2), (3, .int x3)], [.int x2], wd s rest, 0, 0)) (List.forall_mem_cons.mpr ⟨dX5_sumOf_56, fun _ h => absurd h List.not_mem_nil⟩) rfl ?_
      cases h
      exact xret tn_X5_sumOf rfl dX5_sumOf_57
    · refine xs tn_X5_sumOf [(25, .iload_n 2, 1), (26, .aload_n 0, 1), (27, .iload_n 1, 1), (28, .iload_n 3, 1), (29, .iadd, 1)] (st' := (30, [(0, .ref 2), (1, .int x1), (2, .int x2), (3, .int x3)], [.int (x1 + x3), .ref 2, .int x2], wd s rest, 0, 0)) (List.forall_mem_cons.mpr ⟨dX5_sumOf_25, List.forall_mem_cons.mpr ⟨dX5_sumOf_26, List.forall_mem_cons.mpr ⟨dX5_sumOf_27, List.forall_mem_cons.mpr ⟨dX5_sumOf_28, List.forall_mem_cons.mpr ⟨dX5_sumOf_29, fun _ h => absurd h List.not_mem_nil⟩⟩⟩⟩⟩) rfl ?_
      refine xldF tn_X5_sumOf dX5_sumOf_30 at_2 h (fun v1 h => ?_)
      refine xs tn_X5_sumOf [(31, .ixor, 1), (32, .istore 4, 2), (34, .iload 4, 2), (36, .bipush 7, 2), (38, .ishl, 1), (39, .iload 4, 2), (41, .bipush 25, 2), (43, .iushr, 1), (44, .ior, 1), (45, .ldc_w 274, 3), (48, .imul, 1), (49, .istore_n 2, 1), (50, .iinc 3 1, 3), (53, .goto (-34), 3)] (st' := (19, [(4, .int (x2 ^^^ v1)), (0, .ref 2), (1, .int x1), (2, .int ((((x2 ^^^ v1) <<< ((nI 7) &&& 31)) ||| (((x2 ^^^ v1).toUInt32 >>> ((nI 25).toUInt32 &&& Int32.toUInt32 31)).toInt32)) * (461845907 : Int32))), (3, .int (x3 + (nI 1)))], [], wd s rest, 0, 0)) (List.forall_mem_cons.mpr ⟨dX5_sumOf_31, List.forall_mem_cons.mpr ⟨dX5_sumOf_32, List.forall_mem_cons.mpr ⟨dX5_sumOf_34, List.forall_mem_cons.mpr ⟨dX5_sumOf_36, List.forall_mem_cons.mpr ⟨dX5_sumOf_38, List.forall_mem_cons.mpr ⟨dX5_sumOf_39, List.forall_mem_cons.mpr ⟨dX5_sumOf_41, List.forall_mem_cons.mpr ⟨dX5_sumOf_43, List.forall_mem_cons.mpr ⟨dX5_sumOf_44, List.forall_mem_cons.mpr ⟨dX5_sumOf_45, List.forall_mem_cons.mpr ⟨dX5_sumOf_48, List.forall_mem_cons.mpr ⟨dX5_sumOf_49, List.forall_mem_cons.mpr ⟨dX5_sumOf_50, List.forall_mem_cons.mpr ⟨dX5_sumOf_53, fun _ h => absurd h List.not_mem_nil⟩⟩⟩⟩⟩⟩⟩⟩⟩⟩⟩⟩⟩⟩) rfl ?_
      refine xwk [0, 1, 2, 3] rfl rfl ?_
      exact ih _ _ _ _ _ h
def F_X5_sumOf_2 (N : Nat) (s : St) (x1 : Int32) : Option (Int32) := bif mx_cnd .lt x1 0 then (some (nI 0)) else (bif mx_cnd .le x1 ((nI (32 * gN s)) - (nI 32)) then (F_X5_sumOf_2_19 N N s x1 (nI 0) (nI 0)) else (some (nI 0)))
set_option maxRecDepth 100000 in
set_option maxHeartbeats 4000000 in
theorem w_X5_sumOf_2 {rest : mx_W} {N : Nat} {s : St} {x1 : Int32} {r : Int32} (h : F_X5_sumOf_2 N s x1 = some r) : X 28 (0, [(0, .ref 2), (1, .int x1)], [], wd s rest, 0, 0) (some (.int r), wd s rest, 0, 0) := by
  unfold F_X5_sumOf_2 at h
  refine xs tn_X5_sumOf [(0, .iconst 0, 1), (1, .istore_n 2, 1), (2, .iload_n 1, 1)] (st' := (3, [(2, .int (nI 0)), (0, .ref 2), (1, .int x1)], [.int x1], wd s rest, 0, 0)) (List.forall_mem_cons.mpr ⟨dX5_sumOf_0, List.forall_mem_cons.mpr ⟨dX5_sumOf_1, List.forall_mem_cons.mpr ⟨dX5_sumOf_2, fun _ h => absurd h List.not_mem_nil⟩⟩⟩) rfl ?_
  refine xifF (t := 15) tn_X5_sumOf dX5_sumOf_3 (by decide) h (fun h => ?_) (fun h => ?_)
  · refine xs tn_X5_sumOf [(15, .iload_n 2, 1)] (st' := (16, [(2, .int (nI 0)), (0, .ref 2), (1, .int x1)], [.int (nI 0)], wd s rest, 0, 0)) (List.forall_mem_cons.mpr ⟨dX5_sumOf_15, fun _ h => absurd h List.not_mem_nil⟩) rfl ?_
    cases h
    exact xret tn_X5_sumOf rfl dX5_sumOf_16
  · refine xs tn_X5_sumOf [(6, .iload_n 1, 1), (7, .aload_n 0, 1), (8, .arraylength, 1), (9, .bipush 32, 2), (11, .isub, 1)] (st' := (12, [(2, .int (nI 0)), (0, .ref 2), (1, .int x1)], [.int ((nI (32 * gN s)) - (nI 32)), .int x1], wd s rest, 0, 0)) (List.forall_mem_cons.mpr ⟨dX5_sumOf_6, List.forall_mem_cons.mpr ⟨dX5_sumOf_7, List.forall_mem_cons.mpr ⟨dX5_sumOf_8, List.forall_mem_cons.mpr ⟨dX5_sumOf_9, List.forall_mem_cons.mpr ⟨dX5_sumOf_11, fun _ h => absurd h List.not_mem_nil⟩⟩⟩⟩⟩) rfl ?_
    refine xcmpF (t := 17) tn_X5_sumOf dX5_sumOf_12 (by decide) h (fun h => ?_) (fun h => ?_)
    · refine xs tn_X5_sumOf [(17, .iconst 0, 1), (18, .istore_n 3, 1)] (st' := (19, [(3, .int (nI 0)), (2, .int (nI 0)), (0, .ref 2), (1, .int x1)], [], wd s rest, 0, 0)) (List.forall_mem_cons.mpr ⟨dX5_sumOf_17, List.forall_mem_cons.mpr ⟨dX5_sumOf_18, fun _ h => absurd h List.not_mem_nil⟩⟩) rfl ?_
      refine xwk [0, 1, 2, 3] rfl rfl ?_
      exact w_X5_sumOf_2_19 N _ _ _ _ _ h
    · refine xs tn_X5_sumOf [(15, .iload_n 2, 1)] (st' := (16, [(2, .int (nI 0)), (0, .ref 2), (1, .int x1)], [.int (nI 0)], wd s rest, 0, 0)) (List.forall_mem_cons.mpr ⟨dX5_sumOf_15, fun _ h => absurd h List.not_mem_nil⟩) rfl ?_
      cases h
      exact xret tn_X5_sumOf rfl dX5_sumOf_16
