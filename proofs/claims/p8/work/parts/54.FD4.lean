def F_X5_extendLog_8 (N : Nat) : Nat → St → Int32 → Option (St)
  | 0, _, _ => none
  | f + 1, s, x1 => bif mx_cnd .ge (gI s 1) x1 then (some s) else ((F_X4_wholeSort s (gI s 1)).bind fun v1 => bif mx_cnd .lt v1 (nI 2) then (some s) else (bnd (sI s 1 ((gI s 1) + (nI 1))) fun s3 => F_X5_extendLog_8 N f s3 x1))
set_option maxRecDepth 100000 in
set_option maxHeartbeats 4000000 in
theorem w_X5_extendLog_8 {rest : mx_W} {N : Nat} : ∀ (f : Nat) (s : St) (x1 : Int32) (r : St), F_X5_extendLog_8 N f s x1 = some r → X 74 (8, [(0, .ref 0), (1, .int x1)], [], wd s rest, 0, 0) (none, wd r rest, 0, 0) := by
  intro f
  induction f with
  | zero => intro s x1 r h; rw [F_X5_extendLog_8.eq_1] at h; cases h
  | succ f ih =>
    intro s x1 r h
    rw [F_X5_extendLog_8.eq_2] at h
    refine xs tn_X5_extendLog [(8, .aload_n 0, 1), (9, .getfield 50, 3), (12, .iload_n 1, 1)] (st' := (13, [(0, .ref 0), (1, .int x1)], [.int x1, .int (gI s 1)], wd s rest, 0, 0)) (List.forall_mem_cons.mpr ⟨dX5_extendLog_8, List.forall_mem_cons.mpr ⟨dX5_extendLog_9, List.forall_mem_cons.mpr ⟨dX5_extendLog_12, fun _ h => absurd h List.not_mem_nil⟩⟩⟩) rfl ?_
    refine xcmpF (t := 44) tn_X5_extendLog dX5_extendLog_13 (by decide) h (fun h => ?_) (fun h => ?_)
    · cases h
      exact xretv tn_X5_extendLog rfl dX5_extendLog_44
    · refine xs tn_X5_extendLog [(16, .aload_n 0, 1), (17, .getfield 12, 3), (20, .aload_n 0, 1), (21, .getfield 50, 3)] (st' := (24, [(0, .ref 0), (1, .int x1)], [.int (gI s 1), .ref 1], wd s rest, 0, 0)) (List.forall_mem_cons.mpr ⟨dX5_extendLog_16, List.forall_mem_cons.mpr ⟨dX5_extendLog_17, List.forall_mem_cons.mpr ⟨dX5_extendLog_20, List.forall_mem_cons.mpr ⟨dX5_extendLog_21, fun _ h => absurd h List.not_mem_nil⟩⟩⟩⟩) rfl ?_
      obtain ⟨v1, h2, h⟩ := obind h
      refine xcall tn_X5_extendLog dX5_extendLog_24 rfl rfl (w_X4_wholeSort h2) ?_
      show X 74 (27, [(0, .ref 0), (1, .int x1)], [.int v1], wd s rest, 0, 0) _
      refine xs tn_X5_extendLog [(27, .iconst 2, 1)] (st' := (28, [(0, .ref 0), (1, .int x1)], [.int (nI 2), .int v1], wd s rest, 0, 0)) (List.forall_mem_cons.mpr ⟨dX5_extendLog_27, fun _ h => absurd h List.not_mem_nil⟩) rfl ?_
      refine xcmpF (t := 44) tn_X5_extendLog dX5_extendLog_28 (by decide) h (fun h => ?_) (fun h => ?_)
      · cases h
        exact xretv tn_X5_extendLog rfl dX5_extendLog_44
      · refine xs tn_X5_extendLog [(31, .aload_n 0, 1), (32, .dup, 1), (33, .getfield 50, 3), (36, .iconst 1, 1), (37, .iadd, 1)] (st' := (38, [(0, .ref 0), (1, .int x1)], [.int ((gI s 1) + (nI 1)), .ref 0], wd s rest, 0, 0)) (List.forall_mem_cons.mpr ⟨dX5_extendLog_31, List.forall_mem_cons.mpr ⟨dX5_extendLog_32, List.forall_mem_cons.mpr ⟨dX5_extendLog_33, List.forall_mem_cons.mpr ⟨dX5_extendLog_36, List.forall_mem_cons.mpr ⟨dX5_extendLog_37, fun _ h => absurd h List.not_mem_nil⟩⟩⟩⟩⟩) rfl ?_
        refine xput_a1 tn_X5_extendLog dX5_extendLog_38 rfl h (fun s3 h => ?_)
        refine xs tn_X5_extendLog [(41, .goto (-33), 3)] (st' := (8, [(0, .ref 0), (1, .int x1)], [], wd s3 rest, 0, 0)) (List.forall_mem_cons.mpr ⟨dX5_extendLog_41, fun _ h => absurd h List.not_mem_nil⟩) rfl ?_
        refine xwk [0, 1] rfl rfl ?_
        exact ih _ _ _ h
def F_X5_extendLog (N : Nat) (s : St) : Option (St) := (F_X4_count s).bind fun v1 => F_X5_extendLog_8 N N s v1
set_option maxRecDepth 100000 in
set_option maxHeartbeats 4000000 in
theorem w_X5_extendLog {rest : mx_W} {N : Nat} {s : St} {r : St} (h : F_X5_extendLog N s = some r) : X 74 (0, [(0, .ref 0)], [], wd s rest, 0, 0) (none, wd r rest, 0, 0) := by
  unfold F_X5_extendLog at h
  refine xs tn_X5_extendLog [(0, .aload_n 0, 1), (1, .getfield 12, 3)] (st' := (4, [(0, .ref 0)], [.ref 1], wd s rest, 0, 0)) (List.forall_mem_cons.mpr ⟨dX5_extendLog_0, List.forall_mem_cons.mpr ⟨dX5_extendLog_1, fun _ h => absurd h List.not_mem_nil⟩⟩) rfl ?_
  obtain ⟨v1, h2, h⟩ := obind h
  refine xcall tn_X5_extendLog dX5_extendLog_4 rfl rfl (w_X4_count h2) ?_
  show X 74 (7, [(0, .ref 0)], [.int v1], wd s rest, 0, 0) _
  refine xs tn_X5_extendLog [(7, .istore_n 1, 1)] (st' := (8, [(1, .int v1), (0, .ref 0)], [], wd s rest, 0, 0)) (List.forall_mem_cons.mpr ⟨dX5_extendLog_7, fun _ h => absurd h List.not_mem_nil⟩) rfl ?_
  refine xwk [0, 1] rfl rfl ?_
  exact w_X5_extendLog_8 N _ _ _ h
def F_X5_countRows_3 (N : Nat) : Nat → St → Int32 → Option (St)
  | 0, _, _ => none
  | f + 1, s, x1 => bif mx_cnd .lt x1 (gI s 2) then (some s) else ((F_X5_findRow N s x1).bind fun v1 => bif mx_cnd .eq v1 (-nI 1) then (F_X5_countRows_3 N f s (x1 + (-nI 1))) else (bnd (sI s 2 (x1 + (nI 1))) fun s3 => some s3))
set_option maxRecDepth 100000 in
set_option maxHeartbeats 4000000 in
theorem w_X5_countRows_3 {rest : mx_W} {N : Nat} : ∀ (f : Nat) (s : St) (x1 : Int32) (r : St), F_X5_countRows_3 N f s x1 = some r → X 99 (3, [(0, .ref 0), (1, .int x1)], [], wd s rest, 0, 0) (none, wd r rest, 0, 0) := by
  intro f
  induction f with
  | zero => intro s x1 r h; rw [F_X5_countRows_3.eq_1] at h; cases h
  | succ f ih =>
    intro s x1 r h
    rw [F_X5_countRows_3.eq_2] at h
    refine xs tn_X5_countRows [(3, .iload_n 1, 1), (4, .aload_n 0, 1), (5, .getfield 65, 3)] (st' := (8, [(0, .ref 0), (1, .int x1)], [.int (gI s 2), .int x1], wd s rest, 0, 0)) (List.forall_mem_cons.mpr ⟨dX5_countRows_3, List.forall_mem_cons.mpr ⟨dX5_countRows_4, List.forall_mem_cons.mpr ⟨dX5_countRows_5, fun _ h => absurd h List.not_mem_nil⟩⟩⟩) rfl ?_
    refine xcmpF (t := 34) tn_X5_countRows dX5_countRows_8 (by decide) h (fun h => ?_) (fun h => ?_)
    · cases h
      exact xretv tn_X5_countRows rfl dX5_countRows_34
    · refine xs tn_X5_countRows [(11, .aload_n 0, 1), (12, .iload_n 1, 1)] (st' := (13, [(0, .ref 0), (1, .int x1)], [.int x1, .ref 0], wd s rest, 0, 0)) (List.forall_mem_cons.mpr ⟨dX5_countRows_11, List.forall_mem_cons.mpr ⟨dX5_countRows_12, fun _ h => absurd h List.not_mem_nil⟩⟩) rfl ?_
      obtain ⟨v1, h2, h⟩ := obind h
      refine xcall tn_X5_countRows dX5_countRows_13 rfl rfl (w_X5_findRow h2) ?_
      show X 99 (16, [(0, .ref 0), (1, .int x1)], [.int v1], wd s rest, 0, 0) _
      refine xs tn_X5_countRows [(16, .iconst (-1), 1)] (st' := (17, [(0, .ref 0), (1, .int x1)], [.int (-nI 1), .int v1], wd s rest, 0, 0)) (List.forall_mem_cons.mpr ⟨dX5_countRows_16, fun _ h => absurd h List.not_mem_nil⟩) rfl ?_
      refine xcmpF (t := 28) tn_X5_countRows dX5_countRows_17 (by decide) h (fun h => ?_) (fun h => ?_)
      · refine xs tn_X5_countRows [(28, .iinc 1 (-1), 3), (31, .goto (-28), 3)] (st' := (3, [(0, .ref 0), (1, .int (x1 + (-nI 1)))], [], wd s rest, 0, 0)) (List.forall_mem_cons.mpr ⟨dX5_countRows_28, List.forall_mem_cons.mpr ⟨dX5_countRows_31, fun _ h => absurd h List.not_mem_nil⟩⟩) rfl ?_
        refine xwk [0, 1] rfl rfl ?_
        exact ih _ _ _ h
      · refine xs tn_X5_countRows [(20, .aload_n 0, 1), (21, .iload_n 1, 1), (22, .iconst 1, 1), (23, .iadd, 1)] (st' := (24, [(0, .ref 0), (1, .int x1)], [.int (x1 + (nI 1)), .ref 0], wd s rest, 0, 0)) (List.forall_mem_cons.mpr ⟨dX5_countRows_20, List.forall_mem_cons.mpr ⟨dX5_countRows_21, List.forall_mem_cons.mpr ⟨dX5_countRows_22, List.forall_mem_cons.mpr ⟨dX5_countRows_23, fun _ h => absurd h List.not_mem_nil⟩⟩⟩⟩) rfl ?_
        refine xput_a2 tn_X5_countRows dX5_countRows_24 rfl h (fun s3 h => ?_)
        cases h
        exact xretv tn_X5_countRows rfl dX5_countRows_27
def F_X5_countRows (N : Nat) (s : St) : Option (St) := F_X5_countRows_3 N N s (nI 59)
set_option maxRecDepth 100000 in
set_option maxHeartbeats 4000000 in
theorem w_X5_countRows {rest : mx_W} {N : Nat} {s : St} {r : St} (h : F_X5_countRows N s = some r) : X 99 (0, [(0, .ref 0)], [], wd s rest, 0, 0) (none, wd r rest, 0, 0) := by
  unfold F_X5_countRows at h
  refine xs tn_X5_countRows [(0, .bipush 59, 2), (2, .istore_n 1, 1)] (st' := (3, [(1, .int (nI 59)), (0, .ref 0)], [], wd s rest, 0, 0)) (List.forall_mem_cons.mpr ⟨dX5_countRows_0, List.forall_mem_cons.mpr ⟨dX5_countRows_2, fun _ h => absurd h List.not_mem_nil⟩⟩) rfl ?_
  refine xwk [0, 1] rfl rfl ?_
  exact w_X5_countRows_3 N _ _ _ h
def F_J7_fill_13_5 (N : Nat) : Nat → St → Int32 → Int32 → Int32 → Option (St)
  | 0, _, _, _, _ => none
  | f + 1, s, x1, x2, x3 => bif mx_cnd .ge x2 x3 then (some s) else (stA s 8 4 x2 x1 fun s1 => F_J7_fill_13_5 N f s1 x1 (x2 + (nI 1)) x3)
set_option maxRecDepth 100000 in
set_option maxHeartbeats 4000000 in
theorem w_J7_fill_13_5 {rest : mx_W} {N : Nat} : ∀ (f : Nat) (s : St) (x1 : Int32) (x2 : Int32) (x3 : Int32) (r : St), F_J7_fill_13_5 N f s x1 x2 x3 = some r → X 4 (5, [(0, .ref 13), (1, .int x1), (2, .int x2), (3, .int x3)], [], wd s rest, 0, 0) (none, wd r rest, 0, 0) := by
  intro f
  induction f with
  | zero => intro s x1 x2 x3 r h; rw [F_J7_fill_13_5.eq_1] at h; cases h
  | succ f ih =>
    intro s x1 x2 x3 r h
    rw [F_J7_fill_13_5.eq_2] at h
    refine xs tn_J7_fill_53178 [(5, .iload_n 2, 1), (6, .iload_n 3, 1)] (st' := (7, [(0, .ref 13), (1, .int x1), (2, .int x2), (3, .int x3)], [.int x3, .int x2], wd s rest, 0, 0)) (List.forall_mem_cons.mpr ⟨dJ7_fill_53178_5, List.forall_mem_cons.mpr ⟨dJ7_fill_53178_6, fun _ h => absurd h List.not_mem_nil⟩⟩) rfl ?_
    refine xcmpF (t := 20) tn_J7_fill_53178 dJ7_fill_53178_7 (by decide) h (fun h => ?_) (fun h => ?_)
    · cases h
      exact xretv tn_J7_fill_53178 rfl dJ7_fill_53178_20
    · refine xs tn_J7_fill_53178 [(10, .aload_n 0, 1), (11, .iload_n 2, 1), (12, .iload_n 1, 1)] (st' := (13, [(0, .ref 13), (1, .int x1), (2, .int x2), (3, .int x3)], [.int x1, .int x2, .ref 13], wd s rest, 0, 0)) (List.forall_mem_cons.mpr ⟨dJ7_fill_53178_10, List.forall_mem_cons.mpr ⟨dJ7_fill_53178_11, List.forall_mem_cons.mpr ⟨dJ7_fill_53178_12, fun _ h => absurd h List.not_mem_nil⟩⟩⟩) rfl ?_
      refine xstF (W := fun s => wd s rest) tn_J7_fill_53178 dJ7_fill_53178_13 at_13 (fun _ => set_13) h (fun s1 h => ?_)
      refine xs tn_J7_fill_53178 [(14, .iinc 2 1, 3), (17, .goto (-12), 3)] (st' := (5, [(0, .ref 13), (1, .int x1), (2, .int (x2 + (nI 1))), (3, .int x3)], [], wd s1 rest, 0, 0)) (List.forall_mem_cons.mpr ⟨dJ7_fill_53178_14, List.forall_mem_cons.mpr ⟨dJ7_fill_53178_17, fun _ h => absurd h List.not_mem_nil⟩⟩) rfl ?_
      refine xwk [0, 1, 2, 3] rfl rfl ?_
      exact ih _ _ _ _ _ h
def F_J7_fill_13 (N : Nat) (s : St) (x1 : Int32) : Option (St) := F_J7_fill_13_5 N N s x1 (nI 0) (nI 4)
set_option maxRecDepth 100000 in
set_option maxHeartbeats 4000000 in
theorem w_J7_fill_13 {rest : mx_W} {N : Nat} {s : St} {x1 : Int32} {r : St} (h : F_J7_fill_13 N s x1 = some r) : X 4 (0, [(0, .ref 13), (1, .int x1)], [], wd s rest, 0, 0) (none, wd r rest, 0, 0) := by
  unfold F_J7_fill_13 at h
  refine xs tn_J7_fill_53178 [(0, .iconst 0, 1), (1, .istore_n 2, 1), (2, .aload_n 0, 1), (3, .arraylength, 1), (4, .istore_n 3, 1)] (st' := (5, [(3, .int (nI 4)), (2, .int (nI 0)), (0, .ref 13), (1, .int x1)], [], wd s rest, 0, 0)) (List.forall_mem_cons.mpr ⟨dJ7_fill_53178_0, List.forall_mem_cons.mpr ⟨dJ7_fill_53178_1, List.forall_mem_cons.mpr ⟨dJ7_fill_53178_2, List.forall_mem_cons.mpr ⟨dJ7_fill_53178_3, List.forall_mem_cons.mpr ⟨dJ7_fill_53178_4, fun _ h => absurd h List.not_mem_nil⟩⟩⟩⟩⟩) rfl ?_
  refine xwk [0, 1, 2, 3] rfl rfl ?_
  exact w_J7_fill_13_5 N _ _ _ _ _ h
def F_J7_fill_14_5 (N : Nat) : Nat → St → Int32 → Int32 → Int32 → Option (St)
  | 0, _, _, _, _ => none
  | f + 1, s, x1, x2, x3 => bif mx_cnd .ge x2 x3 then (some s) else (stA s 9 4 x2 x1 fun s1 => F_J7_fill_14_5 N f s1 x1 (x2 + (nI 1)) x3)
set_option maxRecDepth 100000 in
set_option maxHeartbeats 4000000 in
theorem w_J7_fill_14_5 {rest : mx_W} {N : Nat} : ∀ (f : Nat) (s : St) (x1 : Int32) (x2 : Int32) (x3 : Int32) (r : St), F_J7_fill_14_5 N f s x1 x2 x3 = some r → X 4 (5, [(0, .ref 14), (1, .int x1), (2, .int x2), (3, .int x3)], [], wd s rest, 0, 0) (none, wd r rest, 0, 0) := by
  intro f
  induction f with
  | zero => intro s x1 x2 x3 r h; rw [F_J7_fill_14_5.eq_1] at h; cases h
  | succ f ih =>
    intro s x1 x2 x3 r h
    rw [F_J7_fill_14_5.eq_2] at h
    refine xs tn_J7_fill_53178 [(5, .iload_n 2, 1), (6, .iload_n 3, 1)] (st' := (7, [(0, .ref 14), (1, .int x1), (2, .int x2), (3, .int x3)], [.int x3, .int x2], wd s rest, 0, 0)) (List.forall_mem_cons.mpr ⟨dJ7_fill_53178_5, List.forall_mem_cons.mpr ⟨dJ7_fill_53178_6, fun _ h => absurd h List.not_mem_nil⟩⟩) rfl ?_
    refine xcmpF (t := 20) tn_J7_fill_53178 dJ7_fill_53178_7 (by decide) h (fun h => ?_) (fun h => ?_)
    · cases h
      exact xretv tn_J7_fill_53178 rfl dJ7_fill_53178_20
    · refine xs tn_J7_fill_53178 [(10, .aload_n 0, 1), (11, .iload_n 2, 1), (12, .iload_n 1, 1)] (st' := (13, [(0, .ref 14), (1, .int x1), (2, .int x2), (3, .int x3)], [.int x1, .int x2, .ref 14], wd s rest, 0, 0)) (List.forall_mem_cons.mpr ⟨dJ7_fill_53178_10, List.forall_mem_cons.mpr ⟨dJ7_fill_53178_11, List.forall_mem_cons.mpr ⟨dJ7_fill_53178_12, fun _ h => absurd h List.not_mem_nil⟩⟩⟩) rfl ?_
      refine xstF (W := fun s => wd s rest) tn_J7_fill_53178 dJ7_fill_53178_13 at_14 (fun _ => set_14) h (fun s1 h => ?_)
      refine xs tn_J7_fill_53178 [(14, .iinc 2 1, 3), (17, .goto (-12), 3)] (st' := (5, [(0, .ref 14), (1, .int x1), (2, .int (x2 + (nI 1))), (3, .int x3)], [], wd s1 rest, 0, 0)) (List.forall_mem_cons.mpr ⟨dJ7_fill_53178_14, List.forall_mem_cons.mpr ⟨dJ7_fill_53178_17, fun _ h => absurd h List.not_mem_nil⟩⟩) rfl ?_
      refine xwk [0, 1, 2, 3] rfl rfl ?_
      exact ih _ _ _ _ _ h
def F_J7_fill_14 (N : Nat) (s : St) (x1 : Int32) : Option (St) := F_J7_fill_14_5 N N s x1 (nI 0) (nI 4)
set_option maxRecDepth 100000 in
set_option maxHeartbeats 4000000 in
theorem w_J7_fill_14 {rest : mx_W} {N : Nat} {s : St} {x1 : Int32} {r : St} (h : F_J7_fill_14 N s x1 = some r) : X 4 (0, [(0, .ref 14), (1, .int x1)], [], wd s rest, 0, 0) (none, wd r rest, 0, 0) := by
  unfold F_J7_fill_14 at h
  refine xs tn_J7_fill_53178 [(0, .iconst 0, 1), (1, .istore_n 2, 1), (2, .aload_n 0, 1), (3, .arraylength, 1), (4, .istore_n 3, 1)] (st' := (5, [(3, .int (nI 4)), (2, .int (nI 0)), (0, .ref 14), (1, .int x1)], [], wd s rest, 0, 0)) (List.forall_mem_cons.mpr ⟨dJ7_fill_53178_0, List.forall_mem_cons.mpr ⟨dJ7_fill_53178_1, List.forall_mem_cons.mpr ⟨dJ7_fill_53178_2, List.forall_mem_cons.mpr ⟨dJ7_fill_53178_3, List.forall_mem_cons.mpr ⟨dJ7_fill_53178_4, fun _ h => absurd h List.not_mem_nil⟩⟩⟩⟩⟩) rfl ?_
  refine xwk [0, 1, 2, 3] rfl rfl ?_
  exact w_J7_fill_14_5 N _ _ _ _ _ h
def F_X2_clear (N : Nat) (s : St) : Option (St) := bnd (sI s 9 (nI 0)) fun s1 => (F_J7_fill_13 N s1 (nI 0)).bind fun s2 => (F_J7_fill_14 N s2 (nI 0)).bind fun s4 => some s4
set_option maxRecDepth 100000 in
set_option maxHeartbeats 4000000 in
theorem w_X2_clear {rest : mx_W} {N : Nat} {s : St} {r : St} (h : F_X2_clear N s = some r) : X 43 (0, [(0, .ref 11)], [], wd s rest, 0, 0) (none, wd r rest, 0, 0) := by
  unfold F_X2_clear at h
  refine xs tn_X2_clear [(0, .aload_n 0, 1), (1, .iconst 0, 1)] (st' := (2, [(0, .ref 11)], [.int (nI 0), .ref 11], wd s rest, 0, 0)) (List.forall_mem_cons.mpr ⟨dX2_clear_0, List.forall_mem_cons.mpr ⟨dX2_clear_1, fun _ h => absurd h List.not_mem_nil⟩⟩) rfl ?_
  refine xput_a9 tn_X2_clear dX2_clear_2 rfl h (fun s1 h => ?_)
  refine xs tn_X2_clear [(5, .aload_n 0, 1), (6, .getfield 15, 3), (9, .iconst 0, 1)] (st' := (10, [(0, .ref 11)], [.int (nI 0), .ref 13], wd s1 rest, 0, 0)) (List.forall_mem_cons.mpr ⟨dX2_clear_5, List.forall_mem_cons.mpr ⟨dX2_clear_6, List.forall_mem_cons.mpr ⟨dX2_clear_9, fun _ h => absurd h List.not_mem_nil⟩⟩⟩) rfl ?_
  obtain ⟨s2, h3, h⟩ := obind h
  refine xcall tn_X2_clear dX2_clear_10 rfl rfl (w_J7_fill_13 h3) ?_
  show X 43 (13, [(0, .ref 11)], [], wd s2 rest, 0, 0) _
  refine xs tn_X2_clear [(13, .aload_n 0, 1), (14, .getfield 18, 3), (17, .iconst 0, 1)] (st' := (18, [(0, .ref 11)], [.int (nI 0), .ref 14], wd s2 rest, 0, 0)) (List.forall_mem_cons.mpr ⟨dX2_clear_13, List.forall_mem_cons.mpr ⟨dX2_clear_14, List.forall_mem_cons.mpr ⟨dX2_clear_17, fun _ h => absurd h List.not_mem_nil⟩⟩⟩) rfl ?_
  obtain ⟨s4, h5, h⟩ := obind h
  refine xcall tn_X2_clear dX2_clear_18 rfl rfl (w_J7_fill_14 h5) ?_
  show X 43 (21, [(0, .ref 11)], [], wd s4 rest, 0, 0) _
  cases h
  exact xretv tn_X2_clear rfl dX2_clear_21
def F_X2_size (s : St) : Option (Int32) := some (gI s 9)
set_option maxRecDepth 100000 in
set_option maxHeartbeats 4000000 in
theorem w_X2_size {rest : mx_W} {s : St} {r : Int32} (h : F_X2_size s = some r) : X 13 (0, [(0, .ref 11)], [], wd s rest, 0, 0) (some (.int r), wd s rest, 0, 0) := by
  unfold F_X2_size at h
  refine xs tn_X2_size [(0, .aload_n 0, 1), (1, .getfield 24, 3)] (st' := (4, [(0, .ref 11)], [.int (gI s 9)], wd s rest, 0, 0)) (List.forall_mem_cons.mpr ⟨dX2_size_0, List.forall_mem_cons.mpr ⟨dX2_size_1, fun _ h => absurd h List.not_mem_nil⟩⟩) rfl ?_
  cases h
  exact xret tn_X2_size rfl dX2_size_4
def F_X2_note_62 (N : Nat) (s : St) (x2 : Int32) (x3 : Int32) : Option (St) := ldA (gA s 8) 4 x3 fun v1 => stA s 8 4 x3 (v1 ^^^ (nI 1)) fun s2 => ldA (gA s2 9) 4 x3 fun v3 => stA s2 9 4 x3 (v3 ^^^ x2) fun s4 => some s4
set_option maxRecDepth 100000 in
set_option maxHeartbeats 4000000 in
theorem w_X2_note_62 {rest : mx_W} {N : Nat} {s : St} {x2 : Int32} {x3 : Int32} {r : St} (h : F_X2_note_62 N s x2 x3 = some r) : X 11 (62, [(0, .ref 11), (2, .int x2), (3, .int x3)], [], wd s rest, 0, 0) (none, wd r rest, 0, 0) := by
  unfold F_X2_note_62 at h
  refine xs tn_X2_note [(62, .aload_n 0, 1), (63, .getfield 15, 3), (66, .iload_n 3, 1), (67, .dup2, 1)] (st' := (68, [(0, .ref 11), (2, .int x2), (3, .int x3)], [.int x3, .ref 13, .int x3, .ref 13], wd s rest, 0, 0)) (List.forall_mem_cons.mpr ⟨dX2_note_62, List.forall_mem_cons.mpr ⟨dX2_note_63, List.forall_mem_cons.mpr ⟨dX2_note_66, List.forall_mem_cons.mpr ⟨dX2_note_67, fun _ h => absurd h List.not_mem_nil⟩⟩⟩⟩) rfl ?_
  refine xldF tn_X2_note dX2_note_68 at_13 h (fun v1 h => ?_)
  refine xs tn_X2_note [(69, .iconst 1, 1), (70, .ixor, 1)] (st' := (71, [(0, .ref 11), (2, .int x2), (3, .int x3)], [.int (v1 ^^^ (nI 1)), .int x3, .ref 13], wd s rest, 0, 0)) (List.forall_mem_cons.mpr ⟨dX2_note_69, List.forall_mem_cons.mpr ⟨dX2_note_70, fun _ h => absurd h List.not_mem_nil⟩⟩) rfl ?_
  refine xstF (W := fun s => wd s rest) tn_X2_note dX2_note_71 at_13 (fun _ => set_13) h (fun s2 h => ?_)
  refine xs tn_X2_note [(72, .aload_n 0, 1), (73, .getfield 18, 3), (76, .iload_n 3, 1), (77, .dup2, 1)] (st' := (78, [(0, .ref 11), (2, .int x2), (3, .int x3)], [.int x3, .ref 14, .int x3, .ref 14], wd s2 rest, 0, 0)) (List.forall_mem_cons.mpr ⟨dX2_note_72, List.forall_mem_cons.mpr ⟨dX2_note_73, List.forall_mem_cons.mpr ⟨dX2_note_76, List.forall_mem_cons.mpr ⟨dX2_note_77, fun _ h => absurd h List.not_mem_nil⟩⟩⟩⟩) rfl ?_
  refine xldF tn_X2_note dX2_note_78 at_14 h (fun v3 h => ?_)
  refine xs tn_X2_note [(79, .iload_n 2, 1), (80, .ixor, 1)] (st' := (81, [(0, .ref 11), (2, .int x2), (3, .int x3)], [.int (v3 ^^^ x2), .int x3, .ref 14], wd s2 rest, 0, 0)) (List.forall_mem_cons.mpr ⟨dX2_note_79, List.forall_mem_cons.mpr ⟨dX2_note_80, fun _ h => absurd h List.not_mem_nil⟩⟩) rfl ?_
  refine xstF (W := fun s => wd s rest) tn_X2_note dX2_note_81 at_14 (fun _ => set_14) h (fun s4 h => ?_)
  cases h
  exact xretv tn_X2_note rfl dX2_note_82
def F_X2_note_31 (N : Nat) (s : St) (x1 : Int32) (x2 : Int32) (x3 : Int32) : Option (St) := bif mx_cnd .lt x3 (nI 4) then (bif mx_cnd .ne x3 (gI s 9) then (F_X2_note_62 N s x2 x3) else (stA s 7 4 x3 x1 fun s1 => bnd (sI s1 9 ((gI s1 9) + (nI 1))) fun s2 => F_X2_note_62 N s2 x2 x3)) else (some s)
set_option maxRecDepth 100000 in
set_option maxHeartbeats 4000000 in
theorem w_X2_note_31 {rest : mx_W} {N : Nat} {s : St} {x1 : Int32} {x2 : Int32} {x3 : Int32} {r : St} (h : F_X2_note_31 N s x1 x2 x3 = some r) : X 11 (31, [(0, .ref 11), (1, .int x1), (2, .int x2), (3, .int x3)], [], wd s rest, 0, 0) (none, wd r rest, 0, 0) := by
  unfold F_X2_note_31 at h
  refine xs tn_X2_note [(31, .iload_n 3, 1), (32, .iconst 4, 1)] (st' := (33, [(0, .ref 11), (1, .int x1), (2, .int x2), (3, .int x3)], [.int (nI 4), .int x3], wd s rest, 0, 0)) (List.forall_mem_cons.mpr ⟨dX2_note_31, List.forall_mem_cons.mpr ⟨dX2_note_32, fun _ h => absurd h List.not_mem_nil⟩⟩) rfl ?_
  refine xcmpF (t := 37) tn_X2_note dX2_note_33 (by decide) h (fun h => ?_) (fun h => ?_)
  · refine xs tn_X2_note [(37, .iload_n 3, 1), (38, .aload_n 0, 1), (39, .getfield 24, 3)] (st' := (42, [(0, .ref 11), (1, .int x1), (2, .int x2), (3, .int x3)], [.int (gI s 9), .int x3], wd s rest, 0, 0)) (List.forall_mem_cons.mpr ⟨dX2_note_37, List.forall_mem_cons.mpr ⟨dX2_note_38, List.forall_mem_cons.mpr ⟨dX2_note_39, fun _ h => absurd h List.not_mem_nil⟩⟩⟩) rfl ?_
    refine xcmpF (t := 62) tn_X2_note dX2_note_42 (by decide) h (fun h => ?_) (fun h => ?_)
    · refine xwk [0, 2, 3] rfl rfl ?_
      exact w_X2_note_62 h
    · refine xs tn_X2_note [(45, .aload_n 0, 1), (46, .getfield 9, 3), (49, .iload_n 3, 1), (50, .iload_n 1, 1)] (st' := (51, [(0, .ref 11), (1, .int x1), (2, .int x2), (3, .int x3)], [.int x1, .int x3, .ref 12], wd s rest, 0, 0)) (List.forall_mem_cons.mpr ⟨dX2_note_45, List.forall_mem_cons.mpr ⟨dX2_note_46, List.forall_mem_cons.mpr ⟨dX2_note_49, List.forall_mem_cons.mpr ⟨dX2_note_50, fun _ h => absurd h List.not_mem_nil⟩⟩⟩⟩) rfl ?_
      refine xstF (W := fun s => wd s rest) tn_X2_note dX2_note_51 at_12 (fun _ => set_12) h (fun s1 h => ?_)
      refine xs tn_X2_note [(52, .aload_n 0, 1), (53, .dup, 1), (54, .getfield 24, 3), (57, .iconst 1, 1), (58, .iadd, 1)] (st' := (59, [(0, .ref 11), (1, .int x1), (2, .int x2), (3, .int x3)], [.int ((gI s1 9) + (nI 1)), .ref 11], wd s1 rest, 0, 0)) (List.forall_mem_cons.mpr ⟨dX2_note_52, List.forall_mem_cons.mpr ⟨dX2_note_53, List.forall_mem_cons.mpr ⟨dX2_note_54, List.forall_mem_cons.mpr ⟨dX2_note_57, List.forall_mem_cons.mpr ⟨dX2_note_58, fun _ h => absurd h List.not_mem_nil⟩⟩⟩⟩⟩) rfl ?_
      refine xput_a9 tn_X2_note dX2_note_59 rfl h (fun s2 h => ?_)
      refine xwk [0, 2, 3] rfl rfl ?_
      exact w_X2_note_62 h
  · cases h
    exact xretv tn_X2_note rfl dX2_note_36
def F_X2_note_2 (N : Nat) : Nat → St → Int32 → Int32 → Int32 → Option (St)
  | 0, _, _, _, _ => none
  | f + 1, s, x1, x2, x3 => bif mx_cnd .ge x3 (gI s 9) then (F_X2_note_31 N s x1 x2 x3) else (bif mx_cnd .ge x3 (nI 4) then (F_X2_note_31 N s x1 x2 x3) else (ldA (gA s 7) 4 x3 fun v1 => bif mx_cnd .eq v1 x1 then (F_X2_note_31 N s x1 x2 x3) else (F_X2_note_2 N f s x1 x2 (x3 + (nI 1)))))
set_option maxRecDepth 100000 in
set_option maxHeartbeats 4000000 in
theorem w_X2_note_2 {rest : mx_W} {N : Nat} : ∀ (f : Nat) (s : St) (x1 : Int32) (x2 : Int32) (x3 : Int32) (r : St), F_X2_note_2 N f s x1 x2 x3 = some r → X 11 (2, [(0, .ref 11), (1, .int x1), (2, .int x2), (3, .int x3)], [], wd s rest, 0, 0) (none, wd r rest, 0, 0) := by
  intro f
  induction f with
  | zero => intro s x1 x2 x3 r h; rw [F_X2_note_2.eq_1] at h; cases h
  | succ f ih =>
    intro s x1 x2 x3 r h
    rw [F_X2_note_2.eq_2] at h
    refine xs tn_X2_note [(2, .iload_n 3, 1), (3, .aload_n 0, 1), (4, .getfield 24, 3)] (st' := (7, [(0, .ref 11), (1, .int x1), (2, .int x2), (3, .int x3)], [.int (gI s 9), .int x3], wd s rest, 0, 0)) (List.forall_mem_cons.mpr ⟨dX2_note_2, List.forall_mem_cons.mpr ⟨dX2_note_3, List.forall_mem_cons.mpr ⟨dX2_note_4, fun _ h => absurd h List.not_mem_nil⟩⟩⟩) rfl ?_
    refine xcmpF (t := 31) tn_X2_note dX2_note_7 (by decide) h (fun h => ?_) (fun h => ?_)
    · refine xwk [0, 1, 2, 3] rfl rfl ?_
      exact w_X2_note_31 h
    · refine xs tn_X2_note [(10, .iload_n 3, 1), (11, .iconst 4, 1)] (st' := (12, [(0, .ref 11), (1, .int x1), (2, .int x2), (3, .int x3)], [.int (nI 4), .int x3], wd s rest, 0, 0)) (List.forall_mem_cons.mpr ⟨dX2_note_10, List.forall_mem_cons.mpr ⟨dX2_note_11, fun _ h => absurd h List.not_mem_nil⟩⟩) rfl ?_
      refine xcmpF (t := 31) tn_X2_note dX2_note_12 (by decide) h (fun h => ?_) (fun h => ?_)
      · refine xwk [0, 1, 2, 3] rfl rfl ?_
        exact w_X2_note_31 h
      · refine xs tn_X2_note [(15, .aload_n 0, 1), (16, .getfield 9, 3), (19, .iload_n 3, 1)] (st' := (20, [(0, .ref 11), (1, .int x1), (2, .int x2), (3, .int x3)], [.int x3, .ref 12], wd s rest, 0, 0)) (List.forall_mem_cons.mpr ⟨dX2_note_15, List.forall_mem_cons.mpr ⟨dX2_note_16, List.forall_mem_cons.mpr ⟨dX2_note_19, fun _ h => absurd h List.not_mem_nil⟩⟩⟩) rfl ?_
        refine xldF tn_X2_note dX2_note_20 at_12 h (fun v1 h => ?_)
        refine xs tn_X2_note [(21, .iload_n 1, 1)] (st' := (22, [(0, .ref 11), (1, .int x1), (2, .int x2), (3, .int x3)], [.int x1, .int v1], wd s rest, 0, 0)) (List.forall_mem_cons.mpr ⟨dX2_note_21, fun _ h => absurd h List.not_mem_nil⟩) rfl ?_
        refine xcmpF (t := 31) tn_X2_note dX2_note_22 (by decide) h (fun h => ?_) (fun h => ?_)
        · refine xwk [0, 1, 2, 3] rfl rfl ?_
          exact w_X2_note_31 h
        · refine xs tn_X2_note [(25, .iinc 3 1, 3), (28, .goto (-26), 3)] (st' := (2, [(0, .ref 11), (1, .int x1), (2, .int x2), (3, .int (x3 + (nI 1)))], [], wd s rest, 0, 0)) (List.forall_mem_cons.mpr ⟨dX2_note_25, List.forall_mem_cons.mpr ⟨dX2_note_28, fun _ h => absurd h List.not_mem_nil⟩⟩) rfl ?_
          refine xwk [0, 1, 2, 3] rfl rfl ?_
          exact ih _ _ _ _ _ h
def F_X2_note (N : Nat) (s : St) (x1 : Int32) (x2 : Int32) : Option (St) := F_X2_note_2 N N s x1 x2 (nI 0)
set_option maxRecDepth 100000 in
set_option maxHeartbeats 4000000 in
theorem w_X2_note {rest : mx_W} {N : Nat} {s : St} {x1 : Int32} {x2 : Int32} {r : St} (h : F_X2_note N s x1 x2 = some r) : X 11 (0, [(0, .ref 11), (1, .int x1), (2, .int x2)], [], wd s rest, 0, 0) (none, wd r rest, 0, 0) := by
  unfold F_X2_note at h
  refine xs tn_X2_note [(0, .iconst 0, 1), (1, .istore_n 3, 1)] (st' := (2, [(3, .int (nI 0)), (0, .ref 11), (1, .int x1), (2, .int x2)], [], wd s rest, 0, 0)) (List.forall_mem_cons.mpr ⟨dX2_note_0, List.forall_mem_cons.mpr ⟨dX2_note_1, fun _ h => absurd h List.not_mem_nil⟩⟩) rfl ?_
  refine xwk [0, 1, 2, 3] rfl rfl ?_
  exact w_X2_note_2 N _ _ _ _ _ h
def F_X5_collectGaps_18 (N : Nat) : Nat → St → Int32 → Int32 → Int32 → Int32 → Option (Int32 × St)
  | 0, _, _, _, _, _ => none
  | f + 1, s, x1, x2, x3, x4 => bif mx_cnd .ge x4 x3 then ((F_X2_size s).bind fun v1 => bif mx_cnd .le v1 0 then (some (nI 0, s)) else (some (nI 1, s))) else ((F_X4_content s x1 x4).bind fun v3 => (F_X5_isInLog s v3).bind fun v5 => bif mx_cnd .ne v5 0 then ((F_X5_isBlock s v3).bind fun v7 => bif mx_cnd .ne v7 0 then ((F_X1_twice x2).bind fun v9 => F_X5_collectGaps_18 N f s x1 v9 x3 (x4 + (nI 1))) else ((F_X2_note N s v3 x2).bind fun s11 => (F_X1_twice x2).bind fun v13 => F_X5_collectGaps_18 N f s11 x1 v13 x3 (x4 + (nI 1)))) else (some (nI 0, s)))
set_option maxRecDepth 100000 in
set_option maxHeartbeats 4000000 in
theorem w_X5_collectGaps_18 {rest : mx_W} {N : Nat} : ∀ (f : Nat) (s : St) (x1 : Int32) (x2 : Int32) (x3 : Int32) (x4 : Int32) (r : Int32) (t : St), F_X5_collectGaps_18 N f s x1 x2 x3 x4 = some (r, t) → X 97 (18, [(0, .ref 0), (1, .int x1), (2, .int x2), (3, .int x3), (4, .int x4)], [], wd s rest, 0, 0) (some (.int r), wd t rest, 0, 0) := by
  intro f
  induction f with
  | zero => intro s x1 x2 x3 x4 r t h; rw [F_X5_collectGaps_18.eq_1] at h; cases h
  | succ f ih =>
    intro s x1 x2 x3 x4 r t h
    rw [F_X5_collectGaps_18.eq_2] at h
    refine xs tn_X5_collectGaps [(18, .iload 4, 2), (20, .iload_n 3, 1)] (st' := (21, [(0, .ref 0), (1, .int x1), (2, .int x2), (3, .int x3), (4, .int x4)], [.int x3, .int x4], wd s rest, 0, 0)) (List.forall_mem_cons.mpr ⟨dX5_collectGaps_18, List.forall_mem_cons.mpr ⟨dX5_collectGaps_20, fun _ h => absurd h List.not_mem_nil⟩⟩) rfl ?_
    refine xcmpF (t := 77) tn_X5_collectGaps dX5_collectGaps_21 (by decide) h (fun h => ?_) (fun h => ?_)
    · refine xs tn_X5_collectGaps [(77, .aload_n 0, 1), (78, .getfield 35, 3)] (st' := (81, [(0, .ref 0), (1, .int x1), (2, .int x2), (3, .int x3), (4, .int x4)], [.ref 11], wd s rest, 0, 0)) (List.forall_mem_cons.mpr ⟨dX5_collectGaps_77, List.forall_mem_cons.mpr ⟨dX5_collectGaps_78, fun _ h => absurd h List.not_mem_nil⟩⟩) rfl ?_
      obtain ⟨v1, h2, h⟩ := obind h
      refine xcall tn_X5_collectGaps dX5_collectGaps_81 rfl rfl (w_X2_size h2) ?_
      show X 97 (84, [(0, .ref 0), (1, .int x1), (2, .int x2), (3, .int x3), (4, .int x4)], [.int v1], wd s rest, 0, 0) _
      refine xifF (t := 91) tn_X5_collectGaps dX5_collectGaps_84 (by decide) h (fun h => ?_) (fun h => ?_)
      · refine xs tn_X5_collectGaps [(91, .iconst 0, 1)] (st' := (92, [(0, .ref 0), (1, .int x1), (2, .int x2), (3, .int x3), (4, .int x4)], [.int (nI 0)], wd s rest, 0, 0)) (List.forall_mem_cons.mpr ⟨dX5_collectGaps_91, fun _ h => absurd h List.not_mem_nil⟩) rfl ?_
        cases h
        exact xretz tn_X5_collectGaps rfl (by decide) dX5_collectGaps_92
      · refine xs tn_X5_collectGaps [(87, .iconst 1, 1), (88, .goto 4, 3)] (st' := (92, [(0, .ref 0), (1, .int x1), (2, .int x2), (3, .int x3), (4, .int x4)], [.int (nI 1)], wd s rest, 0, 0)) (List.forall_mem_cons.mpr ⟨dX5_collectGaps_87, List.forall_mem_cons.mpr ⟨dX5_collectGaps_88, fun _ h => absurd h List.not_mem_nil⟩⟩) rfl ?_
        cases h
        exact xretz tn_X5_collectGaps rfl (by decide) dX5_collectGaps_92
    · refine xs tn_X5_collectGaps [(24, .aload_n 0, 1), (25, .getfield 12, 3), (28, .iload_n 1, 1), (29, .iload 4, 2)] (st' := (31, [(0, .ref 0), (1, .int x1), (2, .int x2), (3, .int x3), (4, .int x4)], [.int x4, .int x1, .ref 1], wd s rest, 0, 0)) (List.forall_mem_cons.mpr ⟨dX5_collectGaps_24, List.forall_mem_cons.mpr ⟨dX5_collectGaps_25, List.forall_mem_cons.mpr ⟨dX5_collectGaps_28, List.forall_mem_cons.mpr ⟨dX5_collectGaps_29, fun _ h => absurd h List.not_mem_nil⟩⟩⟩⟩) rfl ?_
      obtain ⟨v3, h4, h⟩ := obind h
      refine xcall tn_X5_collectGaps dX5_collectGaps_31 rfl rfl (w_X4_content h4) ?_
      show X 97 (34, [(0, .ref 0), (1, .int x1), (2, .int x2), (3, .int x3), (4, .int x4)], [.int v3], wd s rest, 0, 0) _
      refine xs tn_X5_collectGaps [(34, .istore 5, 2), (36, .aload_n 0, 1), (37, .iload 5, 2)] (st' := (39, [(5, .int v3), (0, .ref 0), (1, .int x1), (2, .int x2), (3, .int x3), (4, .int x4)], [.int v3, .ref 0], wd s rest, 0, 0)) (List.forall_mem_cons.mpr ⟨dX5_collectGaps_34, List.forall_mem_cons.mpr ⟨dX5_collectGaps_36, List.forall_mem_cons.mpr ⟨dX5_collectGaps_37, fun _ h => absurd h List.not_mem_nil⟩⟩⟩) rfl ?_
      obtain ⟨v5, h6, h⟩ := obind h
      refine xcall tn_X5_collectGaps dX5_collectGaps_39 rfl rfl (w_X5_isInLog h6) ?_
      show X 97 (42, [(5, .int v3), (0, .ref 0), (1, .int x1), (2, .int x2), (3, .int x3), (4, .int x4)], [.int v5], wd s rest, 0, 0) _
      refine xifF (t := 47) tn_X5_collectGaps dX5_collectGaps_42 (by decide) h (fun h => ?_) (fun h => ?_)
      · refine xs tn_X5_collectGaps [(47, .aload_n 0, 1), (48, .iload 5, 2)] (st' := (50, [(5, .int v3), (0, .ref 0), (1, .int x1), (2, .int x2), (3, .int x3), (4, .int x4)], [.int v3, .ref 0], wd s rest, 0, 0)) (List.forall_mem_cons.mpr ⟨dX5_collectGaps_47, List.forall_mem_cons.mpr ⟨dX5_collectGaps_48, fun _ h => absurd h List.not_mem_nil⟩⟩) rfl ?_
        obtain ⟨v7, h8, h⟩ := obind h
        refine xcall tn_X5_collectGaps dX5_collectGaps_50 rfl rfl (w_X5_isBlock h8) ?_
        show X 97 (53, [(5, .int v3), (0, .ref 0), (1, .int x1), (2, .int x2), (3, .int x3), (4, .int x4)], [.int v7], wd s rest, 0, 0) _
        refine xifF (t := 66) tn_X5_collectGaps dX5_collectGaps_53 (by decide) h (fun h => ?_) (fun h => ?_)
        · refine xs tn_X5_collectGaps [(66, .iload_n 2, 1)] (st' := (67, [(5, .int v3), (0, .ref 0), (1, .int x1), (2, .int x2), (3, .int x3), (4, .int x4)], [.int x2], wd s rest, 0, 0)) (List.forall_mem_cons.mpr ⟨dX5_collectGaps_66, fun _ h => absurd h List.not_mem_nil⟩) rfl ?_
          obtain ⟨v9, h10, h⟩ := obind h
          refine xcall tn_X5_collectGaps dX5_collectGaps_67 rfl rfl (w_X1_twice h10) ?_
          show X 97 (70, [(5, .int v3), (0, .ref 0), (1, .int x1), (2, .int x2), (3, .int x3), (4, .int x4)], [.int v9], wd s rest, 0, 0) _
          refine xs tn_X5_collectGaps [(70, .istore_n 2, 1), (71, .iinc 4 1, 3), (74, .goto (-56), 3)] (st' := (18, [(5, .int v3), (0, .ref 0), (1, .int x1), (2, .int v9), (3, .int x3), (4, .int (x4 + (nI 1)))], [], wd s rest, 0, 0)) (List.forall_mem_cons.mpr ⟨dX5_collectGaps_70, List.forall_mem_cons.mpr ⟨dX5_collectGaps_71, List.forall_mem_cons.mpr ⟨dX5_collectGaps_74, fun _ h => absurd h List.not_mem_nil⟩⟩⟩) rfl ?_
          refine xwk [0, 1, 2, 3, 4] rfl rfl ?_
          exact ih _ _ _ _ _ _ _ h
        · refine xs tn_X5_collectGaps [(56, .aload_n 0, 1), (57, .getfield 35, 3), (60, .iload 5, 2), (62, .iload_n 2, 1)] (st' := (63, [(5, .int v3), (0, .ref 0), (1, .int x1), (2, .int x2), (3, .int x3), (4, .int x4)], [.int x2, .int v3, .ref 11], wd s rest, 0, 0)) (List.forall_mem_cons.mpr ⟨dX5_collectGaps_56, List.forall_mem_cons.mpr ⟨dX5_collectGaps_57, List.forall_mem_cons.mpr ⟨dX5_collectGaps_60, List.forall_mem_cons.mpr ⟨dX5_collectGaps_62, fun _ h => absurd h List.not_mem_nil⟩⟩⟩⟩) rfl ?_
          obtain ⟨s11, h12, h⟩ := obind h
          refine xcall tn_X5_collectGaps dX5_collectGaps_63 rfl rfl (w_X2_note h12) ?_
          show X 97 (66, [(5, .int v3), (0, .ref 0), (1, .int x1), (2, .int x2), (3, .int x3), (4, .int x4)], [], wd s11 rest, 0, 0) _
          refine xs tn_X5_collectGaps [(66, .iload_n 2, 1)] (st' := (67, [(5, .int v3), (0, .ref 0), (1, .int x1), (2, .int x2), (3, .int x3), (4, .int x4)], [.int x2], wd s11 rest, 0, 0)) (List.forall_mem_cons.mpr ⟨dX5_collectGaps_66, fun _ h => absurd h List.not_mem_nil⟩) rfl ?_
          obtain ⟨v13, h14, h⟩ := obind h
          refine xcall tn_X5_collectGaps dX5_collectGaps_67 rfl rfl (w_X1_twice h14) ?_
          show X 97 (70, [(5, .int v3), (0, .ref 0), (1, .int x1), (2, .int x2), (3, .int x3), (4, .int x4)], [.int v13], wd s11 rest, 0, 0) _
          refine xs tn_X5_collectGaps [(70, .istore_n 2, 1), (71, .iinc 4 1, 3), (74, .goto (-56), 3)] (st' := (18, [(5, .int v3), (0, .ref 0), (1, .int x1), (2, .int v13), (3, .int x3), (4, .int (x4 + (nI 1)))], [], wd s11 rest, 0, 0)) (List.forall_mem_cons.mpr ⟨dX5_collectGaps_70, List.forall_mem_cons.mpr ⟨dX5_collectGaps_71, List.forall_mem_cons.mpr ⟨dX5_collectGaps_74, fun _ h => absurd h List.not_mem_nil⟩⟩⟩) rfl ?_
          refine xwk [0, 1, 2, 3, 4] rfl rfl ?_
          exact ih _ _ _ _ _ _ _ h
      · refine xs tn_X5_collectGaps [(45, .iconst 0, 1)] (st' := (46, [(5, .int v3), (0, .ref 0), (1, .int x1), (2, .int x2), (3, .int x3), (4, .int x4)], [.int (nI 0)], wd s rest, 0, 0)) (List.forall_mem_cons.mpr ⟨dX5_collectGaps_45, fun _ h => absurd h List.not_mem_nil⟩) rfl ?_
        cases h
        exact xretz tn_X5_collectGaps rfl (by decide) dX5_collectGaps_46
def F_X5_collectGaps (N : Nat) (s : St) (x1 : Int32) : Option (Int32 × St) := (F_X2_clear N s).bind fun s1 => (F_X5_blocksOfRow s1 x1).bind fun v3 => F_X5_collectGaps_18 N N s1 x1 (nI 1) v3 (nI 0)
set_option maxRecDepth 100000 in
set_option maxHeartbeats 4000000 in
theorem w_X5_collectGaps {rest : mx_W} {N : Nat} {s : St} {x1 : Int32} {r : Int32} {t : St} (h : F_X5_collectGaps N s x1 = some (r, t)) : X 97 (0, [(0, .ref 0), (1, .int x1)], [], wd s rest, 0, 0) (some (.int r), wd t rest, 0, 0) := by
  unfold F_X5_collectGaps at h
  refine xs tn_X5_collectGaps [(0, .aload_n 0, 1), (1, .getfield 35, 3)] (st' := (4, [(0, .ref 0), (1, .int x1)], [.ref 11], wd s rest, 0, 0)) (List.forall_mem_cons.mpr ⟨dX5_collectGaps_0, List.forall_mem_cons.mpr ⟨dX5_collectGaps_1, fun _ h => absurd h List.not_mem_nil⟩⟩) rfl ?_
  obtain ⟨s1, h2, h⟩ := obind h
  refine xcall tn_X5_collectGaps dX5_collectGaps_4 rfl rfl (w_X2_clear h2) ?_
  show X 97 (7, [(0, .ref 0), (1, .int x1)], [], wd s1 rest, 0, 0) _
  refine xs tn_X5_collectGaps [(7, .iconst 1, 1), (8, .istore_n 2, 1), (9, .aload_n 0, 1), (10, .iload_n 1, 1)] (st' := (11, [(2, .int (nI 1)), (0, .ref 0), (1, .int x1)], [.int x1, .ref 0], wd s1 rest, 0, 0)) (List.forall_mem_cons.mpr ⟨dX5_collectGaps_7, List.forall_mem_cons.mpr ⟨dX5_collectGaps_8, List.forall_mem_cons.mpr ⟨dX5_collectGaps_9, List.forall_mem_cons.mpr ⟨dX5_collectGaps_10, fun _ h => absurd h List.not_mem_nil⟩⟩⟩⟩) rfl ?_
  obtain ⟨v3, h4, h⟩ := obind h
  refine xcall tn_X5_collectGaps dX5_collectGaps_11 rfl rfl (w_X5_blocksOfRow h4) ?_
  show X 97 (14, [(2, .int (nI 1)), (0, .ref 0), (1, .int x1)], [.int v3], wd s1 rest, 0, 0) _
  refine xs tn_X5_collectGaps [(14, .istore_n 3, 1), (15, .iconst 0, 1), (16, .istore 4, 2)] (st' := (18, [(4, .int (nI 0)), (3, .int v3), (2, .int (nI 1)), (0, .ref 0), (1, .int x1)], [], wd s1 rest, 0, 0)) (List.forall_mem_cons.mpr ⟨dX5_collectGaps_14, List.forall_mem_cons.mpr ⟨dX5_collectGaps_15, List.forall_mem_cons.mpr ⟨dX5_collectGaps_16, fun _ h => absurd h List.not_mem_nil⟩⟩⟩) rfl ?_
  refine xwk [0, 1, 2, 3, 4] rfl rfl ?_
  exact w_X5_collectGaps_18 N _ _ _ _ _ _ _ h
def F_X5_findSymbol_7 (N : Nat) : Nat → St → Int32 → Int32 → Int32 → Option (Int32)
  | 0, _, _, _, _ => none
  | f + 1, s, x1, x2, x3 => bif mx_cnd .lt x3 (nI 2) then (some (-nI 1)) else ((F_X4_wholeSort s x3).bind fun v1 => bif mx_cnd .ne v1 (nI 4) then (F_X5_findSymbol_7 N f s x1 x2 (x3 + (-nI 1))) else ((F_X4_cell s x3 (nI 1)).bind fun v3 => bif mx_cnd .ne v3 x1 then (F_X5_findSymbol_7 N f s x1 x2 (x3 + (-nI 1))) else ((F_X4_cell s x3 (nI 2)).bind fun v5 => bif mx_cnd .ne v5 x2 then (F_X5_findSymbol_7 N f s x1 x2 (x3 + (-nI 1))) else (some x3))))
set_option maxRecDepth 100000 in
set_option maxHeartbeats 4000000 in
theorem w_X5_findSymbol_7 {rest : mx_W} {N : Nat} : ∀ (f : Nat) (s : St) (x1 : Int32) (x2 : Int32) (x3 : Int32) (r : Int32), F_X5_findSymbol_7 N f s x1 x2 x3 = some r → X 76 (7, [(0, .ref 0), (1, .int x1), (2, .int x2), (3, .int x3)], [], wd s rest, 0, 0) (some (.int r), wd s rest, 0, 0) := by
  intro f
  induction f with
  | zero => intro s x1 x2 x3 r h; rw [F_X5_findSymbol_7.eq_1] at h; cases h
  | succ f ih =>
    intro s x1 x2 x3 r h
    rw [F_X5_findSymbol_7.eq_2] at h
    refine xs tn_X5_findSymbol [(7, .iload_n 3, 1), (8, .iconst 2, 1)] (st' := (9, [(0, .ref 0), (1, .int x1), (2, .int x2), (3, .int x3)], [.int (nI 2), .int x3], wd s rest, 0, 0)) (List.forall_mem_cons.mpr ⟨dX5_findSymbol_7, List.forall_mem_cons.mpr ⟨dX5_findSymbol_8, fun _ h => absurd h List.not_mem_nil⟩⟩) rfl ?_
    refine xcmpF (t := 58) tn_X5_findSymbol dX5_findSymbol_9 (by decide) h (fun h => ?_) (fun h => ?_)
    · refine xs tn_X5_findSymbol [(58, .iconst (-1), 1)] (st' := (59, [(0, .ref 0), (1, .int x1), (2, .int x2), (3, .int x3)], [.int (-nI 1)], wd s rest, 0, 0)) (List.forall_mem_cons.mpr ⟨dX5_findSymbol_58, fun _ h => absurd h List.not_mem_nil⟩) rfl ?_
      cases h
      exact xret tn_X5_findSymbol rfl dX5_findSymbol_59
    · refine xs tn_X5_findSymbol [(12, .aload_n 0, 1), (13, .getfield 12, 3), (16, .iload_n 3, 1)] (st' := (17, [(0, .ref 0), (1, .int x1), (2, .int x2), (3, .int x3)], [.int x3, .ref 1], wd s rest, 0, 0)) (List.forall_mem_cons.mpr ⟨dX5_findSymbol_12, List.forall_mem_cons.mpr ⟨dX5_findSymbol_13, List.forall_mem_cons.mpr ⟨dX5_findSymbol_16, fun _ h => absurd h List.not_mem_nil⟩⟩⟩) rfl ?_
      obtain ⟨v1, h2, h⟩ := obind h
      refine xcall tn_X5_findSymbol dX5_findSymbol_17 rfl rfl (w_X4_wholeSort h2) ?_
      show X 76 (20, [(0, .ref 0), (1, .int x1), (2, .int x2), (3, .int x3)], [.int v1], wd s rest, 0, 0) _
      refine xs tn_X5_findSymbol [(20, .iconst 4, 1)] (st' := (21, [(0, .ref 0), (1, .int x1), (2, .int x2), (3, .int x3)], [.int (nI 4), .int v1], wd s rest, 0, 0)) (List.forall_mem_cons.mpr ⟨dX5_findSymbol_20, fun _ h => absurd h List.not_mem_nil⟩) rfl ?_
      refine xcmpF (t := 52) tn_X5_findSymbol dX5_findSymbol_21 (by decide) h (fun h => ?_) (fun h => ?_)
      · refine xs tn_X5_findSymbol [(52, .iinc 3 (-1), 3), (55, .goto (-48), 3)] (st' := (7, [(0, .ref 0), (1, .int x1), (2, .int x2), (3, .int (x3 + (-nI 1)))], [], wd s rest, 0, 0)) (List.forall_mem_cons.mpr ⟨dX5_findSymbol_52, List.forall_mem_cons.mpr ⟨dX5_findSymbol_55, fun _ h => absurd h List.not_mem_nil⟩⟩) rfl ?_
        refine xwk [0, 1, 2, 3] rfl rfl ?_
        exact ih _ _ _ _ _ h
      · refine xs tn_X5_findSymbol [(24, .aload_n 0, 1), (25, .getfield 12, 3), (28, .iload_n 3, 1), (29, .iconst 1, 1)] (st' := (30, [(0, .ref 0), (1, .int x1), (2, .int x2), (3, .int x3)], [.int (nI 1), .int x3, .ref 1], wd s rest, 0, 0)) (List.forall_mem_cons.mpr ⟨dX5_findSymbol_24, List.forall_mem_cons.mpr ⟨dX5_findSymbol_25, List.forall_mem_cons.mpr ⟨dX5_findSymbol_28, List.forall_mem_cons.mpr ⟨dX5_findSymbol_29, fun _ h => absurd h List.not_mem_nil⟩⟩⟩⟩) rfl ?_
        obtain ⟨v3, h4, h⟩ := obind h
        refine xcall tn_X5_findSymbol dX5_findSymbol_30 rfl rfl (w_X4_cell h4) ?_
        show X 76 (33, [(0, .ref 0), (1, .int x1), (2, .int x2), (3, .int x3)], [.int v3], wd s rest, 0, 0) _
        refine xs tn_X5_findSymbol [(33, .iload_n 1, 1)] (st' := (34, [(0, .ref 0), (1, .int x1), (2, .int x2), (3, .int x3)], [.int x1, .int v3], wd s rest, 0, 0)) (List.forall_mem_cons.mpr ⟨dX5_findSymbol_33, fun _ h => absurd h List.not_mem_nil⟩) rfl ?_
        refine xcmpF (t := 52) tn_X5_findSymbol dX5_findSymbol_34 (by decide) h (fun h => ?_) (fun h => ?_)
        · refine xs tn_X5_findSymbol [(52, .iinc 3 (-1), 3), (55, .goto (-48), 3)] (st' := (7, [(0, .ref 0), (1, .int x1), (2, .int x2), (3, .int (x3 + (-nI 1)))], [], wd s rest, 0, 0)) (List.forall_mem_cons.mpr ⟨dX5_findSymbol_52, List.forall_mem_cons.mpr ⟨dX5_findSymbol_55, fun _ h => absurd h List.not_mem_nil⟩⟩) rfl ?_
          refine xwk [0, 1, 2, 3] rfl rfl ?_
          exact ih _ _ _ _ _ h
        · refine xs tn_X5_findSymbol [(37, .aload_n 0, 1), (38, .getfield 12, 3), (41, .iload_n 3, 1), (42, .iconst 2, 1)] (st' := (43, [(0, .ref 0), (1, .int x1), (2, .int x2), (3, .int x3)], [.int (nI 2), .int x3, .ref 1], wd s rest, 0, 0)) (List.forall_mem_cons.mpr ⟨dX5_findSymbol_37, List.forall_mem_cons.mpr ⟨dX5_findSymbol_38, List.forall_mem_cons.mpr ⟨dX5_findSymbol_41, List.forall_mem_cons.mpr ⟨dX5_findSymbol_42, fun _ h => absurd h List.not_mem_nil⟩⟩⟩⟩) rfl ?_
          obtain ⟨v5, h6, h⟩ := obind h
          refine xcall tn_X5_findSymbol dX5_findSymbol_43 rfl rfl (w_X4_cell h6) ?_
          show X 76 (46, [(0, .ref 0), (1, .int x1), (2, .int x2), (3, .int x3)], [.int v5], wd s rest, 0, 0) _
          refine xs tn_X5_findSymbol [(46, .iload_n 2, 1)] (st' := (47, [(0, .ref 0), (1, .int x1), (2, .int x2), (3, .int x3)], [.int x2, .int v5], wd s rest, 0, 0)) (List.forall_mem_cons.mpr ⟨dX5_findSymbol_46, fun _ h => absurd h List.not_mem_nil⟩) rfl ?_
          refine xcmpF (t := 52) tn_X5_findSymbol dX5_findSymbol_47 (by decide) h (fun h => ?_) (fun h => ?_)
          · refine xs tn_X5_findSymbol [(52, .iinc 3 (-1), 3), (55, .goto (-48), 3)] (st' := (7, [(0, .ref 0), (1, .int x1), (2, .int x2), (3, .int (x3 + (-nI 1)))], [], wd s rest, 0, 0)) (List.forall_mem_cons.mpr ⟨dX5_findSymbol_52, List.forall_mem_cons.mpr ⟨dX5_findSymbol_55, fun _ h => absurd h List.not_mem_nil⟩⟩) rfl ?_
            refine xwk [0, 1, 2, 3] rfl rfl ?_
            exact ih _ _ _ _ _ h
          · refine xs tn_X5_findSymbol [(50, .iload_n 3, 1)] (st' := (51, [(0, .ref 0), (1, .int x1), (2, .int x2), (3, .int x3)], [.int x3], wd s rest, 0, 0)) (List.forall_mem_cons.mpr ⟨dX5_findSymbol_50, fun _ h => absurd h List.not_mem_nil⟩) rfl ?_
            cases h
            exact xret tn_X5_findSymbol rfl dX5_findSymbol_51
def F_X5_findSymbol (N : Nat) (s : St) (x1 : Int32) (x2 : Int32) : Option (Int32) := F_X5_findSymbol_7 N N s x1 x2 ((gI s 1) - (nI 1))
set_option maxRecDepth 100000 in
set_option maxHeartbeats 4000000 in
theorem w_X5_findSymbol {rest : mx_W} {N : Nat} {s : St} {x1 : Int32} {x2 : Int32} {r : Int32} (h : F_X5_findSymbol N s x1 x2 = some r) : X 76 (0, [(0, .ref 0), (1, .int x1), (2, .int x2)], [], wd s rest, 0, 0) (some (.int r), wd s rest, 0, 0) := by
  unfold F_X5_findSymbol at h
  refine xs tn_X5_findSymbol [(0, .aload_n 0, 1), (1, .getfield 50, 3), (4, .iconst 1, 1), (5, .isub, 1), (6, .istore_n 3, 1)] (st' := (7, [(3, .int ((gI s 1) - (nI 1))), (0, .ref 0), (1, .int x1), (2, .int x2)], [], wd s rest, 0, 0)) (List.forall_mem_cons.mpr ⟨dX5_findSymbol_0, List.forall_mem_cons.mpr ⟨dX5_findSymbol_1, List.forall_mem_cons.mpr ⟨dX5_findSymbol_4, List.forall_mem_cons.mpr ⟨dX5_findSymbol_5, List.forall_mem_cons.mpr ⟨dX5_findSymbol_6, fun _ h => absurd h List.not_mem_nil⟩⟩⟩⟩⟩) rfl ?_
  refine xwk [0, 1, 2, 3] rfl rfl ?_
  exact w_X5_findSymbol_7 N _ _ _ _ _ h
def F_X1_times_5 (N : Nat) : Nat → Int32 → Int32 → Int32 → Int32 → Option (Int32)
  | 0, _, _, _, _ => none
  | f + 1, x0, x1, x2, x3 => bif mx_cnd .lt x3 0 then (some x2) else ((F_X1_twice x2).bind fun v1 => bif mx_cnd .ne ((x1 >>> (x3 &&& 31)) &&& (nI 1)) (nI 1) then (F_X1_times_5 N f x0 x1 (v1 ^^^ (nI 0)) (x3 + (-nI 1))) else (F_X1_times_5 N f x0 x1 (v1 ^^^ x0) (x3 + (-nI 1))))
set_option maxRecDepth 100000 in
set_option maxHeartbeats 4000000 in
theorem w_X1_times_5 {w : mx_W} {N : Nat} : ∀ (f : Nat) (x0 : Int32) (x1 : Int32) (x2 : Int32) (x3 : Int32) (r : Int32), F_X1_times_5 N f x0 x1 x2 x3 = some r → X 42 (5, [(0, .int x0), (1, .int x1), (2, .int x2), (3, .int x3)], [], w, 0, 0) (some (.int r), w, 0, 0) := by
  intro f
  induction f with
  | zero => intro x0 x1 x2 x3 r h; rw [F_X1_times_5.eq_1] at h; cases h
  | succ f ih =>
    intro x0 x1 x2 x3 r h
    rw [F_X1_times_5.eq_2] at h
    refine xs tn_X1_times [(5, .iload_n 3, 1)] (st' := (6, [(0, .int x0), (1, .int x1), (2, .int x2), (3, .int x3)], [.int x3], w, 0, 0)) (List.forall_mem_cons.mpr ⟨dX1_times_5, fun _ h => absurd h List.not_mem_nil⟩) rfl ?_
    refine xifF (t := 35) tn_X1_times dX1_times_6 (by decide) h (fun h => ?_) (fun h => ?_)
    · refine xs tn_X1_times [(35, .iload_n 2, 1)] (st' := (36, [(0, .int x0), (1, .int x1), (2, .int x2), (3, .int x3)], [.int x2], w, 0, 0)) (List.forall_mem_cons.mpr ⟨dX1_times_35, fun _ h => absurd h List.not_mem_nil⟩) rfl ?_
      cases h
      exact xret tn_X1_times rfl dX1_times_36
    · refine xs tn_X1_times [(9, .iload_n 2, 1)] (st' := (10, [(0, .int x0), (1, .int x1), (2, .int x2), (3, .int x3)], [.int x2], w, 0, 0)) (List.forall_mem_cons.mpr ⟨dX1_times_9, fun _ h => absurd h List.not_mem_nil⟩) rfl ?_
      obtain ⟨v1, h2, h⟩ := obind h
      refine xcall tn_X1_times dX1_times_10 rfl rfl (w_X1_twice h2) ?_
      show X 42 (13, [(0, .int x0), (1, .int x1), (2, .int x2), (3, .int x3)], [.int v1], w, 0, 0) _
      refine xs tn_X1_times [(13, .iload_n 1, 1), (14, .iload_n 3, 1), (15, .ishr, 1), (16, .iconst 1, 1), (17, .iand, 1), (18, .iconst 1, 1)] (st' := (19, [(0, .int x0), (1, .int x1), (2, .int x2), (3, .int x3)], [.int (nI 1), .int ((x1 >>> (x3 &&& 31)) &&& (nI 1)), .int v1], w, 0, 0)) (List.forall_mem_cons.mpr ⟨dX1_times_13, List.forall_mem_cons.mpr ⟨dX1_times_14, List.forall_mem_cons.mpr ⟨dX1_times_15, List.forall_mem_cons.mpr ⟨dX1_times_16, List.forall_mem_cons.mpr ⟨dX1_times_17, List.forall_mem_cons.mpr ⟨dX1_times_18, fun _ h => absurd h List.not_mem_nil⟩⟩⟩⟩⟩⟩) rfl ?_
      refine xcmpF (t := 26) tn_X1_times dX1_times_19 (by decide) h (fun h => ?_) (fun h => ?_)
      · refine xs tn_X1_times [(26, .iconst 0, 1), (27, .ixor, 1), (28, .istore_n 2, 1), (29, .iinc 3 (-1), 3), (32, .goto (-27), 3)] (st' := (5, [(0, .int x0), (1, .int x1), (2, .int (v1 ^^^ (nI 0))), (3, .int (x3 + (-nI 1)))], [], w, 0, 0)) (List.forall_mem_cons.mpr ⟨dX1_times_26, List.forall_mem_cons.mpr ⟨dX1_times_27, List.forall_mem_cons.mpr ⟨dX1_times_28, List.forall_mem_cons.mpr ⟨dX1_times_29, List.forall_mem_cons.mpr ⟨dX1_times_32, fun _ h => absurd h List.not_mem_nil⟩⟩⟩⟩⟩) rfl ?_
        refine xwk [0, 1, 2, 3] rfl rfl ?_
        exact ih _ _ _ _ _ h
      · refine xs tn_X1_times [(22, .iload_n 0, 1), (23, .goto 4, 3), (27, .ixor, 1), (28, .istore_n 2, 1), (29, .iinc 3 (-1), 3), (32, .goto (-27), 3)] (st' := (5, [(0, .int x0), (1, .int x1), (2, .int (v1 ^^^ x0)), (3, .int (x3 + (-nI 1)))], [], w, 0, 0)) (List.forall_mem_cons.mpr ⟨dX1_times_22, List.forall_mem_cons.mpr ⟨dX1_times_23, List.forall_mem_cons.mpr ⟨dX1_times_27, List.forall_mem_cons.mpr ⟨dX1_times_28, List.forall_mem_cons.mpr ⟨dX1_times_29, List.forall_mem_cons.mpr ⟨dX1_times_32, fun _ h => absurd h List.not_mem_nil⟩⟩⟩⟩⟩⟩) rfl ?_
        refine xwk [0, 1, 2, 3] rfl rfl ?_
        exact ih _ _ _ _ _ h
def F_X1_times (N : Nat) (x0 : Int32) (x1 : Int32) : Option (Int32) := F_X1_times_5 N N x0 x1 (nI 0) (nI 7)
set_option maxRecDepth 100000 in
set_option maxHeartbeats 4000000 in
theorem w_X1_times {w : mx_W} {N : Nat} {x0 : Int32} {x1 : Int32} {r : Int32} (h : F_X1_times N x0 x1 = some r) : X 42 (0, [(0, .int x0), (1, .int x1)], [], w, 0, 0) (some (.int r), w, 0, 0) := by
  unfold F_X1_times at h
  refine xs tn_X1_times [(0, .iconst 0, 1), (1, .istore_n 2, 1), (2, .bipush 7, 2), (4, .istore_n 3, 1)] (st' := (5, [(3, .int (nI 7)), (2, .int (nI 0)), (0, .int x0), (1, .int x1)], [], w, 0, 0)) (List.forall_mem_cons.mpr ⟨dX1_times_0, List.forall_mem_cons.mpr ⟨dX1_times_1, List.forall_mem_cons.mpr ⟨dX1_times_2, List.forall_mem_cons.mpr ⟨dX1_times_4, fun _ h => absurd h List.not_mem_nil⟩⟩⟩⟩) rfl ?_
  refine xwk [0, 1, 2, 3] rfl rfl ?_
  exact w_X1_times_5 N _ _ _ _ _ h
def F_X1_inverse_2 (N : Nat) : Nat → Int32 → Int32 → Option (Int32)
  | 0, _, _ => none
  | f + 1, x0, x1 => bif mx_cnd .ge x1 (nI 256) then (some (nI 0)) else ((F_X1_times N x0 x1).bind fun v1 => bif mx_cnd .ne v1 (nI 1) then (F_X1_inverse_2 N f x0 (x1 + (nI 1))) else (some x1))
set_option maxRecDepth 100000 in
set_option maxHeartbeats 4000000 in
theorem w_X1_inverse_2 {w : mx_W} {N : Nat} : ∀ (f : Nat) (x0 : Int32) (x1 : Int32) (r : Int32), F_X1_inverse_2 N f x0 x1 = some r → X 66 (2, [(0, .int x0), (1, .int x1)], [], w, 0, 0) (some (.int r), w, 0, 0) := by
  intro f
  induction f with
  | zero => intro x0 x1 r h; rw [F_X1_inverse_2.eq_1] at h; cases h
  | succ f ih =>
    intro x0 x1 r h
    rw [F_X1_inverse_2.eq_2] at h
    refine xs tn_X1_inverse [(2, .iload_n 1, 1), (3, .sipush 256, 3)] (st' := (6, [(0, .int x0), (1, .int x1)], [.int (nI 256), .int x1], w, 0, 0)) (List.forall_mem_cons.mpr ⟨dX1_inverse_2, List.forall_mem_cons.mpr ⟨dX1_inverse_3, fun _ h => absurd h List.not_mem_nil⟩⟩) rfl ?_
    refine xcmpF (t := 26) tn_X1_inverse dX1_inverse_6 (by decide) h (fun h => ?_) (fun h => ?_)
    · refine xs tn_X1_inverse [(26, .iconst 0, 1)] (st' := (27, [(0, .int x0), (1, .int x1)], [.int (nI 0)], w, 0, 0)) (List.forall_mem_cons.mpr ⟨dX1_inverse_26, fun _ h => absurd h List.not_mem_nil⟩) rfl ?_
      cases h
      exact xret tn_X1_inverse rfl dX1_inverse_27
    · refine xs tn_X1_inverse [(9, .iload_n 0, 1), (10, .iload_n 1, 1)] (st' := (11, [(0, .int x0), (1, .int x1)], [.int x1, .int x0], w, 0, 0)) (List.forall_mem_cons.mpr ⟨dX1_inverse_9, List.forall_mem_cons.mpr ⟨dX1_inverse_10, fun _ h => absurd h List.not_mem_nil⟩⟩) rfl ?_
      obtain ⟨v1, h2, h⟩ := obind h
      refine xcall tn_X1_inverse dX1_inverse_11 rfl rfl (w_X1_times h2) ?_
      show X 66 (14, [(0, .int x0), (1, .int x1)], [.int v1], w, 0, 0) _
      refine xs tn_X1_inverse [(14, .iconst 1, 1)] (st' := (15, [(0, .int x0), (1, .int x1)], [.int (nI 1), .int v1], w, 0, 0)) (List.forall_mem_cons.mpr ⟨dX1_inverse_14, fun _ h => absurd h List.not_mem_nil⟩) rfl ?_
      refine xcmpF (t := 20) tn_X1_inverse dX1_inverse_15 (by decide) h (fun h => ?_) (fun h => ?_)
      · refine xs tn_X1_inverse [(20, .iinc 1 1, 3), (23, .goto (-21), 3)] (st' := (2, [(0, .int x0), (1, .int (x1 + (nI 1)))], [], w, 0, 0)) (List.forall_mem_cons.mpr ⟨dX1_inverse_20, List.forall_mem_cons.mpr ⟨dX1_inverse_23, fun _ h => absurd h List.not_mem_nil⟩⟩) rfl ?_
        refine xwk [0, 1] rfl rfl ?_
        exact ih _ _ _ h
      · refine xs tn_X1_inverse [(18, .iload_n 1, 1)] (st' := (19, [(0, .int x0), (1, .int x1)], [.int x1], w, 0, 0)) (List.forall_mem_cons.mpr ⟨dX1_inverse_18, fun _ h => absurd h List.not_mem_nil⟩) rfl ?_
        cases h
        exact xret tn_X1_inverse rfl dX1_inverse_19
def F_X1_inverse (N : Nat) (x0 : Int32) : Option (Int32) := F_X1_inverse_2 N N x0 (nI 1)
set_option maxRecDepth 100000 in
set_option maxHeartbeats 4000000 in
theorem w_X1_inverse {w : mx_W} {N : Nat} {x0 : Int32} {r : Int32} (h : F_X1_inverse N x0 = some r) : X 66 (0, [(0, .int x0)], [], w, 0, 0) (some (.int r), w, 0, 0) := by
  unfold F_X1_inverse at h
  refine xs tn_X1_inverse [(0, .iconst 1, 1), (1, .istore_n 1, 1)] (st' := (2, [(1, .int (nI 1)), (0, .int x0)], [], w, 0, 0)) (List.forall_mem_cons.mpr ⟨dX1_inverse_0, List.forall_mem_cons.mpr ⟨dX1_inverse_1, fun _ h => absurd h List.not_mem_nil⟩⟩) rfl ?_
  refine xwk [0, 1] rfl rfl ?_
  exact w_X1_inverse_2 N _ _ _ h
def F_X2_prepare_109 (N : Nat) (s : St) (x3 : Int32) : Option (Int32 × St) := (F_X1_inverse N x3).bind fun v1 => bnd (sI s 10 v1) fun s3 => bif mx_cnd .eq (gI s3 10) 0 then (some (nI 0, s3)) else (some (nI 1, s3))
set_option maxRecDepth 100000 in
set_option maxHeartbeats 4000000 in
theorem w_X2_prepare_109 {rest : mx_W} {N : Nat} {s : St} {x3 : Int32} {r : Int32} {t : St} (h : F_X2_prepare_109 N s x3 = some (r, t)) : X 93 (109, [(0, .ref 11), (3, .int x3)], [], wd s rest, 0, 0) (some (.int r), wd t rest, 0, 0) := by
  unfold F_X2_prepare_109 at h
  refine xs tn_X2_prepare [(109, .aload_n 0, 1), (110, .iload_n 3, 1)] (st' := (111, [(0, .ref 11), (3, .int x3)], [.int x3, .ref 11], wd s rest, 0, 0)) (List.forall_mem_cons.mpr ⟨dX2_prepare_109, List.forall_mem_cons.mpr ⟨dX2_prepare_110, fun _ h => absurd h List.not_mem_nil⟩⟩) rfl ?_
  obtain ⟨v1, h2, h⟩ := obind h
  refine xcall tn_X2_prepare dX2_prepare_111 rfl rfl (w_X1_inverse h2) ?_
  show X 93 (114, [(0, .ref 11), (3, .int x3)], [.int v1, .ref 11], wd s rest, 0, 0) _
  refine xput_a10 tn_X2_prepare dX2_prepare_114 rfl h (fun s3 h => ?_)
  refine xs tn_X2_prepare [(117, .aload_n 0, 1), (118, .getfield 44, 3)] (st' := (121, [(0, .ref 11), (3, .int x3)], [.int (gI s3 10)], wd s3 rest, 0, 0)) (List.forall_mem_cons.mpr ⟨dX2_prepare_117, List.forall_mem_cons.mpr ⟨dX2_prepare_118, fun _ h => absurd h List.not_mem_nil⟩⟩) rfl ?_
  refine xifF (t := 128) tn_X2_prepare dX2_prepare_121 (by decide) h (fun h => ?_) (fun h => ?_)
  · refine xs tn_X2_prepare [(128, .iconst 0, 1)] (st' := (129, [(0, .ref 11), (3, .int x3)], [.int (nI 0)], wd s3 rest, 0, 0)) (List.forall_mem_cons.mpr ⟨dX2_prepare_128, fun _ h => absurd h List.not_mem_nil⟩) rfl ?_
    cases h
    exact xretz tn_X2_prepare rfl (by decide) dX2_prepare_129
  · refine xs tn_X2_prepare [(124, .iconst 1, 1), (125, .goto 4, 3)] (st' := (129, [(0, .ref 11), (3, .int x3)], [.int (nI 1)], wd s3 rest, 0, 0)) (List.forall_mem_cons.mpr ⟨dX2_prepare_124, List.forall_mem_cons.mpr ⟨dX2_prepare_125, fun _ h => absurd h List.not_mem_nil⟩⟩) rfl ?_
    cases h
    exact xretz tn_X2_prepare rfl (by decide) dX2_prepare_129
def F_X2_prepare_42 (N : Nat) (s : St) : Option (Int32 × St) := bif mx_cnd .ne (gI s 9) (nI 2) then (ldA (gA s 8) 4 (nI 0) fun v1 => bif mx_cnd .eq v1 0 then (ldA (gA s 9) 4 (nI 0) fun v2 => F_X2_prepare_109 N s v2) else (ldA (gA s 8) 4 (nI 0) fun v3 => F_X2_prepare_109 N s v3)) else (ldA (gA s 8) 4 (nI 0) fun v4 => ldA (gA s 9) 4 (nI 1) fun v5 => (F_X1_times N v4 v5).bind fun v6 => ldA (gA s 8) 4 (nI 1) fun v8 => ldA (gA s 9) 4 (nI 0) fun v9 => (F_X1_times N v8 v9).bind fun v10 => F_X2_prepare_109 N s (v6 ^^^ v10))
set_option maxRecDepth 100000 in
set_option maxHeartbeats 4000000 in
theorem w_X2_prepare_42 {rest : mx_W} {N : Nat} {s : St} {r : Int32} {t : St} (h : F_X2_prepare_42 N s = some (r, t)) : X 93 (42, [(0, .ref 11)], [], wd s rest, 0, 0) (some (.int r), wd t rest, 0, 0) := by
  unfold F_X2_prepare_42 at h
  refine xs tn_X2_prepare [(42, .aload_n 0, 1), (43, .getfield 24, 3), (46, .iconst 2, 1)] (st' := (47, [(0, .ref 11)], [.int (nI 2), .int (gI s 9)], wd s rest, 0, 0)) (List.forall_mem_cons.mpr ⟨dX2_prepare_42, List.forall_mem_cons.mpr ⟨dX2_prepare_43, List.forall_mem_cons.mpr ⟨dX2_prepare_46, fun _ h => absurd h List.not_mem_nil⟩⟩⟩) rfl ?_
  refine xcmpF (t := 84) tn_X2_prepare dX2_prepare_47 (by decide) h (fun h => ?_) (fun h => ?_)
  · refine xs tn_X2_prepare [(84, .aload_n 0, 1), (85, .getfield 15, 3), (88, .iconst 0, 1)] (st' := (89, [(0, .ref 11)], [.int (nI 0), .ref 13], wd s rest, 0, 0)) (List.forall_mem_cons.mpr ⟨dX2_prepare_84, List.forall_mem_cons.mpr ⟨dX2_prepare_85, List.forall_mem_cons.mpr ⟨dX2_prepare_88, fun _ h => absurd h List.not_mem_nil⟩⟩⟩) rfl ?_
    refine xldF tn_X2_prepare dX2_prepare_89 at_13 h (fun v1 h => ?_)
    refine xifF (t := 102) tn_X2_prepare dX2_prepare_90 (by decide) h (fun h => ?_) (fun h => ?_)
    · refine xs tn_X2_prepare [(102, .aload_n 0, 1), (103, .getfield 18, 3), (106, .iconst 0, 1)] (st' := (107, [(0, .ref 11)], [.int (nI 0), .ref 14], wd s rest, 0, 0)) (List.forall_mem_cons.mpr ⟨dX2_prepare_102, List.forall_mem_cons.mpr ⟨dX2_prepare_103, List.forall_mem_cons.mpr ⟨dX2_prepare_106, fun _ h => absurd h List.not_mem_nil⟩⟩⟩) rfl ?_
      refine xldF tn_X2_prepare dX2_prepare_107 at_14 h (fun v2 h => ?_)
      refine xs tn_X2_prepare [(108, .istore_n 3, 1)] (st' := (109, [(3, .int v2), (0, .ref 11)], [], wd s rest, 0, 0)) (List.forall_mem_cons.mpr ⟨dX2_prepare_108, fun _ h => absurd h List.not_mem_nil⟩) rfl ?_
      refine xwk [0, 3] rfl rfl ?_
      exact w_X2_prepare_109 h
    · refine xs tn_X2_prepare [(93, .aload_n 0, 1), (94, .getfield 15, 3), (97, .iconst 0, 1)] (st' := (98, [(0, .ref 11)], [.int (nI 0), .ref 13], wd s rest, 0, 0)) (List.forall_mem_cons.mpr ⟨dX2_prepare_93, List.forall_mem_cons.mpr ⟨dX2_prepare_94, List.forall_mem_cons.mpr ⟨dX2_prepare_97, fun _ h => absurd h List.not_mem_nil⟩⟩⟩) rfl ?_
      refine xldF tn_X2_prepare dX2_prepare_98 at_13 h (fun v3 h => ?_)
      refine xs tn_X2_prepare [(99, .goto 9, 3), (108, .istore_n 3, 1)] (st' := (109, [(3, .int v3), (0, .ref 11)], [], wd s rest, 0, 0)) (List.forall_mem_cons.mpr ⟨dX2_prepare_99, List.forall_mem_cons.mpr ⟨dX2_prepare_108, fun _ h => absurd h List.not_mem_nil⟩⟩) rfl ?_
      refine xwk [0, 3] rfl rfl ?_
      exact w_X2_prepare_109 h
  · refine xs tn_X2_prepare [(50, .aload_n 0, 1), (51, .getfield 15, 3), (54, .iconst 0, 1)] (st' := (55, [(0, .ref 11)], [.int (nI 0), .ref 13], wd s rest, 0, 0)) (List.forall_mem_cons.mpr ⟨dX2_prepare_50, List.forall_mem_cons.mpr ⟨dX2_prepare_51, List.forall_mem_cons.mpr ⟨dX2_prepare_54, fun _ h => absurd h List.not_mem_nil⟩⟩⟩) rfl ?_
    refine xldF tn_X2_prepare dX2_prepare_55 at_13 h (fun v4 h => ?_)
    refine xs tn_X2_prepare [(56, .aload_n 0, 1), (57, .getfield 18, 3), (60, .iconst 1, 1)] (st' := (61, [(0, .ref 11)], [.int (nI 1), .ref 14, .int v4], wd s rest, 0, 0)) (List.forall_mem_cons.mpr ⟨dX2_prepare_56, List.forall_mem_cons.mpr ⟨dX2_prepare_57, List.forall_mem_cons.mpr ⟨dX2_prepare_60, fun _ h => absurd h List.not_mem_nil⟩⟩⟩) rfl ?_
    refine xldF tn_X2_prepare dX2_prepare_61 at_14 h (fun v5 h => ?_)
    obtain ⟨v6, h7, h⟩ := obind h
    refine xcall tn_X2_prepare dX2_prepare_62 rfl rfl (w_X1_times h7) ?_
    show X 93 (65, [(0, .ref 11)], [.int v6], wd s rest, 0, 0) _
    refine xs tn_X2_prepare [(65, .aload_n 0, 1), (66, .getfield 15, 3), (69, .iconst 1, 1)] (st' := (70, [(0, .ref 11)], [.int (nI 1), .ref 13, .int v6], wd s rest, 0, 0)) (List.forall_mem_cons.mpr ⟨dX2_prepare_65, List.forall_mem_cons.mpr ⟨dX2_prepare_66, List.forall_mem_cons.mpr ⟨dX2_prepare_69, fun _ h => absurd h List.not_mem_nil⟩⟩⟩) rfl ?_
    refine xldF tn_X2_prepare dX2_prepare_70 at_13 h (fun v8 h => ?_)
    refine xs tn_X2_prepare [(71, .aload_n 0, 1), (72, .getfield 18, 3), (75, .iconst 0, 1)] (st' := (76, [(0, .ref 11)], [.int (nI 0), .ref 14, .int v8, .int v6], wd s rest, 0, 0)) (List.forall_mem_cons.mpr ⟨dX2_prepare_71, List.forall_mem_cons.mpr ⟨dX2_prepare_72, List.forall_mem_cons.mpr ⟨dX2_prepare_75, fun _ h => absurd h List.not_mem_nil⟩⟩⟩) rfl ?_
    refine xldF tn_X2_prepare dX2_prepare_76 at_14 h (fun v9 h => ?_)
    obtain ⟨v10, h11, h⟩ := obind h
    refine xcall tn_X2_prepare dX2_prepare_77 rfl rfl (w_X1_times h11) ?_
    show X 93 (80, [(0, .ref 11)], [.int v10, .int v6], wd s rest, 0, 0) _
    refine xs tn_X2_prepare [(80, .ixor, 1), (81, .goto 27, 3), (108, .istore_n 3, 1)] (st' := (109, [(3, .int (v6 ^^^ v10)), (0, .ref 11)], [], wd s rest, 0, 0)) (List.forall_mem_cons.mpr ⟨dX2_prepare_80, List.forall_mem_cons.mpr ⟨dX2_prepare_81, List.forall_mem_cons.mpr ⟨dX2_prepare_108, fun _ h => absurd h List.not_mem_nil⟩⟩⟩) rfl ?_
    refine xwk [0, 3] rfl rfl ?_
    exact w_X2_prepare_109 h
def F_X2_prepare_30 (N : Nat) (s : St) (x2 : Int32) : Option (Int32 × St) := bif mx_cnd .ne x2 0 then (F_X2_prepare_42 N s) else ((F_J7_fill_14 N s (nI 0)).bind fun s1 => F_X2_prepare_42 N s1)
set_option maxRecDepth 100000 in
set_option maxHeartbeats 4000000 in
theorem w_X2_prepare_30 {rest : mx_W} {N : Nat} {s : St} {x2 : Int32} {r : Int32} {t : St} (h : F_X2_prepare_30 N s x2 = some (r, t)) : X 93 (30, [(0, .ref 11), (2, .int x2)], [], wd s rest, 0, 0) (some (.int r), wd t rest, 0, 0) := by
  unfold F_X2_prepare_30 at h
  refine xs tn_X2_prepare [(30, .iload_n 2, 1)] (st' := (31, [(0, .ref 11), (2, .int x2)], [.int x2], wd s rest, 0, 0)) (List.forall_mem_cons.mpr ⟨dX2_prepare_30, fun _ h => absurd h List.not_mem_nil⟩) rfl ?_
  refine xifF (t := 42) tn_X2_prepare dX2_prepare_31 (by decide) h (fun h => ?_) (fun h => ?_)
  · refine xwk [0] rfl rfl ?_
    exact w_X2_prepare_42 h
  · refine xs tn_X2_prepare [(34, .aload_n 0, 1), (35, .getfield 18, 3), (38, .iconst 0, 1)] (st' := (39, [(0, .ref 11), (2, .int x2)], [.int (nI 0), .ref 14], wd s rest, 0, 0)) (List.forall_mem_cons.mpr ⟨dX2_prepare_34, List.forall_mem_cons.mpr ⟨dX2_prepare_35, List.forall_mem_cons.mpr ⟨dX2_prepare_38, fun _ h => absurd h List.not_mem_nil⟩⟩⟩) rfl ?_
    obtain ⟨s1, h2, h⟩ := obind h
    refine xcall tn_X2_prepare dX2_prepare_39 rfl rfl (w_J7_fill_14 h2) ?_
    show X 93 (42, [(0, .ref 11), (2, .int x2)], [], wd s1 rest, 0, 0) _
    refine xwk [0] rfl rfl ?_
    exact w_X2_prepare_42 h
def F_X2_prepare (N : Nat) (s : St) (x1 : Int32) (x2 : Int32) : Option (Int32 × St) := bif mx_cnd .lt (gI s 9) (nI 1) then (some (nI 0, s)) else (bif mx_cnd .le (gI s 9) (nI 2) then (bif mx_cnd .ne x1 0 then (F_X2_prepare_30 N s x2) else ((F_J7_fill_13 N s (nI 0)).bind fun s1 => F_X2_prepare_30 N s1 x2)) else (some (nI 0, s)))
set_option maxRecDepth 100000 in
set_option maxHeartbeats 4000000 in
theorem w_X2_prepare {rest : mx_W} {N : Nat} {s : St} {x1 : Int32} {x2 : Int32} {r : Int32} {t : St} (h : F_X2_prepare N s x1 x2 = some (r, t)) : X 93 (0, [(0, .ref 11), (1, .int x1), (2, .int x2)], [], wd s rest, 0, 0) (some (.int r), wd t rest, 0, 0) := by
  unfold F_X2_prepare at h
  refine xs tn_X2_prepare [(0, .aload_n 0, 1), (1, .getfield 24, 3), (4, .iconst 1, 1)] (st' := (5, [(0, .ref 11), (1, .int x1), (2, .int x2)], [.int (nI 1), .int (gI s 9)], wd s rest, 0, 0)) (List.forall_mem_cons.mpr ⟨dX2_prepare_0, List.forall_mem_cons.mpr ⟨dX2_prepare_1, List.forall_mem_cons.mpr ⟨dX2_prepare_4, fun _ h => absurd h List.not_mem_nil⟩⟩⟩) rfl ?_
  refine xcmpF (t := 16) tn_X2_prepare dX2_prepare_5 (by decide) h (fun h => ?_) (fun h => ?_)
  · refine xs tn_X2_prepare [(16, .iconst 0, 1)] (st' := (17, [(0, .ref 11), (1, .int x1), (2, .int x2)], [.int (nI 0)], wd s rest, 0, 0)) (List.forall_mem_cons.mpr ⟨dX2_prepare_16, fun _ h => absurd h List.not_mem_nil⟩) rfl ?_
    cases h
    exact xretz tn_X2_prepare rfl (by decide) dX2_prepare_17
  · refine xs tn_X2_prepare [(8, .aload_n 0, 1), (9, .getfield 24, 3), (12, .iconst 2, 1)] (st' := (13, [(0, .ref 11), (1, .int x1), (2, .int x2)], [.int (nI 2), .int (gI s 9)], wd s rest, 0, 0)) (List.forall_mem_cons.mpr ⟨dX2_prepare_8, List.forall_mem_cons.mpr ⟨dX2_prepare_9, List.forall_mem_cons.mpr ⟨dX2_prepare_12, fun _ h => absurd h List.not_mem_nil⟩⟩⟩) rfl ?_
    refine xcmpF (t := 18) tn_X2_prepare dX2_prepare_13 (by decide) h (fun h => ?_) (fun h => ?_)
    · refine xs tn_X2_prepare [(18, .iload_n 1, 1)] (st' := (19, [(0, .ref 11), (1, .int x1), (2, .int x2)], [.int x1], wd s rest, 0, 0)) (List.forall_mem_cons.mpr ⟨dX2_prepare_18, fun _ h => absurd h List.not_mem_nil⟩) rfl ?_
      refine xifF (t := 30) tn_X2_prepare dX2_prepare_19 (by decide) h (fun h => ?_) (fun h => ?_)
      · refine xwk [0, 2] rfl rfl ?_
        exact w_X2_prepare_30 h
      · refine xs tn_X2_prepare [(22, .aload_n 0, 1), (23, .getfield 15, 3), (26, .iconst 0, 1)] (st' := (27, [(0, .ref 11), (1, .int x1), (2, .int x2)], [.int (nI 0), .ref 13], wd s rest, 0, 0)) (List.forall_mem_cons.mpr ⟨dX2_prepare_22, List.forall_mem_cons.mpr ⟨dX2_prepare_23, List.forall_mem_cons.mpr ⟨dX2_prepare_26, fun _ h => absurd h List.not_mem_nil⟩⟩⟩) rfl ?_
        obtain ⟨s1, h2, h⟩ := obind h
        refine xcall tn_X2_prepare dX2_prepare_27 rfl rfl (w_J7_fill_13 h2) ?_
        show X 93 (30, [(0, .ref 11), (1, .int x1), (2, .int x2)], [], wd s1 rest, 0, 0) _
        refine xwk [0, 2] rfl rfl ?_
        exact w_X2_prepare_30 h
    · refine xs tn_X2_prepare [(16, .iconst 0, 1)] (st' := (17, [(0, .ref 11), (1, .int x1), (2, .int x2)], [.int (nI 0)], wd s rest, 0, 0)) (List.forall_mem_cons.mpr ⟨dX2_prepare_16, fun _ h => absurd h List.not_mem_nil⟩) rfl ?_
      cases h
      exact xretz tn_X2_prepare rfl (by decide) dX2_prepare_17
