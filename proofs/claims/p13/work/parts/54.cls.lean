set_option maxRecDepth 100000 in
set_option maxHeartbeats 4000000 in
theorem q_open_bad (n : Nat) (f0 f1 f2 f3 f4 f5 f6 f7 f8 f9 f10 f11 f12 : Nat → Int32) (rest : mx_W) (hn : n ≤ 60) (h8 : 8 ≤ n) (k : Int32) (hk : k < 0 ∨ nI 9 < k) : X 81 (0, [(0, .ref 0), (1, .int k)], [], wD n (nI 1) (nI 2) (nI 0) (nI 0) (nI 0) (-nI 1) (nI 0) (nI 0) (nI 0) (nI 0) (nI 0) f0 f1 f2 f3 f4 f5 f6 f7 f8 f9 f10 f11 f12 rest, 0, 0) (some (.int (-nI 2)), wD n (nI 1) (nI 2) (nI 0) (nI 0) (nI 0) (-nI 1) (nI 0) (nI 0) (nI 0) (nI 0) (nI 0) f0 f1 f2 f3 f4 f5 f6 f7 f8 f9 f10 f11 f12 rest, 0, 0) := by
  refine xs tn_X5_open [(0, .iload_n 1, 1)] (st' := (1, [(0, .ref 0), (1, .int k)], [.int k], wD n (nI 1) (nI 2) (nI 0) (nI 0) (nI 0) (-nI 1) (nI 0) (nI 0) (nI 0) (nI 0) (nI 0) f0 f1 f2 f3 f4 f5 f6 f7 f8 f9 f10 f11 f12 rest, 0, 0)) (List.forall_mem_cons.mpr ⟨dX5_open_0, fun _ h => absurd h List.not_mem_nil⟩) rfl ?_
  refine xif (t := 10) tn_X5_open dX5_open_1 (by decide) (fun c1 => ?_) (fun c1 => ?_)
  · have c1 := xc_t c1
    dsimp only at c1
    refine xs tn_X5_open [(10, .bipush (-2), 2)] (st' := (12, [(0, .ref 0), (1, .int k)], [.int (-nI 2)], wD n (nI 1) (nI 2) (nI 0) (nI 0) (nI 0) (-nI 1) (nI 0) (nI 0) (nI 0) (nI 0) (nI 0) f0 f1 f2 f3 f4 f5 f6 f7 f8 f9 f10 f11 f12 rest, 0, 0)) (List.forall_mem_cons.mpr ⟨dX5_open_10, fun _ h => absurd h List.not_mem_nil⟩) rfl ?_
    exact xretE tn_X5_open rfl dX5_open_12 (rfl) (rfl)
  · have c1 := xc_f c1
    dsimp only at c1
    refine xs tn_X5_open [(4, .iload_n 1, 1), (5, .bipush 9, 2)] (st' := (7, [(0, .ref 0), (1, .int k)], [.int (nI 9), .int k], wD n (nI 1) (nI 2) (nI 0) (nI 0) (nI 0) (-nI 1) (nI 0) (nI 0) (nI 0) (nI 0) (nI 0) f0 f1 f2 f3 f4 f5 f6 f7 f8 f9 f10 f11 f12 rest, 0, 0)) (List.forall_mem_cons.mpr ⟨dX5_open_4, List.forall_mem_cons.mpr ⟨dX5_open_5, fun _ h => absurd h List.not_mem_nil⟩⟩) rfl ?_
    refine xcmp (t := 13) tn_X5_open dX5_open_7 (by decide) (fun c2 => ?_) (fun c2 => ?_)
    · exact absurd (xc_t c2) (Int32.not_le.mpr (hk.resolve_left (by assumption)))
    refine xs tn_X5_open [(10, .bipush (-2), 2)] (st' := (12, [(0, .ref 0), (1, .int k)], [.int (-nI 2)], wD n (nI 1) (nI 2) (nI 0) (nI 0) (nI 0) (-nI 1) (nI 0) (nI 0) (nI 0) (nI 0) (nI 0) f0 f1 f2 f3 f4 f5 f6 f7 f8 f9 f10 f11 f12 rest, 0, 0)) (List.forall_mem_cons.mpr ⟨dX5_open_10, fun _ h => absurd h List.not_mem_nil⟩) rfl ?_
    exact xretE tn_X5_open rfl dX5_open_12 (rfl) (rfl)
set_option maxRecDepth 100000 in
set_option maxHeartbeats 4000000 in
theorem q_open_ok (n : Nat) (f0 f1 f2 f3 f4 f5 f6 f7 f8 f9 f10 f11 f12 : Nat → Int32) (rest : mx_W) (hn : n ≤ 60) (h8 : 8 ≤ n) (q : Nat) (hq : q ≤ 9) : X 81 (0, [(0, .ref 0), (1, .int (nI q))], [], wD n (nI 1) (nI 2) (nI 0) (nI 0) (nI 0) (-nI 1) (nI 0) (nI 0) (nI 0) (nI 0) (nI 0) f0 f1 f2 f3 f4 f5 f6 f7 f8 f9 f10 f11 f12 rest, 0, 0) (some (.int (nI 0)), wD n (nI 1) (nI 2) (nI 0) (nI 0) (nI q) (nI 0) (nI 0) (nI 0) (nI 0) (nI 0) (nI 0) f0 f1 f2 f3 f4 f5 f6 f7 f8 f9 f10 (fl f11 96 (nI 0)) f12 rest, 0, 0) := by
  refine xs tn_X5_open [(0, .iload_n 1, 1)] (st' := (1, [(0, .ref 0), (1, .int (nI q))], [.int (nI q)], wD n (nI 1) (nI 2) (nI 0) (nI 0) (nI 0) (-nI 1) (nI 0) (nI 0) (nI 0) (nI 0) (nI 0) f0 f1 f2 f3 f4 f5 f6 f7 f8 f9 f10 f11 f12 rest, 0, 0)) (List.forall_mem_cons.mpr ⟨dX5_open_0, fun _ h => absurd h List.not_mem_nil⟩) rfl ?_
  refine xif (t := 10) tn_X5_open dX5_open_1 (by decide) (fun c1 => ?_) (fun c1 => ?_)
  · exact absurd (xc_t c1) (nnlt (b := 0) (by omega) (by omega) (by omega))
  refine xs tn_X5_open [(4, .iload_n 1, 1), (5, .bipush 9, 2)] (st' := (7, [(0, .ref 0), (1, .int (nI q))], [.int (nI 9), .int (nI q)], wD n (nI 1) (nI 2) (nI 0) (nI 0) (nI 0) (-nI 1) (nI 0) (nI 0) (nI 0) (nI 0) (nI 0) f0 f1 f2 f3 f4 f5 f6 f7 f8 f9 f10 f11 f12 rest, 0, 0)) (List.forall_mem_cons.mpr ⟨dX5_open_4, List.forall_mem_cons.mpr ⟨dX5_open_5, fun _ h => absurd h List.not_mem_nil⟩⟩) rfl ?_
  refine xcmp (t := 13) tn_X5_open dX5_open_7 (by decide) (fun c2 => ?_) (fun c2 => ?_)
  rotate_left
  · exact absurd (nle (by omega) (by omega) (by omega)) (xc_f c2)
  refine xs tn_X5_open [(13, .aload_n 0, 1), (14, .getfield 46, 3)] (st' := (17, [(0, .ref 0), (1, .int (nI q))], [.int (nI 1)], wD n (nI 1) (nI 2) (nI 0) (nI 0) (nI 0) (-nI 1) (nI 0) (nI 0) (nI 0) (nI 0) (nI 0) f0 f1 f2 f3 f4 f5 f6 f7 f8 f9 f10 f11 f12 rest, 0, 0)) (List.forall_mem_cons.mpr ⟨dX5_open_13, List.forall_mem_cons.mpr ⟨dX5_open_14, fun _ h => absurd h List.not_mem_nil⟩⟩) rfl ?_
  refine xif (t := 27) tn_X5_open dX5_open_17 (by decide) (fun c3 => ?_) (fun c3 => ?_)
  · exact absurd (xc_t c3) (nne (b := 0) (by omega) (by omega) (by omega))
  refine xs tn_X5_open [(20, .aload_n 0, 1)] (st' := (21, [(0, .ref 0), (1, .int (nI q))], [.ref 0], wD n (nI 1) (nI 2) (nI 0) (nI 0) (nI 0) (-nI 1) (nI 0) (nI 0) (nI 0) (nI 0) (nI 0) f0 f1 f2 f3 f4 f5 f6 f7 f8 f9 f10 f11 f12 rest, 0, 0)) (List.forall_mem_cons.mpr ⟨dX5_open_20, fun _ h => absurd h List.not_mem_nil⟩) rfl ?_
  refine xcall tn_X5_open dX5_open_21 rfl rfl (r_isOpen0 _ _ _ _ _ _ _ _ _ _ _ _ _ _ _ _ _ _ _ _ _ _ _ _ _ _ hn rfl) ?_
  show X 81 (24, [(0, .ref 0), (1, .int (nI q))], [.int (nI 0)], wD n (nI 1) (nI 2) (nI 0) (nI 0) (nI 0) (-nI 1) (nI 0) (nI 0) (nI 0) (nI 0) (nI 0) f0 f1 f2 f3 f4 f5 f6 f7 f8 f9 f10 f11 f12 rest, 0, 0) _
  refine xif (t := 30) tn_X5_open dX5_open_24 (by decide) (fun c4 => ?_) (fun c4 => ?_)
  rotate_left
  · exact absurd (neq0 (by omega)) (xc_f c4)
  refine xs tn_X5_open [(30, .aload_n 0, 1)] (st' := (31, [(0, .ref 0), (1, .int (nI q))], [.ref 0], wD n (nI 1) (nI 2) (nI 0) (nI 0) (nI 0) (-nI 1) (nI 0) (nI 0) (nI 0) (nI 0) (nI 0) f0 f1 f2 f3 f4 f5 f6 f7 f8 f9 f10 f11 f12 rest, 0, 0)) (List.forall_mem_cons.mpr ⟨dX5_open_30, fun _ h => absurd h List.not_mem_nil⟩) rfl ?_
  refine xcall tn_X5_open dX5_open_31 rfl rfl (r_left _ _ _ _ _ _ _ _ _ _ _ _ _ _ _ _ _ _ _ _ _ _ _ _ _ _ hn) ?_
  show X 81 (34, [(0, .ref 0), (1, .int (nI q))], [.int (nI n - nI 2)], wD n (nI 1) (nI 2) (nI 0) (nI 0) (nI 0) (-nI 1) (nI 0) (nI 0) (nI 0) (nI 0) (nI 0) f0 f1 f2 f3 f4 f5 f6 f7 f8 f9 f10 f11 f12 rest, 0, 0) _
  refine xs tn_X5_open [(34, .iconst 5, 1)] (st' := (35, [(0, .ref 0), (1, .int (nI q))], [.int (nI 5), .int (nI n - nI 2)], wD n (nI 1) (nI 2) (nI 0) (nI 0) (nI 0) (-nI 1) (nI 0) (nI 0) (nI 0) (nI 0) (nI 0) f0 f1 f2 f3 f4 f5 f6 f7 f8 f9 f10 f11 f12 rest, 0, 0)) (List.forall_mem_cons.mpr ⟨dX5_open_34, fun _ h => absurd h List.not_mem_nil⟩) rfl ?_
  refine xcmp (t := 47) tn_X5_open dX5_open_35 (by decide) (fun c5 => ?_) (fun c5 => ?_)
  · exact absurd (xc_t c5) (show ¬ nI n - nI 2 < nI 5 from by rw [pk_sub (by omega)]; exact nnlt (by omega) (by omega) (by omega))
  refine xs tn_X5_open [(38, .aload_n 0, 1), (39, .getfield 65, 3), (42, .bipush 60, 2)] (st' := (44, [(0, .ref 0), (1, .int (nI q))], [.int (nI 60), .int (nI 0)], wD n (nI 1) (nI 2) (nI 0) (nI 0) (nI 0) (-nI 1) (nI 0) (nI 0) (nI 0) (nI 0) (nI 0) f0 f1 f2 f3 f4 f5 f6 f7 f8 f9 f10 f11 f12 rest, 0, 0)) (List.forall_mem_cons.mpr ⟨dX5_open_38, List.forall_mem_cons.mpr ⟨dX5_open_39, List.forall_mem_cons.mpr ⟨dX5_open_42, fun _ h => absurd h List.not_mem_nil⟩⟩⟩) rfl ?_
  refine xcmp (t := 50) tn_X5_open dX5_open_44 (by decide) (fun c6 => ?_) (fun c6 => ?_)
  rotate_left
  · exact absurd (nlt (by omega) (by omega) (by omega)) (xc_f c6)
  refine xs tn_X5_open [(50, .aload_n 0, 1), (51, .getfield 39, 3), (54, .iconst 0, 1)] (st' := (55, [(0, .ref 0), (1, .int (nI q))], [.int (nI 0), .ref 16], wD n (nI 1) (nI 2) (nI 0) (nI 0) (nI 0) (-nI 1) (nI 0) (nI 0) (nI 0) (nI 0) (nI 0) f0 f1 f2 f3 f4 f5 f6 f7 f8 f9 f10 f11 f12 rest, 0, 0)) (List.forall_mem_cons.mpr ⟨dX5_open_50, List.forall_mem_cons.mpr ⟨dX5_open_51, List.forall_mem_cons.mpr ⟨dX5_open_54, fun _ h => absurd h List.not_mem_nil⟩⟩⟩) rfl ?_
  refine xcall tn_X5_open dX5_open_55 rfl rfl (r_fill11 _ _ _ _ _ _ _ _ _ _ _ _ _ _ _ _ _ _ _ _ _ _ _ _ _ _ hn (nI 0)) ?_
  show X 81 (58, [(0, .ref 0), (1, .int (nI q))], [], wD n (nI 1) (nI 2) (nI 0) (nI 0) (nI 0) (-nI 1) (nI 0) (nI 0) (nI 0) (nI 0) (nI 0) f0 f1 f2 f3 f4 f5 f6 f7 f8 f9 f10 (fl f11 96 (nI 0)) f12 rest, 0, 0) _
  refine xs tn_X5_open [(58, .aload_n 0, 1), (59, .iload_n 1, 1), (60, .putfield 74, 3), (63, .aload_n 0, 1), (64, .iconst 0, 1), (65, .putfield 54, 3), (68, .aload_n 0, 1), (69, .getfield 65, 3)] (st' := (72, [(0, .ref 0), (1, .int (nI q))], [.int (nI 0)], wD n (nI 1) (nI 2) (nI 0) (nI 0) (nI q) (nI 0) (nI 0) (nI 0) (nI 0) (nI 0) (nI 0) f0 f1 f2 f3 f4 f5 f6 f7 f8 f9 f10 (fl f11 96 (nI 0)) f12 rest, 0, 0)) (List.forall_mem_cons.mpr ⟨dX5_open_58, List.forall_mem_cons.mpr ⟨dX5_open_59, List.forall_mem_cons.mpr ⟨dX5_open_60, List.forall_mem_cons.mpr ⟨dX5_open_63, List.forall_mem_cons.mpr ⟨dX5_open_64, List.forall_mem_cons.mpr ⟨dX5_open_65, List.forall_mem_cons.mpr ⟨dX5_open_68, List.forall_mem_cons.mpr ⟨dX5_open_69, fun _ h => absurd h List.not_mem_nil⟩⟩⟩⟩⟩⟩⟩⟩) rfl ?_
  exact xretE tn_X5_open rfl dX5_open_72 (rfl) (rfl)
set_option maxRecDepth 100000 in
set_option maxHeartbeats 4000000 in
theorem q_add_bad (n : Nat) (f0 f1 f2 f3 f4 f5 f6 f7 f8 f9 f10 f11 f12 : Nat → Int32) (rest : mx_W) (hn : n ≤ 60) (h8 : 8 ≤ n) (x : Int64) (k : Int32) (hk : k < nI 1 ∨ nI 8 < k) : X 51 (0, [(0, .ref 0), (1, .long x), (3, .int k)], [], wD n (nI 1) (nI 2) (nI 0) (nI 0) (nI 0) (-nI 1) (nI 0) (nI 0) (nI 0) (nI 0) (nI 0) f0 f1 f2 f3 f4 f5 f6 f7 f8 f9 f10 f11 f12 rest, 0, 0) (some (.int (-nI 2)), wD n (nI 1) (nI 2) (nI 0) (nI 0) (nI 0) (-nI 1) (nI 0) (nI 0) (nI 0) (nI 0) (nI 0) f0 f1 f2 f3 f4 f5 f6 f7 f8 f9 f10 f11 f12 rest, 0, 0) := by
  refine xs tn_X5_add [(0, .iload_n 3, 1), (1, .iconst 1, 1)] (st' := (2, [(0, .ref 0), (1, .long x), (3, .int k)], [.int (nI 1), .int k], wD n (nI 1) (nI 2) (nI 0) (nI 0) (nI 0) (-nI 1) (nI 0) (nI 0) (nI 0) (nI 0) (nI 0) f0 f1 f2 f3 f4 f5 f6 f7 f8 f9 f10 f11 f12 rest, 0, 0)) (List.forall_mem_cons.mpr ⟨dX5_add_0, List.forall_mem_cons.mpr ⟨dX5_add_1, fun _ h => absurd h List.not_mem_nil⟩⟩) rfl ?_
  refine xcmp (t := 11) tn_X5_add dX5_add_2 (by decide) (fun c1 => ?_) (fun c1 => ?_)
  · have c1 := xc_t c1
    dsimp only at c1
    refine xs tn_X5_add [(11, .bipush (-2), 2)] (st' := (13, [(0, .ref 0), (1, .long x), (3, .int k)], [.int (-nI 2)], wD n (nI 1) (nI 2) (nI 0) (nI 0) (nI 0) (-nI 1) (nI 0) (nI 0) (nI 0) (nI 0) (nI 0) f0 f1 f2 f3 f4 f5 f6 f7 f8 f9 f10 f11 f12 rest, 0, 0)) (List.forall_mem_cons.mpr ⟨dX5_add_11, fun _ h => absurd h List.not_mem_nil⟩) rfl ?_
    exact xretE tn_X5_add rfl dX5_add_13 (rfl) (rfl)
  · have c1 := xc_f c1
    dsimp only at c1
    refine xs tn_X5_add [(5, .iload_n 3, 1), (6, .bipush 8, 2)] (st' := (8, [(0, .ref 0), (1, .long x), (3, .int k)], [.int (nI 8), .int k], wD n (nI 1) (nI 2) (nI 0) (nI 0) (nI 0) (-nI 1) (nI 0) (nI 0) (nI 0) (nI 0) (nI 0) f0 f1 f2 f3 f4 f5 f6 f7 f8 f9 f10 f11 f12 rest, 0, 0)) (List.forall_mem_cons.mpr ⟨dX5_add_5, List.forall_mem_cons.mpr ⟨dX5_add_6, fun _ h => absurd h List.not_mem_nil⟩⟩) rfl ?_
    refine xcmp (t := 14) tn_X5_add dX5_add_8 (by decide) (fun c2 => ?_) (fun c2 => ?_)
    · exact absurd (xc_t c2) (Int32.not_le.mpr (hk.resolve_left (by assumption)))
    refine xs tn_X5_add [(11, .bipush (-2), 2)] (st' := (13, [(0, .ref 0), (1, .long x), (3, .int k)], [.int (-nI 2)], wD n (nI 1) (nI 2) (nI 0) (nI 0) (nI 0) (-nI 1) (nI 0) (nI 0) (nI 0) (nI 0) (nI 0) f0 f1 f2 f3 f4 f5 f6 f7 f8 f9 f10 f11 f12 rest, 0, 0)) (List.forall_mem_cons.mpr ⟨dX5_add_11, fun _ h => absurd h List.not_mem_nil⟩) rfl ?_
    exact xretE tn_X5_add rfl dX5_add_13 (rfl) (rfl)
set_option maxRecDepth 100000 in
set_option maxHeartbeats 4000000 in
theorem q_add_no (n : Nat) (f0 f1 f2 f3 f4 f5 f6 f7 f8 f9 f10 f11 f12 : Nat → Int32) (rest : mx_W) (hn : n ≤ 60) (h8 : 8 ≤ n) (x : Int64) (q : Nat) (h1 : 1 ≤ q) (h2 : q ≤ 8) : X 51 (0, [(0, .ref 0), (1, .long x), (3, .int (nI q))], [], wD n (nI 1) (nI 2) (nI 0) (nI 0) (nI 0) (-nI 1) (nI 0) (nI 0) (nI 0) (nI 0) (nI 0) f0 f1 f2 f3 f4 f5 f6 f7 f8 f9 f10 f11 f12 rest, 0, 0) (some (.int (-nI 3)), wD n (nI 1) (nI 2) (nI 0) (nI 0) (nI 0) (-nI 1) (nI 0) (nI 0) (nI 0) (nI 0) (nI 0) f0 f1 f2 f3 f4 f5 f6 f7 f8 f9 f10 f11 f12 rest, 0, 0) := by
  refine xs tn_X5_add [(0, .iload_n 3, 1), (1, .iconst 1, 1)] (st' := (2, [(0, .ref 0), (1, .long x), (3, .int (nI q))], [.int (nI 1), .int (nI q)], wD n (nI 1) (nI 2) (nI 0) (nI 0) (nI 0) (-nI 1) (nI 0) (nI 0) (nI 0) (nI 0) (nI 0) f0 f1 f2 f3 f4 f5 f6 f7 f8 f9 f10 f11 f12 rest, 0, 0)) (List.forall_mem_cons.mpr ⟨dX5_add_0, List.forall_mem_cons.mpr ⟨dX5_add_1, fun _ h => absurd h List.not_mem_nil⟩⟩) rfl ?_
  refine xcmp (t := 11) tn_X5_add dX5_add_2 (by decide) (fun c1 => ?_) (fun c1 => ?_)
  · exact absurd (xc_t c1) (nnlt (by omega) (by omega) (by omega))
  refine xs tn_X5_add [(5, .iload_n 3, 1), (6, .bipush 8, 2)] (st' := (8, [(0, .ref 0), (1, .long x), (3, .int (nI q))], [.int (nI 8), .int (nI q)], wD n (nI 1) (nI 2) (nI 0) (nI 0) (nI 0) (-nI 1) (nI 0) (nI 0) (nI 0) (nI 0) (nI 0) f0 f1 f2 f3 f4 f5 f6 f7 f8 f9 f10 f11 f12 rest, 0, 0)) (List.forall_mem_cons.mpr ⟨dX5_add_5, List.forall_mem_cons.mpr ⟨dX5_add_6, fun _ h => absurd h List.not_mem_nil⟩⟩) rfl ?_
  refine xcmp (t := 14) tn_X5_add dX5_add_8 (by decide) (fun c2 => ?_) (fun c2 => ?_)
  rotate_left
  · exact absurd (nle (by omega) (by omega) (by omega)) (xc_f c2)
  refine xs tn_X5_add [(14, .aload_n 0, 1), (15, .getfield 46, 3)] (st' := (18, [(0, .ref 0), (1, .long x), (3, .int (nI q))], [.int (nI 1)], wD n (nI 1) (nI 2) (nI 0) (nI 0) (nI 0) (-nI 1) (nI 0) (nI 0) (nI 0) (nI 0) (nI 0) f0 f1 f2 f3 f4 f5 f6 f7 f8 f9 f10 f11 f12 rest, 0, 0)) (List.forall_mem_cons.mpr ⟨dX5_add_14, List.forall_mem_cons.mpr ⟨dX5_add_15, fun _ h => absurd h List.not_mem_nil⟩⟩) rfl ?_
  refine xif (t := 28) tn_X5_add dX5_add_18 (by decide) (fun c3 => ?_) (fun c3 => ?_)
  · exact absurd (xc_t c3) (nne (b := 0) (by omega) (by omega) (by omega))
  refine xs tn_X5_add [(21, .aload_n 0, 1)] (st' := (22, [(0, .ref 0), (1, .long x), (3, .int (nI q))], [.ref 0], wD n (nI 1) (nI 2) (nI 0) (nI 0) (nI 0) (-nI 1) (nI 0) (nI 0) (nI 0) (nI 0) (nI 0) f0 f1 f2 f3 f4 f5 f6 f7 f8 f9 f10 f11 f12 rest, 0, 0)) (List.forall_mem_cons.mpr ⟨dX5_add_21, fun _ h => absurd h List.not_mem_nil⟩) rfl ?_
  refine xcall tn_X5_add dX5_add_22 rfl rfl (r_isOpen0 _ _ _ _ _ _ _ _ _ _ _ _ _ _ _ _ _ _ _ _ _ _ _ _ _ _ hn rfl) ?_
  show X 51 (25, [(0, .ref 0), (1, .long x), (3, .int (nI q))], [.int (nI 0)], wD n (nI 1) (nI 2) (nI 0) (nI 0) (nI 0) (-nI 1) (nI 0) (nI 0) (nI 0) (nI 0) (nI 0) f0 f1 f2 f3 f4 f5 f6 f7 f8 f9 f10 f11 f12 rest, 0, 0) _
  refine xif (t := 31) tn_X5_add dX5_add_25 (by decide) (fun c4 => ?_) (fun c4 => ?_)
  · exact absurd (xc_t c4) (fun z => z (neq0 (by omega)))
  refine xs tn_X5_add [(28, .bipush (-3), 2)] (st' := (30, [(0, .ref 0), (1, .long x), (3, .int (nI q))], [.int (-nI 3)], wD n (nI 1) (nI 2) (nI 0) (nI 0) (nI 0) (-nI 1) (nI 0) (nI 0) (nI 0) (nI 0) (nI 0) f0 f1 f2 f3 f4 f5 f6 f7 f8 f9 f10 f11 f12 rest, 0, 0)) (List.forall_mem_cons.mpr ⟨dX5_add_28, fun _ h => absurd h List.not_mem_nil⟩) rfl ?_
  exact xretE tn_X5_add rfl dX5_add_30 (rfl) (rfl)
set_option maxRecDepth 100000 in
set_option maxHeartbeats 4000000 in
theorem q_end (n : Nat) (f0 f1 f2 f3 f4 f5 f6 f7 f8 f9 f10 f11 f12 : Nat → Int32) (rest : mx_W) (hn : n ≤ 60) (h8 : 8 ≤ n)  : X 129 (0, [(0, .ref 0)], [], wD n (nI 1) (nI 2) (nI 0) (nI 0) (nI 0) (-nI 1) (nI 0) (nI 0) (nI 0) (nI 0) (nI 0) f0 f1 f2 f3 f4 f5 f6 f7 f8 f9 f10 f11 f12 rest, 0, 0) (some (.int (-nI 3)), wD n (nI 1) (nI 2) (nI 0) (nI 0) (nI 0) (-nI 1) (nI 0) (nI 0) (nI 0) (nI 0) (nI 0) f0 f1 f2 f3 f4 f5 f6 f7 f8 f9 f10 f11 f12 rest, 0, 0) := by
  refine xs tn_X5_end [(0, .aload_n 0, 1), (1, .getfield 46, 3)] (st' := (4, [(0, .ref 0)], [.int (nI 1)], wD n (nI 1) (nI 2) (nI 0) (nI 0) (nI 0) (-nI 1) (nI 0) (nI 0) (nI 0) (nI 0) (nI 0) f0 f1 f2 f3 f4 f5 f6 f7 f8 f9 f10 f11 f12 rest, 0, 0)) (List.forall_mem_cons.mpr ⟨dX5_end_0, List.forall_mem_cons.mpr ⟨dX5_end_1, fun _ h => absurd h List.not_mem_nil⟩⟩) rfl ?_
  refine xif (t := 14) tn_X5_end dX5_end_4 (by decide) (fun c1 => ?_) (fun c1 => ?_)
  · exact absurd (xc_t c1) (nne (b := 0) (by omega) (by omega) (by omega))
  refine xs tn_X5_end [(7, .aload_n 0, 1)] (st' := (8, [(0, .ref 0)], [.ref 0], wD n (nI 1) (nI 2) (nI 0) (nI 0) (nI 0) (-nI 1) (nI 0) (nI 0) (nI 0) (nI 0) (nI 0) f0 f1 f2 f3 f4 f5 f6 f7 f8 f9 f10 f11 f12 rest, 0, 0)) (List.forall_mem_cons.mpr ⟨dX5_end_7, fun _ h => absurd h List.not_mem_nil⟩) rfl ?_
  refine xcall tn_X5_end dX5_end_8 rfl rfl (r_isOpen0 _ _ _ _ _ _ _ _ _ _ _ _ _ _ _ _ _ _ _ _ _ _ _ _ _ _ hn rfl) ?_
  show X 129 (11, [(0, .ref 0)], [.int (nI 0)], wD n (nI 1) (nI 2) (nI 0) (nI 0) (nI 0) (-nI 1) (nI 0) (nI 0) (nI 0) (nI 0) (nI 0) f0 f1 f2 f3 f4 f5 f6 f7 f8 f9 f10 f11 f12 rest, 0, 0) _
  refine xif (t := 17) tn_X5_end dX5_end_11 (by decide) (fun c2 => ?_) (fun c2 => ?_)
  · exact absurd (xc_t c2) (fun z => z (neq0 (by omega)))
  refine xs tn_X5_end [(14, .bipush (-3), 2)] (st' := (16, [(0, .ref 0)], [.int (-nI 3)], wD n (nI 1) (nI 2) (nI 0) (nI 0) (nI 0) (-nI 1) (nI 0) (nI 0) (nI 0) (nI 0) (nI 0) f0 f1 f2 f3 f4 f5 f6 f7 f8 f9 f10 f11 f12 rest, 0, 0)) (List.forall_mem_cons.mpr ⟨dX5_end_14, fun _ h => absurd h List.not_mem_nil⟩) rfl ?_
  exact xretE tn_X5_end rfl dX5_end_16 (rfl) (rfl)
set_option maxRecDepth 100000 in
set_option maxHeartbeats 4000000 in
theorem q_protect (n : Nat) (f0 f1 f2 f3 f4 f5 f6 f7 f8 f9 f10 f11 f12 : Nat → Int32) (rest : mx_W) (hn : n ≤ 60) (h8 : 8 ≤ n) (r k : Int32) : X 131 (0, [(0, .ref 0), (1, .int r), (2, .int k)], [], wD n (nI 1) (nI 2) (nI 0) (nI 0) (nI 0) (-nI 1) (nI 0) (nI 0) (nI 0) (nI 0) (nI 0) f0 f1 f2 f3 f4 f5 f6 f7 f8 f9 f10 f11 f12 rest, 0, 0) (some (.int (-nI 2)), wD n (nI 1) (nI 2) (nI 0) (nI 0) (nI 0) (-nI 1) (nI 0) (nI 0) (nI 0) (nI 0) (nI 0) f0 f1 f2 f3 f4 f5 f6 f7 f8 f9 f10 f11 f12 rest, 0, 0) := by
  refine xs tn_X5_protect [(0, .aload_n 0, 1), (1, .iload_n 1, 1)] (st' := (2, [(0, .ref 0), (1, .int r), (2, .int k)], [.int r, .ref 0], wD n (nI 1) (nI 2) (nI 0) (nI 0) (nI 0) (-nI 1) (nI 0) (nI 0) (nI 0) (nI 0) (nI 0) f0 f1 f2 f3 f4 f5 f6 f7 f8 f9 f10 f11 f12 rest, 0, 0)) (List.forall_mem_cons.mpr ⟨dX5_protect_0, List.forall_mem_cons.mpr ⟨dX5_protect_1, fun _ h => absurd h List.not_mem_nil⟩⟩) rfl ?_
  refine xcall tn_X5_protect dX5_protect_2 rfl rfl (r_isRow0 _ _ _ _ _ _ _ _ _ _ _ _ _ _ _ _ _ _ _ _ _ _ _ _ _ _ hn r rfl) ?_
  show X 131 (5, [(0, .ref 0), (1, .int r), (2, .int k)], [.int (nI 0)], wD n (nI 1) (nI 2) (nI 0) (nI 0) (nI 0) (-nI 1) (nI 0) (nI 0) (nI 0) (nI 0) (nI 0) f0 f1 f2 f3 f4 f5 f6 f7 f8 f9 f10 f11 f12 rest, 0, 0) _
  refine xif (t := 18) tn_X5_protect dX5_protect_5 (by decide) (fun c1 => ?_) (fun c1 => ?_)
  rotate_left
  · exact absurd (neq0 (by omega)) (xc_f c1)
  refine xs tn_X5_protect [(18, .bipush (-2), 2)] (st' := (20, [(0, .ref 0), (1, .int r), (2, .int k)], [.int (-nI 2)], wD n (nI 1) (nI 2) (nI 0) (nI 0) (nI 0) (-nI 1) (nI 0) (nI 0) (nI 0) (nI 0) (nI 0) f0 f1 f2 f3 f4 f5 f6 f7 f8 f9 f10 f11 f12 rest, 0, 0)) (List.forall_mem_cons.mpr ⟨dX5_protect_18, fun _ h => absurd h List.not_mem_nil⟩) rfl ?_
  exact xretE tn_X5_protect rfl dX5_protect_20 (rfl) (rfl)
set_option maxRecDepth 100000 in
set_option maxHeartbeats 4000000 in
theorem q_sync (n : Nat) (f0 f1 f2 f3 f4 f5 f6 f7 f8 f9 f10 f11 f12 : Nat → Int32) (rest : mx_W) (hn : n ≤ 60) (h8 : 8 ≤ n)  : X 104 (0, [(0, .ref 0)], [], wD n (nI 1) (nI 2) (nI 0) (nI 0) (nI 0) (-nI 1) (nI 0) (nI 0) (nI 0) (nI 0) (nI 0) f0 f1 f2 f3 f4 f5 f6 f7 f8 f9 f10 f11 f12 rest, 0, 0) (some (.int (nI 1)), wD n (nI 1) (nI 2) (nI 0) (nI 1) (nI 0) (-nI 1) (nI 0) (nI 0) (nI 0) (nI 0) (nI 0) (stc f0 (dHead f6 (nI 1) (nI 2) (nI 0)) (32 * 1) 32) (upd f1 1 (nI 0)) (upd f2 1 (jd (stc f0 (dHead f6 (nI 1) (nI 2) (nI 0)) (32 * 1) 32) (upd f1 1 (nI 0)) 1)) f3 f4 f5 (dHead f6 (nI 1) (nI 2) (nI 0)) f7 f8 f9 f10 f11 f12 rest, 0, 0) := by
  refine xs tn_X5_sync [(0, .aload_n 0, 1), (1, .getfield 46, 3)] (st' := (4, [(0, .ref 0)], [.int (nI 1)], wD n (nI 1) (nI 2) (nI 0) (nI 0) (nI 0) (-nI 1) (nI 0) (nI 0) (nI 0) (nI 0) (nI 0) f0 f1 f2 f3 f4 f5 f6 f7 f8 f9 f10 f11 f12 rest, 0, 0)) (List.forall_mem_cons.mpr ⟨dX5_sync_0, List.forall_mem_cons.mpr ⟨dX5_sync_1, fun _ h => absurd h List.not_mem_nil⟩⟩) rfl ?_
  refine xif (t := 10) tn_X5_sync dX5_sync_4 (by decide) (fun c1 => ?_) (fun c1 => ?_)
  rotate_left
  · exact absurd (xc_f c1) (nne (b := 0) (by omega) (by omega) (by omega))
  refine xs tn_X5_sync [(10, .aload_n 0, 1), (11, .dup, 1), (12, .getfield 109, 3), (15, .iconst 1, 1), (16, .iadd, 1)] (st' := (17, [(0, .ref 0)], [.int ((nI 0) + (nI 1)), .ref 0], wD n (nI 1) (nI 2) (nI 0) (nI 0) (nI 0) (-nI 1) (nI 0) (nI 0) (nI 0) (nI 0) (nI 0) f0 f1 f2 f3 f4 f5 f6 f7 f8 f9 f10 f11 f12 rest, 0, 0)) (List.forall_mem_cons.mpr ⟨dX5_sync_10, List.forall_mem_cons.mpr ⟨dX5_sync_11, List.forall_mem_cons.mpr ⟨dX5_sync_12, List.forall_mem_cons.mpr ⟨dX5_sync_15, List.forall_mem_cons.mpr ⟨dX5_sync_16, fun _ h => absurd h List.not_mem_nil⟩⟩⟩⟩⟩) rfl ?_
  rw [show (nI 0) + (nI 1) = nI 1 from (nI_add _ _).trans (congrArg nI (by omega))]
  refine xs tn_X5_sync [(17, .putfield 109, 3), (20, .aload_n 0, 1), (21, .aload_n 0, 1), (22, .getfield 109, 3)] (st' := (25, [(0, .ref 0)], [.int (nI 1), .ref 0], wD n (nI 1) (nI 2) (nI 0) (nI 1) (nI 0) (-nI 1) (nI 0) (nI 0) (nI 0) (nI 0) (nI 0) f0 f1 f2 f3 f4 f5 f6 f7 f8 f9 f10 f11 f12 rest, 0, 0)) (List.forall_mem_cons.mpr ⟨dX5_sync_17, List.forall_mem_cons.mpr ⟨dX5_sync_20, List.forall_mem_cons.mpr ⟨dX5_sync_21, List.forall_mem_cons.mpr ⟨dX5_sync_22, fun _ h => absurd h List.not_mem_nil⟩⟩⟩⟩) rfl ?_
  refine xcall tn_X5_sync dX5_sync_25 rfl rfl (r_draftHead _ _ _ _ _ _ _ _ _ _ _ _ _ _ _ _ _ _ _ _ _ _ _ _ _ _ hn (nI 1)) ?_
  show X 104 (28, [(0, .ref 0)], [], wD n (nI 1) (nI 2) (nI 0) (nI 1) (nI 0) (-nI 1) (nI 0) (nI 0) (nI 0) (nI 0) (nI 0) f0 f1 f2 f3 f4 f5 (dHead f6 (nI 1) (nI 2) (nI 0)) f7 f8 f9 f10 f11 f12 rest, 0, 0) _
  refine xs tn_X5_sync [(28, .aload_n 0, 1), (29, .getfield 12, 3), (32, .aload_n 0, 1), (33, .getfield 109, 3)] (st' := (36, [(0, .ref 0)], [.int (nI 1), .ref 1], wD n (nI 1) (nI 2) (nI 0) (nI 1) (nI 0) (-nI 1) (nI 0) (nI 0) (nI 0) (nI 0) (nI 0) f0 f1 f2 f3 f4 f5 (dHead f6 (nI 1) (nI 2) (nI 0)) f7 f8 f9 f10 f11 f12 rest, 0, 0)) (List.forall_mem_cons.mpr ⟨dX5_sync_28, List.forall_mem_cons.mpr ⟨dX5_sync_29, List.forall_mem_cons.mpr ⟨dX5_sync_32, List.forall_mem_cons.mpr ⟨dX5_sync_33, fun _ h => absurd h List.not_mem_nil⟩⟩⟩⟩) rfl ?_
  refine xcall tn_X5_sync dX5_sync_36 rfl rfl (r_headSector1 _ _ _ _ _ _ _ _ _ _ _ _ _ _ _ _ _ _ _ _ _ _ _ _ _ _ hn) ?_
  show X 104 (39, [(0, .ref 0)], [.int (nI 1), .ref 1], wD n (nI 1) (nI 2) (nI 0) (nI 1) (nI 0) (-nI 1) (nI 0) (nI 0) (nI 0) (nI 0) (nI 0) f0 f1 f2 f3 f4 f5 (dHead f6 (nI 1) (nI 2) (nI 0)) f7 f8 f9 f10 f11 f12 rest, 0, 0) _
  refine xs tn_X5_sync [(39, .aload_n 0, 1), (40, .getfield 28, 3), (43, .bipush 32, 2)] (st' := (45, [(0, .ref 0)], [.int (nI 32), .ref 9, .int (nI 1), .ref 1], wD n (nI 1) (nI 2) (nI 0) (nI 1) (nI 0) (-nI 1) (nI 0) (nI 0) (nI 0) (nI 0) (nI 0) f0 f1 f2 f3 f4 f5 (dHead f6 (nI 1) (nI 2) (nI 0)) f7 f8 f9 f10 f11 f12 rest, 0, 0)) (List.forall_mem_cons.mpr ⟨dX5_sync_39, List.forall_mem_cons.mpr ⟨dX5_sync_40, List.forall_mem_cons.mpr ⟨dX5_sync_43, fun _ h => absurd h List.not_mem_nil⟩⟩⟩) rfl ?_
  refine xcall tn_X5_sync dX5_sync_45 rfl rfl (r_store _ _ _ _ _ _ _ _ _ _ _ _ _ _ _ _ _ _ _ _ _ _ _ _ _ _ hn 1 32 (by omega) (by omega)) ?_
  show X 104 (48, [(0, .ref 0)], [], wD n (nI 1) (nI 2) (nI 0) (nI 1) (nI 0) (-nI 1) (nI 0) (nI 0) (nI 0) (nI 0) (nI 0) (stc f0 (dHead f6 (nI 1) (nI 2) (nI 0)) (32 * 1) 32) (upd f1 1 (nI 0)) (upd f2 1 (jd (stc f0 (dHead f6 (nI 1) (nI 2) (nI 0)) (32 * 1) 32) (upd f1 1 (nI 0)) 1)) f3 f4 f5 (dHead f6 (nI 1) (nI 2) (nI 0)) f7 f8 f9 f10 f11 f12 rest, 0, 0) _
  refine xs tn_X5_sync [(48, .aload_n 0, 1), (49, .getfield 21, 3)] (st' := (52, [(0, .ref 0)], [.ref 5], wD n (nI 1) (nI 2) (nI 0) (nI 1) (nI 0) (-nI 1) (nI 0) (nI 0) (nI 0) (nI 0) (nI 0) (stc f0 (dHead f6 (nI 1) (nI 2) (nI 0)) (32 * 1) 32) (upd f1 1 (nI 0)) (upd f2 1 (jd (stc f0 (dHead f6 (nI 1) (nI 2) (nI 0)) (32 * 1) 32) (upd f1 1 (nI 0)) 1)) f3 f4 f5 (dHead f6 (nI 1) (nI 2) (nI 0)) f7 f8 f9 f10 f11 f12 rest, 0, 0)) (List.forall_mem_cons.mpr ⟨dX5_sync_48, List.forall_mem_cons.mpr ⟨dX5_sync_49, fun _ h => absurd h List.not_mem_nil⟩⟩) rfl ?_
  refine xcall tn_X5_sync dX5_sync_52 rfl rfl (r_jclear _ _ _ _ _ _ _ _ _ _ _ _ _ _ _ _ _ _ _ _ _ _ _ _ _ _ hn) ?_
  show X 104 (55, [(0, .ref 0)], [], wD n (nI 1) (nI 2) (nI 0) (nI 1) (nI 0) (-nI 1) (nI 0) (nI 0) (nI 0) (nI 0) (nI 0) (stc f0 (dHead f6 (nI 1) (nI 2) (nI 0)) (32 * 1) 32) (upd f1 1 (nI 0)) (upd f2 1 (jd (stc f0 (dHead f6 (nI 1) (nI 2) (nI 0)) (32 * 1) 32) (upd f1 1 (nI 0)) 1)) f3 f4 f5 (dHead f6 (nI 1) (nI 2) (nI 0)) f7 f8 f9 f10 f11 f12 rest, 0, 0) _
  refine xs tn_X5_sync [(55, .aload_n 0, 1), (56, .getfield 109, 3)] (st' := (59, [(0, .ref 0)], [.int (nI 1)], wD n (nI 1) (nI 2) (nI 0) (nI 1) (nI 0) (-nI 1) (nI 0) (nI 0) (nI 0) (nI 0) (nI 0) (stc f0 (dHead f6 (nI 1) (nI 2) (nI 0)) (32 * 1) 32) (upd f1 1 (nI 0)) (upd f2 1 (jd (stc f0 (dHead f6 (nI 1) (nI 2) (nI 0)) (32 * 1) 32) (upd f1 1 (nI 0)) 1)) f3 f4 f5 (dHead f6 (nI 1) (nI 2) (nI 0)) f7 f8 f9 f10 f11 f12 rest, 0, 0)) (List.forall_mem_cons.mpr ⟨dX5_sync_55, List.forall_mem_cons.mpr ⟨dX5_sync_56, fun _ h => absurd h List.not_mem_nil⟩⟩) rfl ?_
  exact xretE tn_X5_sync rfl dX5_sync_59 (rfl) (rfl)
set_option maxRecDepth 100000 in
set_option maxHeartbeats 4000000 in
theorem q_tearHead (n : Nat) (f0 f1 f2 f3 f4 f5 f6 f7 f8 f9 f10 f11 f12 : Nat → Int32) (rest : mx_W) (hn : n ≤ 60) (h8 : 8 ≤ n) (t : Nat) (h1 : 1 ≤ t) (h2 : t ≤ 31) : X 105 (0, [(0, .ref 0), (1, .int (nI t))], [], wD n (nI 1) (nI 2) (nI 0) (nI 0) (nI 0) (-nI 1) (nI 0) (nI 0) (nI 0) (nI 0) (nI 0) f0 f1 f2 f3 f4 f5 f6 f7 f8 f9 f10 f11 f12 rest, 0, 0) (none, wD n (nI 1) (nI 2) (nI 0) (nI 0) (nI 0) (-nI 1) (nI 0) (nI 0) (nI 0) (nI 0) (nI 0) (stc f0 (dHead f6 (nI 1) (nI 2) (nI 0)) (32 * 1) t) (upd f1 1 (nI 0)) (upd f2 1 (jd (stc f0 (dHead f6 (nI 1) (nI 2) (nI 0)) (32 * 1) t) (upd f1 1 (nI 0)) 1)) f3 f4 f5 (dHead f6 (nI 1) (nI 2) (nI 0)) f7 f8 f9 f10 f11 f12 rest, 0, 0) := by
  refine xs tn_X5_tearHead [(0, .aload_n 0, 1), (1, .getfield 109, 3), (4, .iconst 1, 1), (5, .iadd, 1)] (st' := (6, [(0, .ref 0), (1, .int (nI t))], [.int ((nI 0) + (nI 1))], wD n (nI 1) (nI 2) (nI 0) (nI 0) (nI 0) (-nI 1) (nI 0) (nI 0) (nI 0) (nI 0) (nI 0) f0 f1 f2 f3 f4 f5 f6 f7 f8 f9 f10 f11 f12 rest, 0, 0)) (List.forall_mem_cons.mpr ⟨dX5_tearHead_0, List.forall_mem_cons.mpr ⟨dX5_tearHead_1, List.forall_mem_cons.mpr ⟨dX5_tearHead_4, List.forall_mem_cons.mpr ⟨dX5_tearHead_5, fun _ h => absurd h List.not_mem_nil⟩⟩⟩⟩) rfl ?_
  rw [show (nI 0) + (nI 1) = nI 1 from (nI_add _ _).trans (congrArg nI (by omega))]
  refine xs tn_X5_tearHead [(6, .istore_n 2, 1), (7, .aload_n 0, 1), (8, .iload_n 2, 1)] (st' := (9, [(2, .int (nI 1)), (0, .ref 0), (1, .int (nI t))], [.int (nI 1), .ref 0], wD n (nI 1) (nI 2) (nI 0) (nI 0) (nI 0) (-nI 1) (nI 0) (nI 0) (nI 0) (nI 0) (nI 0) f0 f1 f2 f3 f4 f5 f6 f7 f8 f9 f10 f11 f12 rest, 0, 0)) (List.forall_mem_cons.mpr ⟨dX5_tearHead_6, List.forall_mem_cons.mpr ⟨dX5_tearHead_7, List.forall_mem_cons.mpr ⟨dX5_tearHead_8, fun _ h => absurd h List.not_mem_nil⟩⟩⟩) rfl ?_
  refine xcall tn_X5_tearHead dX5_tearHead_9 rfl rfl (r_draftHead _ _ _ _ _ _ _ _ _ _ _ _ _ _ _ _ _ _ _ _ _ _ _ _ _ _ hn (nI 1)) ?_
  show X 105 (12, [(2, .int (nI 1)), (0, .ref 0), (1, .int (nI t))], [], wD n (nI 1) (nI 2) (nI 0) (nI 0) (nI 0) (-nI 1) (nI 0) (nI 0) (nI 0) (nI 0) (nI 0) f0 f1 f2 f3 f4 f5 (dHead f6 (nI 1) (nI 2) (nI 0)) f7 f8 f9 f10 f11 f12 rest, 0, 0) _
  refine xs tn_X5_tearHead [(12, .aload_n 0, 1), (13, .getfield 12, 3), (16, .iload_n 2, 1)] (st' := (17, [(2, .int (nI 1)), (0, .ref 0), (1, .int (nI t))], [.int (nI 1), .ref 1], wD n (nI 1) (nI 2) (nI 0) (nI 0) (nI 0) (-nI 1) (nI 0) (nI 0) (nI 0) (nI 0) (nI 0) f0 f1 f2 f3 f4 f5 (dHead f6 (nI 1) (nI 2) (nI 0)) f7 f8 f9 f10 f11 f12 rest, 0, 0)) (List.forall_mem_cons.mpr ⟨dX5_tearHead_12, List.forall_mem_cons.mpr ⟨dX5_tearHead_13, List.forall_mem_cons.mpr ⟨dX5_tearHead_16, fun _ h => absurd h List.not_mem_nil⟩⟩⟩) rfl ?_
  refine xcall tn_X5_tearHead dX5_tearHead_17 rfl rfl (r_headSector1 _ _ _ _ _ _ _ _ _ _ _ _ _ _ _ _ _ _ _ _ _ _ _ _ _ _ hn) ?_
  show X 105 (20, [(2, .int (nI 1)), (0, .ref 0), (1, .int (nI t))], [.int (nI 1), .ref 1], wD n (nI 1) (nI 2) (nI 0) (nI 0) (nI 0) (-nI 1) (nI 0) (nI 0) (nI 0) (nI 0) (nI 0) f0 f1 f2 f3 f4 f5 (dHead f6 (nI 1) (nI 2) (nI 0)) f7 f8 f9 f10 f11 f12 rest, 0, 0) _
  refine xs tn_X5_tearHead [(20, .aload_n 0, 1), (21, .getfield 28, 3), (24, .iload_n 1, 1)] (st' := (25, [(2, .int (nI 1)), (0, .ref 0), (1, .int (nI t))], [.int (nI t), .ref 9, .int (nI 1), .ref 1], wD n (nI 1) (nI 2) (nI 0) (nI 0) (nI 0) (-nI 1) (nI 0) (nI 0) (nI 0) (nI 0) (nI 0) f0 f1 f2 f3 f4 f5 (dHead f6 (nI 1) (nI 2) (nI 0)) f7 f8 f9 f10 f11 f12 rest, 0, 0)) (List.forall_mem_cons.mpr ⟨dX5_tearHead_20, List.forall_mem_cons.mpr ⟨dX5_tearHead_21, List.forall_mem_cons.mpr ⟨dX5_tearHead_24, fun _ h => absurd h List.not_mem_nil⟩⟩⟩) rfl ?_
  refine xcall tn_X5_tearHead dX5_tearHead_25 rfl rfl (r_store _ _ _ _ _ _ _ _ _ _ _ _ _ _ _ _ _ _ _ _ _ _ _ _ _ _ hn 1 t (by omega) (by omega)) ?_
  show X 105 (28, [(2, .int (nI 1)), (0, .ref 0), (1, .int (nI t))], [], wD n (nI 1) (nI 2) (nI 0) (nI 0) (nI 0) (-nI 1) (nI 0) (nI 0) (nI 0) (nI 0) (nI 0) (stc f0 (dHead f6 (nI 1) (nI 2) (nI 0)) (32 * 1) t) (upd f1 1 (nI 0)) (upd f2 1 (jd (stc f0 (dHead f6 (nI 1) (nI 2) (nI 0)) (32 * 1) t) (upd f1 1 (nI 0)) 1)) f3 f4 f5 (dHead f6 (nI 1) (nI 2) (nI 0)) f7 f8 f9 f10 f11 f12 rest, 0, 0) _
  exact xretvE tn_X5_tearHead rfl dX5_tearHead_28 (rfl)
set_option maxRecDepth 100000 in
set_option maxHeartbeats 4000000 in
theorem q_cut_bad (n : Nat) (f0 f1 f2 f3 f4 f5 f6 f7 f8 f9 f10 f11 f12 : Nat → Int32) (rest : mx_W) (hn : n ≤ 60) (h8 : 8 ≤ n) (k t : Int32) (hk : t < nI 1 ∨ nI 32 ≤ t ∨ k < 0 ∨ nI 0 < k) : X 117 (0, [(0, .ref 0), (1, .int k), (2, .int t)], [], wD n (nI 1) (nI 2) (nI 0) (nI 0) (nI 0) (-nI 1) (nI 0) (nI 0) (nI 0) (nI 0) (nI 0) f0 f1 f2 f3 f4 f5 f6 f7 f8 f9 f10 f11 f12 rest, 0, 0) (some (.int (-nI 2)), wD n (nI 1) (nI 2) (nI 0) (nI 0) (nI 0) (-nI 1) (nI 0) (nI 0) (nI 0) (nI 0) (nI 0) f0 f1 f2 f3 f4 f5 f6 f7 f8 f9 f10 f11 f12 rest, 0, 0) := by
  refine xs tn_X5_cut [(0, .iload_n 2, 1), (1, .iconst 1, 1)] (st' := (2, [(0, .ref 0), (1, .int k), (2, .int t)], [.int (nI 1), .int t], wD n (nI 1) (nI 2) (nI 0) (nI 0) (nI 0) (-nI 1) (nI 0) (nI 0) (nI 0) (nI 0) (nI 0) f0 f1 f2 f3 f4 f5 f6 f7 f8 f9 f10 f11 f12 rest, 0, 0)) (List.forall_mem_cons.mpr ⟨dX5_cut_0, List.forall_mem_cons.mpr ⟨dX5_cut_1, fun _ h => absurd h List.not_mem_nil⟩⟩) rfl ?_
  refine xcmp (t := 26) tn_X5_cut dX5_cut_2 (by decide) (fun c1 => ?_) (fun c1 => ?_)
  · have c1 := xc_t c1
    dsimp only at c1
    refine xs tn_X5_cut [(26, .bipush (-2), 2)] (st' := (28, [(0, .ref 0), (1, .int k), (2, .int t)], [.int (-nI 2)], wD n (nI 1) (nI 2) (nI 0) (nI 0) (nI 0) (-nI 1) (nI 0) (nI 0) (nI 0) (nI 0) (nI 0) f0 f1 f2 f3 f4 f5 f6 f7 f8 f9 f10 f11 f12 rest, 0, 0)) (List.forall_mem_cons.mpr ⟨dX5_cut_26, fun _ h => absurd h List.not_mem_nil⟩) rfl ?_
    exact xretE tn_X5_cut rfl dX5_cut_28 (rfl) (rfl)
  · have c1 := xc_f c1
    dsimp only at c1
    refine xs tn_X5_cut [(5, .iload_n 2, 1), (6, .bipush 32, 2)] (st' := (8, [(0, .ref 0), (1, .int k), (2, .int t)], [.int (nI 32), .int t], wD n (nI 1) (nI 2) (nI 0) (nI 0) (nI 0) (-nI 1) (nI 0) (nI 0) (nI 0) (nI 0) (nI 0) f0 f1 f2 f3 f4 f5 f6 f7 f8 f9 f10 f11 f12 rest, 0, 0)) (List.forall_mem_cons.mpr ⟨dX5_cut_5, List.forall_mem_cons.mpr ⟨dX5_cut_6, fun _ h => absurd h List.not_mem_nil⟩⟩) rfl ?_
    refine xcmp (t := 26) tn_X5_cut dX5_cut_8 (by decide) (fun c2 => ?_) (fun c2 => ?_)
    · have c2 := xc_t c2
      dsimp only at c2
      refine xs tn_X5_cut [(26, .bipush (-2), 2)] (st' := (28, [(0, .ref 0), (1, .int k), (2, .int t)], [.int (-nI 2)], wD n (nI 1) (nI 2) (nI 0) (nI 0) (nI 0) (-nI 1) (nI 0) (nI 0) (nI 0) (nI 0) (nI 0) f0 f1 f2 f3 f4 f5 f6 f7 f8 f9 f10 f11 f12 rest, 0, 0)) (List.forall_mem_cons.mpr ⟨dX5_cut_26, fun _ h => absurd h List.not_mem_nil⟩) rfl ?_
      exact xretE tn_X5_cut rfl dX5_cut_28 (rfl) (rfl)
    · have c2 := xc_f c2
      dsimp only at c2
      refine xs tn_X5_cut [(11, .iload_n 1, 1)] (st' := (12, [(0, .ref 0), (1, .int k), (2, .int t)], [.int k], wD n (nI 1) (nI 2) (nI 0) (nI 0) (nI 0) (-nI 1) (nI 0) (nI 0) (nI 0) (nI 0) (nI 0) f0 f1 f2 f3 f4 f5 f6 f7 f8 f9 f10 f11 f12 rest, 0, 0)) (List.forall_mem_cons.mpr ⟨dX5_cut_11, fun _ h => absurd h List.not_mem_nil⟩) rfl ?_
      refine xif (t := 26) tn_X5_cut dX5_cut_12 (by decide) (fun c3 => ?_) (fun c3 => ?_)
      · have c3 := xc_t c3
        dsimp only at c3
        refine xs tn_X5_cut [(26, .bipush (-2), 2)] (st' := (28, [(0, .ref 0), (1, .int k), (2, .int t)], [.int (-nI 2)], wD n (nI 1) (nI 2) (nI 0) (nI 0) (nI 0) (-nI 1) (nI 0) (nI 0) (nI 0) (nI 0) (nI 0) f0 f1 f2 f3 f4 f5 f6 f7 f8 f9 f10 f11 f12 rest, 0, 0)) (List.forall_mem_cons.mpr ⟨dX5_cut_26, fun _ h => absurd h List.not_mem_nil⟩) rfl ?_
        exact xretE tn_X5_cut rfl dX5_cut_28 (rfl) (rfl)
      · have c3 := xc_f c3
        dsimp only at c3
        refine xs tn_X5_cut [(15, .iload_n 1, 1), (16, .aload_n 0, 1), (17, .getfield 21, 3)] (st' := (20, [(0, .ref 0), (1, .int k), (2, .int t)], [.ref 5, .int k], wD n (nI 1) (nI 2) (nI 0) (nI 0) (nI 0) (-nI 1) (nI 0) (nI 0) (nI 0) (nI 0) (nI 0) f0 f1 f2 f3 f4 f5 f6 f7 f8 f9 f10 f11 f12 rest, 0, 0)) (List.forall_mem_cons.mpr ⟨dX5_cut_15, List.forall_mem_cons.mpr ⟨dX5_cut_16, List.forall_mem_cons.mpr ⟨dX5_cut_17, fun _ h => absurd h List.not_mem_nil⟩⟩⟩) rfl ?_
        refine xcall tn_X5_cut dX5_cut_20 rfl rfl (r_jsize _ _ _ _ _ _ _ _ _ _ _ _ _ _ _ _ _ _ _ _ _ _ _ _ _ _ hn) ?_
        show X 117 (23, [(0, .ref 0), (1, .int k), (2, .int t)], [.int (nI 0), .int k], wD n (nI 1) (nI 2) (nI 0) (nI 0) (nI 0) (-nI 1) (nI 0) (nI 0) (nI 0) (nI 0) (nI 0) f0 f1 f2 f3 f4 f5 f6 f7 f8 f9 f10 f11 f12 rest, 0, 0) _
        refine xcmp (t := 29) tn_X5_cut dX5_cut_23 (by decide) (fun c4 => ?_) (fun c4 => ?_)
        · exact absurd (xc_t c4) (Int32.not_le.mpr (or4 hk (by assumption) (by assumption) (by assumption)))
        refine xs tn_X5_cut [(26, .bipush (-2), 2)] (st' := (28, [(0, .ref 0), (1, .int k), (2, .int t)], [.int (-nI 2)], wD n (nI 1) (nI 2) (nI 0) (nI 0) (nI 0) (-nI 1) (nI 0) (nI 0) (nI 0) (nI 0) (nI 0) f0 f1 f2 f3 f4 f5 f6 f7 f8 f9 f10 f11 f12 rest, 0, 0)) (List.forall_mem_cons.mpr ⟨dX5_cut_26, fun _ h => absurd h List.not_mem_nil⟩) rfl ?_
        exact xretE tn_X5_cut rfl dX5_cut_28 (rfl) (rfl)
set_option maxRecDepth 100000 in
set_option maxHeartbeats 4000000 in
theorem q_cut_ok (n : Nat) (f0 f1 f2 f3 f4 f5 f6 f7 f8 f9 f10 f11 f12 : Nat → Int32) (rest : mx_W) (hn : n ≤ 60) (h8 : 8 ≤ n) (t : Nat) (h1 : 1 ≤ t) (h2 : t ≤ 31) : X 117 (0, [(0, .ref 0), (1, .int (nI 0)), (2, .int (nI t))], [], wD n (nI 1) (nI 2) (nI 0) (nI 0) (nI 0) (-nI 1) (nI 0) (nI 0) (nI 0) (nI 0) (nI 0) f0 f1 f2 f3 f4 f5 f6 f7 f8 f9 f10 f11 f12 rest, 0, 0) (some (.int (nI 1)), wD n (nI 0) (nI 2) (nI 0) (nI 0) (nI 0) (-nI 1) (nI 0) (nI 0) (nI 0) (nI 0) (nI 0) (stc f0 (dHead f6 (nI 1) (nI 2) (nI 0)) (32 * 1) t) (upd f1 1 (nI 0)) (upd f2 1 (jd (stc f0 (dHead f6 (nI 1) (nI 2) (nI 0)) (32 * 1) t) (upd f1 1 (nI 0)) 1)) f3 f4 f5 (dHead f6 (nI 1) (nI 2) (nI 0)) f7 f8 f9 f10 f11 f12 rest, 0, 0) := by
  refine xs tn_X5_cut [(0, .iload_n 2, 1), (1, .iconst 1, 1)] (st' := (2, [(0, .ref 0), (1, .int (nI 0)), (2, .int (nI t))], [.int (nI 1), .int (nI t)], wD n (nI 1) (nI 2) (nI 0) (nI 0) (nI 0) (-nI 1) (nI 0) (nI 0) (nI 0) (nI 0) (nI 0) f0 f1 f2 f3 f4 f5 f6 f7 f8 f9 f10 f11 f12 rest, 0, 0)) (List.forall_mem_cons.mpr ⟨dX5_cut_0, List.forall_mem_cons.mpr ⟨dX5_cut_1, fun _ h => absurd h List.not_mem_nil⟩⟩) rfl ?_
  refine xcmp (t := 26) tn_X5_cut dX5_cut_2 (by decide) (fun c1 => ?_) (fun c1 => ?_)
  · exact absurd (xc_t c1) (nnlt (by omega) (by omega) (by omega))
  refine xs tn_X5_cut [(5, .iload_n 2, 1), (6, .bipush 32, 2)] (st' := (8, [(0, .ref 0), (1, .int (nI 0)), (2, .int (nI t))], [.int (nI 32), .int (nI t)], wD n (nI 1) (nI 2) (nI 0) (nI 0) (nI 0) (-nI 1) (nI 0) (nI 0) (nI 0) (nI 0) (nI 0) f0 f1 f2 f3 f4 f5 f6 f7 f8 f9 f10 f11 f12 rest, 0, 0)) (List.forall_mem_cons.mpr ⟨dX5_cut_5, List.forall_mem_cons.mpr ⟨dX5_cut_6, fun _ h => absurd h List.not_mem_nil⟩⟩) rfl ?_
  refine xcmp (t := 26) tn_X5_cut dX5_cut_8 (by decide) (fun c2 => ?_) (fun c2 => ?_)
  · exact absurd (xc_t c2) (nnle (by omega) (by omega) (by omega))
  refine xs tn_X5_cut [(11, .iload_n 1, 1)] (st' := (12, [(0, .ref 0), (1, .int (nI 0)), (2, .int (nI t))], [.int (nI 0)], wD n (nI 1) (nI 2) (nI 0) (nI 0) (nI 0) (-nI 1) (nI 0) (nI 0) (nI 0) (nI 0) (nI 0) f0 f1 f2 f3 f4 f5 f6 f7 f8 f9 f10 f11 f12 rest, 0, 0)) (List.forall_mem_cons.mpr ⟨dX5_cut_11, fun _ h => absurd h List.not_mem_nil⟩) rfl ?_
  refine xif (t := 26) tn_X5_cut dX5_cut_12 (by decide) (fun c3 => ?_) (fun c3 => ?_)
  · exact absurd (xc_t c3) (nnlt (b := 0) (by omega) (by omega) (by omega))
  refine xs tn_X5_cut [(15, .iload_n 1, 1), (16, .aload_n 0, 1), (17, .getfield 21, 3)] (st' := (20, [(0, .ref 0), (1, .int (nI 0)), (2, .int (nI t))], [.ref 5, .int (nI 0)], wD n (nI 1) (nI 2) (nI 0) (nI 0) (nI 0) (-nI 1) (nI 0) (nI 0) (nI 0) (nI 0) (nI 0) f0 f1 f2 f3 f4 f5 f6 f7 f8 f9 f10 f11 f12 rest, 0, 0)) (List.forall_mem_cons.mpr ⟨dX5_cut_15, List.forall_mem_cons.mpr ⟨dX5_cut_16, List.forall_mem_cons.mpr ⟨dX5_cut_17, fun _ h => absurd h List.not_mem_nil⟩⟩⟩) rfl ?_
  refine xcall tn_X5_cut dX5_cut_20 rfl rfl (r_jsize _ _ _ _ _ _ _ _ _ _ _ _ _ _ _ _ _ _ _ _ _ _ _ _ _ _ hn) ?_
  show X 117 (23, [(0, .ref 0), (1, .int (nI 0)), (2, .int (nI t))], [.int (nI 0), .int (nI 0)], wD n (nI 1) (nI 2) (nI 0) (nI 0) (nI 0) (-nI 1) (nI 0) (nI 0) (nI 0) (nI 0) (nI 0) f0 f1 f2 f3 f4 f5 f6 f7 f8 f9 f10 f11 f12 rest, 0, 0) _
  refine xcmp (t := 29) tn_X5_cut dX5_cut_23 (by decide) (fun c4 => ?_) (fun c4 => ?_)
  rotate_left
  · exact absurd (nle (by omega) (by omega) (by omega)) (xc_f c4)
  refine xs tn_X5_cut [(29, .aload_n 0, 1), (30, .getfield 46, 3)] (st' := (33, [(0, .ref 0), (1, .int (nI 0)), (2, .int (nI t))], [.int (nI 1)], wD n (nI 1) (nI 2) (nI 0) (nI 0) (nI 0) (-nI 1) (nI 0) (nI 0) (nI 0) (nI 0) (nI 0) f0 f1 f2 f3 f4 f5 f6 f7 f8 f9 f10 f11 f12 rest, 0, 0)) (List.forall_mem_cons.mpr ⟨dX5_cut_29, List.forall_mem_cons.mpr ⟨dX5_cut_30, fun _ h => absurd h List.not_mem_nil⟩⟩) rfl ?_
  refine xif (t := 39) tn_X5_cut dX5_cut_33 (by decide) (fun c5 => ?_) (fun c5 => ?_)
  rotate_left
  · exact absurd (xc_f c5) (nne (b := 0) (by omega) (by omega) (by omega))
  refine xs tn_X5_cut [(39, .iload_n 1, 1), (40, .aload_n 0, 1), (41, .getfield 21, 3)] (st' := (44, [(0, .ref 0), (1, .int (nI 0)), (2, .int (nI t))], [.ref 5, .int (nI 0)], wD n (nI 1) (nI 2) (nI 0) (nI 0) (nI 0) (-nI 1) (nI 0) (nI 0) (nI 0) (nI 0) (nI 0) f0 f1 f2 f3 f4 f5 f6 f7 f8 f9 f10 f11 f12 rest, 0, 0)) (List.forall_mem_cons.mpr ⟨dX5_cut_39, List.forall_mem_cons.mpr ⟨dX5_cut_40, List.forall_mem_cons.mpr ⟨dX5_cut_41, fun _ h => absurd h List.not_mem_nil⟩⟩⟩) rfl ?_
  refine xcall tn_X5_cut dX5_cut_44 rfl rfl (r_jsize _ _ _ _ _ _ _ _ _ _ _ _ _ _ _ _ _ _ _ _ _ _ _ _ _ _ hn) ?_
  show X 117 (47, [(0, .ref 0), (1, .int (nI 0)), (2, .int (nI t))], [.int (nI 0), .int (nI 0)], wD n (nI 1) (nI 2) (nI 0) (nI 0) (nI 0) (-nI 1) (nI 0) (nI 0) (nI 0) (nI 0) (nI 0) f0 f1 f2 f3 f4 f5 f6 f7 f8 f9 f10 f11 f12 rest, 0, 0) _
  refine xcmp (t := 58) tn_X5_cut dX5_cut_47 (by decide) (fun c6 => ?_) (fun c6 => ?_)
  · exact absurd (xc_t c6) (fun z => z (congrArg nI (by omega)))
  refine xs tn_X5_cut [(50, .aload_n 0, 1), (51, .iload_n 2, 1)] (st' := (52, [(0, .ref 0), (1, .int (nI 0)), (2, .int (nI t))], [.int (nI t), .ref 0], wD n (nI 1) (nI 2) (nI 0) (nI 0) (nI 0) (-nI 1) (nI 0) (nI 0) (nI 0) (nI 0) (nI 0) f0 f1 f2 f3 f4 f5 f6 f7 f8 f9 f10 f11 f12 rest, 0, 0)) (List.forall_mem_cons.mpr ⟨dX5_cut_50, List.forall_mem_cons.mpr ⟨dX5_cut_51, fun _ h => absurd h List.not_mem_nil⟩⟩) rfl ?_
  refine xcall tn_X5_cut dX5_cut_52 rfl rfl (q_tearHead n f0 f1 f2 f3 f4 f5 f6 f7 f8 f9 f10 f11 f12 rest hn h8 t h1 h2) ?_
  show X 117 (55, [(0, .ref 0), (1, .int (nI 0)), (2, .int (nI t))], [], wD n (nI 1) (nI 2) (nI 0) (nI 0) (nI 0) (-nI 1) (nI 0) (nI 0) (nI 0) (nI 0) (nI 0) (stc f0 (dHead f6 (nI 1) (nI 2) (nI 0)) (32 * 1) t) (upd f1 1 (nI 0)) (upd f2 1 (jd (stc f0 (dHead f6 (nI 1) (nI 2) (nI 0)) (32 * 1) t) (upd f1 1 (nI 0)) 1)) f3 f4 f5 (dHead f6 (nI 1) (nI 2) (nI 0)) f7 f8 f9 f10 f11 f12 rest, 0, 0) _
  refine xs tn_X5_cut [(55, .goto 16, 3), (71, .aload_n 0, 1), (72, .iconst (-1), 1), (73, .putfield 54, 3), (76, .aload_n 0, 1), (77, .iconst 0, 1), (78, .putfield 46, 3), (81, .iconst 1, 1)] (st' := (82, [(0, .ref 0), (1, .int (nI 0)), (2, .int (nI t))], [.int (nI 1)], wD n (nI 0) (nI 2) (nI 0) (nI 0) (nI 0) (-nI 1) (nI 0) (nI 0) (nI 0) (nI 0) (nI 0) (stc f0 (dHead f6 (nI 1) (nI 2) (nI 0)) (32 * 1) t) (upd f1 1 (nI 0)) (upd f2 1 (jd (stc f0 (dHead f6 (nI 1) (nI 2) (nI 0)) (32 * 1) t) (upd f1 1 (nI 0)) 1)) f3 f4 f5 (dHead f6 (nI 1) (nI 2) (nI 0)) f7 f8 f9 f10 f11 f12 rest, 0, 0)) (List.forall_mem_cons.mpr ⟨dX5_cut_55, List.forall_mem_cons.mpr ⟨dX5_cut_71, List.forall_mem_cons.mpr ⟨dX5_cut_72, List.forall_mem_cons.mpr ⟨dX5_cut_73, List.forall_mem_cons.mpr ⟨dX5_cut_76, List.forall_mem_cons.mpr ⟨dX5_cut_77, List.forall_mem_cons.mpr ⟨dX5_cut_78, List.forall_mem_cons.mpr ⟨dX5_cut_81, fun _ h => absurd h List.not_mem_nil⟩⟩⟩⟩⟩⟩⟩⟩) rfl ?_
  exact xretE tn_X5_cut rfl dX5_cut_82 (rfl) (rfl)
set_option maxRecDepth 100000 in
set_option maxHeartbeats 4000000 in
theorem q_start (n : Nat) (f0 f1 f2 f3 f4 f5 f6 f7 f8 f9 f10 f11 f12 : Nat → Int32) (rest : mx_W) (hn : n ≤ 60) (h8 : 8 ≤ n)  : X 135 (0, [(0, .ref 0)], [], wD n (nI 1) (nI 2) (nI 0) (nI 0) (nI 0) (-nI 1) (nI 0) (nI 0) (nI 0) (nI 0) (nI 0) f0 f1 f2 f3 f4 f5 f6 f7 f8 f9 f10 f11 f12 rest, 0, 0) (some (.int (-nI 3)), wD n (nI 1) (nI 2) (nI 0) (nI 0) (nI 0) (-nI 1) (nI 0) (nI 0) (nI 0) (nI 0) (nI 0) f0 f1 f2 f3 f4 f5 f6 f7 f8 f9 f10 f11 f12 rest, 0, 0) := by
  refine xs tn_X5_start [(0, .aload_n 0, 1), (1, .getfield 46, 3)] (st' := (4, [(0, .ref 0)], [.int (nI 1)], wD n (nI 1) (nI 2) (nI 0) (nI 0) (nI 0) (-nI 1) (nI 0) (nI 0) (nI 0) (nI 0) (nI 0) f0 f1 f2 f3 f4 f5 f6 f7 f8 f9 f10 f11 f12 rest, 0, 0)) (List.forall_mem_cons.mpr ⟨dX5_start_0, List.forall_mem_cons.mpr ⟨dX5_start_1, fun _ h => absurd h List.not_mem_nil⟩⟩) rfl ?_
  refine xif (t := 10) tn_X5_start dX5_start_4 (by decide) (fun c1 => ?_) (fun c1 => ?_)
  · exact absurd (xc_t c1) (nne (b := 0) (by omega) (by omega) (by omega))
  refine xs tn_X5_start [(7, .bipush (-3), 2)] (st' := (9, [(0, .ref 0)], [.int (-nI 3)], wD n (nI 1) (nI 2) (nI 0) (nI 0) (nI 0) (-nI 1) (nI 0) (nI 0) (nI 0) (nI 0) (nI 0) f0 f1 f2 f3 f4 f5 f6 f7 f8 f9 f10 f11 f12 rest, 0, 0)) (List.forall_mem_cons.mpr ⟨dX5_start_7, fun _ h => absurd h List.not_mem_nil⟩) rfl ?_
  exact xretE tn_X5_start rfl dX5_start_9 (rfl) (rfl)
set_option maxRecDepth 100000 in
set_option maxHeartbeats 4000000 in
theorem q_at (n : Nat) (f0 f1 f2 f3 f4 f5 f6 f7 f8 f9 f10 f11 f12 : Nat → Int32) (rest : mx_W) (hn : n ≤ 60) (h8 : 8 ≤ n) (r i : Int32) : X 95 (0, [(0, .ref 0), (1, .int r), (2, .int i)], [], wD n (nI 1) (nI 2) (nI 0) (nI 0) (nI 0) (-nI 1) (nI 0) (nI 0) (nI 0) (nI 0) (nI 0) f0 f1 f2 f3 f4 f5 f6 f7 f8 f9 f10 f11 f12 rest, 0, 0) (some (.int (-nI 2)), wD n (nI 1) (nI 2) (nI 0) (nI 0) (nI 0) (-nI 1) (nI 0) (nI 0) (nI 0) (nI 0) (nI 0) f0 f1 f2 f3 f4 f5 f6 f7 f8 f9 f10 f11 f12 rest, 0, 0) := by
  refine xs tn_X5_at [(0, .aload_n 0, 1), (1, .iload_n 1, 1)] (st' := (2, [(0, .ref 0), (1, .int r), (2, .int i)], [.int r, .ref 0], wD n (nI 1) (nI 2) (nI 0) (nI 0) (nI 0) (-nI 1) (nI 0) (nI 0) (nI 0) (nI 0) (nI 0) f0 f1 f2 f3 f4 f5 f6 f7 f8 f9 f10 f11 f12 rest, 0, 0)) (List.forall_mem_cons.mpr ⟨dX5_at_0, List.forall_mem_cons.mpr ⟨dX5_at_1, fun _ h => absurd h List.not_mem_nil⟩⟩) rfl ?_
  refine xcall tn_X5_at dX5_at_2 rfl rfl (r_isRow0 _ _ _ _ _ _ _ _ _ _ _ _ _ _ _ _ _ _ _ _ _ _ _ _ _ _ hn r rfl) ?_
  show X 95 (5, [(0, .ref 0), (1, .int r), (2, .int i)], [.int (nI 0)], wD n (nI 1) (nI 2) (nI 0) (nI 0) (nI 0) (-nI 1) (nI 0) (nI 0) (nI 0) (nI 0) (nI 0) f0 f1 f2 f3 f4 f5 f6 f7 f8 f9 f10 f11 f12 rest, 0, 0) _
  refine xif (t := 11) tn_X5_at dX5_at_5 (by decide) (fun c1 => ?_) (fun c1 => ?_)
  · exact absurd (xc_t c1) (fun z => z (neq0 (by omega)))
  refine xs tn_X5_at [(8, .bipush (-2), 2)] (st' := (10, [(0, .ref 0), (1, .int r), (2, .int i)], [.int (-nI 2)], wD n (nI 1) (nI 2) (nI 0) (nI 0) (nI 0) (-nI 1) (nI 0) (nI 0) (nI 0) (nI 0) (nI 0) f0 f1 f2 f3 f4 f5 f6 f7 f8 f9 f10 f11 f12 rest, 0, 0)) (List.forall_mem_cons.mpr ⟨dX5_at_8, fun _ h => absurd h List.not_mem_nil⟩) rfl ?_
  exact xretE tn_X5_at rfl dX5_at_10 (rfl) (rfl)
set_option maxRecDepth 100000 in
set_option maxHeartbeats 4000000 in
theorem q_row (n : Nat) (f0 f1 f2 f3 f4 f5 f6 f7 f8 f9 f10 f11 f12 : Nat → Int32) (rest : mx_W) (hn : n ≤ 60) (h8 : 8 ≤ n) (r k : Int32) : X 122 (0, [(0, .ref 0), (1, .int r), (2, .int k)], [], wD n (nI 1) (nI 2) (nI 0) (nI 0) (nI 0) (-nI 1) (nI 0) (nI 0) (nI 0) (nI 0) (nI 0) f0 f1 f2 f3 f4 f5 f6 f7 f8 f9 f10 f11 f12 rest, 0, 0) (some (.int (-nI 2)), wD n (nI 1) (nI 2) (nI 0) (nI 0) (nI 0) (-nI 1) (nI 0) (nI 0) (nI 0) (nI 0) (nI 0) f0 f1 f2 f3 f4 f5 f6 f7 f8 f9 f10 f11 f12 rest, 0, 0) := by
  refine xs tn_X5_row [(0, .iload_n 2, 1), (1, .bipush 10, 2)] (st' := (3, [(0, .ref 0), (1, .int r), (2, .int k)], [.int (nI 10), .int k], wD n (nI 1) (nI 2) (nI 0) (nI 0) (nI 0) (-nI 1) (nI 0) (nI 0) (nI 0) (nI 0) (nI 0) f0 f1 f2 f3 f4 f5 f6 f7 f8 f9 f10 f11 f12 rest, 0, 0)) (List.forall_mem_cons.mpr ⟨dX5_row_0, List.forall_mem_cons.mpr ⟨dX5_row_1, fun _ h => absurd h List.not_mem_nil⟩⟩) rfl ?_
  refine xcmp (t := 16) tn_X5_row dX5_row_3 (by decide) (fun c1 => ?_) (fun c1 => ?_)
  · have c1 := xc_t c1
    dsimp only at c1
    refine xs tn_X5_row [(16, .iconst 0, 1), (17, .istore_n 3, 1), (18, .aload_n 0, 1), (19, .iload_n 1, 1)] (st' := (20, [(3, .int (nI 0)), (0, .ref 0), (1, .int r), (2, .int k)], [.int r, .ref 0], wD n (nI 1) (nI 2) (nI 0) (nI 0) (nI 0) (-nI 1) (nI 0) (nI 0) (nI 0) (nI 0) (nI 0) f0 f1 f2 f3 f4 f5 f6 f7 f8 f9 f10 f11 f12 rest, 0, 0)) (List.forall_mem_cons.mpr ⟨dX5_row_16, List.forall_mem_cons.mpr ⟨dX5_row_17, List.forall_mem_cons.mpr ⟨dX5_row_18, List.forall_mem_cons.mpr ⟨dX5_row_19, fun _ h => absurd h List.not_mem_nil⟩⟩⟩⟩) rfl ?_
    refine xcall tn_X5_row dX5_row_20 rfl rfl (r_isRow0 _ _ _ _ _ _ _ _ _ _ _ _ _ _ _ _ _ _ _ _ _ _ _ _ _ _ hn r rfl) ?_
    show X 122 (23, [(3, .int (nI 0)), (0, .ref 0), (1, .int r), (2, .int k)], [.int (nI 0)], wD n (nI 1) (nI 2) (nI 0) (nI 0) (nI 0) (-nI 1) (nI 0) (nI 0) (nI 0) (nI 0) (nI 0) f0 f1 f2 f3 f4 f5 f6 f7 f8 f9 f10 f11 f12 rest, 0, 0) _
    refine xif (t := 40) tn_X5_row dX5_row_23 (by decide) (fun c2 => ?_) (fun c2 => ?_)
    rotate_left
    · exact absurd (neq0 (by omega)) (xc_f c2)
    refine xs tn_X5_row [(40, .bipush (-2), 2)] (st' := (42, [(3, .int (nI 0)), (0, .ref 0), (1, .int r), (2, .int k)], [.int (-nI 2)], wD n (nI 1) (nI 2) (nI 0) (nI 0) (nI 0) (-nI 1) (nI 0) (nI 0) (nI 0) (nI 0) (nI 0) f0 f1 f2 f3 f4 f5 f6 f7 f8 f9 f10 f11 f12 rest, 0, 0)) (List.forall_mem_cons.mpr ⟨dX5_row_40, fun _ h => absurd h List.not_mem_nil⟩) rfl ?_
    exact xretE tn_X5_row rfl dX5_row_42 (rfl) (rfl)
  · have c1 := xc_f c1
    dsimp only at c1
    refine xs tn_X5_row [(6, .iload_n 2, 1), (7, .bipush 14, 2)] (st' := (9, [(0, .ref 0), (1, .int r), (2, .int k)], [.int (nI 14), .int k], wD n (nI 1) (nI 2) (nI 0) (nI 0) (nI 0) (-nI 1) (nI 0) (nI 0) (nI 0) (nI 0) (nI 0) f0 f1 f2 f3 f4 f5 f6 f7 f8 f9 f10 f11 f12 rest, 0, 0)) (List.forall_mem_cons.mpr ⟨dX5_row_6, List.forall_mem_cons.mpr ⟨dX5_row_7, fun _ h => absurd h List.not_mem_nil⟩⟩) rfl ?_
    refine xcmp (t := 16) tn_X5_row dX5_row_9 (by decide) (fun c3 => ?_) (fun c3 => ?_)
    · have c3 := xc_t c3
      dsimp only at c3
      refine xs tn_X5_row [(16, .iconst 0, 1), (17, .istore_n 3, 1), (18, .aload_n 0, 1), (19, .iload_n 1, 1)] (st' := (20, [(3, .int (nI 0)), (0, .ref 0), (1, .int r), (2, .int k)], [.int r, .ref 0], wD n (nI 1) (nI 2) (nI 0) (nI 0) (nI 0) (-nI 1) (nI 0) (nI 0) (nI 0) (nI 0) (nI 0) f0 f1 f2 f3 f4 f5 f6 f7 f8 f9 f10 f11 f12 rest, 0, 0)) (List.forall_mem_cons.mpr ⟨dX5_row_16, List.forall_mem_cons.mpr ⟨dX5_row_17, List.forall_mem_cons.mpr ⟨dX5_row_18, List.forall_mem_cons.mpr ⟨dX5_row_19, fun _ h => absurd h List.not_mem_nil⟩⟩⟩⟩) rfl ?_
      refine xcall tn_X5_row dX5_row_20 rfl rfl (r_isRow0 _ _ _ _ _ _ _ _ _ _ _ _ _ _ _ _ _ _ _ _ _ _ _ _ _ _ hn r rfl) ?_
      show X 122 (23, [(3, .int (nI 0)), (0, .ref 0), (1, .int r), (2, .int k)], [.int (nI 0)], wD n (nI 1) (nI 2) (nI 0) (nI 0) (nI 0) (-nI 1) (nI 0) (nI 0) (nI 0) (nI 0) (nI 0) f0 f1 f2 f3 f4 f5 f6 f7 f8 f9 f10 f11 f12 rest, 0, 0) _
      refine xif (t := 40) tn_X5_row dX5_row_23 (by decide) (fun c4 => ?_) (fun c4 => ?_)
      rotate_left
      · exact absurd (neq0 (by omega)) (xc_f c4)
      refine xs tn_X5_row [(40, .bipush (-2), 2)] (st' := (42, [(3, .int (nI 0)), (0, .ref 0), (1, .int r), (2, .int k)], [.int (-nI 2)], wD n (nI 1) (nI 2) (nI 0) (nI 0) (nI 0) (-nI 1) (nI 0) (nI 0) (nI 0) (nI 0) (nI 0) f0 f1 f2 f3 f4 f5 f6 f7 f8 f9 f10 f11 f12 rest, 0, 0)) (List.forall_mem_cons.mpr ⟨dX5_row_40, fun _ h => absurd h List.not_mem_nil⟩) rfl ?_
      exact xretE tn_X5_row rfl dX5_row_42 (rfl) (rfl)
    · have c3 := xc_f c3
      dsimp only at c3
      refine xs tn_X5_row [(12, .iconst 1, 1), (13, .goto 4, 3), (17, .istore_n 3, 1), (18, .aload_n 0, 1), (19, .iload_n 1, 1)] (st' := (20, [(3, .int (nI 1)), (0, .ref 0), (1, .int r), (2, .int k)], [.int r, .ref 0], wD n (nI 1) (nI 2) (nI 0) (nI 0) (nI 0) (-nI 1) (nI 0) (nI 0) (nI 0) (nI 0) (nI 0) f0 f1 f2 f3 f4 f5 f6 f7 f8 f9 f10 f11 f12 rest, 0, 0)) (List.forall_mem_cons.mpr ⟨dX5_row_12, List.forall_mem_cons.mpr ⟨dX5_row_13, List.forall_mem_cons.mpr ⟨dX5_row_17, List.forall_mem_cons.mpr ⟨dX5_row_18, List.forall_mem_cons.mpr ⟨dX5_row_19, fun _ h => absurd h List.not_mem_nil⟩⟩⟩⟩⟩) rfl ?_
      refine xcall tn_X5_row dX5_row_20 rfl rfl (r_isRow0 _ _ _ _ _ _ _ _ _ _ _ _ _ _ _ _ _ _ _ _ _ _ _ _ _ _ hn r rfl) ?_
      show X 122 (23, [(3, .int (nI 1)), (0, .ref 0), (1, .int r), (2, .int k)], [.int (nI 0)], wD n (nI 1) (nI 2) (nI 0) (nI 0) (nI 0) (-nI 1) (nI 0) (nI 0) (nI 0) (nI 0) (nI 0) f0 f1 f2 f3 f4 f5 f6 f7 f8 f9 f10 f11 f12 rest, 0, 0) _
      refine xif (t := 40) tn_X5_row dX5_row_23 (by decide) (fun c5 => ?_) (fun c5 => ?_)
      rotate_left
      · exact absurd (neq0 (by omega)) (xc_f c5)
      refine xs tn_X5_row [(40, .bipush (-2), 2)] (st' := (42, [(3, .int (nI 1)), (0, .ref 0), (1, .int r), (2, .int k)], [.int (-nI 2)], wD n (nI 1) (nI 2) (nI 0) (nI 0) (nI 0) (-nI 1) (nI 0) (nI 0) (nI 0) (nI 0) (nI 0) f0 f1 f2 f3 f4 f5 f6 f7 f8 f9 f10 f11 f12 rest, 0, 0)) (List.forall_mem_cons.mpr ⟨dX5_row_40, fun _ h => absurd h List.not_mem_nil⟩) rfl ?_
      exact xretE tn_X5_row rfl dX5_row_42 (rfl) (rfl)
set_option maxRecDepth 100000 in
set_option maxHeartbeats 4000000 in
theorem q_lose_bad (n : Nat) (f0 f1 f2 f3 f4 f5 f6 f7 f8 f9 f10 f11 f12 : Nat → Int32) (rest : mx_W) (hn : n ≤ 60) (h8 : 8 ≤ n) (s : Int32) (hs : s < 0 ∨ nI n ≤ s) : X 80 (0, [(0, .ref 0), (1, .int s)], [], wD n (nI 1) (nI 2) (nI 0) (nI 0) (nI 0) (-nI 1) (nI 0) (nI 0) (nI 0) (nI 0) (nI 0) f0 f1 f2 f3 f4 f5 f6 f7 f8 f9 f10 f11 f12 rest, 0, 0) (some (.int (-nI 2)), wD n (nI 1) (nI 2) (nI 0) (nI 0) (nI 0) (-nI 1) (nI 0) (nI 0) (nI 0) (nI 0) (nI 0) f0 f1 f2 f3 f4 f5 f6 f7 f8 f9 f10 f11 f12 rest, 0, 0) := by
  refine xs tn_X5_lose [(0, .aload_n 0, 1), (1, .getfield 12, 3), (4, .iload_n 1, 1)] (st' := (5, [(0, .ref 0), (1, .int s)], [.int s, .ref 1], wD n (nI 1) (nI 2) (nI 0) (nI 0) (nI 0) (-nI 1) (nI 0) (nI 0) (nI 0) (nI 0) (nI 0) f0 f1 f2 f3 f4 f5 f6 f7 f8 f9 f10 f11 f12 rest, 0, 0)) (List.forall_mem_cons.mpr ⟨dX5_lose_0, List.forall_mem_cons.mpr ⟨dX5_lose_1, List.forall_mem_cons.mpr ⟨dX5_lose_4, fun _ h => absurd h List.not_mem_nil⟩⟩⟩) rfl ?_
  refine xcall tn_X5_lose dX5_lose_5 rfl rfl (r_hasB _ _ _ _ _ _ _ _ _ _ _ _ _ _ _ _ _ _ _ _ _ _ _ _ _ _ hn s hs) ?_
  show X 80 (8, [(0, .ref 0), (1, .int s)], [.int (nI 0)], wD n (nI 1) (nI 2) (nI 0) (nI 0) (nI 0) (-nI 1) (nI 0) (nI 0) (nI 0) (nI 0) (nI 0) f0 f1 f2 f3 f4 f5 f6 f7 f8 f9 f10 f11 f12 rest, 0, 0) _
  refine xif (t := 14) tn_X5_lose dX5_lose_8 (by decide) (fun c1 => ?_) (fun c1 => ?_)
  · exact absurd (xc_t c1) (fun z => z (neq0 (by omega)))
  refine xs tn_X5_lose [(11, .bipush (-2), 2)] (st' := (13, [(0, .ref 0), (1, .int s)], [.int (-nI 2)], wD n (nI 1) (nI 2) (nI 0) (nI 0) (nI 0) (-nI 1) (nI 0) (nI 0) (nI 0) (nI 0) (nI 0) f0 f1 f2 f3 f4 f5 f6 f7 f8 f9 f10 f11 f12 rest, 0, 0)) (List.forall_mem_cons.mpr ⟨dX5_lose_11, fun _ h => absurd h List.not_mem_nil⟩) rfl ?_
  exact xretE tn_X5_lose rfl dX5_lose_13 (rfl) (rfl)
set_option maxRecDepth 100000 in
set_option maxHeartbeats 4000000 in
theorem q_lose_ok (n : Nat) (f0 f1 f2 f3 f4 f5 f6 f7 f8 f9 f10 f11 f12 : Nat → Int32) (rest : mx_W) (hn : n ≤ 60) (h8 : 8 ≤ n) (j : Nat) (hj : j < n) (hf1 : ∀ q, f1 q = nI 0) : X 80 (0, [(0, .ref 0), (1, .int (nI j))], [], wD n (nI 1) (nI 2) (nI 0) (nI 0) (nI 0) (-nI 1) (nI 0) (nI 0) (nI 0) (nI 0) (nI 0) f0 f1 f2 f3 f4 f5 f6 f7 f8 f9 f10 f11 f12 rest, 0, 0) (some (.int (nI 1)), wD n (nI 1) (nI 2) (nI 0) (nI 0) (nI 0) (-nI 1) (nI 0) (nI 0) (nI 0) (nI 0) (nI 0) f0 (upd (f1) j (nI 1)) (upd (f2) j (nI 0)) f3 f4 f5 f6 f7 f8 f9 f10 f11 f12 rest, 0, 0) := by
  refine xs tn_X5_lose [(0, .aload_n 0, 1), (1, .getfield 12, 3), (4, .iload_n 1, 1)] (st' := (5, [(0, .ref 0), (1, .int (nI j))], [.int (nI j), .ref 1], wD n (nI 1) (nI 2) (nI 0) (nI 0) (nI 0) (-nI 1) (nI 0) (nI 0) (nI 0) (nI 0) (nI 0) f0 f1 f2 f3 f4 f5 f6 f7 f8 f9 f10 f11 f12 rest, 0, 0)) (List.forall_mem_cons.mpr ⟨dX5_lose_0, List.forall_mem_cons.mpr ⟨dX5_lose_1, List.forall_mem_cons.mpr ⟨dX5_lose_4, fun _ h => absurd h List.not_mem_nil⟩⟩⟩) rfl ?_
  refine xcall tn_X5_lose dX5_lose_5 rfl rfl (r_has _ _ _ _ _ _ _ _ _ _ _ _ _ _ _ _ _ _ _ _ _ _ _ _ _ _ hn j (by omega)) ?_
  show X 80 (8, [(0, .ref 0), (1, .int (nI j))], [.int (nI 1)], wD n (nI 1) (nI 2) (nI 0) (nI 0) (nI 0) (-nI 1) (nI 0) (nI 0) (nI 0) (nI 0) (nI 0) f0 f1 f2 f3 f4 f5 f6 f7 f8 f9 f10 f11 f12 rest, 0, 0) _
  refine xif (t := 14) tn_X5_lose dX5_lose_8 (by decide) (fun c1 => ?_) (fun c1 => ?_)
  rotate_left
  · exact absurd (xc_f c1) (nne (b := 0) (by omega) (by omega) (by omega))
  refine xs tn_X5_lose [(14, .aload_n 0, 1), (15, .getfield 12, 3), (18, .iload_n 1, 1)] (st' := (19, [(0, .ref 0), (1, .int (nI j))], [.int (nI j), .ref 1], wD n (nI 1) (nI 2) (nI 0) (nI 0) (nI 0) (-nI 1) (nI 0) (nI 0) (nI 0) (nI 0) (nI 0) f0 f1 f2 f3 f4 f5 f6 f7 f8 f9 f10 f11 f12 rest, 0, 0)) (List.forall_mem_cons.mpr ⟨dX5_lose_14, List.forall_mem_cons.mpr ⟨dX5_lose_15, List.forall_mem_cons.mpr ⟨dX5_lose_18, fun _ h => absurd h List.not_mem_nil⟩⟩⟩) rfl ?_
  refine xcall tn_X5_lose dX5_lose_19 rfl rfl (r_isLost0 _ _ _ _ _ _ _ _ _ _ _ _ _ _ _ _ _ _ _ _ _ _ _ _ _ _ hn j hj (hf1 j)) ?_
  show X 80 (22, [(0, .ref 0), (1, .int (nI j))], [.int (nI 0)], wD n (nI 1) (nI 2) (nI 0) (nI 0) (nI 0) (-nI 1) (nI 0) (nI 0) (nI 0) (nI 0) (nI 0) f0 f1 f2 f3 f4 f5 f6 f7 f8 f9 f10 f11 f12 rest, 0, 0) _
  refine xif (t := 27) tn_X5_lose dX5_lose_22 (by decide) (fun c2 => ?_) (fun c2 => ?_)
  rotate_left
  · exact absurd (neq0 (by omega)) (xc_f c2)
  refine xs tn_X5_lose [(27, .aload_n 0, 1), (28, .getfield 12, 3), (31, .iload_n 1, 1)] (st' := (32, [(0, .ref 0), (1, .int (nI j))], [.int (nI j), .ref 1], wD n (nI 1) (nI 2) (nI 0) (nI 0) (nI 0) (-nI 1) (nI 0) (nI 0) (nI 0) (nI 0) (nI 0) f0 f1 f2 f3 f4 f5 f6 f7 f8 f9 f10 f11 f12 rest, 0, 0)) (List.forall_mem_cons.mpr ⟨dX5_lose_27, List.forall_mem_cons.mpr ⟨dX5_lose_28, List.forall_mem_cons.mpr ⟨dX5_lose_31, fun _ h => absurd h List.not_mem_nil⟩⟩⟩) rfl ?_
  refine xcall tn_X5_lose dX5_lose_32 rfl rfl (r_markLost _ _ _ _ _ _ _ _ _ _ _ _ _ _ _ _ _ _ _ _ _ _ _ _ _ _ hn j hj) ?_
  show X 80 (35, [(0, .ref 0), (1, .int (nI j))], [], wD n (nI 1) (nI 2) (nI 0) (nI 0) (nI 0) (-nI 1) (nI 0) (nI 0) (nI 0) (nI 0) (nI 0) f0 (upd (f1) j (nI 1)) (upd (f2) j (nI 0)) f3 f4 f5 f6 f7 f8 f9 f10 f11 f12 rest, 0, 0) _
  refine xs tn_X5_lose [(35, .iconst 1, 1)] (st' := (36, [(0, .ref 0), (1, .int (nI j))], [.int (nI 1)], wD n (nI 1) (nI 2) (nI 0) (nI 0) (nI 0) (-nI 1) (nI 0) (nI 0) (nI 0) (nI 0) (nI 0) f0 (upd (f1) j (nI 1)) (upd (f2) j (nI 0)) f3 f4 f5 f6 f7 f8 f9 f10 f11 f12 rest, 0, 0)) (List.forall_mem_cons.mpr ⟨dX5_lose_35, fun _ h => absurd h List.not_mem_nil⟩) rfl ?_
  exact xretE tn_X5_lose rfl dX5_lose_36 (rfl) (rfl)
set_option maxRecDepth 100000 in
set_option maxHeartbeats 4000000 in
theorem q_poke_bad1 (n : Nat) (f0 f1 f2 f3 f4 f5 f6 f7 f8 f9 f10 f11 f12 : Nat → Int32) (rest : mx_W) (hn : n ≤ 60) (h8 : 8 ≤ n) (s i k : Int32) (hs : (s < 0 ∨ nI n ≤ s) ∨ (i < 0 ∨ nI 32 ≤ i)) : X 102 (0, [(0, .ref 0), (1, .int s), (2, .int i), (3, .int k)], [], wD n (nI 1) (nI 2) (nI 0) (nI 0) (nI 0) (-nI 1) (nI 0) (nI 0) (nI 0) (nI 0) (nI 0) f0 f1 f2 f3 f4 f5 f6 f7 f8 f9 f10 f11 f12 rest, 0, 0) (some (.int (-nI 2)), wD n (nI 1) (nI 2) (nI 0) (nI 0) (nI 0) (-nI 1) (nI 0) (nI 0) (nI 0) (nI 0) (nI 0) f0 f1 f2 f3 f4 f5 f6 f7 f8 f9 f10 f11 f12 rest, 0, 0) := by
  refine xs tn_X5_poke [(0, .aload_n 0, 1), (1, .getfield 12, 3), (4, .iload_n 1, 1), (5, .iload_n 2, 1)] (st' := (6, [(0, .ref 0), (1, .int s), (2, .int i), (3, .int k)], [.int i, .int s, .ref 1], wD n (nI 1) (nI 2) (nI 0) (nI 0) (nI 0) (-nI 1) (nI 0) (nI 0) (nI 0) (nI 0) (nI 0) f0 f1 f2 f3 f4 f5 f6 f7 f8 f9 f10 f11 f12 rest, 0, 0)) (List.forall_mem_cons.mpr ⟨dX5_poke_0, List.forall_mem_cons.mpr ⟨dX5_poke_1, List.forall_mem_cons.mpr ⟨dX5_poke_4, List.forall_mem_cons.mpr ⟨dX5_poke_5, fun _ h => absurd h List.not_mem_nil⟩⟩⟩⟩) rfl ?_
  refine xcall tn_X5_poke dX5_poke_6 rfl rfl (r_hasCellB _ _ _ _ _ _ _ _ _ _ _ _ _ _ _ _ _ _ _ _ _ _ _ _ _ _ hn s i hs) ?_
  show X 102 (9, [(0, .ref 0), (1, .int s), (2, .int i), (3, .int k)], [.int (nI 0)], wD n (nI 1) (nI 2) (nI 0) (nI 0) (nI 0) (-nI 1) (nI 0) (nI 0) (nI 0) (nI 0) (nI 0) f0 f1 f2 f3 f4 f5 f6 f7 f8 f9 f10 f11 f12 rest, 0, 0) _
  refine xif (t := 23) tn_X5_poke dX5_poke_9 (by decide) (fun c1 => ?_) (fun c1 => ?_)
  rotate_left
  · exact absurd (neq0 (by omega)) (xc_f c1)
  refine xs tn_X5_poke [(23, .bipush (-2), 2)] (st' := (25, [(0, .ref 0), (1, .int s), (2, .int i), (3, .int k)], [.int (-nI 2)], wD n (nI 1) (nI 2) (nI 0) (nI 0) (nI 0) (-nI 1) (nI 0) (nI 0) (nI 0) (nI 0) (nI 0) f0 f1 f2 f3 f4 f5 f6 f7 f8 f9 f10 f11 f12 rest, 0, 0)) (List.forall_mem_cons.mpr ⟨dX5_poke_23, fun _ h => absurd h List.not_mem_nil⟩) rfl ?_
  exact xretE tn_X5_poke rfl dX5_poke_25 (rfl) (rfl)
set_option maxRecDepth 100000 in
set_option maxHeartbeats 4000000 in
theorem q_poke_bad2 (n : Nat) (f0 f1 f2 f3 f4 f5 f6 f7 f8 f9 f10 f11 f12 : Nat → Int32) (rest : mx_W) (hn : n ≤ 60) (h8 : 8 ≤ n) (j i : Nat) (hj : j < n) (hi : i < 32) (k : Int32) (hk : k < 0 ∨ nI 255 < k) : X 102 (0, [(0, .ref 0), (1, .int (nI j)), (2, .int (nI i)), (3, .int k)], [], wD n (nI 1) (nI 2) (nI 0) (nI 0) (nI 0) (-nI 1) (nI 0) (nI 0) (nI 0) (nI 0) (nI 0) f0 f1 f2 f3 f4 f5 f6 f7 f8 f9 f10 f11 f12 rest, 0, 0) (some (.int (-nI 2)), wD n (nI 1) (nI 2) (nI 0) (nI 0) (nI 0) (-nI 1) (nI 0) (nI 0) (nI 0) (nI 0) (nI 0) f0 f1 f2 f3 f4 f5 f6 f7 f8 f9 f10 f11 f12 rest, 0, 0) := by
  refine xs tn_X5_poke [(0, .aload_n 0, 1), (1, .getfield 12, 3), (4, .iload_n 1, 1), (5, .iload_n 2, 1)] (st' := (6, [(0, .ref 0), (1, .int (nI j)), (2, .int (nI i)), (3, .int k)], [.int (nI i), .int (nI j), .ref 1], wD n (nI 1) (nI 2) (nI 0) (nI 0) (nI 0) (-nI 1) (nI 0) (nI 0) (nI 0) (nI 0) (nI 0) f0 f1 f2 f3 f4 f5 f6 f7 f8 f9 f10 f11 f12 rest, 0, 0)) (List.forall_mem_cons.mpr ⟨dX5_poke_0, List.forall_mem_cons.mpr ⟨dX5_poke_1, List.forall_mem_cons.mpr ⟨dX5_poke_4, List.forall_mem_cons.mpr ⟨dX5_poke_5, fun _ h => absurd h List.not_mem_nil⟩⟩⟩⟩) rfl ?_
  refine xcall tn_X5_poke dX5_poke_6 rfl rfl (r_hasCell _ _ _ _ _ _ _ _ _ _ _ _ _ _ _ _ _ _ _ _ _ _ _ _ _ _ hn j i (by omega) (by omega)) ?_
  show X 102 (9, [(0, .ref 0), (1, .int (nI j)), (2, .int (nI i)), (3, .int k)], [.int (nI 1)], wD n (nI 1) (nI 2) (nI 0) (nI 0) (nI 0) (-nI 1) (nI 0) (nI 0) (nI 0) (nI 0) (nI 0) f0 f1 f2 f3 f4 f5 f6 f7 f8 f9 f10 f11 f12 rest, 0, 0) _
  refine xif (t := 23) tn_X5_poke dX5_poke_9 (by decide) (fun c1 => ?_) (fun c1 => ?_)
  · exact absurd (xc_t c1) (nne (b := 0) (by omega) (by omega) (by omega))
  refine xs tn_X5_poke [(12, .iload_n 3, 1)] (st' := (13, [(0, .ref 0), (1, .int (nI j)), (2, .int (nI i)), (3, .int k)], [.int k], wD n (nI 1) (nI 2) (nI 0) (nI 0) (nI 0) (-nI 1) (nI 0) (nI 0) (nI 0) (nI 0) (nI 0) f0 f1 f2 f3 f4 f5 f6 f7 f8 f9 f10 f11 f12 rest, 0, 0)) (List.forall_mem_cons.mpr ⟨dX5_poke_12, fun _ h => absurd h List.not_mem_nil⟩) rfl ?_
  refine xif (t := 23) tn_X5_poke dX5_poke_13 (by decide) (fun c2 => ?_) (fun c2 => ?_)
  · have c2 := xc_t c2
    dsimp only at c2
    refine xs tn_X5_poke [(23, .bipush (-2), 2)] (st' := (25, [(0, .ref 0), (1, .int (nI j)), (2, .int (nI i)), (3, .int k)], [.int (-nI 2)], wD n (nI 1) (nI 2) (nI 0) (nI 0) (nI 0) (-nI 1) (nI 0) (nI 0) (nI 0) (nI 0) (nI 0) f0 f1 f2 f3 f4 f5 f6 f7 f8 f9 f10 f11 f12 rest, 0, 0)) (List.forall_mem_cons.mpr ⟨dX5_poke_23, fun _ h => absurd h List.not_mem_nil⟩) rfl ?_
    exact xretE tn_X5_poke rfl dX5_poke_25 (rfl) (rfl)
  · have c2 := xc_f c2
    dsimp only at c2
    refine xs tn_X5_poke [(16, .iload_n 3, 1), (17, .sipush 255, 3)] (st' := (20, [(0, .ref 0), (1, .int (nI j)), (2, .int (nI i)), (3, .int k)], [.int (nI 255), .int k], wD n (nI 1) (nI 2) (nI 0) (nI 0) (nI 0) (-nI 1) (nI 0) (nI 0) (nI 0) (nI 0) (nI 0) f0 f1 f2 f3 f4 f5 f6 f7 f8 f9 f10 f11 f12 rest, 0, 0)) (List.forall_mem_cons.mpr ⟨dX5_poke_16, List.forall_mem_cons.mpr ⟨dX5_poke_17, fun _ h => absurd h List.not_mem_nil⟩⟩) rfl ?_
    refine xcmp (t := 26) tn_X5_poke dX5_poke_20 (by decide) (fun c3 => ?_) (fun c3 => ?_)
    · exact absurd (xc_t c3) (Int32.not_le.mpr (hk.resolve_left (by assumption)))
    refine xs tn_X5_poke [(23, .bipush (-2), 2)] (st' := (25, [(0, .ref 0), (1, .int (nI j)), (2, .int (nI i)), (3, .int k)], [.int (-nI 2)], wD n (nI 1) (nI 2) (nI 0) (nI 0) (nI 0) (-nI 1) (nI 0) (nI 0) (nI 0) (nI 0) (nI 0) f0 f1 f2 f3 f4 f5 f6 f7 f8 f9 f10 f11 f12 rest, 0, 0)) (List.forall_mem_cons.mpr ⟨dX5_poke_23, fun _ h => absurd h List.not_mem_nil⟩) rfl ?_
    exact xretE tn_X5_poke rfl dX5_poke_25 (rfl) (rfl)
set_option maxRecDepth 100000 in
set_option maxHeartbeats 4000000 in
theorem q_poke_ok (n : Nat) (f0 f1 f2 f3 f4 f5 f6 f7 f8 f9 f10 f11 f12 : Nat → Int32) (rest : mx_W) (hn : n ≤ 60) (h8 : 8 ≤ n) (j i k : Nat) (hj : j < n) (hi : i < 32) (hk : k ≤ 255) : X 102 (0, [(0, .ref 0), (1, .int (nI j)), (2, .int (nI i)), (3, .int (nI k))], [], wD n (nI 1) (nI 2) (nI 0) (nI 0) (nI 0) (-nI 1) (nI 0) (nI 0) (nI 0) (nI 0) (nI 0) f0 f1 f2 f3 f4 f5 f6 f7 f8 f9 f10 f11 f12 rest, 0, 0) (some (.int (f0 (32 * j + i) ^^^ (nI k &&& nI 255))), wD n (nI 1) (nI 2) (nI 0) (nI 0) (nI 0) (-nI 1) (nI 0) (nI 0) (nI 0) (nI 0) (nI 0) (upd (f0) (32 * j + i) ((f0 (32 * j + i)) ^^^ ((nI k) &&& (nI 255)))) f1 (upd (f2) j (jd (upd (f0) (32 * j + i) ((f0 (32 * j + i)) ^^^ ((nI k) &&& (nI 255)))) f1 j)) f3 f4 f5 f6 f7 f8 f9 f10 f11 f12 rest, 0, 0) := by
  refine xs tn_X5_poke [(0, .aload_n 0, 1), (1, .getfield 12, 3), (4, .iload_n 1, 1), (5, .iload_n 2, 1)] (st' := (6, [(0, .ref 0), (1, .int (nI j)), (2, .int (nI i)), (3, .int (nI k))], [.int (nI i), .int (nI j), .ref 1], wD n (nI 1) (nI 2) (nI 0) (nI 0) (nI 0) (-nI 1) (nI 0) (nI 0) (nI 0) (nI 0) (nI 0) f0 f1 f2 f3 f4 f5 f6 f7 f8 f9 f10 f11 f12 rest, 0, 0)) (List.forall_mem_cons.mpr ⟨dX5_poke_0, List.forall_mem_cons.mpr ⟨dX5_poke_1, List.forall_mem_cons.mpr ⟨dX5_poke_4, List.forall_mem_cons.mpr ⟨dX5_poke_5, fun _ h => absurd h List.not_mem_nil⟩⟩⟩⟩) rfl ?_
  refine xcall tn_X5_poke dX5_poke_6 rfl rfl (r_hasCell _ _ _ _ _ _ _ _ _ _ _ _ _ _ _ _ _ _ _ _ _ _ _ _ _ _ hn j i (by omega) (by omega)) ?_
  show X 102 (9, [(0, .ref 0), (1, .int (nI j)), (2, .int (nI i)), (3, .int (nI k))], [.int (nI 1)], wD n (nI 1) (nI 2) (nI 0) (nI 0) (nI 0) (-nI 1) (nI 0) (nI 0) (nI 0) (nI 0) (nI 0) f0 f1 f2 f3 f4 f5 f6 f7 f8 f9 f10 f11 f12 rest, 0, 0) _
  refine xif (t := 23) tn_X5_poke dX5_poke_9 (by decide) (fun c1 => ?_) (fun c1 => ?_)
  · exact absurd (xc_t c1) (nne (b := 0) (by omega) (by omega) (by omega))
  refine xs tn_X5_poke [(12, .iload_n 3, 1)] (st' := (13, [(0, .ref 0), (1, .int (nI j)), (2, .int (nI i)), (3, .int (nI k))], [.int (nI k)], wD n (nI 1) (nI 2) (nI 0) (nI 0) (nI 0) (-nI 1) (nI 0) (nI 0) (nI 0) (nI 0) (nI 0) f0 f1 f2 f3 f4 f5 f6 f7 f8 f9 f10 f11 f12 rest, 0, 0)) (List.forall_mem_cons.mpr ⟨dX5_poke_12, fun _ h => absurd h List.not_mem_nil⟩) rfl ?_
  refine xif (t := 23) tn_X5_poke dX5_poke_13 (by decide) (fun c2 => ?_) (fun c2 => ?_)
  · exact absurd (xc_t c2) (nnlt (b := 0) (by omega) (by omega) (by omega))
  refine xs tn_X5_poke [(16, .iload_n 3, 1), (17, .sipush 255, 3)] (st' := (20, [(0, .ref 0), (1, .int (nI j)), (2, .int (nI i)), (3, .int (nI k))], [.int (nI 255), .int (nI k)], wD n (nI 1) (nI 2) (nI 0) (nI 0) (nI 0) (-nI 1) (nI 0) (nI 0) (nI 0) (nI 0) (nI 0) f0 f1 f2 f3 f4 f5 f6 f7 f8 f9 f10 f11 f12 rest, 0, 0)) (List.forall_mem_cons.mpr ⟨dX5_poke_16, List.forall_mem_cons.mpr ⟨dX5_poke_17, fun _ h => absurd h List.not_mem_nil⟩⟩) rfl ?_
  refine xcmp (t := 26) tn_X5_poke dX5_poke_20 (by decide) (fun c3 => ?_) (fun c3 => ?_)
  rotate_left
  · exact absurd (nle (by omega) (by omega) (by omega)) (xc_f c3)
  refine xs tn_X5_poke [(26, .aload_n 0, 1), (27, .getfield 12, 3), (30, .iload_n 1, 1), (31, .iload_n 2, 1), (32, .iload_n 3, 1)] (st' := (33, [(0, .ref 0), (1, .int (nI j)), (2, .int (nI i)), (3, .int (nI k))], [.int (nI k), .int (nI i), .int (nI j), .ref 1], wD n (nI 1) (nI 2) (nI 0) (nI 0) (nI 0) (-nI 1) (nI 0) (nI 0) (nI 0) (nI 0) (nI 0) f0 f1 f2 f3 f4 f5 f6 f7 f8 f9 f10 f11 f12 rest, 0, 0)) (List.forall_mem_cons.mpr ⟨dX5_poke_26, List.forall_mem_cons.mpr ⟨dX5_poke_27, List.forall_mem_cons.mpr ⟨dX5_poke_30, List.forall_mem_cons.mpr ⟨dX5_poke_31, List.forall_mem_cons.mpr ⟨dX5_poke_32, fun _ h => absurd h List.not_mem_nil⟩⟩⟩⟩⟩) rfl ?_
  refine xcall tn_X5_poke dX5_poke_33 rfl rfl (r_flip _ _ _ _ _ _ _ _ _ _ _ _ _ _ _ _ _ _ _ _ _ _ _ _ _ _ hn j i (nI k) hj hi) ?_
  show X 102 (36, [(0, .ref 0), (1, .int (nI j)), (2, .int (nI i)), (3, .int (nI k))], [], wD n (nI 1) (nI 2) (nI 0) (nI 0) (nI 0) (-nI 1) (nI 0) (nI 0) (nI 0) (nI 0) (nI 0) (upd (f0) (32 * j + i) ((f0 (32 * j + i)) ^^^ ((nI k) &&& (nI 255)))) f1 (upd (f2) j (jd (upd (f0) (32 * j + i) ((f0 (32 * j + i)) ^^^ ((nI k) &&& (nI 255)))) f1 j)) f3 f4 f5 f6 f7 f8 f9 f10 f11 f12 rest, 0, 0) _
  refine xs tn_X5_poke [(36, .aload_n 0, 1), (37, .getfield 12, 3), (40, .iload_n 1, 1), (41, .iload_n 2, 1)] (st' := (42, [(0, .ref 0), (1, .int (nI j)), (2, .int (nI i)), (3, .int (nI k))], [.int (nI i), .int (nI j), .ref 1], wD n (nI 1) (nI 2) (nI 0) (nI 0) (nI 0) (-nI 1) (nI 0) (nI 0) (nI 0) (nI 0) (nI 0) (upd (f0) (32 * j + i) ((f0 (32 * j + i)) ^^^ ((nI k) &&& (nI 255)))) f1 (upd (f2) j (jd (upd (f0) (32 * j + i) ((f0 (32 * j + i)) ^^^ ((nI k) &&& (nI 255)))) f1 j)) f3 f4 f5 f6 f7 f8 f9 f10 f11 f12 rest, 0, 0)) (List.forall_mem_cons.mpr ⟨dX5_poke_36, List.forall_mem_cons.mpr ⟨dX5_poke_37, List.forall_mem_cons.mpr ⟨dX5_poke_40, List.forall_mem_cons.mpr ⟨dX5_poke_41, fun _ h => absurd h List.not_mem_nil⟩⟩⟩⟩) rfl ?_
  refine xcall tn_X5_poke dX5_poke_42 rfl rfl (r_cell _ _ _ _ _ _ _ _ _ _ _ _ _ _ _ _ _ _ _ _ _ _ _ _ _ _ hn j i (by omega) (by omega)) ?_
  show X 102 (45, [(0, .ref 0), (1, .int (nI j)), (2, .int (nI i)), (3, .int (nI k))], [.int ((upd (f0) (32 * j + i) ((f0 (32 * j + i)) ^^^ ((nI k) &&& (nI 255)))) (32 * j + i))], wD n (nI 1) (nI 2) (nI 0) (nI 0) (nI 0) (-nI 1) (nI 0) (nI 0) (nI 0) (nI 0) (nI 0) (upd (f0) (32 * j + i) ((f0 (32 * j + i)) ^^^ ((nI k) &&& (nI 255)))) f1 (upd (f2) j (jd (upd (f0) (32 * j + i) ((f0 (32 * j + i)) ^^^ ((nI k) &&& (nI 255)))) f1 j)) f3 f4 f5 f6 f7 f8 f9 f10 f11 f12 rest, 0, 0) _
  exact xretE tn_X5_poke rfl dX5_poke_45 (pk_us) (rfl)
set_option maxRecDepth 100000 in
set_option maxHeartbeats 4000000 in
theorem q_octet_bad (n : Nat) (f0 f1 f2 f3 f4 f5 f6 f7 f8 f9 f10 f11 f12 : Nat → Int32) (rest : mx_W) (hn : n ≤ 60) (h8 : 8 ≤ n) (s i : Int32) (hs : (s < 0 ∨ nI n ≤ s) ∨ (i < 0 ∨ nI 32 ≤ i)) : X 54 (0, [(0, .ref 0), (1, .int s), (2, .int i)], [], wD n (nI 1) (nI 2) (nI 0) (nI 0) (nI 0) (-nI 1) (nI 0) (nI 0) (nI 0) (nI 0) (nI 0) f0 f1 f2 f3 f4 f5 f6 f7 f8 f9 f10 f11 f12 rest, 0, 0) (some (.int (-nI 2)), wD n (nI 1) (nI 2) (nI 0) (nI 0) (nI 0) (-nI 1) (nI 0) (nI 0) (nI 0) (nI 0) (nI 0) f0 f1 f2 f3 f4 f5 f6 f7 f8 f9 f10 f11 f12 rest, 0, 0) := by
  refine xs tn_X5_octet [(0, .aload_n 0, 1), (1, .getfield 12, 3), (4, .iload_n 1, 1), (5, .iload_n 2, 1)] (st' := (6, [(0, .ref 0), (1, .int s), (2, .int i)], [.int i, .int s, .ref 1], wD n (nI 1) (nI 2) (nI 0) (nI 0) (nI 0) (-nI 1) (nI 0) (nI 0) (nI 0) (nI 0) (nI 0) f0 f1 f2 f3 f4 f5 f6 f7 f8 f9 f10 f11 f12 rest, 0, 0)) (List.forall_mem_cons.mpr ⟨dX5_octet_0, List.forall_mem_cons.mpr ⟨dX5_octet_1, List.forall_mem_cons.mpr ⟨dX5_octet_4, List.forall_mem_cons.mpr ⟨dX5_octet_5, fun _ h => absurd h List.not_mem_nil⟩⟩⟩⟩) rfl ?_
  refine xcall tn_X5_octet dX5_octet_6 rfl rfl (r_hasCellB _ _ _ _ _ _ _ _ _ _ _ _ _ _ _ _ _ _ _ _ _ _ _ _ _ _ hn s i hs) ?_
  show X 54 (9, [(0, .ref 0), (1, .int s), (2, .int i)], [.int (nI 0)], wD n (nI 1) (nI 2) (nI 0) (nI 0) (nI 0) (-nI 1) (nI 0) (nI 0) (nI 0) (nI 0) (nI 0) f0 f1 f2 f3 f4 f5 f6 f7 f8 f9 f10 f11 f12 rest, 0, 0) _
  refine xif (t := 15) tn_X5_octet dX5_octet_9 (by decide) (fun c1 => ?_) (fun c1 => ?_)
  · exact absurd (xc_t c1) (fun z => z (neq0 (by omega)))
  refine xs tn_X5_octet [(12, .bipush (-2), 2)] (st' := (14, [(0, .ref 0), (1, .int s), (2, .int i)], [.int (-nI 2)], wD n (nI 1) (nI 2) (nI 0) (nI 0) (nI 0) (-nI 1) (nI 0) (nI 0) (nI 0) (nI 0) (nI 0) f0 f1 f2 f3 f4 f5 f6 f7 f8 f9 f10 f11 f12 rest, 0, 0)) (List.forall_mem_cons.mpr ⟨dX5_octet_12, fun _ h => absurd h List.not_mem_nil⟩) rfl ?_
  exact xretE tn_X5_octet rfl dX5_octet_14 (rfl) (rfl)
set_option maxRecDepth 100000 in
set_option maxHeartbeats 4000000 in
theorem q_octet_ok (n : Nat) (f0 f1 f2 f3 f4 f5 f6 f7 f8 f9 f10 f11 f12 : Nat → Int32) (rest : mx_W) (hn : n ≤ 60) (h8 : 8 ≤ n) (j i : Nat) (hj : j < n) (hi : i < 32) : X 54 (0, [(0, .ref 0), (1, .int (nI j)), (2, .int (nI i))], [], wD n (nI 1) (nI 2) (nI 0) (nI 0) (nI 0) (-nI 1) (nI 0) (nI 0) (nI 0) (nI 0) (nI 0) f0 f1 f2 f3 f4 f5 f6 f7 f8 f9 f10 f11 f12 rest, 0, 0) (some (.int (f0 (32 * j + i))), wD n (nI 1) (nI 2) (nI 0) (nI 0) (nI 0) (-nI 1) (nI 0) (nI 0) (nI 0) (nI 0) (nI 0) f0 f1 f2 f3 f4 f5 f6 f7 f8 f9 f10 f11 f12 rest, 0, 0) := by
  refine xs tn_X5_octet [(0, .aload_n 0, 1), (1, .getfield 12, 3), (4, .iload_n 1, 1), (5, .iload_n 2, 1)] (st' := (6, [(0, .ref 0), (1, .int (nI j)), (2, .int (nI i))], [.int (nI i), .int (nI j), .ref 1], wD n (nI 1) (nI 2) (nI 0) (nI 0) (nI 0) (-nI 1) (nI 0) (nI 0) (nI 0) (nI 0) (nI 0) f0 f1 f2 f3 f4 f5 f6 f7 f8 f9 f10 f11 f12 rest, 0, 0)) (List.forall_mem_cons.mpr ⟨dX5_octet_0, List.forall_mem_cons.mpr ⟨dX5_octet_1, List.forall_mem_cons.mpr ⟨dX5_octet_4, List.forall_mem_cons.mpr ⟨dX5_octet_5, fun _ h => absurd h List.not_mem_nil⟩⟩⟩⟩) rfl ?_
  refine xcall tn_X5_octet dX5_octet_6 rfl rfl (r_hasCell _ _ _ _ _ _ _ _ _ _ _ _ _ _ _ _ _ _ _ _ _ _ _ _ _ _ hn j i (by omega) (by omega)) ?_
  show X 54 (9, [(0, .ref 0), (1, .int (nI j)), (2, .int (nI i))], [.int (nI 1)], wD n (nI 1) (nI 2) (nI 0) (nI 0) (nI 0) (-nI 1) (nI 0) (nI 0) (nI 0) (nI 0) (nI 0) f0 f1 f2 f3 f4 f5 f6 f7 f8 f9 f10 f11 f12 rest, 0, 0) _
  refine xif (t := 15) tn_X5_octet dX5_octet_9 (by decide) (fun c1 => ?_) (fun c1 => ?_)
  rotate_left
  · exact absurd (xc_f c1) (nne (b := 0) (by omega) (by omega) (by omega))
  refine xs tn_X5_octet [(15, .aload_n 0, 1), (16, .getfield 12, 3), (19, .iload_n 1, 1), (20, .iload_n 2, 1)] (st' := (21, [(0, .ref 0), (1, .int (nI j)), (2, .int (nI i))], [.int (nI i), .int (nI j), .ref 1], wD n (nI 1) (nI 2) (nI 0) (nI 0) (nI 0) (-nI 1) (nI 0) (nI 0) (nI 0) (nI 0) (nI 0) f0 f1 f2 f3 f4 f5 f6 f7 f8 f9 f10 f11 f12 rest, 0, 0)) (List.forall_mem_cons.mpr ⟨dX5_octet_15, List.forall_mem_cons.mpr ⟨dX5_octet_16, List.forall_mem_cons.mpr ⟨dX5_octet_19, List.forall_mem_cons.mpr ⟨dX5_octet_20, fun _ h => absurd h List.not_mem_nil⟩⟩⟩⟩) rfl ?_
  refine xcall tn_X5_octet dX5_octet_21 rfl rfl (r_cell _ _ _ _ _ _ _ _ _ _ _ _ _ _ _ _ _ _ _ _ _ _ _ _ _ _ hn j i (by omega) (by omega)) ?_
  show X 54 (24, [(0, .ref 0), (1, .int (nI j)), (2, .int (nI i))], [.int (f0 (32 * j + i))], wD n (nI 1) (nI 2) (nI 0) (nI 0) (nI 0) (-nI 1) (nI 0) (nI 0) (nI 0) (nI 0) (nI 0) f0 f1 f2 f3 f4 f5 f6 f7 f8 f9 f10 f11 f12 rest, 0, 0) _
  exact xretE tn_X5_octet rfl dX5_octet_24 (rfl) (rfl)
set_option maxRecDepth 100000 in
set_option maxHeartbeats 4000000 in
theorem q_whole_bad (n : Nat) (f0 f1 f2 f3 f4 f5 f6 f7 f8 f9 f10 f11 f12 : Nat → Int32) (rest : mx_W) (hn : n ≤ 60) (h8 : 8 ≤ n) (s : Int32) (hs : s < 0 ∨ nI n ≤ s) : X 82 (0, [(0, .ref 0), (1, .int s)], [], wD n (nI 1) (nI 2) (nI 0) (nI 0) (nI 0) (-nI 1) (nI 0) (nI 0) (nI 0) (nI 0) (nI 0) f0 f1 f2 f3 f4 f5 f6 f7 f8 f9 f10 f11 f12 rest, 0, 0) (some (.int (-nI 2)), wD n (nI 1) (nI 2) (nI 0) (nI 0) (nI 0) (-nI 1) (nI 0) (nI 0) (nI 0) (nI 0) (nI 0) f0 f1 f2 f3 f4 f5 f6 f7 f8 f9 f10 f11 f12 rest, 0, 0) := by
  refine xs tn_X5_whole [(0, .aload_n 0, 1), (1, .getfield 12, 3), (4, .iload_n 1, 1)] (st' := (5, [(0, .ref 0), (1, .int s)], [.int s, .ref 1], wD n (nI 1) (nI 2) (nI 0) (nI 0) (nI 0) (-nI 1) (nI 0) (nI 0) (nI 0) (nI 0) (nI 0) f0 f1 f2 f3 f4 f5 f6 f7 f8 f9 f10 f11 f12 rest, 0, 0)) (List.forall_mem_cons.mpr ⟨dX5_whole_0, List.forall_mem_cons.mpr ⟨dX5_whole_1, List.forall_mem_cons.mpr ⟨dX5_whole_4, fun _ h => absurd h List.not_mem_nil⟩⟩⟩) rfl ?_
  refine xcall tn_X5_whole dX5_whole_5 rfl rfl (r_hasB _ _ _ _ _ _ _ _ _ _ _ _ _ _ _ _ _ _ _ _ _ _ _ _ _ _ hn s hs) ?_
  show X 82 (8, [(0, .ref 0), (1, .int s)], [.int (nI 0)], wD n (nI 1) (nI 2) (nI 0) (nI 0) (nI 0) (-nI 1) (nI 0) (nI 0) (nI 0) (nI 0) (nI 0) f0 f1 f2 f3 f4 f5 f6 f7 f8 f9 f10 f11 f12 rest, 0, 0) _
  refine xif (t := 14) tn_X5_whole dX5_whole_8 (by decide) (fun c1 => ?_) (fun c1 => ?_)
  · exact absurd (xc_t c1) (fun z => z (neq0 (by omega)))
  refine xs tn_X5_whole [(11, .bipush (-2), 2)] (st' := (13, [(0, .ref 0), (1, .int s)], [.int (-nI 2)], wD n (nI 1) (nI 2) (nI 0) (nI 0) (nI 0) (-nI 1) (nI 0) (nI 0) (nI 0) (nI 0) (nI 0) f0 f1 f2 f3 f4 f5 f6 f7 f8 f9 f10 f11 f12 rest, 0, 0)) (List.forall_mem_cons.mpr ⟨dX5_whole_11, fun _ h => absurd h List.not_mem_nil⟩) rfl ?_
  exact xretE tn_X5_whole rfl dX5_whole_13 (rfl) (rfl)
set_option maxRecDepth 100000 in
set_option maxHeartbeats 4000000 in
theorem q_whole_ok (n : Nat) (f0 f1 f2 f3 f4 f5 f6 f7 f8 f9 f10 f11 f12 : Nat → Int32) (rest : mx_W) (hn : n ≤ 60) (h8 : 8 ≤ n) (j : Nat) (hj : j < n) : X 82 (0, [(0, .ref 0), (1, .int (nI j))], [], wD n (nI 1) (nI 2) (nI 0) (nI 0) (nI 0) (-nI 1) (nI 0) (nI 0) (nI 0) (nI 0) (nI 0) f0 f1 f2 f3 f4 f5 f6 f7 f8 f9 f10 f11 f12 rest, 0, 0) (some (.int (f2 j)), wD n (nI 1) (nI 2) (nI 0) (nI 0) (nI 0) (-nI 1) (nI 0) (nI 0) (nI 0) (nI 0) (nI 0) f0 f1 f2 f3 f4 f5 f6 f7 f8 f9 f10 f11 f12 rest, 0, 0) := by
  refine xs tn_X5_whole [(0, .aload_n 0, 1), (1, .getfield 12, 3), (4, .iload_n 1, 1)] (st' := (5, [(0, .ref 0), (1, .int (nI j))], [.int (nI j), .ref 1], wD n (nI 1) (nI 2) (nI 0) (nI 0) (nI 0) (-nI 1) (nI 0) (nI 0) (nI 0) (nI 0) (nI 0) f0 f1 f2 f3 f4 f5 f6 f7 f8 f9 f10 f11 f12 rest, 0, 0)) (List.forall_mem_cons.mpr ⟨dX5_whole_0, List.forall_mem_cons.mpr ⟨dX5_whole_1, List.forall_mem_cons.mpr ⟨dX5_whole_4, fun _ h => absurd h List.not_mem_nil⟩⟩⟩) rfl ?_
  refine xcall tn_X5_whole dX5_whole_5 rfl rfl (r_has _ _ _ _ _ _ _ _ _ _ _ _ _ _ _ _ _ _ _ _ _ _ _ _ _ _ hn j (by omega)) ?_
  show X 82 (8, [(0, .ref 0), (1, .int (nI j))], [.int (nI 1)], wD n (nI 1) (nI 2) (nI 0) (nI 0) (nI 0) (-nI 1) (nI 0) (nI 0) (nI 0) (nI 0) (nI 0) f0 f1 f2 f3 f4 f5 f6 f7 f8 f9 f10 f11 f12 rest, 0, 0) _
  refine xif (t := 14) tn_X5_whole dX5_whole_8 (by decide) (fun c1 => ?_) (fun c1 => ?_)
  rotate_left
  · exact absurd (xc_f c1) (nne (b := 0) (by omega) (by omega) (by omega))
  refine xs tn_X5_whole [(14, .aload_n 0, 1), (15, .getfield 12, 3), (18, .iload_n 1, 1)] (st' := (19, [(0, .ref 0), (1, .int (nI j))], [.int (nI j), .ref 1], wD n (nI 1) (nI 2) (nI 0) (nI 0) (nI 0) (-nI 1) (nI 0) (nI 0) (nI 0) (nI 0) (nI 0) f0 f1 f2 f3 f4 f5 f6 f7 f8 f9 f10 f11 f12 rest, 0, 0)) (List.forall_mem_cons.mpr ⟨dX5_whole_14, List.forall_mem_cons.mpr ⟨dX5_whole_15, List.forall_mem_cons.mpr ⟨dX5_whole_18, fun _ h => absurd h List.not_mem_nil⟩⟩⟩) rfl ?_
  refine xcall tn_X5_whole dX5_whole_19 rfl rfl (r_wholeSort _ _ _ _ _ _ _ _ _ _ _ _ _ _ _ _ _ _ _ _ _ _ _ _ _ _ hn j (by omega)) ?_
  show X 82 (22, [(0, .ref 0), (1, .int (nI j))], [.int (f2 j)], wD n (nI 1) (nI 2) (nI 0) (nI 0) (nI 0) (-nI 1) (nI 0) (nI 0) (nI 0) (nI 0) (nI 0) f0 f1 f2 f3 f4 f5 f6 f7 f8 f9 f10 f11 f12 rest, 0, 0) _
  exact xretE tn_X5_whole rfl dX5_whole_22 (rfl) (rfl)
set_option maxRecDepth 100000 in
set_option maxHeartbeats 4000000 in
theorem q_listed (n : Nat) (f0 f1 f2 f3 f4 f5 f6 f7 f8 f9 f10 f11 f12 : Nat → Int32) (rest : mx_W) (hn : n ≤ 60) (h8 : 8 ≤ n) (k : Int32) : X 130 (0, [(0, .ref 0), (1, .int k)], [], wD n (nI 1) (nI 2) (nI 0) (nI 0) (nI 0) (-nI 1) (nI 0) (nI 0) (nI 0) (nI 0) (nI 0) f0 f1 f2 f3 f4 f5 f6 f7 f8 f9 f10 f11 f12 rest, 0, 0) (some (.int (-nI 1)), wD n (nI 1) (nI 2) (nI 0) (nI 0) (nI 0) (-nI 1) (nI 0) (nI 0) (nI 0) (nI 0) (nI 0) f0 f1 f2 f3 f4 f5 f6 f7 f8 f9 f10 f11 f12 rest, 0, 0) := by
  refine xs tn_X5_listed [(0, .aload_n 0, 1), (1, .getfield 46, 3)] (st' := (4, [(0, .ref 0), (1, .int k)], [.int (nI 1)], wD n (nI 1) (nI 2) (nI 0) (nI 0) (nI 0) (-nI 1) (nI 0) (nI 0) (nI 0) (nI 0) (nI 0) f0 f1 f2 f3 f4 f5 f6 f7 f8 f9 f10 f11 f12 rest, 0, 0)) (List.forall_mem_cons.mpr ⟨dX5_listed_0, List.forall_mem_cons.mpr ⟨dX5_listed_1, fun _ h => absurd h List.not_mem_nil⟩⟩) rfl ?_
  refine xif (t := 11) tn_X5_listed dX5_listed_4 (by decide) (fun c1 => ?_) (fun c1 => ?_)
  · exact absurd (xc_t c1) (nne (b := 0) (by omega) (by omega) (by omega))
  refine xs tn_X5_listed [(7, .iload_n 1, 1)] (st' := (8, [(0, .ref 0), (1, .int k)], [.int k], wD n (nI 1) (nI 2) (nI 0) (nI 0) (nI 0) (-nI 1) (nI 0) (nI 0) (nI 0) (nI 0) (nI 0) f0 f1 f2 f3 f4 f5 f6 f7 f8 f9 f10 f11 f12 rest, 0, 0)) (List.forall_mem_cons.mpr ⟨dX5_listed_7, fun _ h => absurd h List.not_mem_nil⟩) rfl ?_
  refine xif (t := 13) tn_X5_listed dX5_listed_8 (by decide) (fun c2 => ?_) (fun c2 => ?_)
  · have c2 := xc_t c2
    dsimp only at c2
    refine xs tn_X5_listed [(13, .iconst 0, 1), (14, .istore_n 2, 1), (15, .iconst 0, 1), (16, .istore_n 3, 1), (17, .iload_n 3, 1), (18, .aload_n 0, 1), (19, .getfield 65, 3)] (st' := (22, [(3, .int (nI 0)), (2, .int (nI 0)), (0, .ref 0), (1, .int k)], [.int (nI 0), .int (nI 0)], wD n (nI 1) (nI 2) (nI 0) (nI 0) (nI 0) (-nI 1) (nI 0) (nI 0) (nI 0) (nI 0) (nI 0) f0 f1 f2 f3 f4 f5 f6 f7 f8 f9 f10 f11 f12 rest, 0, 0)) (List.forall_mem_cons.mpr ⟨dX5_listed_13, List.forall_mem_cons.mpr ⟨dX5_listed_14, List.forall_mem_cons.mpr ⟨dX5_listed_15, List.forall_mem_cons.mpr ⟨dX5_listed_16, List.forall_mem_cons.mpr ⟨dX5_listed_17, List.forall_mem_cons.mpr ⟨dX5_listed_18, List.forall_mem_cons.mpr ⟨dX5_listed_19, fun _ h => absurd h List.not_mem_nil⟩⟩⟩⟩⟩⟩⟩) rfl ?_
    refine xcmp (t := 49) tn_X5_listed dX5_listed_22 (by decide) (fun c3 => ?_) (fun c3 => ?_)
    rotate_left
    · exact absurd (nle (by omega) (by omega) (by omega)) (xc_f c3)
    refine xs tn_X5_listed [(49, .iconst (-1), 1)] (st' := (50, [(3, .int (nI 0)), (2, .int (nI 0)), (0, .ref 0), (1, .int k)], [.int (-nI 1)], wD n (nI 1) (nI 2) (nI 0) (nI 0) (nI 0) (-nI 1) (nI 0) (nI 0) (nI 0) (nI 0) (nI 0) f0 f1 f2 f3 f4 f5 f6 f7 f8 f9 f10 f11 f12 rest, 0, 0)) (List.forall_mem_cons.mpr ⟨dX5_listed_49, fun _ h => absurd h List.not_mem_nil⟩) rfl ?_
    exact xretE tn_X5_listed rfl dX5_listed_50 (rfl) (rfl)
  · have c2 := xc_f c2
    dsimp only at c2
    refine xs tn_X5_listed [(11, .iconst (-1), 1)] (st' := (12, [(0, .ref 0), (1, .int k)], [.int (-nI 1)], wD n (nI 1) (nI 2) (nI 0) (nI 0) (nI 0) (-nI 1) (nI 0) (nI 0) (nI 0) (nI 0) (nI 0) f0 f1 f2 f3 f4 f5 f6 f7 f8 f9 f10 f11 f12 rest, 0, 0)) (List.forall_mem_cons.mpr ⟨dX5_listed_11, fun _ h => absurd h List.not_mem_nil⟩) rfl ?_
    exact xretE tn_X5_listed rfl dX5_listed_12 (rfl) (rfl)
set_option maxRecDepth 100000 in
set_option maxHeartbeats 4000000 in
theorem r_countLost0_loop (n : Nat) (a0 a1 a2 a3 a4 a5 a6 a7 a8 a9 a10 : Int32) (f0 f1 f2 f3 f4 f5 f6 f7 f8 f9 f10 f11 f12 : Nat → Int32) (rest : mx_W) (hn : n ≤ 60) (hl : ∀ q, f1 q = nI 0) : ∀ (m i : Nat), i + m = n → X 19 (4, [(2, .int (nI i)), (1, .int (nI 0)), (0, .ref 1)], [], wD n a0 a1 a2 a3 a4 a5 a6 a7 a8 a9 a10 f0 f1 f2 f3 f4 f5 f6 f7 f8 f9 f10 f11 f12 rest, 0, 0) (some (.int (nI 0)), wD n a0 a1 a2 a3 a4 a5 a6 a7 a8 a9 a10 f0 f1 f2 f3 f4 f5 f6 f7 f8 f9 f10 f11 f12 rest, 0, 0) := by
  intro m
  induction m with
  | zero =>
    intro i hi
    refine xs tn_X4_countLost [(4, .iload_n 2, 1), (5, .aload_n 0, 1), (6, .getfield 18, 3)] (st' := (9, [(2, .int (nI i)), (1, .int (nI 0)), (0, .ref 1)], [.int (nI n), .int (nI i)], wD n a0 a1 a2 a3 a4 a5 a6 a7 a8 a9 a10 f0 f1 f2 f3 f4 f5 f6 f7 f8 f9 f10 f11 f12 rest, 0, 0)) (List.forall_mem_cons.mpr ⟨dX4_countLost_4, List.forall_mem_cons.mpr ⟨dX4_countLost_5, List.forall_mem_cons.mpr ⟨dX4_countLost_6, fun _ h => absurd h List.not_mem_nil⟩⟩⟩) rfl ?_
    refine xcmp (t := 30) tn_X4_countLost dX4_countLost_9 (by decide) (fun c1 => ?_) (fun c1 => ?_)
    rotate_left
    · exact absurd (nle (by omega) (by omega) (by omega)) (xc_f c1)
    refine xs tn_X4_countLost [(30, .iload_n 1, 1)] (st' := (31, [(2, .int (nI i)), (1, .int (nI 0)), (0, .ref 1)], [.int (nI 0)], wD n a0 a1 a2 a3 a4 a5 a6 a7 a8 a9 a10 f0 f1 f2 f3 f4 f5 f6 f7 f8 f9 f10 f11 f12 rest, 0, 0)) (List.forall_mem_cons.mpr ⟨dX4_countLost_30, fun _ h => absurd h List.not_mem_nil⟩) rfl ?_
    exact xretE tn_X4_countLost rfl dX4_countLost_31 (rfl) (rfl)
  | succ m ih =>
    intro i hi
    refine xs tn_X4_countLost [(4, .iload_n 2, 1), (5, .aload_n 0, 1), (6, .getfield 18, 3)] (st' := (9, [(2, .int (nI i)), (1, .int (nI 0)), (0, .ref 1)], [.int (nI n), .int (nI i)], wD n a0 a1 a2 a3 a4 a5 a6 a7 a8 a9 a10 f0 f1 f2 f3 f4 f5 f6 f7 f8 f9 f10 f11 f12 rest, 0, 0)) (List.forall_mem_cons.mpr ⟨dX4_countLost_4, List.forall_mem_cons.mpr ⟨dX4_countLost_5, List.forall_mem_cons.mpr ⟨dX4_countLost_6, fun _ h => absurd h List.not_mem_nil⟩⟩⟩) rfl ?_
    refine xcmp (t := 30) tn_X4_countLost dX4_countLost_9 (by decide) (fun c1 => ?_) (fun c1 => ?_)
    · exact absurd (xc_t c1) (nnle (by omega) (by omega) (by omega))
    refine xs tn_X4_countLost [(12, .aload_n 0, 1), (13, .getfield 28, 3), (16, .iload_n 2, 1)] (st' := (17, [(2, .int (nI i)), (1, .int (nI 0)), (0, .ref 1)], [.int (nI i), .ref 3], wD n a0 a1 a2 a3 a4 a5 a6 a7 a8 a9 a10 f0 f1 f2 f3 f4 f5 f6 f7 f8 f9 f10 f11 f12 rest, 0, 0)) (List.forall_mem_cons.mpr ⟨dX4_countLost_12, List.forall_mem_cons.mpr ⟨dX4_countLost_13, List.forall_mem_cons.mpr ⟨dX4_countLost_16, fun _ h => absurd h List.not_mem_nil⟩⟩⟩) rfl ?_
    refine xzldN tn_X4_countLost dX4_countLost_17 (N := n) (f := f1) rfl (by omega) (by omega) ?_
    refine xif (t := 24) tn_X4_countLost dX4_countLost_18 (by decide) (fun c2 => ?_) (fun c2 => ?_)
    rotate_left
    · exact absurd (hl i) (xc_f c2)
    refine xs tn_X4_countLost [(24, .iinc 2 1, 3)] (st' := (27, [(2, .int ((nI i) + (nI 1))), (1, .int (nI 0)), (0, .ref 1)], [], wD n a0 a1 a2 a3 a4 a5 a6 a7 a8 a9 a10 f0 f1 f2 f3 f4 f5 f6 f7 f8 f9 f10 f11 f12 rest, 0, 0)) (List.forall_mem_cons.mpr ⟨dX4_countLost_24, fun _ h => absurd h List.not_mem_nil⟩) rfl ?_
    rw [show (nI i) + (nI 1) = nI (i + 1) from (nI_add _ _).trans (congrArg nI (by omega))]
    refine xs tn_X4_countLost [(27, .goto (-23), 3)] (st' := (4, [(2, .int (nI (i + 1))), (1, .int (nI 0)), (0, .ref 1)], [], wD n a0 a1 a2 a3 a4 a5 a6 a7 a8 a9 a10 f0 f1 f2 f3 f4 f5 f6 f7 f8 f9 f10 f11 f12 rest, 0, 0)) (List.forall_mem_cons.mpr ⟨dX4_countLost_27, fun _ h => absurd h List.not_mem_nil⟩) rfl ?_
    exact ih (i + 1) (by omega)
set_option maxRecDepth 100000 in
set_option maxHeartbeats 4000000 in
theorem r_countLost0 (n : Nat) (a0 a1 a2 a3 a4 a5 a6 a7 a8 a9 a10 : Int32) (f0 f1 f2 f3 f4 f5 f6 f7 f8 f9 f10 f11 f12 : Nat → Int32) (rest : mx_W) (hn : n ≤ 60) (hl : ∀ q, f1 q = nI 0) : X 19 (0, [(0, .ref 1)], [], wD n a0 a1 a2 a3 a4 a5 a6 a7 a8 a9 a10 f0 f1 f2 f3 f4 f5 f6 f7 f8 f9 f10 f11 f12 rest, 0, 0) (some (.int (nI 0)), wD n a0 a1 a2 a3 a4 a5 a6 a7 a8 a9 a10 f0 f1 f2 f3 f4 f5 f6 f7 f8 f9 f10 f11 f12 rest, 0, 0) := by
  refine xs tn_X4_countLost [(0, .iconst 0, 1), (1, .istore_n 1, 1), (2, .iconst 0, 1), (3, .istore_n 2, 1)] (st' := (4, [(2, .int (nI 0)), (1, .int (nI 0)), (0, .ref 1)], [], wD n a0 a1 a2 a3 a4 a5 a6 a7 a8 a9 a10 f0 f1 f2 f3 f4 f5 f6 f7 f8 f9 f10 f11 f12 rest, 0, 0)) (List.forall_mem_cons.mpr ⟨dX4_countLost_0, List.forall_mem_cons.mpr ⟨dX4_countLost_1, List.forall_mem_cons.mpr ⟨dX4_countLost_2, List.forall_mem_cons.mpr ⟨dX4_countLost_3, fun _ h => absurd h List.not_mem_nil⟩⟩⟩⟩) rfl ?_
  exact r_countLost0_loop n a0 a1 a2 a3 a4 a5 a6 a7 a8 a9 a10 f0 f1 f2 f3 f4 f5 f6 f7 f8 f9 f10 f11 f12 rest hn hl n 0 (by omega)
set_option maxRecDepth 100000 in
set_option maxHeartbeats 4000000 in
theorem q_told_0 (n : Nat) (f0 f1 f2 f3 f4 f5 f6 f7 f8 f9 f10 f11 f12 : Nat → Int32) (rest : mx_W) (hn : n ≤ 60) (h8 : 8 ≤ n) (hf1 : ∀ q, f1 q = nI 0) : X 56 (0, [(0, .ref 0), (1, .int (nI 0))], [], wD n (nI 1) (nI 2) (nI 0) (nI 0) (nI 0) (-nI 1) (nI 0) (nI 0) (nI 0) (nI 0) (nI 0) f0 f1 f2 f3 f4 f5 f6 f7 f8 f9 f10 f11 f12 rest, 0, 0) (some (.int (nI 1)), wD n (nI 1) (nI 2) (nI 0) (nI 0) (nI 0) (-nI 1) (nI 0) (nI 0) (nI 0) (nI 0) (nI 0) f0 f1 f2 f3 f4 f5 f6 f7 f8 f9 f10 f11 f12 rest, 0, 0) := by
  refine xs tn_X5_told [(0, .iload_n 1, 1)] (st' := (1, [(0, .ref 0), (1, .int (nI 0))], [.int (nI 0)], wD n (nI 1) (nI 2) (nI 0) (nI 0) (nI 0) (-nI 1) (nI 0) (nI 0) (nI 0) (nI 0) (nI 0) f0 f1 f2 f3 f4 f5 f6 f7 f8 f9 f10 f11 f12 rest, 0, 0)) (List.forall_mem_cons.mpr ⟨dX5_told_0, fun _ h => absurd h List.not_mem_nil⟩) rfl ?_
  refine xtabI (t := 56) (v := 0) (off := 55) tn_X5_told dX5_told_1 (nI_toInt (by omega)) (by decide) (by decide) rfl (by decide) ?_
  refine xs tn_X5_told [(56, .aload_n 0, 1), (57, .getfield 46, 3)] (st' := (60, [(0, .ref 0), (1, .int (nI 0))], [.int (nI 1)], wD n (nI 1) (nI 2) (nI 0) (nI 0) (nI 0) (-nI 1) (nI 0) (nI 0) (nI 0) (nI 0) (nI 0) f0 f1 f2 f3 f4 f5 f6 f7 f8 f9 f10 f11 f12 rest, 0, 0)) (List.forall_mem_cons.mpr ⟨dX5_told_56, List.forall_mem_cons.mpr ⟨dX5_told_57, fun _ h => absurd h List.not_mem_nil⟩⟩) rfl ?_
  refine xif (t := 67) tn_X5_told dX5_told_60 (by decide) (fun c1 => ?_) (fun c1 => ?_)
  · exact absurd (xc_t c1) (nne (b := 0) (by omega) (by omega) (by omega))
  refine xs tn_X5_told [(63, .iconst 1, 1), (64, .goto 4, 3)] (st' := (68, [(0, .ref 0), (1, .int (nI 0))], [.int (nI 1)], wD n (nI 1) (nI 2) (nI 0) (nI 0) (nI 0) (-nI 1) (nI 0) (nI 0) (nI 0) (nI 0) (nI 0) f0 f1 f2 f3 f4 f5 f6 f7 f8 f9 f10 f11 f12 rest, 0, 0)) (List.forall_mem_cons.mpr ⟨dX5_told_63, List.forall_mem_cons.mpr ⟨dX5_told_64, fun _ h => absurd h List.not_mem_nil⟩⟩) rfl ?_
  exact xretE tn_X5_told rfl dX5_told_68 (rfl) (rfl)
set_option maxRecDepth 100000 in
set_option maxHeartbeats 4000000 in
theorem q_told_1 (n : Nat) (f0 f1 f2 f3 f4 f5 f6 f7 f8 f9 f10 f11 f12 : Nat → Int32) (rest : mx_W) (hn : n ≤ 60) (h8 : 8 ≤ n) (hf1 : ∀ q, f1 q = nI 0) : X 56 (0, [(0, .ref 0), (1, .int (nI 1))], [], wD n (nI 1) (nI 2) (nI 0) (nI 0) (nI 0) (-nI 1) (nI 0) (nI 0) (nI 0) (nI 0) (nI 0) f0 f1 f2 f3 f4 f5 f6 f7 f8 f9 f10 f11 f12 rest, 0, 0) (some (.int (nI 2)), wD n (nI 1) (nI 2) (nI 0) (nI 0) (nI 0) (-nI 1) (nI 0) (nI 0) (nI 0) (nI 0) (nI 0) f0 f1 f2 f3 f4 f5 f6 f7 f8 f9 f10 f11 f12 rest, 0, 0) := by
  refine xs tn_X5_told [(0, .iload_n 1, 1)] (st' := (1, [(0, .ref 0), (1, .int (nI 1))], [.int (nI 1)], wD n (nI 1) (nI 2) (nI 0) (nI 0) (nI 0) (-nI 1) (nI 0) (nI 0) (nI 0) (nI 0) (nI 0) f0 f1 f2 f3 f4 f5 f6 f7 f8 f9 f10 f11 f12 rest, 0, 0)) (List.forall_mem_cons.mpr ⟨dX5_told_0, fun _ h => absurd h List.not_mem_nil⟩) rfl ?_
  refine xtabI (t := 69) (v := 1) (off := 68) tn_X5_told dX5_told_1 (nI_toInt (by omega)) (by decide) (by decide) rfl (by decide) ?_
  refine xs tn_X5_told [(69, .aload_n 0, 1), (70, .getfield 50, 3)] (st' := (73, [(0, .ref 0), (1, .int (nI 1))], [.int (nI 2)], wD n (nI 1) (nI 2) (nI 0) (nI 0) (nI 0) (-nI 1) (nI 0) (nI 0) (nI 0) (nI 0) (nI 0) f0 f1 f2 f3 f4 f5 f6 f7 f8 f9 f10 f11 f12 rest, 0, 0)) (List.forall_mem_cons.mpr ⟨dX5_told_69, List.forall_mem_cons.mpr ⟨dX5_told_70, fun _ h => absurd h List.not_mem_nil⟩⟩) rfl ?_
  exact xretE tn_X5_told rfl dX5_told_73 (rfl) (rfl)
set_option maxRecDepth 100000 in
set_option maxHeartbeats 4000000 in
theorem q_told_2 (n : Nat) (f0 f1 f2 f3 f4 f5 f6 f7 f8 f9 f10 f11 f12 : Nat → Int32) (rest : mx_W) (hn : n ≤ 60) (h8 : 8 ≤ n) (hf1 : ∀ q, f1 q = nI 0) : X 56 (0, [(0, .ref 0), (1, .int (nI 2))], [], wD n (nI 1) (nI 2) (nI 0) (nI 0) (nI 0) (-nI 1) (nI 0) (nI 0) (nI 0) (nI 0) (nI 0) f0 f1 f2 f3 f4 f5 f6 f7 f8 f9 f10 f11 f12 rest, 0, 0) (some (.int (nI 0)), wD n (nI 1) (nI 2) (nI 0) (nI 0) (nI 0) (-nI 1) (nI 0) (nI 0) (nI 0) (nI 0) (nI 0) f0 f1 f2 f3 f4 f5 f6 f7 f8 f9 f10 f11 f12 rest, 0, 0) := by
  refine xs tn_X5_told [(0, .iload_n 1, 1)] (st' := (1, [(0, .ref 0), (1, .int (nI 2))], [.int (nI 2)], wD n (nI 1) (nI 2) (nI 0) (nI 0) (nI 0) (-nI 1) (nI 0) (nI 0) (nI 0) (nI 0) (nI 0) f0 f1 f2 f3 f4 f5 f6 f7 f8 f9 f10 f11 f12 rest, 0, 0)) (List.forall_mem_cons.mpr ⟨dX5_told_0, fun _ h => absurd h List.not_mem_nil⟩) rfl ?_
  refine xtabI (t := 74) (v := 2) (off := 73) tn_X5_told dX5_told_1 (nI_toInt (by omega)) (by decide) (by decide) rfl (by decide) ?_
  refine xs tn_X5_told [(74, .aload_n 0, 1), (75, .getfield 65, 3)] (st' := (78, [(0, .ref 0), (1, .int (nI 2))], [.int (nI 0)], wD n (nI 1) (nI 2) (nI 0) (nI 0) (nI 0) (-nI 1) (nI 0) (nI 0) (nI 0) (nI 0) (nI 0) f0 f1 f2 f3 f4 f5 f6 f7 f8 f9 f10 f11 f12 rest, 0, 0)) (List.forall_mem_cons.mpr ⟨dX5_told_74, List.forall_mem_cons.mpr ⟨dX5_told_75, fun _ h => absurd h List.not_mem_nil⟩⟩) rfl ?_
  exact xretE tn_X5_told rfl dX5_told_78 (rfl) (rfl)
set_option maxRecDepth 100000 in
set_option maxHeartbeats 4000000 in
theorem q_told_3 (n : Nat) (f0 f1 f2 f3 f4 f5 f6 f7 f8 f9 f10 f11 f12 : Nat → Int32) (rest : mx_W) (hn : n ≤ 60) (h8 : 8 ≤ n) (hf1 : ∀ q, f1 q = nI 0) : X 56 (0, [(0, .ref 0), (1, .int (nI 3))], [], wD n (nI 1) (nI 2) (nI 0) (nI 0) (nI 0) (-nI 1) (nI 0) (nI 0) (nI 0) (nI 0) (nI 0) f0 f1 f2 f3 f4 f5 f6 f7 f8 f9 f10 f11 f12 rest, 0, 0) (some (.int (nI 0)), wD n (nI 1) (nI 2) (nI 0) (nI 0) (nI 0) (-nI 1) (nI 0) (nI 0) (nI 0) (nI 0) (nI 0) f0 f1 f2 f3 f4 f5 f6 f7 f8 f9 f10 f11 f12 rest, 0, 0) := by
  refine xs tn_X5_told [(0, .iload_n 1, 1)] (st' := (1, [(0, .ref 0), (1, .int (nI 3))], [.int (nI 3)], wD n (nI 1) (nI 2) (nI 0) (nI 0) (nI 0) (-nI 1) (nI 0) (nI 0) (nI 0) (nI 0) (nI 0) f0 f1 f2 f3 f4 f5 f6 f7 f8 f9 f10 f11 f12 rest, 0, 0)) (List.forall_mem_cons.mpr ⟨dX5_told_0, fun _ h => absurd h List.not_mem_nil⟩) rfl ?_
  refine xtabI (t := 79) (v := 3) (off := 78) tn_X5_told dX5_told_1 (nI_toInt (by omega)) (by decide) (by decide) rfl (by decide) ?_
  refine xs tn_X5_told [(79, .aload_n 0, 1), (80, .getfield 109, 3)] (st' := (83, [(0, .ref 0), (1, .int (nI 3))], [.int (nI 0)], wD n (nI 1) (nI 2) (nI 0) (nI 0) (nI 0) (-nI 1) (nI 0) (nI 0) (nI 0) (nI 0) (nI 0) f0 f1 f2 f3 f4 f5 f6 f7 f8 f9 f10 f11 f12 rest, 0, 0)) (List.forall_mem_cons.mpr ⟨dX5_told_79, List.forall_mem_cons.mpr ⟨dX5_told_80, fun _ h => absurd h List.not_mem_nil⟩⟩) rfl ?_
  exact xretE tn_X5_told rfl dX5_told_83 (rfl) (rfl)
set_option maxRecDepth 100000 in
set_option maxHeartbeats 4000000 in
theorem q_told_4 (n : Nat) (f0 f1 f2 f3 f4 f5 f6 f7 f8 f9 f10 f11 f12 : Nat → Int32) (rest : mx_W) (hn : n ≤ 60) (h8 : 8 ≤ n) (hf1 : ∀ q, f1 q = nI 0) : X 56 (0, [(0, .ref 0), (1, .int (nI 4))], [], wD n (nI 1) (nI 2) (nI 0) (nI 0) (nI 0) (-nI 1) (nI 0) (nI 0) (nI 0) (nI 0) (nI 0) f0 f1 f2 f3 f4 f5 f6 f7 f8 f9 f10 f11 f12 rest, 0, 0) (some (.int (nI 0)), wD n (nI 1) (nI 2) (nI 0) (nI 0) (nI 0) (-nI 1) (nI 0) (nI 0) (nI 0) (nI 0) (nI 0) f0 f1 f2 f3 f4 f5 f6 f7 f8 f9 f10 f11 f12 rest, 0, 0) := by
  refine xs tn_X5_told [(0, .iload_n 1, 1)] (st' := (1, [(0, .ref 0), (1, .int (nI 4))], [.int (nI 4)], wD n (nI 1) (nI 2) (nI 0) (nI 0) (nI 0) (-nI 1) (nI 0) (nI 0) (nI 0) (nI 0) (nI 0) f0 f1 f2 f3 f4 f5 f6 f7 f8 f9 f10 f11 f12 rest, 0, 0)) (List.forall_mem_cons.mpr ⟨dX5_told_0, fun _ h => absurd h List.not_mem_nil⟩) rfl ?_
  refine xtabI (t := 84) (v := 4) (off := 83) tn_X5_told dX5_told_1 (nI_toInt (by omega)) (by decide) (by decide) rfl (by decide) ?_
  refine xs tn_X5_told [(84, .aload_n 0, 1), (85, .getfield 21, 3)] (st' := (88, [(0, .ref 0), (1, .int (nI 4))], [.ref 5], wD n (nI 1) (nI 2) (nI 0) (nI 0) (nI 0) (-nI 1) (nI 0) (nI 0) (nI 0) (nI 0) (nI 0) f0 f1 f2 f3 f4 f5 f6 f7 f8 f9 f10 f11 f12 rest, 0, 0)) (List.forall_mem_cons.mpr ⟨dX5_told_84, List.forall_mem_cons.mpr ⟨dX5_told_85, fun _ h => absurd h List.not_mem_nil⟩⟩) rfl ?_
  refine xcall tn_X5_told dX5_told_88 rfl rfl (r_jsize _ _ _ _ _ _ _ _ _ _ _ _ _ _ _ _ _ _ _ _ _ _ _ _ _ _ hn) ?_
  show X 56 (91, [(0, .ref 0), (1, .int (nI 4))], [.int (nI 0)], wD n (nI 1) (nI 2) (nI 0) (nI 0) (nI 0) (-nI 1) (nI 0) (nI 0) (nI 0) (nI 0) (nI 0) f0 f1 f2 f3 f4 f5 f6 f7 f8 f9 f10 f11 f12 rest, 0, 0) _
  exact xretE tn_X5_told rfl dX5_told_91 (rfl) (rfl)
set_option maxRecDepth 100000 in
set_option maxHeartbeats 4000000 in
theorem q_told_5 (n : Nat) (f0 f1 f2 f3 f4 f5 f6 f7 f8 f9 f10 f11 f12 : Nat → Int32) (rest : mx_W) (hn : n ≤ 60) (h8 : 8 ≤ n) (hf1 : ∀ q, f1 q = nI 0) : X 56 (0, [(0, .ref 0), (1, .int (nI 5))], [], wD n (nI 1) (nI 2) (nI 0) (nI 0) (nI 0) (-nI 1) (nI 0) (nI 0) (nI 0) (nI 0) (nI 0) f0 f1 f2 f3 f4 f5 f6 f7 f8 f9 f10 f11 f12 rest, 0, 0) (some (.int (nI 0)), wD n (nI 1) (nI 2) (nI 0) (nI 0) (nI 0) (-nI 1) (nI 0) (nI 0) (nI 0) (nI 0) (nI 0) f0 f1 f2 f3 f4 f5 f6 f7 f8 f9 f10 f11 f12 rest, 0, 0) := by
  refine xs tn_X5_told [(0, .iload_n 1, 1)] (st' := (1, [(0, .ref 0), (1, .int (nI 5))], [.int (nI 5)], wD n (nI 1) (nI 2) (nI 0) (nI 0) (nI 0) (-nI 1) (nI 0) (nI 0) (nI 0) (nI 0) (nI 0) f0 f1 f2 f3 f4 f5 f6 f7 f8 f9 f10 f11 f12 rest, 0, 0)) (List.forall_mem_cons.mpr ⟨dX5_told_0, fun _ h => absurd h List.not_mem_nil⟩) rfl ?_
  refine xtabI (t := 92) (v := 5) (off := 91) tn_X5_told dX5_told_1 (nI_toInt (by omega)) (by decide) (by decide) rfl (by decide) ?_
  refine xs tn_X5_told [(92, .aload_n 0, 1), (93, .getfield 144, 3)] (st' := (96, [(0, .ref 0), (1, .int (nI 5))], [.int (nI 0)], wD n (nI 1) (nI 2) (nI 0) (nI 0) (nI 0) (-nI 1) (nI 0) (nI 0) (nI 0) (nI 0) (nI 0) f0 f1 f2 f3 f4 f5 f6 f7 f8 f9 f10 f11 f12 rest, 0, 0)) (List.forall_mem_cons.mpr ⟨dX5_told_92, List.forall_mem_cons.mpr ⟨dX5_told_93, fun _ h => absurd h List.not_mem_nil⟩⟩) rfl ?_
  exact xretE tn_X5_told rfl dX5_told_96 (rfl) (rfl)
set_option maxRecDepth 100000 in
set_option maxHeartbeats 4000000 in
theorem q_told_6 (n : Nat) (f0 f1 f2 f3 f4 f5 f6 f7 f8 f9 f10 f11 f12 : Nat → Int32) (rest : mx_W) (hn : n ≤ 60) (h8 : 8 ≤ n) (hf1 : ∀ q, f1 q = nI 0) : X 56 (0, [(0, .ref 0), (1, .int (nI 6))], [], wD n (nI 1) (nI 2) (nI 0) (nI 0) (nI 0) (-nI 1) (nI 0) (nI 0) (nI 0) (nI 0) (nI 0) f0 f1 f2 f3 f4 f5 f6 f7 f8 f9 f10 f11 f12 rest, 0, 0) (some (.int (nI 0)), wD n (nI 1) (nI 2) (nI 0) (nI 0) (nI 0) (-nI 1) (nI 0) (nI 0) (nI 0) (nI 0) (nI 0) f0 f1 f2 f3 f4 f5 f6 f7 f8 f9 f10 f11 f12 rest, 0, 0) := by
  refine xs tn_X5_told [(0, .iload_n 1, 1)] (st' := (1, [(0, .ref 0), (1, .int (nI 6))], [.int (nI 6)], wD n (nI 1) (nI 2) (nI 0) (nI 0) (nI 0) (-nI 1) (nI 0) (nI 0) (nI 0) (nI 0) (nI 0) f0 f1 f2 f3 f4 f5 f6 f7 f8 f9 f10 f11 f12 rest, 0, 0)) (List.forall_mem_cons.mpr ⟨dX5_told_0, fun _ h => absurd h List.not_mem_nil⟩) rfl ?_
  refine xtabI (t := 97) (v := 6) (off := 96) tn_X5_told dX5_told_1 (nI_toInt (by omega)) (by decide) (by decide) rfl (by decide) ?_
  refine xs tn_X5_told [(97, .aload_n 0, 1), (98, .getfield 199, 3)] (st' := (101, [(0, .ref 0), (1, .int (nI 6))], [.int (nI 0)], wD n (nI 1) (nI 2) (nI 0) (nI 0) (nI 0) (-nI 1) (nI 0) (nI 0) (nI 0) (nI 0) (nI 0) f0 f1 f2 f3 f4 f5 f6 f7 f8 f9 f10 f11 f12 rest, 0, 0)) (List.forall_mem_cons.mpr ⟨dX5_told_97, List.forall_mem_cons.mpr ⟨dX5_told_98, fun _ h => absurd h List.not_mem_nil⟩⟩) rfl ?_
  exact xretE tn_X5_told rfl dX5_told_101 (rfl) (rfl)
set_option maxRecDepth 100000 in
set_option maxHeartbeats 4000000 in
theorem q_told_7 (n : Nat) (f0 f1 f2 f3 f4 f5 f6 f7 f8 f9 f10 f11 f12 : Nat → Int32) (rest : mx_W) (hn : n ≤ 60) (h8 : 8 ≤ n) (hf1 : ∀ q, f1 q = nI 0) : X 56 (0, [(0, .ref 0), (1, .int (nI 7))], [], wD n (nI 1) (nI 2) (nI 0) (nI 0) (nI 0) (-nI 1) (nI 0) (nI 0) (nI 0) (nI 0) (nI 0) f0 f1 f2 f3 f4 f5 f6 f7 f8 f9 f10 f11 f12 rest, 0, 0) (some (.int (-nI 1)), wD n (nI 1) (nI 2) (nI 0) (nI 0) (nI 0) (-nI 1) (nI 0) (nI 0) (nI 0) (nI 0) (nI 0) f0 f1 f2 f3 f4 f5 f6 f7 f8 f9 f10 f11 f12 rest, 0, 0) := by
  refine xs tn_X5_told [(0, .iload_n 1, 1)] (st' := (1, [(0, .ref 0), (1, .int (nI 7))], [.int (nI 7)], wD n (nI 1) (nI 2) (nI 0) (nI 0) (nI 0) (-nI 1) (nI 0) (nI 0) (nI 0) (nI 0) (nI 0) f0 f1 f2 f3 f4 f5 f6 f7 f8 f9 f10 f11 f12 rest, 0, 0)) (List.forall_mem_cons.mpr ⟨dX5_told_0, fun _ h => absurd h List.not_mem_nil⟩) rfl ?_
  refine xtabI (t := 102) (v := 7) (off := 101) tn_X5_told dX5_told_1 (nI_toInt (by omega)) (by decide) (by decide) rfl (by decide) ?_
  refine xs tn_X5_told [(102, .aload_n 0, 1), (103, .getfield 54, 3)] (st' := (106, [(0, .ref 0), (1, .int (nI 7))], [.int (-nI 1)], wD n (nI 1) (nI 2) (nI 0) (nI 0) (nI 0) (-nI 1) (nI 0) (nI 0) (nI 0) (nI 0) (nI 0) f0 f1 f2 f3 f4 f5 f6 f7 f8 f9 f10 f11 f12 rest, 0, 0)) (List.forall_mem_cons.mpr ⟨dX5_told_102, List.forall_mem_cons.mpr ⟨dX5_told_103, fun _ h => absurd h List.not_mem_nil⟩⟩) rfl ?_
  exact xretE tn_X5_told rfl dX5_told_106 (rfl) (rfl)
set_option maxRecDepth 100000 in
set_option maxHeartbeats 4000000 in
theorem q_told_8 (n : Nat) (f0 f1 f2 f3 f4 f5 f6 f7 f8 f9 f10 f11 f12 : Nat → Int32) (rest : mx_W) (hn : n ≤ 60) (h8 : 8 ≤ n) (hf1 : ∀ q, f1 q = nI 0) : X 56 (0, [(0, .ref 0), (1, .int (nI 8))], [], wD n (nI 1) (nI 2) (nI 0) (nI 0) (nI 0) (-nI 1) (nI 0) (nI 0) (nI 0) (nI 0) (nI 0) f0 f1 f2 f3 f4 f5 f6 f7 f8 f9 f10 f11 f12 rest, 0, 0) (some (.int (nI 0)), wD n (nI 1) (nI 2) (nI 0) (nI 0) (nI 0) (-nI 1) (nI 0) (nI 0) (nI 0) (nI 0) (nI 0) f0 f1 f2 f3 f4 f5 f6 f7 f8 f9 f10 f11 f12 rest, 0, 0) := by
  refine xs tn_X5_told [(0, .iload_n 1, 1)] (st' := (1, [(0, .ref 0), (1, .int (nI 8))], [.int (nI 8)], wD n (nI 1) (nI 2) (nI 0) (nI 0) (nI 0) (-nI 1) (nI 0) (nI 0) (nI 0) (nI 0) (nI 0) f0 f1 f2 f3 f4 f5 f6 f7 f8 f9 f10 f11 f12 rest, 0, 0)) (List.forall_mem_cons.mpr ⟨dX5_told_0, fun _ h => absurd h List.not_mem_nil⟩) rfl ?_
  refine xtabI (t := 107) (v := 8) (off := 106) tn_X5_told dX5_told_1 (nI_toInt (by omega)) (by decide) (by decide) rfl (by decide) ?_
  refine xs tn_X5_told [(107, .aload_n 0, 1), (108, .getfield 12, 3)] (st' := (111, [(0, .ref 0), (1, .int (nI 8))], [.ref 1], wD n (nI 1) (nI 2) (nI 0) (nI 0) (nI 0) (-nI 1) (nI 0) (nI 0) (nI 0) (nI 0) (nI 0) f0 f1 f2 f3 f4 f5 f6 f7 f8 f9 f10 f11 f12 rest, 0, 0)) (List.forall_mem_cons.mpr ⟨dX5_told_107, List.forall_mem_cons.mpr ⟨dX5_told_108, fun _ h => absurd h List.not_mem_nil⟩⟩) rfl ?_
  refine xcall tn_X5_told dX5_told_111 rfl rfl (r_countLost0 _ _ _ _ _ _ _ _ _ _ _ _ _ _ _ _ _ _ _ _ _ _ _ _ _ _ hn hf1) ?_
  show X 56 (114, [(0, .ref 0), (1, .int (nI 8))], [.int (nI 0)], wD n (nI 1) (nI 2) (nI 0) (nI 0) (nI 0) (-nI 1) (nI 0) (nI 0) (nI 0) (nI 0) (nI 0) f0 f1 f2 f3 f4 f5 f6 f7 f8 f9 f10 f11 f12 rest, 0, 0) _
  exact xretE tn_X5_told rfl dX5_told_114 (rfl) (rfl)
set_option maxRecDepth 100000 in
set_option maxHeartbeats 4000000 in
theorem q_told_9 (n : Nat) (f0 f1 f2 f3 f4 f5 f6 f7 f8 f9 f10 f11 f12 : Nat → Int32) (rest : mx_W) (hn : n ≤ 60) (h8 : 8 ≤ n) (hf1 : ∀ q, f1 q = nI 0) : X 56 (0, [(0, .ref 0), (1, .int (nI 9))], [], wD n (nI 1) (nI 2) (nI 0) (nI 0) (nI 0) (-nI 1) (nI 0) (nI 0) (nI 0) (nI 0) (nI 0) f0 f1 f2 f3 f4 f5 f6 f7 f8 f9 f10 f11 f12 rest, 0, 0) (some (.int (nI n)), wD n (nI 1) (nI 2) (nI 0) (nI 0) (nI 0) (-nI 1) (nI 0) (nI 0) (nI 0) (nI 0) (nI 0) f0 f1 f2 f3 f4 f5 f6 f7 f8 f9 f10 f11 f12 rest, 0, 0) := by
  refine xs tn_X5_told [(0, .iload_n 1, 1)] (st' := (1, [(0, .ref 0), (1, .int (nI 9))], [.int (nI 9)], wD n (nI 1) (nI 2) (nI 0) (nI 0) (nI 0) (-nI 1) (nI 0) (nI 0) (nI 0) (nI 0) (nI 0) f0 f1 f2 f3 f4 f5 f6 f7 f8 f9 f10 f11 f12 rest, 0, 0)) (List.forall_mem_cons.mpr ⟨dX5_told_0, fun _ h => absurd h List.not_mem_nil⟩) rfl ?_
  refine xtabI (t := 115) (v := 9) (off := 114) tn_X5_told dX5_told_1 (nI_toInt (by omega)) (by decide) (by decide) rfl (by decide) ?_
  refine xs tn_X5_told [(115, .aload_n 0, 1), (116, .getfield 12, 3)] (st' := (119, [(0, .ref 0), (1, .int (nI 9))], [.ref 1], wD n (nI 1) (nI 2) (nI 0) (nI 0) (nI 0) (-nI 1) (nI 0) (nI 0) (nI 0) (nI 0) (nI 0) f0 f1 f2 f3 f4 f5 f6 f7 f8 f9 f10 f11 f12 rest, 0, 0)) (List.forall_mem_cons.mpr ⟨dX5_told_115, List.forall_mem_cons.mpr ⟨dX5_told_116, fun _ h => absurd h List.not_mem_nil⟩⟩) rfl ?_
  refine xcall tn_X5_told dX5_told_119 rfl rfl (r_count _ _ _ _ _ _ _ _ _ _ _ _ _ _ _ _ _ _ _ _ _ _ _ _ _ _ hn) ?_
  show X 56 (122, [(0, .ref 0), (1, .int (nI 9))], [.int (nI n)], wD n (nI 1) (nI 2) (nI 0) (nI 0) (nI 0) (-nI 1) (nI 0) (nI 0) (nI 0) (nI 0) (nI 0) f0 f1 f2 f3 f4 f5 f6 f7 f8 f9 f10 f11 f12 rest, 0, 0) _
  exact xretE tn_X5_told rfl dX5_told_122 (rfl) (rfl)
set_option maxRecDepth 100000 in
set_option maxHeartbeats 4000000 in
theorem q_told_bad (n : Nat) (f0 f1 f2 f3 f4 f5 f6 f7 f8 f9 f10 f11 f12 : Nat → Int32) (rest : mx_W) (hn : n ≤ 60) (h8 : 8 ≤ n) (k : Int32) (hk : k.toInt < 0 ∨ 9 < k.toInt) : X 56 (0, [(0, .ref 0), (1, .int k)], [], wD n (nI 1) (nI 2) (nI 0) (nI 0) (nI 0) (-nI 1) (nI 0) (nI 0) (nI 0) (nI 0) (nI 0) f0 f1 f2 f3 f4 f5 f6 f7 f8 f9 f10 f11 f12 rest, 0, 0) (some (.int (-nI 2)), wD n (nI 1) (nI 2) (nI 0) (nI 0) (nI 0) (-nI 1) (nI 0) (nI 0) (nI 0) (nI 0) (nI 0) f0 f1 f2 f3 f4 f5 f6 f7 f8 f9 f10 f11 f12 rest, 0, 0) := by
  refine xs tn_X5_told [(0, .iload_n 1, 1)] (st' := (1, [(0, .ref 0), (1, .int k)], [.int k], wD n (nI 1) (nI 2) (nI 0) (nI 0) (nI 0) (-nI 1) (nI 0) (nI 0) (nI 0) (nI 0) (nI 0) f0 f1 f2 f3 f4 f5 f6 f7 f8 f9 f10 f11 f12 rest, 0, 0)) (List.forall_mem_cons.mpr ⟨dX5_told_0, fun _ h => absurd h List.not_mem_nil⟩) rfl ?_
  refine xtabO (t := 123) tn_X5_told dX5_told_1 (hk) (by decide) ?_
  refine xs tn_X5_told [(123, .bipush (-2), 2)] (st' := (125, [(0, .ref 0), (1, .int k)], [.int (-nI 2)], wD n (nI 1) (nI 2) (nI 0) (nI 0) (nI 0) (-nI 1) (nI 0) (nI 0) (nI 0) (nI 0) (nI 0) f0 f1 f2 f3 f4 f5 f6 f7 f8 f9 f10 f11 f12 rest, 0, 0)) (List.forall_mem_cons.mpr ⟨dX5_told_123, fun _ h => absurd h List.not_mem_nil⟩) rfl ?_
  exact xretE tn_X5_told rfl dX5_told_125 (rfl) (rfl)
