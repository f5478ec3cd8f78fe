/-! the class: leaves -/
/-- the cells of a PackDisk of n sectors; a: on, next, rows, generation, openKind, openLength, repaired, found, the journal's size, the gaps' size and inverse; f: the arrays in the order of their making -/
def wD (n : Nat) (a0 a1 a2 a3 a4 a5 a6 a7 a8 a9 a10 : Int32) (f0 f1 f2 f3 f4 f5 f6 f7 f8 f9 f10 f11 f12 : Nat → Int32) (rest : mx_W) : mx_W := .inr (4, [.ref 1, .ref 5, .ref 9, .ref 11, .ref 16, .ref 17, .int a0, .int a1, .int a2, .int a3, .int a4, .int a5, .int a6, .int a7]) :: .inr (3, [.int (nI n), .ref 2, .ref 3, .ref 4]) :: .inl (0, 32 * n, .inl f0) :: .inl (1, n, .inl f1) :: .inl (0, n, .inl f2) :: .inr (2, [.ref 6, .ref 7, .ref 8, .int a8]) :: .inl (0, 60, .inl f3) :: .inl (0, 1920, .inl f4) :: .inl (1, 60, .inl f5) :: .inr (0, [.ref 10]) :: .inl (0, 32, .inl f6) :: .inr (1, [.ref 12, .ref 13, .ref 14, .ref 15, .int a9, .int a10]) :: .inl (0, 4, .inl f7) :: .inl (0, 4, .inl f8) :: .inl (0, 4, .inl f9) :: .inl (0, 48, .inl f10) :: .inl (0, 96, .inl f11) :: .inl (0, 4, .inl f12) :: rest
/-- the cells of a PackDiskModel; b: thrown, isOn, next, rows, generation, repaired, found, kind, size, writes, unknowns; g: its arrays -/
def wM (n : Nat) (b0 b1 b2 b3 b4 b5 b6 b7 b8 b9 b10 : Int32) (g0 g1 g2 g3 g4 g5 g6 g7 g8 g9 g10 g11 g12 g13 g14 : Nat → Int32) (rest : mx_W) : mx_W := .inr (5, [.int b0, .int (nI n), .ref 19, .ref 20, .int b1, .int b2, .int b3, .int b4, .int b5, .int b6, .int b7, .int b8, .ref 21, .int b9, .ref 22, .ref 23, .ref 24, .ref 25, .ref 26, .int b10, .ref 27, .ref 28, .ref 29, .ref 30, .ref 31, .ref 32, .ref 33]) :: .inl (0, 1920, .inl g0) :: .inl (1, 60, .inl g1) :: .inl (0, 96, .inl g2) :: .inl (0, 64, .inl g3) :: .inl (0, 2048, .inl g4) :: .inl (1, 64, .inl g5) :: .inl (0, 32, .inl g6) :: .inl (0, 4, .inl g7) :: .inl (0, 4, .inl g8) :: .inl (0, 4, .inl g9) :: .inl (0, 4, .inl g10) :: .inl (0, 24, .inl g11) :: .inl (0, 24, .inl g12) :: .inl (0, 24, .inl g13) :: .inl (0, 24, .inl g14) :: rest
set_option maxRecDepth 100000 in
set_option maxHeartbeats 4000000 in
theorem r_count (n : Nat) (a0 a1 a2 a3 a4 a5 a6 a7 a8 a9 a10 : Int32) (f0 f1 f2 f3 f4 f5 f6 f7 f8 f9 f10 f11 f12 : Nat → Int32) (rest : mx_W) (hn : n ≤ 60)  : X 18 (0, [(0, .ref 1)], [], wD n a0 a1 a2 a3 a4 a5 a6 a7 a8 a9 a10 f0 f1 f2 f3 f4 f5 f6 f7 f8 f9 f10 f11 f12 rest, 0, 0) (some (.int (nI n)), wD n a0 a1 a2 a3 a4 a5 a6 a7 a8 a9 a10 f0 f1 f2 f3 f4 f5 f6 f7 f8 f9 f10 f11 f12 rest, 0, 0) := by
  refine xs tn_X4_count [(0, .aload_n 0, 1), (1, .getfield 18, 3)] (st' := (4, [(0, .ref 1)], [.int (nI n)], wD n a0 a1 a2 a3 a4 a5 a6 a7 a8 a9 a10 f0 f1 f2 f3 f4 f5 f6 f7 f8 f9 f10 f11 f12 rest, 0, 0)) (List.forall_mem_cons.mpr ⟨dX4_count_0, List.forall_mem_cons.mpr ⟨dX4_count_1, fun _ h => absurd h List.not_mem_nil⟩⟩) rfl ?_
  exact xretE tn_X4_count rfl dX4_count_4 (rfl) (rfl)
set_option maxRecDepth 100000 in
set_option maxHeartbeats 4000000 in
theorem r_has (n : Nat) (a0 a1 a2 a3 a4 a5 a6 a7 a8 a9 a10 : Int32) (f0 f1 f2 f3 f4 f5 f6 f7 f8 f9 f10 f11 f12 : Nat → Int32) (rest : mx_W) (hn : n ≤ 60) (j : Nat) (hj : j < n) : X 20 (0, [(0, .ref 1), (1, .int (nI j))], [], wD n a0 a1 a2 a3 a4 a5 a6 a7 a8 a9 a10 f0 f1 f2 f3 f4 f5 f6 f7 f8 f9 f10 f11 f12 rest, 0, 0) (some (.int (nI 1)), wD n a0 a1 a2 a3 a4 a5 a6 a7 a8 a9 a10 f0 f1 f2 f3 f4 f5 f6 f7 f8 f9 f10 f11 f12 rest, 0, 0) := by
  refine xs tn_X4_has [(0, .iload_n 1, 1)] (st' := (1, [(0, .ref 1), (1, .int (nI j))], [.int (nI j)], wD n a0 a1 a2 a3 a4 a5 a6 a7 a8 a9 a10 f0 f1 f2 f3 f4 f5 f6 f7 f8 f9 f10 f11 f12 rest, 0, 0)) (List.forall_mem_cons.mpr ⟨dX4_has_0, fun _ h => absurd h List.not_mem_nil⟩) rfl ?_
  refine xif (t := 16) tn_X4_has dX4_has_1 (by decide) (fun c1 => ?_) (fun c1 => ?_)
  · exact absurd (xc_t c1) (nnlt (b := 0) (by omega) (by omega) (by omega))
  refine xs tn_X4_has [(4, .iload_n 1, 1), (5, .aload_n 0, 1), (6, .getfield 18, 3)] (st' := (9, [(0, .ref 1), (1, .int (nI j))], [.int (nI n), .int (nI j)], wD n a0 a1 a2 a3 a4 a5 a6 a7 a8 a9 a10 f0 f1 f2 f3 f4 f5 f6 f7 f8 f9 f10 f11 f12 rest, 0, 0)) (List.forall_mem_cons.mpr ⟨dX4_has_4, List.forall_mem_cons.mpr ⟨dX4_has_5, List.forall_mem_cons.mpr ⟨dX4_has_6, fun _ h => absurd h List.not_mem_nil⟩⟩⟩) rfl ?_
  refine xcmp (t := 16) tn_X4_has dX4_has_9 (by decide) (fun c2 => ?_) (fun c2 => ?_)
  · exact absurd (xc_t c2) (nnle (by omega) (by omega) (by omega))
  refine xs tn_X4_has [(12, .iconst 1, 1), (13, .goto 4, 3)] (st' := (17, [(0, .ref 1), (1, .int (nI j))], [.int (nI 1)], wD n a0 a1 a2 a3 a4 a5 a6 a7 a8 a9 a10 f0 f1 f2 f3 f4 f5 f6 f7 f8 f9 f10 f11 f12 rest, 0, 0)) (List.forall_mem_cons.mpr ⟨dX4_has_12, List.forall_mem_cons.mpr ⟨dX4_has_13, fun _ h => absurd h List.not_mem_nil⟩⟩) rfl ?_
  exact xretzE tn_X4_has rfl (by decide) dX4_has_17 (rfl) (rfl)
set_option maxRecDepth 100000 in
set_option maxHeartbeats 4000000 in
theorem r_has_lo (n : Nat) (a0 a1 a2 a3 a4 a5 a6 a7 a8 a9 a10 : Int32) (f0 f1 f2 f3 f4 f5 f6 f7 f8 f9 f10 f11 f12 : Nat → Int32) (rest : mx_W) (hn : n ≤ 60) (s : Int32) (hs : s < 0) : X 20 (0, [(0, .ref 1), (1, .int s)], [], wD n a0 a1 a2 a3 a4 a5 a6 a7 a8 a9 a10 f0 f1 f2 f3 f4 f5 f6 f7 f8 f9 f10 f11 f12 rest, 0, 0) (some (.int (nI 0)), wD n a0 a1 a2 a3 a4 a5 a6 a7 a8 a9 a10 f0 f1 f2 f3 f4 f5 f6 f7 f8 f9 f10 f11 f12 rest, 0, 0) := by
  refine xs tn_X4_has [(0, .iload_n 1, 1)] (st' := (1, [(0, .ref 1), (1, .int s)], [.int s], wD n a0 a1 a2 a3 a4 a5 a6 a7 a8 a9 a10 f0 f1 f2 f3 f4 f5 f6 f7 f8 f9 f10 f11 f12 rest, 0, 0)) (List.forall_mem_cons.mpr ⟨dX4_has_0, fun _ h => absurd h List.not_mem_nil⟩) rfl ?_
  refine xif (t := 16) tn_X4_has dX4_has_1 (by decide) (fun c1 => ?_) (fun c1 => ?_)
  rotate_left
  · exact absurd (hs) (xc_f c1)
  refine xs tn_X4_has [(16, .iconst 0, 1)] (st' := (17, [(0, .ref 1), (1, .int s)], [.int (nI 0)], wD n a0 a1 a2 a3 a4 a5 a6 a7 a8 a9 a10 f0 f1 f2 f3 f4 f5 f6 f7 f8 f9 f10 f11 f12 rest, 0, 0)) (List.forall_mem_cons.mpr ⟨dX4_has_16, fun _ h => absurd h List.not_mem_nil⟩) rfl ?_
  exact xretzE tn_X4_has rfl (by decide) dX4_has_17 (rfl) (rfl)
set_option maxRecDepth 100000 in
set_option maxHeartbeats 4000000 in
theorem r_has_hi (n : Nat) (a0 a1 a2 a3 a4 a5 a6 a7 a8 a9 a10 : Int32) (f0 f1 f2 f3 f4 f5 f6 f7 f8 f9 f10 f11 f12 : Nat → Int32) (rest : mx_W) (hn : n ≤ 60) (s : Int32) (hs0 : ¬ s < 0) (hs : nI n ≤ s) : X 20 (0, [(0, .ref 1), (1, .int s)], [], wD n a0 a1 a2 a3 a4 a5 a6 a7 a8 a9 a10 f0 f1 f2 f3 f4 f5 f6 f7 f8 f9 f10 f11 f12 rest, 0, 0) (some (.int (nI 0)), wD n a0 a1 a2 a3 a4 a5 a6 a7 a8 a9 a10 f0 f1 f2 f3 f4 f5 f6 f7 f8 f9 f10 f11 f12 rest, 0, 0) := by
  refine xs tn_X4_has [(0, .iload_n 1, 1)] (st' := (1, [(0, .ref 1), (1, .int s)], [.int s], wD n a0 a1 a2 a3 a4 a5 a6 a7 a8 a9 a10 f0 f1 f2 f3 f4 f5 f6 f7 f8 f9 f10 f11 f12 rest, 0, 0)) (List.forall_mem_cons.mpr ⟨dX4_has_0, fun _ h => absurd h List.not_mem_nil⟩) rfl ?_
  refine xif (t := 16) tn_X4_has dX4_has_1 (by decide) (fun c1 => ?_) (fun c1 => ?_)
  · exact absurd (xc_t c1) (hs0)
  refine xs tn_X4_has [(4, .iload_n 1, 1), (5, .aload_n 0, 1), (6, .getfield 18, 3)] (st' := (9, [(0, .ref 1), (1, .int s)], [.int (nI n), .int s], wD n a0 a1 a2 a3 a4 a5 a6 a7 a8 a9 a10 f0 f1 f2 f3 f4 f5 f6 f7 f8 f9 f10 f11 f12 rest, 0, 0)) (List.forall_mem_cons.mpr ⟨dX4_has_4, List.forall_mem_cons.mpr ⟨dX4_has_5, List.forall_mem_cons.mpr ⟨dX4_has_6, fun _ h => absurd h List.not_mem_nil⟩⟩⟩) rfl ?_
  refine xcmp (t := 16) tn_X4_has dX4_has_9 (by decide) (fun c2 => ?_) (fun c2 => ?_)
  rotate_left
  · exact absurd (hs) (xc_f c2)
  refine xs tn_X4_has [(16, .iconst 0, 1)] (st' := (17, [(0, .ref 1), (1, .int s)], [.int (nI 0)], wD n a0 a1 a2 a3 a4 a5 a6 a7 a8 a9 a10 f0 f1 f2 f3 f4 f5 f6 f7 f8 f9 f10 f11 f12 rest, 0, 0)) (List.forall_mem_cons.mpr ⟨dX4_has_16, fun _ h => absurd h List.not_mem_nil⟩) rfl ?_
  exact xretzE tn_X4_has rfl (by decide) dX4_has_17 (rfl) (rfl)
theorem r_hasB (n : Nat) (a0 a1 a2 a3 a4 a5 a6 a7 a8 a9 a10 : Int32) (f0 f1 f2 f3 f4 f5 f6 f7 f8 f9 f10 f11 f12 : Nat → Int32) (rest : mx_W) (hn : n ≤ 60) (s : Int32) (hs : s < 0 ∨ nI n ≤ s) : X 20 (0, [(0, .ref 1), (1, .int s)], [], wD n a0 a1 a2 a3 a4 a5 a6 a7 a8 a9 a10 f0 f1 f2 f3 f4 f5 f6 f7 f8 f9 f10 f11 f12 rest, 0, 0) (some (.int (nI 0)), wD n a0 a1 a2 a3 a4 a5 a6 a7 a8 a9 a10 f0 f1 f2 f3 f4 f5 f6 f7 f8 f9 f10 f11 f12 rest, 0, 0) := by
  by_cases h0 : s < 0
  · exact r_has_lo n a0 a1 a2 a3 a4 a5 a6 a7 a8 a9 a10 f0 f1 f2 f3 f4 f5 f6 f7 f8 f9 f10 f11 f12 rest hn s h0
  · exact r_has_hi n a0 a1 a2 a3 a4 a5 a6 a7 a8 a9 a10 f0 f1 f2 f3 f4 f5 f6 f7 f8 f9 f10 f11 f12 rest hn s h0 (hs.resolve_left h0)
set_option maxRecDepth 100000 in
set_option maxHeartbeats 4000000 in
theorem r_hasCell (n : Nat) (a0 a1 a2 a3 a4 a5 a6 a7 a8 a9 a10 : Int32) (f0 f1 f2 f3 f4 f5 f6 f7 f8 f9 f10 f11 f12 : Nat → Int32) (rest : mx_W) (hn : n ≤ 60) (j i : Nat) (hj : j < n) (hi : i < 32) : X 21 (0, [(0, .ref 1), (1, .int (nI j)), (2, .int (nI i))], [], wD n a0 a1 a2 a3 a4 a5 a6 a7 a8 a9 a10 f0 f1 f2 f3 f4 f5 f6 f7 f8 f9 f10 f11 f12 rest, 0, 0) (some (.int (nI 1)), wD n a0 a1 a2 a3 a4 a5 a6 a7 a8 a9 a10 f0 f1 f2 f3 f4 f5 f6 f7 f8 f9 f10 f11 f12 rest, 0, 0) := by
  refine xs tn_X4_hasCell [(0, .iload_n 1, 1)] (st' := (1, [(0, .ref 1), (1, .int (nI j)), (2, .int (nI i))], [.int (nI j)], wD n a0 a1 a2 a3 a4 a5 a6 a7 a8 a9 a10 f0 f1 f2 f3 f4 f5 f6 f7 f8 f9 f10 f11 f12 rest, 0, 0)) (List.forall_mem_cons.mpr ⟨dX4_hasCell_0, fun _ h => absurd h List.not_mem_nil⟩) rfl ?_
  refine xif (t := 26) tn_X4_hasCell dX4_hasCell_1 (by decide) (fun c1 => ?_) (fun c1 => ?_)
  · exact absurd (xc_t c1) (nnlt (b := 0) (by omega) (by omega) (by omega))
  refine xs tn_X4_hasCell [(4, .iload_n 1, 1), (5, .aload_n 0, 1), (6, .getfield 18, 3)] (st' := (9, [(0, .ref 1), (1, .int (nI j)), (2, .int (nI i))], [.int (nI n), .int (nI j)], wD n a0 a1 a2 a3 a4 a5 a6 a7 a8 a9 a10 f0 f1 f2 f3 f4 f5 f6 f7 f8 f9 f10 f11 f12 rest, 0, 0)) (List.forall_mem_cons.mpr ⟨dX4_hasCell_4, List.forall_mem_cons.mpr ⟨dX4_hasCell_5, List.forall_mem_cons.mpr ⟨dX4_hasCell_6, fun _ h => absurd h List.not_mem_nil⟩⟩⟩) rfl ?_
  refine xcmp (t := 26) tn_X4_hasCell dX4_hasCell_9 (by decide) (fun c2 => ?_) (fun c2 => ?_)
  · exact absurd (xc_t c2) (nnle (by omega) (by omega) (by omega))
  refine xs tn_X4_hasCell [(12, .iload_n 2, 1)] (st' := (13, [(0, .ref 1), (1, .int (nI j)), (2, .int (nI i))], [.int (nI i)], wD n a0 a1 a2 a3 a4 a5 a6 a7 a8 a9 a10 f0 f1 f2 f3 f4 f5 f6 f7 f8 f9 f10 f11 f12 rest, 0, 0)) (List.forall_mem_cons.mpr ⟨dX4_hasCell_12, fun _ h => absurd h List.not_mem_nil⟩) rfl ?_
  refine xif (t := 26) tn_X4_hasCell dX4_hasCell_13 (by decide) (fun c3 => ?_) (fun c3 => ?_)
  · exact absurd (xc_t c3) (nnlt (b := 0) (by omega) (by omega) (by omega))
  refine xs tn_X4_hasCell [(16, .iload_n 2, 1), (17, .bipush 32, 2)] (st' := (19, [(0, .ref 1), (1, .int (nI j)), (2, .int (nI i))], [.int (nI 32), .int (nI i)], wD n a0 a1 a2 a3 a4 a5 a6 a7 a8 a9 a10 f0 f1 f2 f3 f4 f5 f6 f7 f8 f9 f10 f11 f12 rest, 0, 0)) (List.forall_mem_cons.mpr ⟨dX4_hasCell_16, List.forall_mem_cons.mpr ⟨dX4_hasCell_17, fun _ h => absurd h List.not_mem_nil⟩⟩) rfl ?_
  refine xcmp (t := 26) tn_X4_hasCell dX4_hasCell_19 (by decide) (fun c4 => ?_) (fun c4 => ?_)
  · exact absurd (xc_t c4) (nnle (by omega) (by omega) (by omega))
  refine xs tn_X4_hasCell [(22, .iconst 1, 1), (23, .goto 4, 3)] (st' := (27, [(0, .ref 1), (1, .int (nI j)), (2, .int (nI i))], [.int (nI 1)], wD n a0 a1 a2 a3 a4 a5 a6 a7 a8 a9 a10 f0 f1 f2 f3 f4 f5 f6 f7 f8 f9 f10 f11 f12 rest, 0, 0)) (List.forall_mem_cons.mpr ⟨dX4_hasCell_22, List.forall_mem_cons.mpr ⟨dX4_hasCell_23, fun _ h => absurd h List.not_mem_nil⟩⟩) rfl ?_
  exact xretzE tn_X4_hasCell rfl (by decide) dX4_hasCell_27 (rfl) (rfl)
theorem nz_ge {s : Int32} {n : Nat} (hs : s < 0 ∨ nI n ≤ s) (h0 : ¬ s < 0) : nI n ≤ s := hs.resolve_left h0
set_option maxRecDepth 100000 in
set_option maxHeartbeats 4000000 in
theorem r_hasCellB (n : Nat) (a0 a1 a2 a3 a4 a5 a6 a7 a8 a9 a10 : Int32) (f0 f1 f2 f3 f4 f5 f6 f7 f8 f9 f10 f11 f12 : Nat → Int32) (rest : mx_W) (hn : n ≤ 60) (s i : Int32) (hs : (s < 0 ∨ nI n ≤ s) ∨ (i < 0 ∨ nI 32 ≤ i)) : X 21 (0, [(0, .ref 1), (1, .int s), (2, .int i)], [], wD n a0 a1 a2 a3 a4 a5 a6 a7 a8 a9 a10 f0 f1 f2 f3 f4 f5 f6 f7 f8 f9 f10 f11 f12 rest, 0, 0) (some (.int (nI 0)), wD n a0 a1 a2 a3 a4 a5 a6 a7 a8 a9 a10 f0 f1 f2 f3 f4 f5 f6 f7 f8 f9 f10 f11 f12 rest, 0, 0) := by
  refine xs tn_X4_hasCell [(0, .iload_n 1, 1)] (st' := (1, [(0, .ref 1), (1, .int s), (2, .int i)], [.int s], wD n a0 a1 a2 a3 a4 a5 a6 a7 a8 a9 a10 f0 f1 f2 f3 f4 f5 f6 f7 f8 f9 f10 f11 f12 rest, 0, 0)) (List.forall_mem_cons.mpr ⟨dX4_hasCell_0, fun _ h => absurd h List.not_mem_nil⟩) rfl ?_
  refine xif (t := 26) tn_X4_hasCell dX4_hasCell_1 (by decide) (fun c1 => ?_) (fun c1 => ?_)
  · have c1 := xc_t c1
    dsimp only at c1
    refine xs tn_X4_hasCell [(26, .iconst 0, 1)] (st' := (27, [(0, .ref 1), (1, .int s), (2, .int i)], [.int (nI 0)], wD n a0 a1 a2 a3 a4 a5 a6 a7 a8 a9 a10 f0 f1 f2 f3 f4 f5 f6 f7 f8 f9 f10 f11 f12 rest, 0, 0)) (List.forall_mem_cons.mpr ⟨dX4_hasCell_26, fun _ h => absurd h List.not_mem_nil⟩) rfl ?_
    exact xretzE tn_X4_hasCell rfl (by decide) dX4_hasCell_27 (rfl) (rfl)
  · have c1 := xc_f c1
    dsimp only at c1
    refine xs tn_X4_hasCell [(4, .iload_n 1, 1), (5, .aload_n 0, 1), (6, .getfield 18, 3)] (st' := (9, [(0, .ref 1), (1, .int s), (2, .int i)], [.int (nI n), .int s], wD n a0 a1 a2 a3 a4 a5 a6 a7 a8 a9 a10 f0 f1 f2 f3 f4 f5 f6 f7 f8 f9 f10 f11 f12 rest, 0, 0)) (List.forall_mem_cons.mpr ⟨dX4_hasCell_4, List.forall_mem_cons.mpr ⟨dX4_hasCell_5, List.forall_mem_cons.mpr ⟨dX4_hasCell_6, fun _ h => absurd h List.not_mem_nil⟩⟩⟩) rfl ?_
    refine xcmp (t := 26) tn_X4_hasCell dX4_hasCell_9 (by decide) (fun c2 => ?_) (fun c2 => ?_)
    · have c2 := xc_t c2
      dsimp only at c2
      refine xs tn_X4_hasCell [(26, .iconst 0, 1)] (st' := (27, [(0, .ref 1), (1, .int s), (2, .int i)], [.int (nI 0)], wD n a0 a1 a2 a3 a4 a5 a6 a7 a8 a9 a10 f0 f1 f2 f3 f4 f5 f6 f7 f8 f9 f10 f11 f12 rest, 0, 0)) (List.forall_mem_cons.mpr ⟨dX4_hasCell_26, fun _ h => absurd h List.not_mem_nil⟩) rfl ?_
      exact xretzE tn_X4_hasCell rfl (by decide) dX4_hasCell_27 (rfl) (rfl)
    · have c2 := xc_f c2
      dsimp only at c2
      refine xs tn_X4_hasCell [(12, .iload_n 2, 1)] (st' := (13, [(0, .ref 1), (1, .int s), (2, .int i)], [.int i], wD n a0 a1 a2 a3 a4 a5 a6 a7 a8 a9 a10 f0 f1 f2 f3 f4 f5 f6 f7 f8 f9 f10 f11 f12 rest, 0, 0)) (List.forall_mem_cons.mpr ⟨dX4_hasCell_12, fun _ h => absurd h List.not_mem_nil⟩) rfl ?_
      refine xif (t := 26) tn_X4_hasCell dX4_hasCell_13 (by decide) (fun c3 => ?_) (fun c3 => ?_)
      · have c3 := xc_t c3
        dsimp only at c3
        refine xs tn_X4_hasCell [(26, .iconst 0, 1)] (st' := (27, [(0, .ref 1), (1, .int s), (2, .int i)], [.int (nI 0)], wD n a0 a1 a2 a3 a4 a5 a6 a7 a8 a9 a10 f0 f1 f2 f3 f4 f5 f6 f7 f8 f9 f10 f11 f12 rest, 0, 0)) (List.forall_mem_cons.mpr ⟨dX4_hasCell_26, fun _ h => absurd h List.not_mem_nil⟩) rfl ?_
        exact xretzE tn_X4_hasCell rfl (by decide) dX4_hasCell_27 (rfl) (rfl)
      · have c3 := xc_f c3
        dsimp only at c3
        refine xs tn_X4_hasCell [(16, .iload_n 2, 1), (17, .bipush 32, 2)] (st' := (19, [(0, .ref 1), (1, .int s), (2, .int i)], [.int (nI 32), .int i], wD n a0 a1 a2 a3 a4 a5 a6 a7 a8 a9 a10 f0 f1 f2 f3 f4 f5 f6 f7 f8 f9 f10 f11 f12 rest, 0, 0)) (List.forall_mem_cons.mpr ⟨dX4_hasCell_16, List.forall_mem_cons.mpr ⟨dX4_hasCell_17, fun _ h => absurd h List.not_mem_nil⟩⟩) rfl ?_
        refine xcmp (t := 26) tn_X4_hasCell dX4_hasCell_19 (by decide) (fun c4 => ?_) (fun c4 => ?_)
        · have c4 := xc_t c4
          dsimp only at c4
          refine xs tn_X4_hasCell [(26, .iconst 0, 1)] (st' := (27, [(0, .ref 1), (1, .int s), (2, .int i)], [.int (nI 0)], wD n a0 a1 a2 a3 a4 a5 a6 a7 a8 a9 a10 f0 f1 f2 f3 f4 f5 f6 f7 f8 f9 f10 f11 f12 rest, 0, 0)) (List.forall_mem_cons.mpr ⟨dX4_hasCell_26, fun _ h => absurd h List.not_mem_nil⟩) rfl ?_
          exact xretzE tn_X4_hasCell rfl (by decide) dX4_hasCell_27 (rfl) (rfl)
        · have c4 := xc_f c4
          dsimp only at c4
          refine xs tn_X4_hasCell [(22, .iconst 1, 1), (23, .goto 4, 3)] (st' := (27, [(0, .ref 1), (1, .int s), (2, .int i)], [.int (nI 1)], wD n a0 a1 a2 a3 a4 a5 a6 a7 a8 a9 a10 f0 f1 f2 f3 f4 f5 f6 f7 f8 f9 f10 f11 f12 rest, 0, 0)) (List.forall_mem_cons.mpr ⟨dX4_hasCell_22, List.forall_mem_cons.mpr ⟨dX4_hasCell_23, fun _ h => absurd h List.not_mem_nil⟩⟩) rfl ?_
          exact xretzE tn_X4_hasCell rfl (by decide) dX4_hasCell_27 (absurd hs (by intro z; rcases z with (z | z) | (z | z) <;> contradiction)) (rfl)
set_option maxRecDepth 100000 in
set_option maxHeartbeats 4000000 in
theorem r_cell (n : Nat) (a0 a1 a2 a3 a4 a5 a6 a7 a8 a9 a10 : Int32) (f0 f1 f2 f3 f4 f5 f6 f7 f8 f9 f10 f11 f12 : Nat → Int32) (rest : mx_W) (hn : n ≤ 60) (j i : Nat) (hj : j < n) (hi : i < 32) : X 17 (0, [(0, .ref 1), (1, .int (nI j)), (2, .int (nI i))], [], wD n a0 a1 a2 a3 a4 a5 a6 a7 a8 a9 a10 f0 f1 f2 f3 f4 f5 f6 f7 f8 f9 f10 f11 f12 rest, 0, 0) (some (.int (f0 (32 * j + i))), wD n a0 a1 a2 a3 a4 a5 a6 a7 a8 a9 a10 f0 f1 f2 f3 f4 f5 f6 f7 f8 f9 f10 f11 f12 rest, 0, 0) := by
  refine xs tn_X4_cell [(0, .iload_n 1, 1)] (st' := (1, [(0, .ref 1), (1, .int (nI j)), (2, .int (nI i))], [.int (nI j)], wD n a0 a1 a2 a3 a4 a5 a6 a7 a8 a9 a10 f0 f1 f2 f3 f4 f5 f6 f7 f8 f9 f10 f11 f12 rest, 0, 0)) (List.forall_mem_cons.mpr ⟨dX4_cell_0, fun _ h => absurd h List.not_mem_nil⟩) rfl ?_
  refine xif (t := 26) tn_X4_cell dX4_cell_1 (by decide) (fun c1 => ?_) (fun c1 => ?_)
  · exact absurd (xc_t c1) (nnlt (b := 0) (by omega) (by omega) (by omega))
  refine xs tn_X4_cell [(4, .iload_n 1, 1), (5, .aload_n 0, 1), (6, .getfield 18, 3)] (st' := (9, [(0, .ref 1), (1, .int (nI j)), (2, .int (nI i))], [.int (nI n), .int (nI j)], wD n a0 a1 a2 a3 a4 a5 a6 a7 a8 a9 a10 f0 f1 f2 f3 f4 f5 f6 f7 f8 f9 f10 f11 f12 rest, 0, 0)) (List.forall_mem_cons.mpr ⟨dX4_cell_4, List.forall_mem_cons.mpr ⟨dX4_cell_5, List.forall_mem_cons.mpr ⟨dX4_cell_6, fun _ h => absurd h List.not_mem_nil⟩⟩⟩) rfl ?_
  refine xcmp (t := 26) tn_X4_cell dX4_cell_9 (by decide) (fun c2 => ?_) (fun c2 => ?_)
  · exact absurd (xc_t c2) (nnle (by omega) (by omega) (by omega))
  refine xs tn_X4_cell [(12, .iload_n 2, 1)] (st' := (13, [(0, .ref 1), (1, .int (nI j)), (2, .int (nI i))], [.int (nI i)], wD n a0 a1 a2 a3 a4 a5 a6 a7 a8 a9 a10 f0 f1 f2 f3 f4 f5 f6 f7 f8 f9 f10 f11 f12 rest, 0, 0)) (List.forall_mem_cons.mpr ⟨dX4_cell_12, fun _ h => absurd h List.not_mem_nil⟩) rfl ?_
  refine xif (t := 26) tn_X4_cell dX4_cell_13 (by decide) (fun c3 => ?_) (fun c3 => ?_)
  · exact absurd (xc_t c3) (nnlt (b := 0) (by omega) (by omega) (by omega))
  refine xs tn_X4_cell [(16, .iload_n 2, 1), (17, .bipush 32, 2)] (st' := (19, [(0, .ref 1), (1, .int (nI j)), (2, .int (nI i))], [.int (nI 32), .int (nI i)], wD n a0 a1 a2 a3 a4 a5 a6 a7 a8 a9 a10 f0 f1 f2 f3 f4 f5 f6 f7 f8 f9 f10 f11 f12 rest, 0, 0)) (List.forall_mem_cons.mpr ⟨dX4_cell_16, List.forall_mem_cons.mpr ⟨dX4_cell_17, fun _ h => absurd h List.not_mem_nil⟩⟩) rfl ?_
  refine xcmp (t := 26) tn_X4_cell dX4_cell_19 (by decide) (fun c4 => ?_) (fun c4 => ?_)
  · exact absurd (xc_t c4) (nnle (by omega) (by omega) (by omega))
  refine xs tn_X4_cell [(22, .iconst 1, 1), (23, .goto 4, 3), (27, .istore_n 3, 1), (28, .iload_n 3, 1)] (st' := (29, [(3, .int (nI 1)), (0, .ref 1), (1, .int (nI j)), (2, .int (nI i))], [.int (nI 1)], wD n a0 a1 a2 a3 a4 a5 a6 a7 a8 a9 a10 f0 f1 f2 f3 f4 f5 f6 f7 f8 f9 f10 f11 f12 rest, 0, 0)) (List.forall_mem_cons.mpr ⟨dX4_cell_22, List.forall_mem_cons.mpr ⟨dX4_cell_23, List.forall_mem_cons.mpr ⟨dX4_cell_27, List.forall_mem_cons.mpr ⟨dX4_cell_28, fun _ h => absurd h List.not_mem_nil⟩⟩⟩⟩) rfl ?_
  refine xif (t := 46) tn_X4_cell dX4_cell_29 (by decide) (fun c5 => ?_) (fun c5 => ?_)
  · exact absurd (xc_t c5) (nne (b := 0) (by omega) (by omega) (by omega))
  refine xs tn_X4_cell [(32, .aload_n 0, 1), (33, .getfield 24, 3), (36, .iload_n 1, 1), (37, .bipush 32, 2), (39, .imul, 1)] (st' := (40, [(3, .int (nI 1)), (0, .ref 1), (1, .int (nI j)), (2, .int (nI i))], [.int ((nI j) * (nI 32)), .ref 2], wD n a0 a1 a2 a3 a4 a5 a6 a7 a8 a9 a10 f0 f1 f2 f3 f4 f5 f6 f7 f8 f9 f10 f11 f12 rest, 0, 0)) (List.forall_mem_cons.mpr ⟨dX4_cell_32, List.forall_mem_cons.mpr ⟨dX4_cell_33, List.forall_mem_cons.mpr ⟨dX4_cell_36, List.forall_mem_cons.mpr ⟨dX4_cell_37, List.forall_mem_cons.mpr ⟨dX4_cell_39, fun _ h => absurd h List.not_mem_nil⟩⟩⟩⟩⟩) rfl ?_
  rw [show (nI j) * (nI 32) = nI (32 * j) from (pk_mul _ _).trans (congrArg nI (by omega))]
  refine xs tn_X4_cell [(40, .iload_n 2, 1), (41, .iadd, 1)] (st' := (42, [(3, .int (nI 1)), (0, .ref 1), (1, .int (nI j)), (2, .int (nI i))], [.int ((nI (32 * j)) + (nI i)), .ref 2], wD n a0 a1 a2 a3 a4 a5 a6 a7 a8 a9 a10 f0 f1 f2 f3 f4 f5 f6 f7 f8 f9 f10 f11 f12 rest, 0, 0)) (List.forall_mem_cons.mpr ⟨dX4_cell_40, List.forall_mem_cons.mpr ⟨dX4_cell_41, fun _ h => absurd h List.not_mem_nil⟩⟩) rfl ?_
  rw [show (nI (32 * j)) + (nI i) = nI ((32 * j) + i) from (nI_add _ _).trans (congrArg nI (by omega))]
  refine xaldN tn_X4_cell dX4_cell_42 (N := (32 * n)) (f := f0) rfl (by omega) (by omega) ?_
  refine xs tn_X4_cell [(43, .goto 4, 3)] (st' := (47, [(3, .int (nI 1)), (0, .ref 1), (1, .int (nI j)), (2, .int (nI i))], [.int (f0 ((32 * j) + i))], wD n a0 a1 a2 a3 a4 a5 a6 a7 a8 a9 a10 f0 f1 f2 f3 f4 f5 f6 f7 f8 f9 f10 f11 f12 rest, 0, 0)) (List.forall_mem_cons.mpr ⟨dX4_cell_43, fun _ h => absurd h List.not_mem_nil⟩) rfl ?_
  exact xretE tn_X4_cell rfl dX4_cell_47 (rfl) (rfl)
set_option maxRecDepth 100000 in
set_option maxHeartbeats 4000000 in
theorem r_isLost0 (n : Nat) (a0 a1 a2 a3 a4 a5 a6 a7 a8 a9 a10 : Int32) (f0 f1 f2 f3 f4 f5 f6 f7 f8 f9 f10 f11 f12 : Nat → Int32) (rest : mx_W) (hn : n ≤ 60) (j : Nat) (hj : j < n) (hl : f1 j = 0) : X 47 (0, [(0, .ref 1), (1, .int (nI j))], [], wD n a0 a1 a2 a3 a4 a5 a6 a7 a8 a9 a10 f0 f1 f2 f3 f4 f5 f6 f7 f8 f9 f10 f11 f12 rest, 0, 0) (some (.int (nI 0)), wD n a0 a1 a2 a3 a4 a5 a6 a7 a8 a9 a10 f0 f1 f2 f3 f4 f5 f6 f7 f8 f9 f10 f11 f12 rest, 0, 0) := by
  refine xs tn_X4_isLost [(0, .aload_n 0, 1), (1, .iload_n 1, 1)] (st' := (2, [(0, .ref 1), (1, .int (nI j))], [.int (nI j), .ref 1], wD n a0 a1 a2 a3 a4 a5 a6 a7 a8 a9 a10 f0 f1 f2 f3 f4 f5 f6 f7 f8 f9 f10 f11 f12 rest, 0, 0)) (List.forall_mem_cons.mpr ⟨dX4_isLost_0, List.forall_mem_cons.mpr ⟨dX4_isLost_1, fun _ h => absurd h List.not_mem_nil⟩⟩) rfl ?_
  refine xcall tn_X4_isLost dX4_isLost_2 rfl rfl (r_has _ _ _ _ _ _ _ _ _ _ _ _ _ _ _ _ _ _ _ _ _ _ _ _ _ _ hn j (by omega)) ?_
  show X 47 (5, [(0, .ref 1), (1, .int (nI j))], [.int (nI 1)], wD n a0 a1 a2 a3 a4 a5 a6 a7 a8 a9 a10 f0 f1 f2 f3 f4 f5 f6 f7 f8 f9 f10 f11 f12 rest, 0, 0) _
  refine xif (t := 21) tn_X4_isLost dX4_isLost_5 (by decide) (fun c1 => ?_) (fun c1 => ?_)
  · exact absurd (xc_t c1) (nne (b := 0) (by omega) (by omega) (by omega))
  refine xs tn_X4_isLost [(8, .aload_n 0, 1), (9, .getfield 28, 3), (12, .iload_n 1, 1)] (st' := (13, [(0, .ref 1), (1, .int (nI j))], [.int (nI j), .ref 3], wD n a0 a1 a2 a3 a4 a5 a6 a7 a8 a9 a10 f0 f1 f2 f3 f4 f5 f6 f7 f8 f9 f10 f11 f12 rest, 0, 0)) (List.forall_mem_cons.mpr ⟨dX4_isLost_8, List.forall_mem_cons.mpr ⟨dX4_isLost_9, List.forall_mem_cons.mpr ⟨dX4_isLost_12, fun _ h => absurd h List.not_mem_nil⟩⟩⟩) rfl ?_
  refine xzldN tn_X4_isLost dX4_isLost_13 (N := n) (f := f1) rfl (by omega) (by omega) ?_
  refine xif (t := 21) tn_X4_isLost dX4_isLost_14 (by decide) (fun c2 => ?_) (fun c2 => ?_)
  rotate_left
  · exact absurd (hl) (xc_f c2)
  refine xs tn_X4_isLost [(21, .iconst 0, 1)] (st' := (22, [(0, .ref 1), (1, .int (nI j))], [.int (nI 0)], wD n a0 a1 a2 a3 a4 a5 a6 a7 a8 a9 a10 f0 f1 f2 f3 f4 f5 f6 f7 f8 f9 f10 f11 f12 rest, 0, 0)) (List.forall_mem_cons.mpr ⟨dX4_isLost_21, fun _ h => absurd h List.not_mem_nil⟩) rfl ?_
  exact xretzE tn_X4_isLost rfl (by decide) dX4_isLost_22 (rfl) (rfl)
set_option maxRecDepth 100000 in
set_option maxHeartbeats 4000000 in
theorem r_isLost1 (n : Nat) (a0 a1 a2 a3 a4 a5 a6 a7 a8 a9 a10 : Int32) (f0 f1 f2 f3 f4 f5 f6 f7 f8 f9 f10 f11 f12 : Nat → Int32) (rest : mx_W) (hn : n ≤ 60) (j : Nat) (hj : j < n) (hl : ¬ f1 j = 0) : X 47 (0, [(0, .ref 1), (1, .int (nI j))], [], wD n a0 a1 a2 a3 a4 a5 a6 a7 a8 a9 a10 f0 f1 f2 f3 f4 f5 f6 f7 f8 f9 f10 f11 f12 rest, 0, 0) (some (.int (nI 1)), wD n a0 a1 a2 a3 a4 a5 a6 a7 a8 a9 a10 f0 f1 f2 f3 f4 f5 f6 f7 f8 f9 f10 f11 f12 rest, 0, 0) := by
  refine xs tn_X4_isLost [(0, .aload_n 0, 1), (1, .iload_n 1, 1)] (st' := (2, [(0, .ref 1), (1, .int (nI j))], [.int (nI j), .ref 1], wD n a0 a1 a2 a3 a4 a5 a6 a7 a8 a9 a10 f0 f1 f2 f3 f4 f5 f6 f7 f8 f9 f10 f11 f12 rest, 0, 0)) (List.forall_mem_cons.mpr ⟨dX4_isLost_0, List.forall_mem_cons.mpr ⟨dX4_isLost_1, fun _ h => absurd h List.not_mem_nil⟩⟩) rfl ?_
  refine xcall tn_X4_isLost dX4_isLost_2 rfl rfl (r_has _ _ _ _ _ _ _ _ _ _ _ _ _ _ _ _ _ _ _ _ _ _ _ _ _ _ hn j (by omega)) ?_
  show X 47 (5, [(0, .ref 1), (1, .int (nI j))], [.int (nI 1)], wD n a0 a1 a2 a3 a4 a5 a6 a7 a8 a9 a10 f0 f1 f2 f3 f4 f5 f6 f7 f8 f9 f10 f11 f12 rest, 0, 0) _
  refine xif (t := 21) tn_X4_isLost dX4_isLost_5 (by decide) (fun c1 => ?_) (fun c1 => ?_)
  · exact absurd (xc_t c1) (nne (b := 0) (by omega) (by omega) (by omega))
  refine xs tn_X4_isLost [(8, .aload_n 0, 1), (9, .getfield 28, 3), (12, .iload_n 1, 1)] (st' := (13, [(0, .ref 1), (1, .int (nI j))], [.int (nI j), .ref 3], wD n a0 a1 a2 a3 a4 a5 a6 a7 a8 a9 a10 f0 f1 f2 f3 f4 f5 f6 f7 f8 f9 f10 f11 f12 rest, 0, 0)) (List.forall_mem_cons.mpr ⟨dX4_isLost_8, List.forall_mem_cons.mpr ⟨dX4_isLost_9, List.forall_mem_cons.mpr ⟨dX4_isLost_12, fun _ h => absurd h List.not_mem_nil⟩⟩⟩) rfl ?_
  refine xzldN tn_X4_isLost dX4_isLost_13 (N := n) (f := f1) rfl (by omega) (by omega) ?_
  refine xif (t := 21) tn_X4_isLost dX4_isLost_14 (by decide) (fun c2 => ?_) (fun c2 => ?_)
  · exact absurd (xc_t c2) (hl)
  refine xs tn_X4_isLost [(17, .iconst 1, 1), (18, .goto 4, 3)] (st' := (22, [(0, .ref 1), (1, .int (nI j))], [.int (nI 1)], wD n a0 a1 a2 a3 a4 a5 a6 a7 a8 a9 a10 f0 f1 f2 f3 f4 f5 f6 f7 f8 f9 f10 f11 f12 rest, 0, 0)) (List.forall_mem_cons.mpr ⟨dX4_isLost_17, List.forall_mem_cons.mpr ⟨dX4_isLost_18, fun _ h => absurd h List.not_mem_nil⟩⟩) rfl ?_
  exact xretzE tn_X4_isLost rfl (by decide) dX4_isLost_22 (rfl) (rfl)
set_option maxRecDepth 100000 in
set_option maxHeartbeats 4000000 in
theorem r_markLost (n : Nat) (a0 a1 a2 a3 a4 a5 a6 a7 a8 a9 a10 : Int32) (f0 f1 f2 f3 f4 f5 f6 f7 f8 f9 f10 f11 f12 : Nat → Int32) (rest : mx_W) (hn : n ≤ 60) (j : Nat) (hj : j < n) : X 49 (0, [(0, .ref 1), (1, .int (nI j))], [], wD n a0 a1 a2 a3 a4 a5 a6 a7 a8 a9 a10 f0 f1 f2 f3 f4 f5 f6 f7 f8 f9 f10 f11 f12 rest, 0, 0) (none, wD n a0 a1 a2 a3 a4 a5 a6 a7 a8 a9 a10 f0 (upd (f1) j (nI 1)) (upd (f2) j (nI 0)) f3 f4 f5 f6 f7 f8 f9 f10 f11 f12 rest, 0, 0) := by
  refine xs tn_X4_markLost [(0, .aload_n 0, 1), (1, .iload_n 1, 1)] (st' := (2, [(0, .ref 1), (1, .int (nI j))], [.int (nI j), .ref 1], wD n a0 a1 a2 a3 a4 a5 a6 a7 a8 a9 a10 f0 f1 f2 f3 f4 f5 f6 f7 f8 f9 f10 f11 f12 rest, 0, 0)) (List.forall_mem_cons.mpr ⟨dX4_markLost_0, List.forall_mem_cons.mpr ⟨dX4_markLost_1, fun _ h => absurd h List.not_mem_nil⟩⟩) rfl ?_
  refine xcall tn_X4_markLost dX4_markLost_2 rfl rfl (r_has _ _ _ _ _ _ _ _ _ _ _ _ _ _ _ _ _ _ _ _ _ _ _ _ _ _ hn j (by omega)) ?_
  show X 49 (5, [(0, .ref 1), (1, .int (nI j))], [.int (nI 1)], wD n a0 a1 a2 a3 a4 a5 a6 a7 a8 a9 a10 f0 f1 f2 f3 f4 f5 f6 f7 f8 f9 f10 f11 f12 rest, 0, 0) _
  refine xif (t := 22) tn_X4_markLost dX4_markLost_5 (by decide) (fun c1 => ?_) (fun c1 => ?_)
  · exact absurd (xc_t c1) (nne (b := 0) (by omega) (by omega) (by omega))
  refine xs tn_X4_markLost [(8, .aload_n 0, 1), (9, .getfield 28, 3), (12, .iload_n 1, 1), (13, .iconst 1, 1)] (st' := (14, [(0, .ref 1), (1, .int (nI j))], [.int (nI 1), .int (nI j), .ref 3], wD n a0 a1 a2 a3 a4 a5 a6 a7 a8 a9 a10 f0 f1 f2 f3 f4 f5 f6 f7 f8 f9 f10 f11 f12 rest, 0, 0)) (List.forall_mem_cons.mpr ⟨dX4_markLost_8, List.forall_mem_cons.mpr ⟨dX4_markLost_9, List.forall_mem_cons.mpr ⟨dX4_markLost_12, List.forall_mem_cons.mpr ⟨dX4_markLost_13, fun _ h => absurd h List.not_mem_nil⟩⟩⟩⟩) rfl ?_
  refine xzstN tn_X4_markLost dX4_markLost_14 (N := n) (f := f1) (w' := wD n a0 a1 a2 a3 a4 a5 a6 a7 a8 a9 a10 f0 (upd f1 j (nI 1)) f2 f3 f4 f5 f6 f7 f8 f9 f10 f11 f12 rest) rfl (by omega) (by omega) (nar1) rfl ?_
  refine xs tn_X4_markLost [(15, .aload_n 0, 1), (16, .getfield 32, 3), (19, .iload_n 1, 1), (20, .iconst 0, 1)] (st' := (21, [(0, .ref 1), (1, .int (nI j))], [.int (nI 0), .int (nI j), .ref 4], wD n a0 a1 a2 a3 a4 a5 a6 a7 a8 a9 a10 f0 (upd f1 j (nI 1)) f2 f3 f4 f5 f6 f7 f8 f9 f10 f11 f12 rest, 0, 0)) (List.forall_mem_cons.mpr ⟨dX4_markLost_15, List.forall_mem_cons.mpr ⟨dX4_markLost_16, List.forall_mem_cons.mpr ⟨dX4_markLost_19, List.forall_mem_cons.mpr ⟨dX4_markLost_20, fun _ h => absurd h List.not_mem_nil⟩⟩⟩⟩) rfl ?_
  refine xastN tn_X4_markLost dX4_markLost_21 (N := n) (f := f2) (w' := wD n a0 a1 a2 a3 a4 a5 a6 a7 a8 a9 a10 f0 (upd f1 j (nI 1)) (upd f2 j (nI 0)) f3 f4 f5 f6 f7 f8 f9 f10 f11 f12 rest) rfl (by omega) (by omega) rfl ?_
  exact xretvE tn_X4_markLost rfl dX4_markLost_22 (rfl)
set_option maxRecDepth 100000 in
set_option maxHeartbeats 4000000 in
theorem r_wholeSort (n : Nat) (a0 a1 a2 a3 a4 a5 a6 a7 a8 a9 a10 : Int32) (f0 f1 f2 f3 f4 f5 f6 f7 f8 f9 f10 f11 f12 : Nat → Int32) (rest : mx_W) (hn : n ≤ 60) (j : Nat) (hj : j < n) : X 50 (0, [(0, .ref 1), (1, .int (nI j))], [], wD n a0 a1 a2 a3 a4 a5 a6 a7 a8 a9 a10 f0 f1 f2 f3 f4 f5 f6 f7 f8 f9 f10 f11 f12 rest, 0, 0) (some (.int (f2 j)), wD n a0 a1 a2 a3 a4 a5 a6 a7 a8 a9 a10 f0 f1 f2 f3 f4 f5 f6 f7 f8 f9 f10 f11 f12 rest, 0, 0) := by
  refine xs tn_X4_wholeSort [(0, .aload_n 0, 1), (1, .iload_n 1, 1)] (st' := (2, [(0, .ref 1), (1, .int (nI j))], [.int (nI j), .ref 1], wD n a0 a1 a2 a3 a4 a5 a6 a7 a8 a9 a10 f0 f1 f2 f3 f4 f5 f6 f7 f8 f9 f10 f11 f12 rest, 0, 0)) (List.forall_mem_cons.mpr ⟨dX4_wholeSort_0, List.forall_mem_cons.mpr ⟨dX4_wholeSort_1, fun _ h => absurd h List.not_mem_nil⟩⟩) rfl ?_
  refine xcall tn_X4_wholeSort dX4_wholeSort_2 rfl rfl (r_has _ _ _ _ _ _ _ _ _ _ _ _ _ _ _ _ _ _ _ _ _ _ _ _ _ _ hn j (by omega)) ?_
  show X 50 (5, [(0, .ref 1), (1, .int (nI j))], [.int (nI 1)], wD n a0 a1 a2 a3 a4 a5 a6 a7 a8 a9 a10 f0 f1 f2 f3 f4 f5 f6 f7 f8 f9 f10 f11 f12 rest, 0, 0) _
  refine xif (t := 17) tn_X4_wholeSort dX4_wholeSort_5 (by decide) (fun c1 => ?_) (fun c1 => ?_)
  · exact absurd (xc_t c1) (nne (b := 0) (by omega) (by omega) (by omega))
  refine xs tn_X4_wholeSort [(8, .aload_n 0, 1), (9, .getfield 32, 3), (12, .iload_n 1, 1)] (st' := (13, [(0, .ref 1), (1, .int (nI j))], [.int (nI j), .ref 4], wD n a0 a1 a2 a3 a4 a5 a6 a7 a8 a9 a10 f0 f1 f2 f3 f4 f5 f6 f7 f8 f9 f10 f11 f12 rest, 0, 0)) (List.forall_mem_cons.mpr ⟨dX4_wholeSort_8, List.forall_mem_cons.mpr ⟨dX4_wholeSort_9, List.forall_mem_cons.mpr ⟨dX4_wholeSort_12, fun _ h => absurd h List.not_mem_nil⟩⟩⟩) rfl ?_
  refine xaldN tn_X4_wholeSort dX4_wholeSort_13 (N := n) (f := f2) rfl (by omega) (by omega) ?_
  refine xs tn_X4_wholeSort [(14, .goto 4, 3)] (st' := (18, [(0, .ref 1), (1, .int (nI j))], [.int (f2 j)], wD n a0 a1 a2 a3 a4 a5 a6 a7 a8 a9 a10 f0 f1 f2 f3 f4 f5 f6 f7 f8 f9 f10 f11 f12 rest, 0, 0)) (List.forall_mem_cons.mpr ⟨dX4_wholeSort_14, fun _ h => absurd h List.not_mem_nil⟩) rfl ?_
  exact xretE tn_X4_wholeSort rfl dX4_wholeSort_18 (rfl) (rfl)
set_option maxRecDepth 100000 in
set_option maxHeartbeats 4000000 in
theorem r_jsize (n : Nat) (a0 a1 a2 a3 a4 a5 a6 a7 a8 a9 a10 : Int32) (f0 f1 f2 f3 f4 f5 f6 f7 f8 f9 f10 f11 f12 : Nat → Int32) (rest : mx_W) (hn : n ≤ 60)  : X 16 (0, [(0, .ref 5)], [], wD n a0 a1 a2 a3 a4 a5 a6 a7 a8 a9 a10 f0 f1 f2 f3 f4 f5 f6 f7 f8 f9 f10 f11 f12 rest, 0, 0) (some (.int a8), wD n a0 a1 a2 a3 a4 a5 a6 a7 a8 a9 a10 f0 f1 f2 f3 f4 f5 f6 f7 f8 f9 f10 f11 f12 rest, 0, 0) := by
  refine xs tn_X3_size [(0, .aload_n 0, 1), (1, .getfield 22, 3)] (st' := (4, [(0, .ref 5)], [.int a8], wD n a0 a1 a2 a3 a4 a5 a6 a7 a8 a9 a10 f0 f1 f2 f3 f4 f5 f6 f7 f8 f9 f10 f11 f12 rest, 0, 0)) (List.forall_mem_cons.mpr ⟨dX3_size_0, List.forall_mem_cons.mpr ⟨dX3_size_1, fun _ h => absurd h List.not_mem_nil⟩⟩) rfl ?_
  exact xretE tn_X3_size rfl dX3_size_4 (rfl) (rfl)
set_option maxRecDepth 100000 in
set_option maxHeartbeats 4000000 in
theorem r_jclear (n : Nat) (a0 a1 a2 a3 a4 a5 a6 a7 a8 a9 a10 : Int32) (f0 f1 f2 f3 f4 f5 f6 f7 f8 f9 f10 f11 f12 : Nat → Int32) (rest : mx_W) (hn : n ≤ 60)  : X 14 (0, [(0, .ref 5)], [], wD n a0 a1 a2 a3 a4 a5 a6 a7 a8 a9 a10 f0 f1 f2 f3 f4 f5 f6 f7 f8 f9 f10 f11 f12 rest, 0, 0) (none, wD n a0 a1 a2 a3 a4 a5 a6 a7 (nI 0) a9 a10 f0 f1 f2 f3 f4 f5 f6 f7 f8 f9 f10 f11 f12 rest, 0, 0) := by
  refine xs tn_X3_clear [(0, .aload_n 0, 1), (1, .iconst 0, 1), (2, .putfield 22, 3)] (st' := (5, [(0, .ref 5)], [], wD n a0 a1 a2 a3 a4 a5 a6 a7 (nI 0) a9 a10 f0 f1 f2 f3 f4 f5 f6 f7 f8 f9 f10 f11 f12 rest, 0, 0)) (List.forall_mem_cons.mpr ⟨dX3_clear_0, List.forall_mem_cons.mpr ⟨dX3_clear_1, List.forall_mem_cons.mpr ⟨dX3_clear_2, fun _ h => absurd h List.not_mem_nil⟩⟩⟩) rfl ?_
  exact xretvE tn_X3_clear rfl dX3_clear_5 (rfl)
