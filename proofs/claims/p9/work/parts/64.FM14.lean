def F_X6_thrown (s : St) : Option (Int32) := some (gI s 0)
set_option maxRecDepth 100000 in
set_option maxHeartbeats 4000000 in
theorem w_X6_thrown {d : St} {rest : mx_W} {s : St} {r : Int32} (h : F_X6_thrown s = some r) : X 37 (0, [(0, .ref 18)], [], wd d (wm s rest), 0, 0) (some (.int r), wd d (wm s rest), 0, 0) := by
  unfold F_X6_thrown at h
  refine xs tn_X6_thrown [(0, .aload_n 0, 1), (1, .getfield 70, 3)] (st' := (4, [(0, .ref 18)], [.int (gI s 0)], wd d (wm s rest), 0, 0)) (List.forall_mem_cons.mpr ⟨dX6_thrown_0, List.forall_mem_cons.mpr ⟨dX6_thrown_1, fun _ h => absurd h List.not_mem_nil⟩⟩) rfl ?_
  cases h
  exact xret tn_X6_thrown rfl dX6_thrown_4
