def F_X6_symbolOf_5 (N : Nat) : Nat → St → Int32 → Int32 → Int32 → Int32 → Option (Int32)
  | 0, _, _, _, _, _ => none
  | f + 1, s, x1, x2, x3, x4 => bif mx_cnd .ge x4 (gI s 2) then (some x3) else ((F_X6_sortOf N s x4).bind fun v1 => bif mx_cnd .ne v1 (nI 4) then (F_X6_symbolOf_5 N f s x1 x2 x3 (x4 + (nI 1))) else (ldA (gA s 0) 1920 (((nI 32) * x4) + (nI 1)) fun v3 => bif mx_cnd .ne v3 x1 then (F_X6_symbolOf_5 N f s x1 x2 x3 (x4 + (nI 1))) else (ldA (gA s 0) 1920 (((nI 32) * x4) + (nI 2)) fun v4 => bif mx_cnd .ne v4 x2 then (F_X6_symbolOf_5 N f s x1 x2 x3 (x4 + (nI 1))) else (F_X6_symbolOf_5 N f s x1 x2 x4 (x4 + (nI 1))))))
set_option maxRecDepth 100000 in
set_option maxHeartbeats 4000000 in
theorem w_X6_symbolOf_5 {d : St} {rest : mx_W} {N : Nat} : ∀ (f : Nat) (s : St) (x1 : Int32) (x2 : Int32) (x3 : Int32) (x4 : Int32) (r : Int32), F_X6_symbolOf_5 N f s x1 x2 x3 x4 = some r → X 90 (5, [(0, .ref 18), (1, .int x1), (2, .int x2), (3, .int x3), (4, .int x4)], [], wd d (wm s rest), 0, 0) (some (.int r), wd d (wm s rest), 0, 0) := by
  intro f
  induction f with
  | zero => intro s x1 x2 x3 x4 r h; rw [F_X6_symbolOf_5.eq_1] at h; cases h
  | succ f ih =>
    intro s x1 x2 x3 x4 r h
    rw [F_X6_symbolOf_5.eq_2] at h
    refine xs tn_X6_symbolOf [(5, .iload 4, 2), (7, .aload_n 0, 1), (8, .getfield 21, 3)] (st' := (11, [(0, .ref 18), (1, .int x1), (2, .int x2), (3, .int x3), (4, .int x4)], [.int (gI s 2), .int x4], wd d (wm s rest), 0, 0)) (List.forall_mem_cons.mpr ⟨dX6_symbolOf_5, List.forall_mem_cons.mpr ⟨dX6_symbolOf_7, List.forall_mem_cons.mpr ⟨dX6_symbolOf_8, fun _ h => absurd h List.not_mem_nil⟩⟩⟩) rfl ?_
    refine xcmpF (t := 69) tn_X6_symbolOf dX6_symbolOf_11 (by decide) h (fun h => ?_) (fun h => ?_)
    · refine xs tn_X6_symbolOf [(69, .iload_n 3, 1)] (st' := (70, [(0, .ref 18), (1, .int x1), (2, .int x2), (3, .int x3), (4, .int x4)], [.int x3], wd d (wm s rest), 0, 0)) (List.forall_mem_cons.mpr ⟨dX6_symbolOf_69, fun _ h => absurd h List.not_mem_nil⟩) rfl ?_
      cases h
      exact xret tn_X6_symbolOf rfl dX6_symbolOf_70
    · refine xs tn_X6_symbolOf [(14, .aload_n 0, 1), (15, .iload 4, 2)] (st' := (17, [(0, .ref 18), (1, .int x1), (2, .int x2), (3, .int x3), (4, .int x4)], [.int x4, .ref 18], wd d (wm s rest), 0, 0)) (List.forall_mem_cons.mpr ⟨dX6_symbolOf_14, List.forall_mem_cons.mpr ⟨dX6_symbolOf_15, fun _ h => absurd h List.not_mem_nil⟩⟩) rfl ?_
      obtain ⟨v1, h2, h⟩ := obind h
      refine xcall tn_X6_symbolOf dX6_symbolOf_17 rfl rfl (w_X6_sortOf h2) ?_
      show X 90 (20, [(0, .ref 18), (1, .int x1), (2, .int x2), (3, .int x3), (4, .int x4)], [.int v1], wd d (wm s rest), 0, 0) _
      refine xs tn_X6_symbolOf [(20, .iconst 4, 1)] (st' := (21, [(0, .ref 18), (1, .int x1), (2, .int x2), (3, .int x3), (4, .int x4)], [.int (nI 4), .int v1], wd d (wm s rest), 0, 0)) (List.forall_mem_cons.mpr ⟨dX6_symbolOf_20, fun _ h => absurd h List.not_mem_nil⟩) rfl ?_
      refine xcmpF (t := 61) tn_X6_symbolOf dX6_symbolOf_21 (by decide) h (fun h => ?_) (fun h => ?_)
      · refine xs tn_X6_symbolOf [(61, .iload_n 3, 1), (62, .istore_n 3, 1), (63, .iinc 4 1, 3), (66, .goto (-61), 3)] (st' := (5, [(0, .ref 18), (1, .int x1), (2, .int x2), (3, .int x3), (4, .int (x4 + (nI 1)))], [], wd d (wm s rest), 0, 0)) (List.forall_mem_cons.mpr ⟨dX6_symbolOf_61, List.forall_mem_cons.mpr ⟨dX6_symbolOf_62, List.forall_mem_cons.mpr ⟨dX6_symbolOf_63, List.forall_mem_cons.mpr ⟨dX6_symbolOf_66, fun _ h => absurd h List.not_mem_nil⟩⟩⟩⟩) rfl ?_
        refine xwk [0, 1, 2, 3, 4] rfl rfl ?_
        exact ih _ _ _ _ _ _ h
      · refine xs tn_X6_symbolOf [(24, .aload_n 0, 1), (25, .getfield 7, 3), (28, .bipush 32, 2), (30, .iload 4, 2), (32, .imul, 1), (33, .iconst 1, 1), (34, .iadd, 1)] (st' := (35, [(0, .ref 18), (1, .int x1), (2, .int x2), (3, .int x3), (4, .int x4)], [.int (((nI 32) * x4) + (nI 1)), .ref 19], wd d (wm s rest), 0, 0)) (List.forall_mem_cons.mpr ⟨dX6_symbolOf_24, List.forall_mem_cons.mpr ⟨dX6_symbolOf_25, List.forall_mem_cons.mpr ⟨dX6_symbolOf_28, List.forall_mem_cons.mpr ⟨dX6_symbolOf_30, List.forall_mem_cons.mpr ⟨dX6_symbolOf_32, List.forall_mem_cons.mpr ⟨dX6_symbolOf_33, List.forall_mem_cons.mpr ⟨dX6_symbolOf_34, fun _ h => absurd h List.not_mem_nil⟩⟩⟩⟩⟩⟩⟩) rfl ?_
        refine xldF tn_X6_symbolOf dX6_symbolOf_35 at_19 h (fun v3 h => ?_)
        refine xs tn_X6_symbolOf [(36, .iload_n 1, 1)] (st' := (37, [(0, .ref 18), (1, .int x1), (2, .int x2), (3, .int x3), (4, .int x4)], [.int x1, .int v3], wd d (wm s rest), 0, 0)) (List.forall_mem_cons.mpr ⟨dX6_symbolOf_36, fun _ h => absurd h List.not_mem_nil⟩) rfl ?_
        refine xcmpF (t := 61) tn_X6_symbolOf dX6_symbolOf_37 (by decide) h (fun h => ?_) (fun h => ?_)
        · refine xs tn_X6_symbolOf [(61, .iload_n 3, 1), (62, .istore_n 3, 1), (63, .iinc 4 1, 3), (66, .goto (-61), 3)] (st' := (5, [(0, .ref 18), (1, .int x1), (2, .int x2), (3, .int x3), (4, .int (x4 + (nI 1)))], [], wd d (wm s rest), 0, 0)) (List.forall_mem_cons.mpr ⟨dX6_symbolOf_61, List.forall_mem_cons.mpr ⟨dX6_symbolOf_62, List.forall_mem_cons.mpr ⟨dX6_symbolOf_63, List.forall_mem_cons.mpr ⟨dX6_symbolOf_66, fun _ h => absurd h List.not_mem_nil⟩⟩⟩⟩) rfl ?_
          refine xwk [0, 1, 2, 3, 4] rfl rfl ?_
          exact ih _ _ _ _ _ _ h
        · refine xs tn_X6_symbolOf [(40, .aload_n 0, 1), (41, .getfield 7, 3), (44, .bipush 32, 2), (46, .iload 4, 2), (48, .imul, 1), (49, .iconst 2, 1), (50, .iadd, 1)] (st' := (51, [(0, .ref 18), (1, .int x1), (2, .int x2), (3, .int x3), (4, .int x4)], [.int (((nI 32) * x4) + (nI 2)), .ref 19], wd d (wm s rest), 0, 0)) (List.forall_mem_cons.mpr ⟨dX6_symbolOf_40, List.forall_mem_cons.mpr ⟨dX6_symbolOf_41, List.forall_mem_cons.mpr ⟨dX6_symbolOf_44, List.forall_mem_cons.mpr ⟨dX6_symbolOf_46, List.forall_mem_cons.mpr ⟨dX6_symbolOf_48, List.forall_mem_cons.mpr ⟨dX6_symbolOf_49, List.forall_mem_cons.mpr ⟨dX6_symbolOf_50, fun _ h => absurd h List.not_mem_nil⟩⟩⟩⟩⟩⟩⟩) rfl ?_
          refine xldF tn_X6_symbolOf dX6_symbolOf_51 at_19 h (fun v4 h => ?_)
          refine xs tn_X6_symbolOf [(52, .iload_n 2, 1)] (st' := (53, [(0, .ref 18), (1, .int x1), (2, .int x2), (3, .int x3), (4, .int x4)], [.int x2, .int v4], wd d (wm s rest), 0, 0)) (List.forall_mem_cons.mpr ⟨dX6_symbolOf_52, fun _ h => absurd h List.not_mem_nil⟩) rfl ?_
          refine xcmpF (t := 61) tn_X6_symbolOf dX6_symbolOf_53 (by decide) h (fun h => ?_) (fun h => ?_)
          · refine xs tn_X6_symbolOf [(61, .iload_n 3, 1), (62, .istore_n 3, 1), (63, .iinc 4 1, 3), (66, .goto (-61), 3)] (st' := (5, [(0, .ref 18), (1, .int x1), (2, .int x2), (3, .int x3), (4, .int (x4 + (nI 1)))], [], wd d (wm s rest), 0, 0)) (List.forall_mem_cons.mpr ⟨dX6_symbolOf_61, List.forall_mem_cons.mpr ⟨dX6_symbolOf_62, List.forall_mem_cons.mpr ⟨dX6_symbolOf_63, List.forall_mem_cons.mpr ⟨dX6_symbolOf_66, fun _ h => absurd h List.not_mem_nil⟩⟩⟩⟩) rfl ?_
            refine xwk [0, 1, 2, 3, 4] rfl rfl ?_
            exact ih _ _ _ _ _ _ h
          · refine xs tn_X6_symbolOf [(56, .iload 4, 2), (58, .goto 4, 3), (62, .istore_n 3, 1), (63, .iinc 4 1, 3), (66, .goto (-61), 3)] (st' := (5, [(0, .ref 18), (1, .int x1), (2, .int x2), (3, .int x4), (4, .int (x4 + (nI 1)))], [], wd d (wm s rest), 0, 0)) (List.forall_mem_cons.mpr ⟨dX6_symbolOf_56, List.forall_mem_cons.mpr ⟨dX6_symbolOf_58, List.forall_mem_cons.mpr ⟨dX6_symbolOf_62, List.forall_mem_cons.mpr ⟨dX6_symbolOf_63, List.forall_mem_cons.mpr ⟨dX6_symbolOf_66, fun _ h => absurd h List.not_mem_nil⟩⟩⟩⟩⟩) rfl ?_
            refine xwk [0, 1, 2, 3, 4] rfl rfl ?_
            exact ih _ _ _ _ _ _ h
def F_X6_symbolOf (N : Nat) (s : St) (x1 : Int32) (x2 : Int32) : Option (Int32) := F_X6_symbolOf_5 N N s x1 x2 (-nI 1) (nI 2)
set_option maxRecDepth 100000 in
set_option maxHeartbeats 4000000 in
theorem w_X6_symbolOf {d : St} {rest : mx_W} {N : Nat} {s : St} {x1 : Int32} {x2 : Int32} {r : Int32} (h : F_X6_symbolOf N s x1 x2 = some r) : X 90 (0, [(0, .ref 18), (1, .int x1), (2, .int x2)], [], wd d (wm s rest), 0, 0) (some (.int r), wd d (wm s rest), 0, 0) := by
  unfold F_X6_symbolOf at h
  refine xs tn_X6_symbolOf [(0, .iconst (-1), 1), (1, .istore_n 3, 1), (2, .iconst 2, 1), (3, .istore 4, 2)] (st' := (5, [(4, .int (nI 2)), (3, .int (-nI 1)), (0, .ref 18), (1, .int x1), (2, .int x2)], [], wd d (wm s rest), 0, 0)) (List.forall_mem_cons.mpr ⟨dX6_symbolOf_0, List.forall_mem_cons.mpr ⟨dX6_symbolOf_1, List.forall_mem_cons.mpr ⟨dX6_symbolOf_2, List.forall_mem_cons.mpr ⟨dX6_symbolOf_3, fun _ h => absurd h List.not_mem_nil⟩⟩⟩⟩) rfl ?_
  refine xwk [0, 1, 2, 3, 4] rfl rfl ?_
  exact w_X6_symbolOf_5 N _ _ _ _ _ _ h
def F_X6_quotient_2 (N : Nat) : Nat → Int32 → Int32 → Int32 → Option (Int32)
  | 0, _, _, _ => none
  | f + 1, x0, x1, x2 => (F_X6_product N x2 x1).bind fun v1 => bif mx_cnd .eq v1 x0 then (some x2) else (F_X6_quotient_2 N f x0 x1 (x2 + (nI 1)))
set_option maxRecDepth 100000 in
set_option maxHeartbeats 4000000 in
theorem w_X6_quotient_2 {w : mx_W} {N : Nat} : ∀ (f : Nat) (x0 : Int32) (x1 : Int32) (x2 : Int32) (r : Int32), F_X6_quotient_2 N f x0 x1 x2 = some r → X 88 (2, [(0, .int x0), (1, .int x1), (2, .int x2)], [], w, 0, 0) (some (.int r), w, 0, 0) := by
  intro f
  induction f with
  | zero => intro x0 x1 x2 r h; rw [F_X6_quotient_2.eq_1] at h; cases h
  | succ f ih =>
    intro x0 x1 x2 r h
    rw [F_X6_quotient_2.eq_2] at h
    refine xs tn_X6_quotient [(2, .iload_n 2, 1), (3, .iload_n 1, 1)] (st' := (4, [(0, .int x0), (1, .int x1), (2, .int x2)], [.int x1, .int x2], w, 0, 0)) (List.forall_mem_cons.mpr ⟨dX6_quotient_2, List.forall_mem_cons.mpr ⟨dX6_quotient_3, fun _ h => absurd h List.not_mem_nil⟩⟩) rfl ?_
    obtain ⟨v1, h2, h⟩ := obind h
    refine xcall tn_X6_quotient dX6_quotient_4 rfl rfl (w_X6_product h2) ?_
    show X 88 (7, [(0, .int x0), (1, .int x1), (2, .int x2)], [.int v1], w, 0, 0) _
    refine xs tn_X6_quotient [(7, .iload_n 0, 1)] (st' := (8, [(0, .int x0), (1, .int x1), (2, .int x2)], [.int x0, .int v1], w, 0, 0)) (List.forall_mem_cons.mpr ⟨dX6_quotient_7, fun _ h => absurd h List.not_mem_nil⟩) rfl ?_
    refine xcmpF (t := 17) tn_X6_quotient dX6_quotient_8 (by decide) h (fun h => ?_) (fun h => ?_)
    · refine xs tn_X6_quotient [(17, .iload_n 2, 1)] (st' := (18, [(0, .int x0), (1, .int x1), (2, .int x2)], [.int x2], w, 0, 0)) (List.forall_mem_cons.mpr ⟨dX6_quotient_17, fun _ h => absurd h List.not_mem_nil⟩) rfl ?_
      cases h
      exact xret tn_X6_quotient rfl dX6_quotient_18
    · refine xs tn_X6_quotient [(11, .iinc 2 1, 3), (14, .goto (-12), 3)] (st' := (2, [(0, .int x0), (1, .int x1), (2, .int (x2 + (nI 1)))], [], w, 0, 0)) (List.forall_mem_cons.mpr ⟨dX6_quotient_11, List.forall_mem_cons.mpr ⟨dX6_quotient_14, fun _ h => absurd h List.not_mem_nil⟩⟩) rfl ?_
      refine xwk [0, 1, 2] rfl rfl ?_
      exact ih _ _ _ _ h
def F_X6_quotient (N : Nat) (x0 : Int32) (x1 : Int32) : Option (Int32) := F_X6_quotient_2 N N x0 x1 (nI 0)
set_option maxRecDepth 100000 in
set_option maxHeartbeats 4000000 in
theorem w_X6_quotient {w : mx_W} {N : Nat} {x0 : Int32} {x1 : Int32} {r : Int32} (h : F_X6_quotient N x0 x1 = some r) : X 88 (0, [(0, .int x0), (1, .int x1)], [], w, 0, 0) (some (.int r), w, 0, 0) := by
  unfold F_X6_quotient at h
  refine xs tn_X6_quotient [(0, .iconst 0, 1), (1, .istore_n 2, 1)] (st' := (2, [(2, .int (nI 0)), (0, .int x0), (1, .int x1)], [], w, 0, 0)) (List.forall_mem_cons.mpr ⟨dX6_quotient_0, List.forall_mem_cons.mpr ⟨dX6_quotient_1, fun _ h => absurd h List.not_mem_nil⟩⟩) rfl ?_
  refine xwk [0, 1, 2] rfl rfl ?_
  exact w_X6_quotient_2 N _ _ _ _ h
def F_X6_isTwo_34 (N : Nat) : Nat → St → Int32 → Int32 → Int32 → Option (Int32 × St)
  | 0, _, _, _, _ => none
  | f + 1, s, x1, x2, x3 => bif mx_cnd .ge x3 (nI 24) then (bif mx_cnd .eq x1 0 then (some (nI 0, s)) else (bif mx_cnd .eq x2 0 then (some (nI 0, s)) else (some (nI 1, s)))) else (bif mx_cnd .eq x1 0 then (bif mx_cnd .eq x1 0 then (some (nI 0, s)) else (bif mx_cnd .eq x2 0 then (some (nI 0, s)) else (some (nI 1, s)))) else (bif mx_cnd .eq x2 0 then (bif mx_cnd .eq x1 0 then (some (nI 0, s)) else (bif mx_cnd .eq x2 0 then (some (nI 0, s)) else (some (nI 1, s)))) else (ldA (gA s 11) 24 x3 fun v1 => ldA (gA s 10) 4 (nI 1) fun v2 => (F_X6_product N v1 v2).bind fun v3 => ldA (gA s 12) 24 x3 fun v5 => ldA (gA s 9) 4 (nI 1) fun v6 => (F_X6_product N v5 v6).bind fun v7 => (F_X6_quotient N (v3 ^^^ v7) x2).bind fun v9 => stA s 13 24 x3 v9 fun s11 => ldA (gA s11 12) 24 x3 fun v12 => ldA (gA s11 9) 4 (nI 0) fun v13 => (F_X6_product N v12 v13).bind fun v14 => ldA (gA s11 11) 24 x3 fun v16 => ldA (gA s11 10) 4 (nI 0) fun v17 => (F_X6_product N v16 v17).bind fun v18 => (F_X6_quotient N (v14 ^^^ v18) x2).bind fun v20 => stA s11 14 24 x3 v20 fun s22 => F_X6_isTwo_34 N f s22 x1 x2 (x3 + (nI 1)))))
set_option maxRecDepth 100000 in
set_option maxHeartbeats 4000000 in
theorem w_X6_isTwo_34 {d : St} {rest : mx_W} {N : Nat} : ∀ (f : Nat) (s : St) (x1 : Int32) (x2 : Int32) (x3 : Int32) (r : Int32) (t : St), F_X6_isTwo_34 N f s x1 x2 x3 = some (r, t) → X 114 (34, [(0, .ref 18), (1, .int x1), (2, .int x2), (3, .int x3)], [], wd d (wm s rest), 0, 0) (some (.int r), wd d (wm t rest), 0, 0) := by
  intro f
  induction f with
  | zero => intro s x1 x2 x3 r t h; rw [F_X6_isTwo_34.eq_1] at h; cases h
  | succ f ih =>
    intro s x1 x2 x3 r t h
    rw [F_X6_isTwo_34.eq_2] at h
    refine xs tn_X6_isTwo [(34, .iload_n 3, 1), (35, .bipush 24, 2)] (st' := (37, [(0, .ref 18), (1, .int x1), (2, .int x2), (3, .int x3)], [.int (nI 24), .int x3], wd d (wm s rest), 0, 0)) (List.forall_mem_cons.mpr ⟨dX6_isTwo_34, List.forall_mem_cons.mpr ⟨dX6_isTwo_35, fun _ h => absurd h List.not_mem_nil⟩⟩) rfl ?_
    refine xcmpF (t := 136) tn_X6_isTwo dX6_isTwo_37 (by decide) h (fun h => ?_) (fun h => ?_)
    · refine xs tn_X6_isTwo [(136, .iload_n 1, 1)] (st' := (137, [(0, .ref 18), (1, .int x1), (2, .int x2), (3, .int x3)], [.int x1], wd d (wm s rest), 0, 0)) (List.forall_mem_cons.mpr ⟨dX6_isTwo_136, fun _ h => absurd h List.not_mem_nil⟩) rfl ?_
      refine xifF (t := 148) tn_X6_isTwo dX6_isTwo_137 (by decide) h (fun h => ?_) (fun h => ?_)
      · refine xs tn_X6_isTwo [(148, .iconst 0, 1)] (st' := (149, [(0, .ref 18), (1, .int x1), (2, .int x2), (3, .int x3)], [.int (nI 0)], wd d (wm s rest), 0, 0)) (List.forall_mem_cons.mpr ⟨dX6_isTwo_148, fun _ h => absurd h List.not_mem_nil⟩) rfl ?_
        cases h
        exact xretz tn_X6_isTwo rfl (by decide) dX6_isTwo_149
      · refine xs tn_X6_isTwo [(140, .iload_n 2, 1)] (st' := (141, [(0, .ref 18), (1, .int x1), (2, .int x2), (3, .int x3)], [.int x2], wd d (wm s rest), 0, 0)) (List.forall_mem_cons.mpr ⟨dX6_isTwo_140, fun _ h => absurd h List.not_mem_nil⟩) rfl ?_
        refine xifF (t := 148) tn_X6_isTwo dX6_isTwo_141 (by decide) h (fun h => ?_) (fun h => ?_)
        · refine xs tn_X6_isTwo [(148, .iconst 0, 1)] (st' := (149, [(0, .ref 18), (1, .int x1), (2, .int x2), (3, .int x3)], [.int (nI 0)], wd d (wm s rest), 0, 0)) (List.forall_mem_cons.mpr ⟨dX6_isTwo_148, fun _ h => absurd h List.not_mem_nil⟩) rfl ?_
          cases h
          exact xretz tn_X6_isTwo rfl (by decide) dX6_isTwo_149
        · refine xs tn_X6_isTwo [(144, .iconst 1, 1), (145, .goto 4, 3)] (st' := (149, [(0, .ref 18), (1, .int x1), (2, .int x2), (3, .int x3)], [.int (nI 1)], wd d (wm s rest), 0, 0)) (List.forall_mem_cons.mpr ⟨dX6_isTwo_144, List.forall_mem_cons.mpr ⟨dX6_isTwo_145, fun _ h => absurd h List.not_mem_nil⟩⟩) rfl ?_
          cases h
          exact xretz tn_X6_isTwo rfl (by decide) dX6_isTwo_149
    · refine xs tn_X6_isTwo [(40, .iload_n 1, 1)] (st' := (41, [(0, .ref 18), (1, .int x1), (2, .int x2), (3, .int x3)], [.int x1], wd d (wm s rest), 0, 0)) (List.forall_mem_cons.mpr ⟨dX6_isTwo_40, fun _ h => absurd h List.not_mem_nil⟩) rfl ?_
      refine xifF (t := 136) tn_X6_isTwo dX6_isTwo_41 (by decide) h (fun h => ?_) (fun h => ?_)
      · refine xs tn_X6_isTwo [(136, .iload_n 1, 1)] (st' := (137, [(0, .ref 18), (1, .int x1), (2, .int x2), (3, .int x3)], [.int x1], wd d (wm s rest), 0, 0)) (List.forall_mem_cons.mpr ⟨dX6_isTwo_136, fun _ h => absurd h List.not_mem_nil⟩) rfl ?_
        refine xifF (t := 148) tn_X6_isTwo dX6_isTwo_137 (by decide) h (fun h => ?_) (fun h => ?_)
        · refine xs tn_X6_isTwo [(148, .iconst 0, 1)] (st' := (149, [(0, .ref 18), (1, .int x1), (2, .int x2), (3, .int x3)], [.int (nI 0)], wd d (wm s rest), 0, 0)) (List.forall_mem_cons.mpr ⟨dX6_isTwo_148, fun _ h => absurd h List.not_mem_nil⟩) rfl ?_
          cases h
          exact xretz tn_X6_isTwo rfl (by decide) dX6_isTwo_149
        · refine xs tn_X6_isTwo [(140, .iload_n 2, 1)] (st' := (141, [(0, .ref 18), (1, .int x1), (2, .int x2), (3, .int x3)], [.int x2], wd d (wm s rest), 0, 0)) (List.forall_mem_cons.mpr ⟨dX6_isTwo_140, fun _ h => absurd h List.not_mem_nil⟩) rfl ?_
          refine xifF (t := 148) tn_X6_isTwo dX6_isTwo_141 (by decide) h (fun h => ?_) (fun h => ?_)
          · refine xs tn_X6_isTwo [(148, .iconst 0, 1)] (st' := (149, [(0, .ref 18), (1, .int x1), (2, .int x2), (3, .int x3)], [.int (nI 0)], wd d (wm s rest), 0, 0)) (List.forall_mem_cons.mpr ⟨dX6_isTwo_148, fun _ h => absurd h List.not_mem_nil⟩) rfl ?_
            cases h
            exact xretz tn_X6_isTwo rfl (by decide) dX6_isTwo_149
          · refine xs tn_X6_isTwo [(144, .iconst 1, 1), (145, .goto 4, 3)] (st' := (149, [(0, .ref 18), (1, .int x1), (2, .int x2), (3, .int x3)], [.int (nI 1)], wd d (wm s rest), 0, 0)) (List.forall_mem_cons.mpr ⟨dX6_isTwo_144, List.forall_mem_cons.mpr ⟨dX6_isTwo_145, fun _ h => absurd h List.not_mem_nil⟩⟩) rfl ?_
            cases h
            exact xretz tn_X6_isTwo rfl (by decide) dX6_isTwo_149
      · refine xs tn_X6_isTwo [(44, .iload_n 2, 1)] (st' := (45, [(0, .ref 18), (1, .int x1), (2, .int x2), (3, .int x3)], [.int x2], wd d (wm s rest), 0, 0)) (List.forall_mem_cons.mpr ⟨dX6_isTwo_44, fun _ h => absurd h List.not_mem_nil⟩) rfl ?_
        refine xifF (t := 136) tn_X6_isTwo dX6_isTwo_45 (by decide) h (fun h => ?_) (fun h => ?_)
        · refine xs tn_X6_isTwo [(136, .iload_n 1, 1)] (st' := (137, [(0, .ref 18), (1, .int x1), (2, .int x2), (3, .int x3)], [.int x1], wd d (wm s rest), 0, 0)) (List.forall_mem_cons.mpr ⟨dX6_isTwo_136, fun _ h => absurd h List.not_mem_nil⟩) rfl ?_
          refine xifF (t := 148) tn_X6_isTwo dX6_isTwo_137 (by decide) h (fun h => ?_) (fun h => ?_)
          · refine xs tn_X6_isTwo [(148, .iconst 0, 1)] (st' := (149, [(0, .ref 18), (1, .int x1), (2, .int x2), (3, .int x3)], [.int (nI 0)], wd d (wm s rest), 0, 0)) (List.forall_mem_cons.mpr ⟨dX6_isTwo_148, fun _ h => absurd h List.not_mem_nil⟩) rfl ?_
            cases h
            exact xretz tn_X6_isTwo rfl (by decide) dX6_isTwo_149
          · refine xs tn_X6_isTwo [(140, .iload_n 2, 1)] (st' := (141, [(0, .ref 18), (1, .int x1), (2, .int x2), (3, .int x3)], [.int x2], wd d (wm s rest), 0, 0)) (List.forall_mem_cons.mpr ⟨dX6_isTwo_140, fun _ h => absurd h List.not_mem_nil⟩) rfl ?_
            refine xifF (t := 148) tn_X6_isTwo dX6_isTwo_141 (by decide) h (fun h => ?_) (fun h => ?_)
            · refine xs tn_X6_isTwo [(148, .iconst 0, 1)] (st' := (149, [(0, .ref 18), (1, .int x1), (2, .int x2), (3, .int x3)], [.int (nI 0)], wd d (wm s rest), 0, 0)) (List.forall_mem_cons.mpr ⟨dX6_isTwo_148, fun _ h => absurd h List.not_mem_nil⟩) rfl ?_
              cases h
              exact xretz tn_X6_isTwo rfl (by decide) dX6_isTwo_149
            · refine xs tn_X6_isTwo [(144, .iconst 1, 1), (145, .goto 4, 3)] (st' := (149, [(0, .ref 18), (1, .int x1), (2, .int x2), (3, .int x3)], [.int (nI 1)], wd d (wm s rest), 0, 0)) (List.forall_mem_cons.mpr ⟨dX6_isTwo_144, List.forall_mem_cons.mpr ⟨dX6_isTwo_145, fun _ h => absurd h List.not_mem_nil⟩⟩) rfl ?_
              cases h
              exact xretz tn_X6_isTwo rfl (by decide) dX6_isTwo_149
        · refine xs tn_X6_isTwo [(48, .aload_n 0, 1), (49, .getfield 61, 3), (52, .iload_n 3, 1), (53, .aload_n 0, 1), (54, .getfield 55, 3), (57, .iload_n 3, 1)] (st' := (58, [(0, .ref 18), (1, .int x1), (2, .int x2), (3, .int x3)], [.int x3, .ref 30, .int x3, .ref 32], wd d (wm s rest), 0, 0)) (List.forall_mem_cons.mpr ⟨dX6_isTwo_48, List.forall_mem_cons.mpr ⟨dX6_isTwo_49, List.forall_mem_cons.mpr ⟨dX6_isTwo_52, List.forall_mem_cons.mpr ⟨dX6_isTwo_53, List.forall_mem_cons.mpr ⟨dX6_isTwo_54, List.forall_mem_cons.mpr ⟨dX6_isTwo_57, fun _ h => absurd h List.not_mem_nil⟩⟩⟩⟩⟩⟩) rfl ?_
          refine xldF tn_X6_isTwo dX6_isTwo_58 at_30 h (fun v1 h => ?_)
          refine xs tn_X6_isTwo [(59, .aload_n 0, 1), (60, .getfield 52, 3), (63, .iconst 1, 1)] (st' := (64, [(0, .ref 18), (1, .int x1), (2, .int x2), (3, .int x3)], [.int (nI 1), .ref 29, .int v1, .int x3, .ref 32], wd d (wm s rest), 0, 0)) (List.forall_mem_cons.mpr ⟨dX6_isTwo_59, List.forall_mem_cons.mpr ⟨dX6_isTwo_60, List.forall_mem_cons.mpr ⟨dX6_isTwo_63, fun _ h => absurd h List.not_mem_nil⟩⟩⟩) rfl ?_
          refine xldF tn_X6_isTwo dX6_isTwo_64 at_29 h (fun v2 h => ?_)
          obtain ⟨v3, h4, h⟩ := obind h
          refine xcall tn_X6_isTwo dX6_isTwo_65 rfl rfl (w_X6_product h4) ?_
          show X 114 (68, [(0, .ref 18), (1, .int x1), (2, .int x2), (3, .int x3)], [.int v3, .int x3, .ref 32], wd d (wm s rest), 0, 0) _
          refine xs tn_X6_isTwo [(68, .aload_n 0, 1), (69, .getfield 58, 3), (72, .iload_n 3, 1)] (st' := (73, [(0, .ref 18), (1, .int x1), (2, .int x2), (3, .int x3)], [.int x3, .ref 31, .int v3, .int x3, .ref 32], wd d (wm s rest), 0, 0)) (List.forall_mem_cons.mpr ⟨dX6_isTwo_68, List.forall_mem_cons.mpr ⟨dX6_isTwo_69, List.forall_mem_cons.mpr ⟨dX6_isTwo_72, fun _ h => absurd h List.not_mem_nil⟩⟩⟩) rfl ?_
          refine xldF tn_X6_isTwo dX6_isTwo_73 at_31 h (fun v5 h => ?_)
          refine xs tn_X6_isTwo [(74, .aload_n 0, 1), (75, .getfield 49, 3), (78, .iconst 1, 1)] (st' := (79, [(0, .ref 18), (1, .int x1), (2, .int x2), (3, .int x3)], [.int (nI 1), .ref 28, .int v5, .int v3, .int x3, .ref 32], wd d (wm s rest), 0, 0)) (List.forall_mem_cons.mpr ⟨dX6_isTwo_74, List.forall_mem_cons.mpr ⟨dX6_isTwo_75, List.forall_mem_cons.mpr ⟨dX6_isTwo_78, fun _ h => absurd h List.not_mem_nil⟩⟩⟩) rfl ?_
          refine xldF tn_X6_isTwo dX6_isTwo_79 at_28 h (fun v6 h => ?_)
          obtain ⟨v7, h8, h⟩ := obind h
          refine xcall tn_X6_isTwo dX6_isTwo_80 rfl rfl (w_X6_product h8) ?_
          show X 114 (83, [(0, .ref 18), (1, .int x1), (2, .int x2), (3, .int x3)], [.int v7, .int v3, .int x3, .ref 32], wd d (wm s rest), 0, 0) _
          refine xs tn_X6_isTwo [(83, .ixor, 1), (84, .iload_n 2, 1)] (st' := (85, [(0, .ref 18), (1, .int x1), (2, .int x2), (3, .int x3)], [.int x2, .int (v3 ^^^ v7), .int x3, .ref 32], wd d (wm s rest), 0, 0)) (List.forall_mem_cons.mpr ⟨dX6_isTwo_83, List.forall_mem_cons.mpr ⟨dX6_isTwo_84, fun _ h => absurd h List.not_mem_nil⟩⟩) rfl ?_
          obtain ⟨v9, h10, h⟩ := obind h
          refine xcall tn_X6_isTwo dX6_isTwo_85 rfl rfl (w_X6_quotient h10) ?_
          show X 114 (88, [(0, .ref 18), (1, .int x1), (2, .int x2), (3, .int x3)], [.int v9, .int x3, .ref 32], wd d (wm s rest), 0, 0) _
          refine xstF (W := fun s => wd d (wm s rest)) tn_X6_isTwo dX6_isTwo_88 at_32 (fun _ => set_32) h (fun s11 h => ?_)
          refine xs tn_X6_isTwo [(89, .aload_n 0, 1), (90, .getfield 64, 3), (93, .iload_n 3, 1), (94, .aload_n 0, 1), (95, .getfield 58, 3), (98, .iload_n 3, 1)] (st' := (99, [(0, .ref 18), (1, .int x1), (2, .int x2), (3, .int x3)], [.int x3, .ref 31, .int x3, .ref 33], wd d (wm s11 rest), 0, 0)) (List.forall_mem_cons.mpr ⟨dX6_isTwo_89, List.forall_mem_cons.mpr ⟨dX6_isTwo_90, List.forall_mem_cons.mpr ⟨dX6_isTwo_93, List.forall_mem_cons.mpr ⟨dX6_isTwo_94, List.forall_mem_cons.mpr ⟨dX6_isTwo_95, List.forall_mem_cons.mpr ⟨dX6_isTwo_98, fun _ h => absurd h List.not_mem_nil⟩⟩⟩⟩⟩⟩) rfl ?_
          refine xldF tn_X6_isTwo dX6_isTwo_99 at_31 h (fun v12 h => ?_)
          refine xs tn_X6_isTwo [(100, .aload_n 0, 1), (101, .getfield 49, 3), (104, .iconst 0, 1)] (st' := (105, [(0, .ref 18), (1, .int x1), (2, .int x2), (3, .int x3)], [.int (nI 0), .ref 28, .int v12, .int x3, .ref 33], wd d (wm s11 rest), 0, 0)) (List.forall_mem_cons.mpr ⟨dX6_isTwo_100, List.forall_mem_cons.mpr ⟨dX6_isTwo_101, List.forall_mem_cons.mpr ⟨dX6_isTwo_104, fun _ h => absurd h List.not_mem_nil⟩⟩⟩) rfl ?_
          refine xldF tn_X6_isTwo dX6_isTwo_105 at_28 h (fun v13 h => ?_)
          obtain ⟨v14, h15, h⟩ := obind h
          refine xcall tn_X6_isTwo dX6_isTwo_106 rfl rfl (w_X6_product h15) ?_
          show X 114 (109, [(0, .ref 18), (1, .int x1), (2, .int x2), (3, .int x3)], [.int v14, .int x3, .ref 33], wd d (wm s11 rest), 0, 0) _
          refine xs tn_X6_isTwo [(109, .aload_n 0, 1), (110, .getfield 55, 3), (113, .iload_n 3, 1)] (st' := (114, [(0, .ref 18), (1, .int x1), (2, .int x2), (3, .int x3)], [.int x3, .ref 30, .int v14, .int x3, .ref 33], wd d (wm s11 rest), 0, 0)) (List.forall_mem_cons.mpr ⟨dX6_isTwo_109, List.forall_mem_cons.mpr ⟨dX6_isTwo_110, List.forall_mem_cons.mpr ⟨dX6_isTwo_113, fun _ h => absurd h List.not_mem_nil⟩⟩⟩) rfl ?_
          refine xldF tn_X6_isTwo dX6_isTwo_114 at_30 h (fun v16 h => ?_)
          refine xs tn_X6_isTwo [(115, .aload_n 0, 1), (116, .getfield 52, 3), (119, .iconst 0, 1)] (st' := (120, [(0, .ref 18), (1, .int x1), (2, .int x2), (3, .int x3)], [.int (nI 0), .ref 29, .int v16, .int v14, .int x3, .ref 33], wd d (wm s11 rest), 0, 0)) (List.forall_mem_cons.mpr ⟨dX6_isTwo_115, List.forall_mem_cons.mpr ⟨dX6_isTwo_116, List.forall_mem_cons.mpr ⟨dX6_isTwo_119, fun _ h => absurd h List.not_mem_nil⟩⟩⟩) rfl ?_
          refine xldF tn_X6_isTwo dX6_isTwo_120 at_29 h (fun v17 h => ?_)
          obtain ⟨v18, h19, h⟩ := obind h
          refine xcall tn_X6_isTwo dX6_isTwo_121 rfl rfl (w_X6_product h19) ?_
          show X 114 (124, [(0, .ref 18), (1, .int x1), (2, .int x2), (3, .int x3)], [.int v18, .int v14, .int x3, .ref 33], wd d (wm s11 rest), 0, 0) _
          refine xs tn_X6_isTwo [(124, .ixor, 1), (125, .iload_n 2, 1)] (st' := (126, [(0, .ref 18), (1, .int x1), (2, .int x2), (3, .int x3)], [.int x2, .int (v14 ^^^ v18), .int x3, .ref 33], wd d (wm s11 rest), 0, 0)) (List.forall_mem_cons.mpr ⟨dX6_isTwo_124, List.forall_mem_cons.mpr ⟨dX6_isTwo_125, fun _ h => absurd h List.not_mem_nil⟩⟩) rfl ?_
          obtain ⟨v20, h21, h⟩ := obind h
          refine xcall tn_X6_isTwo dX6_isTwo_126 rfl rfl (w_X6_quotient h21) ?_
          show X 114 (129, [(0, .ref 18), (1, .int x1), (2, .int x2), (3, .int x3)], [.int v20, .int x3, .ref 33], wd d (wm s11 rest), 0, 0) _
          refine xstF (W := fun s => wd d (wm s rest)) tn_X6_isTwo dX6_isTwo_129 at_33 (fun _ => set_33) h (fun s22 h => ?_)
          refine xs tn_X6_isTwo [(130, .iinc 3 1, 3), (133, .goto (-99), 3)] (st' := (34, [(0, .ref 18), (1, .int x1), (2, .int x2), (3, .int (x3 + (nI 1)))], [], wd d (wm s22 rest), 0, 0)) (List.forall_mem_cons.mpr ⟨dX6_isTwo_130, List.forall_mem_cons.mpr ⟨dX6_isTwo_133, fun _ h => absurd h List.not_mem_nil⟩⟩) rfl ?_
          refine xwk [0, 1, 2, 3] rfl rfl ?_
          exact ih _ _ _ _ _ _ h
def F_X6_isTwo (N : Nat) (s : St) (x1 : Int32) : Option (Int32 × St) := ldA (gA s 9) 4 (nI 0) fun v1 => ldA (gA s 10) 4 (nI 1) fun v2 => (F_X6_product N v1 v2).bind fun v3 => ldA (gA s 9) 4 (nI 1) fun v5 => ldA (gA s 10) 4 (nI 0) fun v6 => (F_X6_product N v5 v6).bind fun v7 => F_X6_isTwo_34 N N s x1 (v3 ^^^ v7) (nI 0)
set_option maxRecDepth 100000 in
set_option maxHeartbeats 4000000 in
theorem w_X6_isTwo {d : St} {rest : mx_W} {N : Nat} {s : St} {x1 : Int32} {r : Int32} {t : St} (h : F_X6_isTwo N s x1 = some (r, t)) : X 114 (0, [(0, .ref 18), (1, .int x1)], [], wd d (wm s rest), 0, 0) (some (.int r), wd d (wm t rest), 0, 0) := by
  unfold F_X6_isTwo at h
  refine xs tn_X6_isTwo [(0, .aload_n 0, 1), (1, .getfield 49, 3), (4, .iconst 0, 1)] (st' := (5, [(0, .ref 18), (1, .int x1)], [.int (nI 0), .ref 28], wd d (wm s rest), 0, 0)) (List.forall_mem_cons.mpr ⟨dX6_isTwo_0, List.forall_mem_cons.mpr ⟨dX6_isTwo_1, List.forall_mem_cons.mpr ⟨dX6_isTwo_4, fun _ h => absurd h List.not_mem_nil⟩⟩⟩) rfl ?_
  refine xldF tn_X6_isTwo dX6_isTwo_5 at_28 h (fun v1 h => ?_)
  refine xs tn_X6_isTwo [(6, .aload_n 0, 1), (7, .getfield 52, 3), (10, .iconst 1, 1)] (st' := (11, [(0, .ref 18), (1, .int x1)], [.int (nI 1), .ref 29, .int v1], wd d (wm s rest), 0, 0)) (List.forall_mem_cons.mpr ⟨dX6_isTwo_6, List.forall_mem_cons.mpr ⟨dX6_isTwo_7, List.forall_mem_cons.mpr ⟨dX6_isTwo_10, fun _ h => absurd h List.not_mem_nil⟩⟩⟩) rfl ?_
  refine xldF tn_X6_isTwo dX6_isTwo_11 at_29 h (fun v2 h => ?_)
  obtain ⟨v3, h4, h⟩ := obind h
  refine xcall tn_X6_isTwo dX6_isTwo_12 rfl rfl (w_X6_product h4) ?_
  show X 114 (15, [(0, .ref 18), (1, .int x1)], [.int v3], wd d (wm s rest), 0, 0) _
  refine xs tn_X6_isTwo [(15, .aload_n 0, 1), (16, .getfield 49, 3), (19, .iconst 1, 1)] (st' := (20, [(0, .ref 18), (1, .int x1)], [.int (nI 1), .ref 28, .int v3], wd d (wm s rest), 0, 0)) (List.forall_mem_cons.mpr ⟨dX6_isTwo_15, List.forall_mem_cons.mpr ⟨dX6_isTwo_16, List.forall_mem_cons.mpr ⟨dX6_isTwo_19, fun _ h => absurd h List.not_mem_nil⟩⟩⟩) rfl ?_
  refine xldF tn_X6_isTwo dX6_isTwo_20 at_28 h (fun v5 h => ?_)
  refine xs tn_X6_isTwo [(21, .aload_n 0, 1), (22, .getfield 52, 3), (25, .iconst 0, 1)] (st' := (26, [(0, .ref 18), (1, .int x1)], [.int (nI 0), .ref 29, .int v5, .int v3], wd d (wm s rest), 0, 0)) (List.forall_mem_cons.mpr ⟨dX6_isTwo_21, List.forall_mem_cons.mpr ⟨dX6_isTwo_22, List.forall_mem_cons.mpr ⟨dX6_isTwo_25, fun _ h => absurd h List.not_mem_nil⟩⟩⟩) rfl ?_
  refine xldF tn_X6_isTwo dX6_isTwo_26 at_29 h (fun v6 h => ?_)
  obtain ⟨v7, h8, h⟩ := obind h
  refine xcall tn_X6_isTwo dX6_isTwo_27 rfl rfl (w_X6_product h8) ?_
  show X 114 (30, [(0, .ref 18), (1, .int x1)], [.int v7, .int v3], wd d (wm s rest), 0, 0) _
  refine xs tn_X6_isTwo [(30, .ixor, 1), (31, .istore_n 2, 1), (32, .iconst 0, 1), (33, .istore_n 3, 1)] (st' := (34, [(3, .int (nI 0)), (2, .int (v3 ^^^ v7)), (0, .ref 18), (1, .int x1)], [], wd d (wm s rest), 0, 0)) (List.forall_mem_cons.mpr ⟨dX6_isTwo_30, List.forall_mem_cons.mpr ⟨dX6_isTwo_31, List.forall_mem_cons.mpr ⟨dX6_isTwo_32, List.forall_mem_cons.mpr ⟨dX6_isTwo_33, fun _ h => absurd h List.not_mem_nil⟩⟩⟩⟩) rfl ?_
  refine xwk [0, 1, 2, 3] rfl rfl ?_
  exact w_X6_isTwo_34 N _ _ _ _ _ _ h
def F_X6_fill_32_10 (N : Nat) : Nat → St → Int32 → Int32 → Option (St)
  | 0, _, _, _ => none
  | f + 1, s, x1, x3 => bif mx_cnd .ge x3 (nI 24) then (bnd (sI s 9 (nI 0)) fun s1 => (F_X6_write N s1 x1).bind fun s2 => bnd (sI s2 5 ((gI s2 5) + (nI 1))) fun s4 => some s4) else (ldA (gA s 13) 24 x3 fun v5 => stA s 6 32 ((nI 4) + x3) v5 fun s6 => F_X6_fill_32_10 N f s6 x1 (x3 + (nI 1)))
set_option maxRecDepth 100000 in
set_option maxHeartbeats 4000000 in
theorem w_X6_fill_32_10 {d : St} {rest : mx_W} {N : Nat} : ∀ (f : Nat) (s : St) (x1 : Int32) (x3 : Int32) (r : St), F_X6_fill_32_10 N f s x1 x3 = some r → X 110 (10, [(0, .ref 18), (1, .int x1), (2, .ref 32), (3, .int x3)], [], wd d (wm s rest), 0, 0) (none, wd d (wm r rest), 0, 0) := by
  intro f
  induction f with
  | zero => intro s x1 x3 r h; rw [F_X6_fill_32_10.eq_1] at h; cases h
  | succ f ih =>
    intro s x1 x3 r h
    rw [F_X6_fill_32_10.eq_2] at h
    refine xs tn_X6_fill [(10, .iload_n 3, 1), (11, .bipush 24, 2)] (st' := (13, [(0, .ref 18), (1, .int x1), (2, .ref 32), (3, .int x3)], [.int (nI 24), .int x3], wd d (wm s rest), 0, 0)) (List.forall_mem_cons.mpr ⟨dX6_fill_10, List.forall_mem_cons.mpr ⟨dX6_fill_11, fun _ h => absurd h List.not_mem_nil⟩⟩) rfl ?_
    refine xcmpF (t := 33) tn_X6_fill dX6_fill_13 (by decide) h (fun h => ?_) (fun h => ?_)
    · refine xs tn_X6_fill [(33, .aload_n 0, 1), (34, .iconst 0, 1)] (st' := (35, [(0, .ref 18), (1, .int x1), (2, .ref 32), (3, .int x3)], [.int (nI 0), .ref 18], wd d (wm s rest), 0, 0)) (List.forall_mem_cons.mpr ⟨dX6_fill_33, List.forall_mem_cons.mpr ⟨dX6_fill_34, fun _ h => absurd h List.not_mem_nil⟩⟩) rfl ?_
      refine xput_b9 tn_X6_fill dX6_fill_35 rfl h (fun s1 h => ?_)
      refine xs tn_X6_fill [(38, .aload_n 0, 1), (39, .iload_n 1, 1)] (st' := (40, [(0, .ref 18), (1, .int x1), (2, .ref 32), (3, .int x3)], [.int x1, .ref 18], wd d (wm s1 rest), 0, 0)) (List.forall_mem_cons.mpr ⟨dX6_fill_38, List.forall_mem_cons.mpr ⟨dX6_fill_39, fun _ h => absurd h List.not_mem_nil⟩⟩) rfl ?_
      obtain ⟨s2, h3, h⟩ := obind h
      refine xcall tn_X6_fill dX6_fill_40 rfl rfl (w_X6_write h3) ?_
      show X 110 (43, [(0, .ref 18), (1, .int x1), (2, .ref 32), (3, .int x3)], [], wd d (wm s2 rest), 0, 0) _
      refine xs tn_X6_fill [(43, .aload_n 0, 1), (44, .dup, 1), (45, .getfield 165, 3), (48, .iconst 1, 1), (49, .iadd, 1)] (st' := (50, [(0, .ref 18), (1, .int x1), (2, .ref 32), (3, .int x3)], [.int ((gI s2 5) + (nI 1)), .ref 18], wd d (wm s2 rest), 0, 0)) (List.forall_mem_cons.mpr ⟨dX6_fill_43, List.forall_mem_cons.mpr ⟨dX6_fill_44, List.forall_mem_cons.mpr ⟨dX6_fill_45, List.forall_mem_cons.mpr ⟨dX6_fill_48, List.forall_mem_cons.mpr ⟨dX6_fill_49, fun _ h => absurd h List.not_mem_nil⟩⟩⟩⟩⟩) rfl ?_
      refine xput_b5 tn_X6_fill dX6_fill_50 rfl h (fun s4 h => ?_)
      cases h
      exact xretv tn_X6_fill rfl dX6_fill_53
    · refine xs tn_X6_fill [(16, .aload_n 0, 1), (17, .getfield 40, 3), (20, .iconst 4, 1), (21, .iload_n 3, 1), (22, .iadd, 1), (23, .aload_n 2, 1), (24, .iload_n 3, 1)] (st' := (25, [(0, .ref 18), (1, .int x1), (2, .ref 32), (3, .int x3)], [.int x3, .ref 32, .int ((nI 4) + x3), .ref 25], wd d (wm s rest), 0, 0)) (List.forall_mem_cons.mpr ⟨dX6_fill_16, List.forall_mem_cons.mpr ⟨dX6_fill_17, List.forall_mem_cons.mpr ⟨dX6_fill_20, List.forall_mem_cons.mpr ⟨dX6_fill_21, List.forall_mem_cons.mpr ⟨dX6_fill_22, List.forall_mem_cons.mpr ⟨dX6_fill_23, List.forall_mem_cons.mpr ⟨dX6_fill_24, fun _ h => absurd h List.not_mem_nil⟩⟩⟩⟩⟩⟩⟩) rfl ?_
      refine xldF tn_X6_fill dX6_fill_25 at_32 h (fun v5 h => ?_)
      refine xstF (W := fun s => wd d (wm s rest)) tn_X6_fill dX6_fill_26 at_25 (fun _ => set_25) h (fun s6 h => ?_)
      refine xs tn_X6_fill [(27, .iinc 3 1, 3), (30, .goto (-20), 3)] (st' := (10, [(0, .ref 18), (1, .int x1), (2, .ref 32), (3, .int (x3 + (nI 1)))], [], wd d (wm s6 rest), 0, 0)) (List.forall_mem_cons.mpr ⟨dX6_fill_27, List.forall_mem_cons.mpr ⟨dX6_fill_30, fun _ h => absurd h List.not_mem_nil⟩⟩) rfl ?_
      refine xwk [0, 1, 2, 3] rfl rfl ?_
      exact ih _ _ _ _ h
def F_X6_fill_32 (N : Nat) (s : St) (x1 : Int32) : Option (St) := (F_X6_begin N s (nI 2) (nI 0) (nI 0) (nI 0)).bind fun s1 => F_X6_fill_32_10 N N s1 x1 (nI 0)
set_option maxRecDepth 100000 in
set_option maxHeartbeats 4000000 in
theorem w_X6_fill_32 {d : St} {rest : mx_W} {N : Nat} {s : St} {x1 : Int32} {r : St} (h : F_X6_fill_32 N s x1 = some r) : X 110 (0, [(0, .ref 18), (1, .int x1), (2, .ref 32)], [], wd d (wm s rest), 0, 0) (none, wd d (wm r rest), 0, 0) := by
  unfold F_X6_fill_32 at h
  refine xs tn_X6_fill [(0, .aload_n 0, 1), (1, .iconst 2, 1), (2, .iconst 0, 1), (3, .iconst 0, 1), (4, .iconst 0, 1)] (st' := (5, [(0, .ref 18), (1, .int x1), (2, .ref 32)], [.int (nI 0), .int (nI 0), .int (nI 0), .int (nI 2), .ref 18], wd d (wm s rest), 0, 0)) (List.forall_mem_cons.mpr ⟨dX6_fill_0, List.forall_mem_cons.mpr ⟨dX6_fill_1, List.forall_mem_cons.mpr ⟨dX6_fill_2, List.forall_mem_cons.mpr ⟨dX6_fill_3, List.forall_mem_cons.mpr ⟨dX6_fill_4, fun _ h => absurd h List.not_mem_nil⟩⟩⟩⟩⟩) rfl ?_
  obtain ⟨s1, h2, h⟩ := obind h
  refine xcall tn_X6_fill dX6_fill_5 rfl rfl (w_X6_begin h2) ?_
  show X 110 (8, [(0, .ref 18), (1, .int x1), (2, .ref 32)], [], wd d (wm s1 rest), 0, 0) _
  refine xs tn_X6_fill [(8, .iconst 0, 1), (9, .istore_n 3, 1)] (st' := (10, [(3, .int (nI 0)), (0, .ref 18), (1, .int x1), (2, .ref 32)], [], wd d (wm s1 rest), 0, 0)) (List.forall_mem_cons.mpr ⟨dX6_fill_8, List.forall_mem_cons.mpr ⟨dX6_fill_9, fun _ h => absurd h List.not_mem_nil⟩⟩) rfl ?_
  refine xwk [0, 1, 2, 3] rfl rfl ?_
  exact w_X6_fill_32_10 N _ _ _ _ h
def F_X6_fill_33_10 (N : Nat) : Nat → St → Int32 → Int32 → Option (St)
  | 0, _, _, _ => none
  | f + 1, s, x1, x3 => bif mx_cnd .ge x3 (nI 24) then (bnd (sI s 9 (nI 0)) fun s1 => (F_X6_write N s1 x1).bind fun s2 => bnd (sI s2 5 ((gI s2 5) + (nI 1))) fun s4 => some s4) else (ldA (gA s 14) 24 x3 fun v5 => stA s 6 32 ((nI 4) + x3) v5 fun s6 => F_X6_fill_33_10 N f s6 x1 (x3 + (nI 1)))
set_option maxRecDepth 100000 in
set_option maxHeartbeats 4000000 in
theorem w_X6_fill_33_10 {d : St} {rest : mx_W} {N : Nat} : ∀ (f : Nat) (s : St) (x1 : Int32) (x3 : Int32) (r : St), F_X6_fill_33_10 N f s x1 x3 = some r → X 110 (10, [(0, .ref 18), (1, .int x1), (2, .ref 33), (3, .int x3)], [], wd d (wm s rest), 0, 0) (none, wd d (wm r rest), 0, 0) := by
  intro f
  induction f with
  | zero => intro s x1 x3 r h; rw [F_X6_fill_33_10.eq_1] at h; cases h
  | succ f ih =>
    intro s x1 x3 r h
    rw [F_X6_fill_33_10.eq_2] at h
    refine xs tn_X6_fill [(10, .iload_n 3, 1), (11, .bipush 24, 2)] (st' := (13, [(0, .ref 18), (1, .int x1), (2, .ref 33), (3, .int x3)], [.int (nI 24), .int x3], wd d (wm s rest), 0, 0)) (List.forall_mem_cons.mpr ⟨dX6_fill_10, List.forall_mem_cons.mpr ⟨dX6_fill_11, fun _ h => absurd h List.not_mem_nil⟩⟩) rfl ?_
    refine xcmpF (t := 33) tn_X6_fill dX6_fill_13 (by decide) h (fun h => ?_) (fun h => ?_)
    · refine xs tn_X6_fill [(33, .aload_n 0, 1), (34, .iconst 0, 1)] (st' := (35, [(0, .ref 18), (1, .int x1), (2, .ref 33), (3, .int x3)], [.int (nI 0), .ref 18], wd d (wm s rest), 0, 0)) (List.forall_mem_cons.mpr ⟨dX6_fill_33, List.forall_mem_cons.mpr ⟨dX6_fill_34, fun _ h => absurd h List.not_mem_nil⟩⟩) rfl ?_
      refine xput_b9 tn_X6_fill dX6_fill_35 rfl h (fun s1 h => ?_)
      refine xs tn_X6_fill [(38, .aload_n 0, 1), (39, .iload_n 1, 1)] (st' := (40, [(0, .ref 18), (1, .int x1), (2, .ref 33), (3, .int x3)], [.int x1, .ref 18], wd d (wm s1 rest), 0, 0)) (List.forall_mem_cons.mpr ⟨dX6_fill_38, List.forall_mem_cons.mpr ⟨dX6_fill_39, fun _ h => absurd h List.not_mem_nil⟩⟩) rfl ?_
      obtain ⟨s2, h3, h⟩ := obind h
      refine xcall tn_X6_fill dX6_fill_40 rfl rfl (w_X6_write h3) ?_
      show X 110 (43, [(0, .ref 18), (1, .int x1), (2, .ref 33), (3, .int x3)], [], wd d (wm s2 rest), 0, 0) _
      refine xs tn_X6_fill [(43, .aload_n 0, 1), (44, .dup, 1), (45, .getfield 165, 3), (48, .iconst 1, 1), (49, .iadd, 1)] (st' := (50, [(0, .ref 18), (1, .int x1), (2, .ref 33), (3, .int x3)], [.int ((gI s2 5) + (nI 1)), .ref 18], wd d (wm s2 rest), 0, 0)) (List.forall_mem_cons.mpr ⟨dX6_fill_43, List.forall_mem_cons.mpr ⟨dX6_fill_44, List.forall_mem_cons.mpr ⟨dX6_fill_45, List.forall_mem_cons.mpr ⟨dX6_fill_48, List.forall_mem_cons.mpr ⟨dX6_fill_49, fun _ h => absurd h List.not_mem_nil⟩⟩⟩⟩⟩) rfl ?_
      refine xput_b5 tn_X6_fill dX6_fill_50 rfl h (fun s4 h => ?_)
      cases h
      exact xretv tn_X6_fill rfl dX6_fill_53
    · refine xs tn_X6_fill [(16, .aload_n 0, 1), (17, .getfield 40, 3), (20, .iconst 4, 1), (21, .iload_n 3, 1), (22, .iadd, 1), (23, .aload_n 2, 1), (24, .iload_n 3, 1)] (st' := (25, [(0, .ref 18), (1, .int x1), (2, .ref 33), (3, .int x3)], [.int x3, .ref 33, .int ((nI 4) + x3), .ref 25], wd d (wm s rest), 0, 0)) (List.forall_mem_cons.mpr ⟨dX6_fill_16, List.forall_mem_cons.mpr ⟨dX6_fill_17, List.forall_mem_cons.mpr ⟨dX6_fill_20, List.forall_mem_cons.mpr ⟨dX6_fill_21, List.forall_mem_cons.mpr ⟨dX6_fill_22, List.forall_mem_cons.mpr ⟨dX6_fill_23, List.forall_mem_cons.mpr ⟨dX6_fill_24, fun _ h => absurd h List.not_mem_nil⟩⟩⟩⟩⟩⟩⟩) rfl ?_
      refine xldF tn_X6_fill dX6_fill_25 at_33 h (fun v5 h => ?_)
      refine xstF (W := fun s => wd d (wm s rest)) tn_X6_fill dX6_fill_26 at_25 (fun _ => set_25) h (fun s6 h => ?_)
      refine xs tn_X6_fill [(27, .iinc 3 1, 3), (30, .goto (-20), 3)] (st' := (10, [(0, .ref 18), (1, .int x1), (2, .ref 33), (3, .int (x3 + (nI 1)))], [], wd d (wm s6 rest), 0, 0)) (List.forall_mem_cons.mpr ⟨dX6_fill_27, List.forall_mem_cons.mpr ⟨dX6_fill_30, fun _ h => absurd h List.not_mem_nil⟩⟩) rfl ?_
      refine xwk [0, 1, 2, 3] rfl rfl ?_
      exact ih _ _ _ _ h
def F_X6_fill_33 (N : Nat) (s : St) (x1 : Int32) : Option (St) := (F_X6_begin N s (nI 2) (nI 0) (nI 0) (nI 0)).bind fun s1 => F_X6_fill_33_10 N N s1 x1 (nI 0)
set_option maxRecDepth 100000 in
set_option maxHeartbeats 4000000 in
theorem w_X6_fill_33 {d : St} {rest : mx_W} {N : Nat} {s : St} {x1 : Int32} {r : St} (h : F_X6_fill_33 N s x1 = some r) : X 110 (0, [(0, .ref 18), (1, .int x1), (2, .ref 33)], [], wd d (wm s rest), 0, 0) (none, wd d (wm r rest), 0, 0) := by
  unfold F_X6_fill_33 at h
  refine xs tn_X6_fill [(0, .aload_n 0, 1), (1, .iconst 2, 1), (2, .iconst 0, 1), (3, .iconst 0, 1), (4, .iconst 0, 1)] (st' := (5, [(0, .ref 18), (1, .int x1), (2, .ref 33)], [.int (nI 0), .int (nI 0), .int (nI 0), .int (nI 2), .ref 18], wd d (wm s rest), 0, 0)) (List.forall_mem_cons.mpr ⟨dX6_fill_0, List.forall_mem_cons.mpr ⟨dX6_fill_1, List.forall_mem_cons.mpr ⟨dX6_fill_2, List.forall_mem_cons.mpr ⟨dX6_fill_3, List.forall_mem_cons.mpr ⟨dX6_fill_4, fun _ h => absurd h List.not_mem_nil⟩⟩⟩⟩⟩) rfl ?_
  obtain ⟨s1, h2, h⟩ := obind h
  refine xcall tn_X6_fill dX6_fill_5 rfl rfl (w_X6_begin h2) ?_
  show X 110 (8, [(0, .ref 18), (1, .int x1), (2, .ref 33)], [], wd d (wm s1 rest), 0, 0) _
  refine xs tn_X6_fill [(8, .iconst 0, 1), (9, .istore_n 3, 1)] (st' := (10, [(3, .int (nI 0)), (0, .ref 18), (1, .int x1), (2, .ref 33)], [], wd d (wm s1 rest), 0, 0)) (List.forall_mem_cons.mpr ⟨dX6_fill_8, List.forall_mem_cons.mpr ⟨dX6_fill_9, fun _ h => absurd h List.not_mem_nil⟩⟩) rfl ?_
  refine xwk [0, 1, 2, 3] rfl rfl ?_
  exact w_X6_fill_33_10 N _ _ _ _ h
def F_X6_isOne_58 (N : Nat) : Nat → St → Int32 → Int32 → Int32 → Int32 → Int32 → Option (Int32 × St)
  | 0, _, _, _, _, _, _ => none
  | f + 1, s, x1, x2, x3, x5, x6 => bif mx_cnd .ge x6 (nI 24) then (rz x5 (some (x5, s))) else (bif mx_cnd .eq x5 0 then (rz x5 (some (x5, s))) else (bif mx_cnd .eq x3 0 then (ldA (gA s 12) 24 x6 fun v1 => ldA (gA s 10) 4 (nI 0) fun v2 => (F_X6_quotient N v1 v2).bind fun v3 => stA s 13 24 x6 v3 fun s5 => bif mx_cnd .eq x1 0 then (bif mx_cnd .eq x2 0 then (F_X6_isOne_58 N f s5 x1 x2 x3 (nI 1) (x6 + (nI 1))) else (ldA (gA s5 13) 24 x6 fun v6 => ldA (gA s5 10) 4 (nI 0) fun v7 => (F_X6_product N v6 v7).bind fun v8 => ldA (gA s5 12) 24 x6 fun v10 => bif mx_cnd .ne v8 v10 then (F_X6_isOne_58 N f s5 x1 x2 x3 (nI 0) (x6 + (nI 1))) else (F_X6_isOne_58 N f s5 x1 x2 x3 (nI 1) (x6 + (nI 1))))) else (ldA (gA s5 13) 24 x6 fun v11 => ldA (gA s5 9) 4 (nI 0) fun v12 => (F_X6_product N v11 v12).bind fun v13 => ldA (gA s5 11) 24 x6 fun v15 => bif mx_cnd .ne v13 v15 then (F_X6_isOne_58 N f s5 x1 x2 x3 (nI 0) (x6 + (nI 1))) else (bif mx_cnd .eq x2 0 then (F_X6_isOne_58 N f s5 x1 x2 x3 (nI 1) (x6 + (nI 1))) else (ldA (gA s5 13) 24 x6 fun v16 => ldA (gA s5 10) 4 (nI 0) fun v17 => (F_X6_product N v16 v17).bind fun v18 => ldA (gA s5 12) 24 x6 fun v20 => bif mx_cnd .ne v18 v20 then (F_X6_isOne_58 N f s5 x1 x2 x3 (nI 0) (x6 + (nI 1))) else (F_X6_isOne_58 N f s5 x1 x2 x3 (nI 1) (x6 + (nI 1))))))) else (ldA (gA s 11) 24 x6 fun v21 => stA s 13 24 x6 v21 fun s22 => bif mx_cnd .eq x1 0 then (bif mx_cnd .eq x2 0 then (F_X6_isOne_58 N f s22 x1 x2 x3 (nI 1) (x6 + (nI 1))) else (ldA (gA s22 13) 24 x6 fun v23 => ldA (gA s22 10) 4 (nI 0) fun v24 => (F_X6_product N v23 v24).bind fun v25 => ldA (gA s22 12) 24 x6 fun v27 => bif mx_cnd .ne v25 v27 then (F_X6_isOne_58 N f s22 x1 x2 x3 (nI 0) (x6 + (nI 1))) else (F_X6_isOne_58 N f s22 x1 x2 x3 (nI 1) (x6 + (nI 1))))) else (ldA (gA s22 13) 24 x6 fun v28 => ldA (gA s22 9) 4 (nI 0) fun v29 => (F_X6_product N v28 v29).bind fun v30 => ldA (gA s22 11) 24 x6 fun v32 => bif mx_cnd .ne v30 v32 then (F_X6_isOne_58 N f s22 x1 x2 x3 (nI 0) (x6 + (nI 1))) else (bif mx_cnd .eq x2 0 then (F_X6_isOne_58 N f s22 x1 x2 x3 (nI 1) (x6 + (nI 1))) else (ldA (gA s22 13) 24 x6 fun v33 => ldA (gA s22 10) 4 (nI 0) fun v34 => (F_X6_product N v33 v34).bind fun v35 => ldA (gA s22 12) 24 x6 fun v37 => bif mx_cnd .ne v35 v37 then (F_X6_isOne_58 N f s22 x1 x2 x3 (nI 0) (x6 + (nI 1))) else (F_X6_isOne_58 N f s22 x1 x2 x3 (nI 1) (x6 + (nI 1)))))))))
set_option maxRecDepth 100000 in
set_option maxHeartbeats 4000000 in
theorem w_X6_isOne_58 {d : St} {rest : mx_W} {N : Nat} : ∀ (f : Nat) (s : St) (x1 : Int32) (x2 : Int32) (x3 : Int32) (x5 : Int32) (x6 : Int32) (r : Int32) (t : St), F_X6_isOne_58 N f s x1 x2 x3 x5 x6 = some (r, t) → X 113 (58, [(0, .ref 18), (1, .int x1), (2, .int x2), (3, .int x3), (5, .int x5), (6, .int x6)], [], wd d (wm s rest), 0, 0) (some (.int r), wd d (wm t rest), 0, 0) := by
  intro f
  induction f with
  | zero => intro s x1 x2 x3 x5 x6 r t h; rw [F_X6_isOne_58.eq_1] at h; cases h
  | succ f ih =>
    intro s x1 x2 x3 x5 x6 r t h
    rw [F_X6_isOne_58.eq_2] at h
    refine xs tn_X6_isOne [(58, .iload 6, 2), (60, .bipush 24, 2)] (st' := (62, [(0, .ref 18), (1, .int x1), (2, .int x2), (3, .int x3), (5, .int x5), (6, .int x6)], [.int (nI 24), .int x6], wd d (wm s rest), 0, 0)) (List.forall_mem_cons.mpr ⟨dX6_isOne_58, List.forall_mem_cons.mpr ⟨dX6_isOne_60, fun _ h => absurd h List.not_mem_nil⟩⟩) rfl ?_
    refine xcmpF (t := 180) tn_X6_isOne dX6_isOne_62 (by decide) h (fun h => ?_) (fun h => ?_)
    · refine xs tn_X6_isOne [(180, .iload 5, 2)] (st' := (182, [(0, .ref 18), (1, .int x1), (2, .int x2), (3, .int x3), (5, .int x5), (6, .int x6)], [.int x5], wd d (wm s rest), 0, 0)) (List.forall_mem_cons.mpr ⟨dX6_isOne_180, fun _ h => absurd h List.not_mem_nil⟩) rfl ?_
      obtain ⟨hz, h⟩ := orz h
      cases h
      exact xretz tn_X6_isOne rfl hz dX6_isOne_182
    · refine xs tn_X6_isOne [(65, .iload 5, 2)] (st' := (67, [(0, .ref 18), (1, .int x1), (2, .int x2), (3, .int x3), (5, .int x5), (6, .int x6)], [.int x5], wd d (wm s rest), 0, 0)) (List.forall_mem_cons.mpr ⟨dX6_isOne_65, fun _ h => absurd h List.not_mem_nil⟩) rfl ?_
      refine xifF (t := 180) tn_X6_isOne dX6_isOne_67 (by decide) h (fun h => ?_) (fun h => ?_)
      · refine xs tn_X6_isOne [(180, .iload 5, 2)] (st' := (182, [(0, .ref 18), (1, .int x1), (2, .int x2), (3, .int x3), (5, .int x5), (6, .int x6)], [.int x5], wd d (wm s rest), 0, 0)) (List.forall_mem_cons.mpr ⟨dX6_isOne_180, fun _ h => absurd h List.not_mem_nil⟩) rfl ?_
        obtain ⟨hz, h⟩ := orz h
        cases h
        exact xretz tn_X6_isOne rfl hz dX6_isOne_182
      · refine xs tn_X6_isOne [(70, .aload_n 0, 1), (71, .getfield 61, 3), (74, .iload 6, 2), (76, .iload_n 3, 1)] (st' := (77, [(0, .ref 18), (1, .int x1), (2, .int x2), (3, .int x3), (5, .int x5), (6, .int x6)], [.int x3, .int x6, .ref 32], wd d (wm s rest), 0, 0)) (List.forall_mem_cons.mpr ⟨dX6_isOne_70, List.forall_mem_cons.mpr ⟨dX6_isOne_71, List.forall_mem_cons.mpr ⟨dX6_isOne_74, List.forall_mem_cons.mpr ⟨dX6_isOne_76, fun _ h => absurd h List.not_mem_nil⟩⟩⟩⟩) rfl ?_
        refine xifF (t := 90) tn_X6_isOne dX6_isOne_77 (by decide) h (fun h => ?_) (fun h => ?_)
        · refine xs tn_X6_isOne [(90, .aload_n 0, 1), (91, .getfield 58, 3), (94, .iload 6, 2)] (st' := (96, [(0, .ref 18), (1, .int x1), (2, .int x2), (3, .int x3), (5, .int x5), (6, .int x6)], [.int x6, .ref 31, .int x6, .ref 32], wd d (wm s rest), 0, 0)) (List.forall_mem_cons.mpr ⟨dX6_isOne_90, List.forall_mem_cons.mpr ⟨dX6_isOne_91, List.forall_mem_cons.mpr ⟨dX6_isOne_94, fun _ h => absurd h List.not_mem_nil⟩⟩⟩) rfl ?_
          refine xldF tn_X6_isOne dX6_isOne_96 at_31 h (fun v1 h => ?_)
          refine xs tn_X6_isOne [(97, .aload_n 0, 1), (98, .getfield 52, 3), (101, .iconst 0, 1)] (st' := (102, [(0, .ref 18), (1, .int x1), (2, .int x2), (3, .int x3), (5, .int x5), (6, .int x6)], [.int (nI 0), .ref 29, .int v1, .int x6, .ref 32], wd d (wm s rest), 0, 0)) (List.forall_mem_cons.mpr ⟨dX6_isOne_97, List.forall_mem_cons.mpr ⟨dX6_isOne_98, List.forall_mem_cons.mpr ⟨dX6_isOne_101, fun _ h => absurd h List.not_mem_nil⟩⟩⟩) rfl ?_
          refine xldF tn_X6_isOne dX6_isOne_102 at_29 h (fun v2 h => ?_)
          obtain ⟨v3, h4, h⟩ := obind h
          refine xcall tn_X6_isOne dX6_isOne_103 rfl rfl (w_X6_quotient h4) ?_
          show X 113 (106, [(0, .ref 18), (1, .int x1), (2, .int x2), (3, .int x3), (5, .int x5), (6, .int x6)], [.int v3, .int x6, .ref 32], wd d (wm s rest), 0, 0) _
          refine xstF (W := fun s => wd d (wm s rest)) tn_X6_isOne dX6_isOne_106 at_32 (fun _ => set_32) h (fun s5 h => ?_)
          refine xs tn_X6_isOne [(107, .iload_n 1, 1)] (st' := (108, [(0, .ref 18), (1, .int x1), (2, .int x2), (3, .int x3), (5, .int x5), (6, .int x6)], [.int x1], wd d (wm s5 rest), 0, 0)) (List.forall_mem_cons.mpr ⟨dX6_isOne_107, fun _ h => absurd h List.not_mem_nil⟩) rfl ?_
          refine xifF (t := 137) tn_X6_isOne dX6_isOne_108 (by decide) h (fun h => ?_) (fun h => ?_)
          · refine xs tn_X6_isOne [(137, .iload_n 2, 1)] (st' := (138, [(0, .ref 18), (1, .int x1), (2, .int x2), (3, .int x3), (5, .int x5), (6, .int x6)], [.int x2], wd d (wm s5 rest), 0, 0)) (List.forall_mem_cons.mpr ⟨dX6_isOne_137, fun _ h => absurd h List.not_mem_nil⟩) rfl ?_
            refine xifF (t := 167) tn_X6_isOne dX6_isOne_138 (by decide) h (fun h => ?_) (fun h => ?_)
            · refine xs tn_X6_isOne [(167, .iconst 1, 1), (168, .goto 4, 3), (172, .istore 5, 2), (174, .iinc 6 1, 3), (177, .goto (-119), 3)] (st' := (58, [(0, .ref 18), (1, .int x1), (2, .int x2), (3, .int x3), (5, .int (nI 1)), (6, .int (x6 + (nI 1)))], [], wd d (wm s5 rest), 0, 0)) (List.forall_mem_cons.mpr ⟨dX6_isOne_167, List.forall_mem_cons.mpr ⟨dX6_isOne_168, List.forall_mem_cons.mpr ⟨dX6_isOne_172, List.forall_mem_cons.mpr ⟨dX6_isOne_174, List.forall_mem_cons.mpr ⟨dX6_isOne_177, fun _ h => absurd h List.not_mem_nil⟩⟩⟩⟩⟩) rfl ?_
              refine xwk [0, 1, 2, 3, 5, 6] rfl rfl ?_
              exact ih _ _ _ _ _ _ _ _ h
            · refine xs tn_X6_isOne [(141, .aload_n 0, 1), (142, .getfield 61, 3), (145, .iload 6, 2)] (st' := (147, [(0, .ref 18), (1, .int x1), (2, .int x2), (3, .int x3), (5, .int x5), (6, .int x6)], [.int x6, .ref 32], wd d (wm s5 rest), 0, 0)) (List.forall_mem_cons.mpr ⟨dX6_isOne_141, List.forall_mem_cons.mpr ⟨dX6_isOne_142, List.forall_mem_cons.mpr ⟨dX6_isOne_145, fun _ h => absurd h List.not_mem_nil⟩⟩⟩) rfl ?_
              refine xldF tn_X6_isOne dX6_isOne_147 at_32 h (fun v6 h => ?_)
              refine xs tn_X6_isOne [(148, .aload_n 0, 1), (149, .getfield 52, 3), (152, .iconst 0, 1)] (st' := (153, [(0, .ref 18), (1, .int x1), (2, .int x2), (3, .int x3), (5, .int x5), (6, .int x6)], [.int (nI 0), .ref 29, .int v6], wd d (wm s5 rest), 0, 0)) (List.forall_mem_cons.mpr ⟨dX6_isOne_148, List.forall_mem_cons.mpr ⟨dX6_isOne_149, List.forall_mem_cons.mpr ⟨dX6_isOne_152, fun _ h => absurd h List.not_mem_nil⟩⟩⟩) rfl ?_
              refine xldF tn_X6_isOne dX6_isOne_153 at_29 h (fun v7 h => ?_)
              obtain ⟨v8, h9, h⟩ := obind h
              refine xcall tn_X6_isOne dX6_isOne_154 rfl rfl (w_X6_product h9) ?_
              show X 113 (157, [(0, .ref 18), (1, .int x1), (2, .int x2), (3, .int x3), (5, .int x5), (6, .int x6)], [.int v8], wd d (wm s5 rest), 0, 0) _
              refine xs tn_X6_isOne [(157, .aload_n 0, 1), (158, .getfield 58, 3), (161, .iload 6, 2)] (st' := (163, [(0, .ref 18), (1, .int x1), (2, .int x2), (3, .int x3), (5, .int x5), (6, .int x6)], [.int x6, .ref 31, .int v8], wd d (wm s5 rest), 0, 0)) (List.forall_mem_cons.mpr ⟨dX6_isOne_157, List.forall_mem_cons.mpr ⟨dX6_isOne_158, List.forall_mem_cons.mpr ⟨dX6_isOne_161, fun _ h => absurd h List.not_mem_nil⟩⟩⟩) rfl ?_
              refine xldF tn_X6_isOne dX6_isOne_163 at_31 h (fun v10 h => ?_)
              refine xcmpF (t := 171) tn_X6_isOne dX6_isOne_164 (by decide) h (fun h => ?_) (fun h => ?_)
              · refine xs tn_X6_isOne [(171, .iconst 0, 1), (172, .istore 5, 2), (174, .iinc 6 1, 3), (177, .goto (-119), 3)] (st' := (58, [(0, .ref 18), (1, .int x1), (2, .int x2), (3, .int x3), (5, .int (nI 0)), (6, .int (x6 + (nI 1)))], [], wd d (wm s5 rest), 0, 0)) (List.forall_mem_cons.mpr ⟨dX6_isOne_171, List.forall_mem_cons.mpr ⟨dX6_isOne_172, List.forall_mem_cons.mpr ⟨dX6_isOne_174, List.forall_mem_cons.mpr ⟨dX6_isOne_177, fun _ h => absurd h List.not_mem_nil⟩⟩⟩⟩) rfl ?_
                refine xwk [0, 1, 2, 3, 5, 6] rfl rfl ?_
                exact ih _ _ _ _ _ _ _ _ h
              · refine xs tn_X6_isOne [(167, .iconst 1, 1), (168, .goto 4, 3), (172, .istore 5, 2), (174, .iinc 6 1, 3), (177, .goto (-119), 3)] (st' := (58, [(0, .ref 18), (1, .int x1), (2, .int x2), (3, .int x3), (5, .int (nI 1)), (6, .int (x6 + (nI 1)))], [], wd d (wm s5 rest), 0, 0)) (List.forall_mem_cons.mpr ⟨dX6_isOne_167, List.forall_mem_cons.mpr ⟨dX6_isOne_168, List.forall_mem_cons.mpr ⟨dX6_isOne_172, List.forall_mem_cons.mpr ⟨dX6_isOne_174, List.forall_mem_cons.mpr ⟨dX6_isOne_177, fun _ h => absurd h List.not_mem_nil⟩⟩⟩⟩⟩) rfl ?_
                refine xwk [0, 1, 2, 3, 5, 6] rfl rfl ?_
                exact ih _ _ _ _ _ _ _ _ h
          · refine xs tn_X6_isOne [(111, .aload_n 0, 1), (112, .getfield 61, 3), (115, .iload 6, 2)] (st' := (117, [(0, .ref 18), (1, .int x1), (2, .int x2), (3, .int x3), (5, .int x5), (6, .int x6)], [.int x6, .ref 32], wd d (wm s5 rest), 0, 0)) (List.forall_mem_cons.mpr ⟨dX6_isOne_111, List.forall_mem_cons.mpr ⟨dX6_isOne_112, List.forall_mem_cons.mpr ⟨dX6_isOne_115, fun _ h => absurd h List.not_mem_nil⟩⟩⟩) rfl ?_
            refine xldF tn_X6_isOne dX6_isOne_117 at_32 h (fun v11 h => ?_)
            refine xs tn_X6_isOne [(118, .aload_n 0, 1), (119, .getfield 49, 3), (122, .iconst 0, 1)] (st' := (123, [(0, .ref 18), (1, .int x1), (2, .int x2), (3, .int x3), (5, .int x5), (6, .int x6)], [.int (nI 0), .ref 28, .int v11], wd d (wm s5 rest), 0, 0)) (List.forall_mem_cons.mpr ⟨dX6_isOne_118, List.forall_mem_cons.mpr ⟨dX6_isOne_119, List.forall_mem_cons.mpr ⟨dX6_isOne_122, fun _ h => absurd h List.not_mem_nil⟩⟩⟩) rfl ?_
            refine xldF tn_X6_isOne dX6_isOne_123 at_28 h (fun v12 h => ?_)
            obtain ⟨v13, h14, h⟩ := obind h
            refine xcall tn_X6_isOne dX6_isOne_124 rfl rfl (w_X6_product h14) ?_
            show X 113 (127, [(0, .ref 18), (1, .int x1), (2, .int x2), (3, .int x3), (5, .int x5), (6, .int x6)], [.int v13], wd d (wm s5 rest), 0, 0) _
            refine xs tn_X6_isOne [(127, .aload_n 0, 1), (128, .getfield 55, 3), (131, .iload 6, 2)] (st' := (133, [(0, .ref 18), (1, .int x1), (2, .int x2), (3, .int x3), (5, .int x5), (6, .int x6)], [.int x6, .ref 30, .int v13], wd d (wm s5 rest), 0, 0)) (List.forall_mem_cons.mpr ⟨dX6_isOne_127, List.forall_mem_cons.mpr ⟨dX6_isOne_128, List.forall_mem_cons.mpr ⟨dX6_isOne_131, fun _ h => absurd h List.not_mem_nil⟩⟩⟩) rfl ?_
            refine xldF tn_X6_isOne dX6_isOne_133 at_30 h (fun v15 h => ?_)
            refine xcmpF (t := 171) tn_X6_isOne dX6_isOne_134 (by decide) h (fun h => ?_) (fun h => ?_)
            · refine xs tn_X6_isOne [(171, .iconst 0, 1), (172, .istore 5, 2), (174, .iinc 6 1, 3), (177, .goto (-119), 3)] (st' := (58, [(0, .ref 18), (1, .int x1), (2, .int x2), (3, .int x3), (5, .int (nI 0)), (6, .int (x6 + (nI 1)))], [], wd d (wm s5 rest), 0, 0)) (List.forall_mem_cons.mpr ⟨dX6_isOne_171, List.forall_mem_cons.mpr ⟨dX6_isOne_172, List.forall_mem_cons.mpr ⟨dX6_isOne_174, List.forall_mem_cons.mpr ⟨dX6_isOne_177, fun _ h => absurd h List.not_mem_nil⟩⟩⟩⟩) rfl ?_
              refine xwk [0, 1, 2, 3, 5, 6] rfl rfl ?_
              exact ih _ _ _ _ _ _ _ _ h
            · refine xs tn_X6_isOne [(137, .iload_n 2, 1)] (st' := (138, [(0, .ref 18), (1, .int x1), (2, .int x2), (3, .int x3), (5, .int x5), (6, .int x6)], [.int x2], wd d (wm s5 rest), 0, 0)) (List.forall_mem_cons.mpr ⟨dX6_isOne_137, fun _ h => absurd h List.not_mem_nil⟩) rfl ?_
              refine xifF (t := 167) tn_X6_isOne dX6_isOne_138 (by decide) h (fun h => ?_) (fun h => ?_)
              · refine xs tn_X6_isOne [(167, .iconst 1, 1), (168, .goto 4, 3), (172, .istore 5, 2), (174, .iinc 6 1, 3), (177, .goto (-119), 3)] (st' := (58, [(0, .ref 18), (1, .int x1), (2, .int x2), (3, .int x3), (5, .int (nI 1)), (6, .int (x6 + (nI 1)))], [], wd d (wm s5 rest), 0, 0)) (List.forall_mem_cons.mpr ⟨dX6_isOne_167, List.forall_mem_cons.mpr ⟨dX6_isOne_168, List.forall_mem_cons.mpr ⟨dX6_isOne_172, List.forall_mem_cons.mpr ⟨dX6_isOne_174, List.forall_mem_cons.mpr ⟨dX6_isOne_177, fun _ h => absurd h List.not_mem_nil⟩⟩⟩⟩⟩) rfl ?_
                refine xwk [0, 1, 2, 3, 5, 6] rfl rfl ?_
                exact ih _ _ _ _ _ _ _ _ h
              · refine xs tn_X6_isOne [(141, .aload_n 0, 1), (142, .getfield 61, 3), (145, .iload 6, 2)] (st' := (147, [(0, .ref 18), (1, .int x1), (2, .int x2), (3, .int x3), (5, .int x5), (6, .int x6)], [.int x6, .ref 32], wd d (wm s5 rest), 0, 0)) (List.forall_mem_cons.mpr ⟨dX6_isOne_141, List.forall_mem_cons.mpr ⟨dX6_isOne_142, List.forall_mem_cons.mpr ⟨dX6_isOne_145, fun _ h => absurd h List.not_mem_nil⟩⟩⟩) rfl ?_
                refine xldF tn_X6_isOne dX6_isOne_147 at_32 h (fun v16 h => ?_)
                refine xs tn_X6_isOne [(148, .aload_n 0, 1), (149, .getfield 52, 3), (152, .iconst 0, 1)] (st' := (153, [(0, .ref 18), (1, .int x1), (2, .int x2), (3, .int x3), (5, .int x5), (6, .int x6)], [.int (nI 0), .ref 29, .int v16], wd d (wm s5 rest), 0, 0)) (List.forall_mem_cons.mpr ⟨dX6_isOne_148, List.forall_mem_cons.mpr ⟨dX6_isOne_149, List.forall_mem_cons.mpr ⟨dX6_isOne_152, fun _ h => absurd h List.not_mem_nil⟩⟩⟩) rfl ?_
                refine xldF tn_X6_isOne dX6_isOne_153 at_29 h (fun v17 h => ?_)
                obtain ⟨v18, h19, h⟩ := obind h
                refine xcall tn_X6_isOne dX6_isOne_154 rfl rfl (w_X6_product h19) ?_
                show X 113 (157, [(0, .ref 18), (1, .int x1), (2, .int x2), (3, .int x3), (5, .int x5), (6, .int x6)], [.int v18], wd d (wm s5 rest), 0, 0) _
                refine xs tn_X6_isOne [(157, .aload_n 0, 1), (158, .getfield 58, 3), (161, .iload 6, 2)] (st' := (163, [(0, .ref 18), (1, .int x1), (2, .int x2), (3, .int x3), (5, .int x5), (6, .int x6)], [.int x6, .ref 31, .int v18], wd d (wm s5 rest), 0, 0)) (List.forall_mem_cons.mpr ⟨dX6_isOne_157, List.forall_mem_cons.mpr ⟨dX6_isOne_158, List.forall_mem_cons.mpr ⟨dX6_isOne_161, fun _ h => absurd h List.not_mem_nil⟩⟩⟩) rfl ?_
                refine xldF tn_X6_isOne dX6_isOne_163 at_31 h (fun v20 h => ?_)
                refine xcmpF (t := 171) tn_X6_isOne dX6_isOne_164 (by decide) h (fun h => ?_) (fun h => ?_)
                · refine xs tn_X6_isOne [(171, .iconst 0, 1), (172, .istore 5, 2), (174, .iinc 6 1, 3), (177, .goto (-119), 3)] (st' := (58, [(0, .ref 18), (1, .int x1), (2, .int x2), (3, .int x3), (5, .int (nI 0)), (6, .int (x6 + (nI 1)))], [], wd d (wm s5 rest), 0, 0)) (List.forall_mem_cons.mpr ⟨dX6_isOne_171, List.forall_mem_cons.mpr ⟨dX6_isOne_172, List.forall_mem_cons.mpr ⟨dX6_isOne_174, List.forall_mem_cons.mpr ⟨dX6_isOne_177, fun _ h => absurd h List.not_mem_nil⟩⟩⟩⟩) rfl ?_
                  refine xwk [0, 1, 2, 3, 5, 6] rfl rfl ?_
                  exact ih _ _ _ _ _ _ _ _ h
                · refine xs tn_X6_isOne [(167, .iconst 1, 1), (168, .goto 4, 3), (172, .istore 5, 2), (174, .iinc 6 1, 3), (177, .goto (-119), 3)] (st' := (58, [(0, .ref 18), (1, .int x1), (2, .int x2), (3, .int x3), (5, .int (nI 1)), (6, .int (x6 + (nI 1)))], [], wd d (wm s5 rest), 0, 0)) (List.forall_mem_cons.mpr ⟨dX6_isOne_167, List.forall_mem_cons.mpr ⟨dX6_isOne_168, List.forall_mem_cons.mpr ⟨dX6_isOne_172, List.forall_mem_cons.mpr ⟨dX6_isOne_174, List.forall_mem_cons.mpr ⟨dX6_isOne_177, fun _ h => absurd h List.not_mem_nil⟩⟩⟩⟩⟩) rfl ?_
                  refine xwk [0, 1, 2, 3, 5, 6] rfl rfl ?_
                  exact ih _ _ _ _ _ _ _ _ h
        · refine xs tn_X6_isOne [(80, .aload_n 0, 1), (81, .getfield 55, 3), (84, .iload 6, 2)] (st' := (86, [(0, .ref 18), (1, .int x1), (2, .int x2), (3, .int x3), (5, .int x5), (6, .int x6)], [.int x6, .ref 30, .int x6, .ref 32], wd d (wm s rest), 0, 0)) (List.forall_mem_cons.mpr ⟨dX6_isOne_80, List.forall_mem_cons.mpr ⟨dX6_isOne_81, List.forall_mem_cons.mpr ⟨dX6_isOne_84, fun _ h => absurd h List.not_mem_nil⟩⟩⟩) rfl ?_
          refine xldF tn_X6_isOne dX6_isOne_86 at_30 h (fun v21 h => ?_)
          refine xs tn_X6_isOne [(87, .goto 19, 3)] (st' := (106, [(0, .ref 18), (1, .int x1), (2, .int x2), (3, .int x3), (5, .int x5), (6, .int x6)], [.int v21, .int x6, .ref 32], wd d (wm s rest), 0, 0)) (List.forall_mem_cons.mpr ⟨dX6_isOne_87, fun _ h => absurd h List.not_mem_nil⟩) rfl ?_
          refine xstF (W := fun s => wd d (wm s rest)) tn_X6_isOne dX6_isOne_106 at_32 (fun _ => set_32) h (fun s22 h => ?_)
          refine xs tn_X6_isOne [(107, .iload_n 1, 1)] (st' := (108, [(0, .ref 18), (1, .int x1), (2, .int x2), (3, .int x3), (5, .int x5), (6, .int x6)], [.int x1], wd d (wm s22 rest), 0, 0)) (List.forall_mem_cons.mpr ⟨dX6_isOne_107, fun _ h => absurd h List.not_mem_nil⟩) rfl ?_
          refine xifF (t := 137) tn_X6_isOne dX6_isOne_108 (by decide) h (fun h => ?_) (fun h => ?_)
          · refine xs tn_X6_isOne [(137, .iload_n 2, 1)] (st' := (138, [(0, .ref 18), (1, .int x1), (2, .int x2), (3, .int x3), (5, .int x5), (6, .int x6)], [.int x2], wd d (wm s22 rest), 0, 0)) (List.forall_mem_cons.mpr ⟨dX6_isOne_137, fun _ h => absurd h List.not_mem_nil⟩) rfl ?_
            refine xifF (t := 167) tn_X6_isOne dX6_isOne_138 (by decide) h (fun h => ?_) (fun h => ?_)
            · refine xs tn_X6_isOne [(167, .iconst 1, 1), (168, .goto 4, 3), (172, .istore 5, 2), (174, .iinc 6 1, 3), (177, .goto (-119), 3)] (st' := (58, [(0, .ref 18), (1, .int x1), (2, .int x2), (3, .int x3), (5, .int (nI 1)), (6, .int (x6 + (nI 1)))], [], wd d (wm s22 rest), 0, 0)) (List.forall_mem_cons.mpr ⟨dX6_isOne_167, List.forall_mem_cons.mpr ⟨dX6_isOne_168, List.forall_mem_cons.mpr ⟨dX6_isOne_172, List.forall_mem_cons.mpr ⟨dX6_isOne_174, List.forall_mem_cons.mpr ⟨dX6_isOne_177, fun _ h => absurd h List.not_mem_nil⟩⟩⟩⟩⟩) rfl ?_
              refine xwk [0, 1, 2, 3, 5, 6] rfl rfl ?_
              exact ih _ _ _ _ _ _ _ _ h
            · refine xs tn_X6_isOne [(141, .aload_n 0, 1), (142, .getfield 61, 3), (145, .iload 6, 2)] (st' := (147, [(0, .ref 18), (1, .int x1), (2, .int x2), (3, .int x3), (5, .int x5), (6, .int x6)], [.int x6, .ref 32], wd d (wm s22 rest), 0, 0)) (List.forall_mem_cons.mpr ⟨dX6_isOne_141, List.forall_mem_cons.mpr ⟨dX6_isOne_142, List.forall_mem_cons.mpr ⟨dX6_isOne_145, fun _ h => absurd h List.not_mem_nil⟩⟩⟩) rfl ?_
              refine xldF tn_X6_isOne dX6_isOne_147 at_32 h (fun v23 h => ?_)
              refine xs tn_X6_isOne [(148, .aload_n 0, 1), (149, .getfield 52, 3), (152, .iconst 0, 1)] (st' := (153, [(0, .ref 18), (1, .int x1), (2, .int x2), (3, .int x3), (5, .int x5), (6, .int x6)], [.int (nI 0), .ref 29, .int v23], wd d (wm s22 rest), 0, 0)) (List.forall_mem_cons.mpr ⟨dX6_isOne_148, List.forall_mem_cons.mpr ⟨dX6_isOne_149, List.forall_mem_cons.mpr ⟨dX6_isOne_152, fun _ h => absurd h List.not_mem_nil⟩⟩⟩) rfl ?_
              refine xldF tn_X6_isOne dX6_isOne_153 at_29 h (fun v24 h => ?_)
              obtain ⟨v25, h26, h⟩ := obind h
              refine xcall tn_X6_isOne dX6_isOne_154 rfl rfl (w_X6_product h26) ?_
              show X 113 (157, [(0, .ref 18), (1, .int x1), (2, .int x2), (3, .int x3), (5, .int x5), (6, .int x6)], [.int v25], wd d (wm s22 rest), 0, 0) _
              refine xs tn_X6_isOne [(157, .aload_n 0, 1), (158, .getfield 58, 3), (161, .iload 6, 2)] (st' := (163, [(0, .ref 18), (1, .int x1), (2, .int x2), (3, .int x3), (5, .int x5), (6, .int x6)], [.int x6, .ref 31, .int v25], wd d (wm s22 rest), 0, 0)) (List.forall_mem_cons.mpr ⟨dX6_isOne_157, List.forall_mem_cons.mpr ⟨dX6_isOne_158, List.forall_mem_cons.mpr ⟨dX6_isOne_161, fun _ h => absurd h List.not_mem_nil⟩⟩⟩) rfl ?_
              refine xldF tn_X6_isOne dX6_isOne_163 at_31 h (fun v27 h => ?_)
              refine xcmpF (t := 171) tn_X6_isOne dX6_isOne_164 (by decide) h (fun h => ?_) (fun h => ?_)
              · refine xs tn_X6_isOne [(171, .iconst 0, 1), (172, .istore 5, 2), (174, .iinc 6 1, 3), (177, .goto (-119), 3)] (st' := (58, [(0, .ref 18), (1, .int x1), (2, .int x2), (3, .int x3), (5, .int (nI 0)), (6, .int (x6 + (nI 1)))], [], wd d (wm s22 rest), 0, 0)) (List.forall_mem_cons.mpr ⟨dX6_isOne_171, List.forall_mem_cons.mpr ⟨dX6_isOne_172, List.forall_mem_cons.mpr ⟨dX6_isOne_174, List.forall_mem_cons.mpr ⟨dX6_isOne_177, fun _ h => absurd h List.not_mem_nil⟩⟩⟩⟩) rfl ?_
                refine xwk [0, 1, 2, 3, 5, 6] rfl rfl ?_
                exact ih _ _ _ _ _ _ _ _ h
              · refine xs tn_X6_isOne [(167, .iconst 1, 1), (168, .goto 4, 3), (172, .istore 5, 2), (174, .iinc 6 1, 3), (177, .goto (-119), 3)] (st' := (58, [(0, .ref 18), (1, .int x1), (2, .int x2), (3, .int x3), (5, .int (nI 1)), (6, .int (x6 + (nI 1)))], [], wd d (wm s22 rest), 0, 0)) (List.forall_mem_cons.mpr ⟨dX6_isOne_167, List.forall_mem_cons.mpr ⟨dX6_isOne_168, List.forall_mem_cons.mpr ⟨dX6_isOne_172, List.forall_mem_cons.mpr ⟨dX6_isOne_174, List.forall_mem_cons.mpr ⟨dX6_isOne_177, fun _ h => absurd h List.not_mem_nil⟩⟩⟩⟩⟩) rfl ?_
                refine xwk [0, 1, 2, 3, 5, 6] rfl rfl ?_
                exact ih _ _ _ _ _ _ _ _ h
          · refine xs tn_X6_isOne [(111, .aload_n 0, 1), (112, .getfield 61, 3), (115, .iload 6, 2)] (st' := (117, [(0, .ref 18), (1, .int x1), (2, .int x2), (3, .int x3), (5, .int x5), (6, .int x6)], [.int x6, .ref 32], wd d (wm s22 rest), 0, 0)) (List.forall_mem_cons.mpr ⟨dX6_isOne_111, List.forall_mem_cons.mpr ⟨dX6_isOne_112, List.forall_mem_cons.mpr ⟨dX6_isOne_115, fun _ h => absurd h List.not_mem_nil⟩⟩⟩) rfl ?_
            refine xldF tn_X6_isOne dX6_isOne_117 at_32 h (fun v28 h => ?_)
            refine xs tn_X6_isOne [(118, .aload_n 0, 1), (119, .getfield 49, 3), (122, .iconst 0, 1)] (st' := (123, [(0, .ref 18), (1, .int x1), (2, .int x2), (3, .int x3), (5, .int x5), (6, .int x6)], [.int (nI 0), .ref 28, .int v28], wd d (wm s22 rest), 0, 0)) (List.forall_mem_cons.mpr ⟨dX6_isOne_118, List.forall_mem_cons.mpr ⟨dX6_isOne_119, List.forall_mem_cons.mpr ⟨dX6_isOne_122, fun _ h => absurd h List.not_mem_nil⟩⟩⟩) rfl ?_
            refine xldF tn_X6_isOne dX6_isOne_123 at_28 h (fun v29 h => ?_)
            obtain ⟨v30, h31, h⟩ := obind h
            refine xcall tn_X6_isOne dX6_isOne_124 rfl rfl (w_X6_product h31) ?_
            show X 113 (127, [(0, .ref 18), (1, .int x1), (2, .int x2), (3, .int x3), (5, .int x5), (6, .int x6)], [.int v30], wd d (wm s22 rest), 0, 0) _
            refine xs tn_X6_isOne [(127, .aload_n 0, 1), (128, .getfield 55, 3), (131, .iload 6, 2)] (st' := (133, [(0, .ref 18), (1, .int x1), (2, .int x2), (3, .int x3), (5, .int x5), (6, .int x6)], [.int x6, .ref 30, .int v30], wd d (wm s22 rest), 0, 0)) (List.forall_mem_cons.mpr ⟨dX6_isOne_127, List.forall_mem_cons.mpr ⟨dX6_isOne_128, List.forall_mem_cons.mpr ⟨dX6_isOne_131, fun _ h => absurd h List.not_mem_nil⟩⟩⟩) rfl ?_
            refine xldF tn_X6_isOne dX6_isOne_133 at_30 h (fun v32 h => ?_)
            refine xcmpF (t := 171) tn_X6_isOne dX6_isOne_134 (by decide) h (fun h => ?_) (fun h => ?_)
            · refine xs tn_X6_isOne [(171, .iconst 0, 1), (172, .istore 5, 2), (174, .iinc 6 1, 3), (177, .goto (-119), 3)] (st' := (58, [(0, .ref 18), (1, .int x1), (2, .int x2), (3, .int x3), (5, .int (nI 0)), (6, .int (x6 + (nI 1)))], [], wd d (wm s22 rest), 0, 0)) (List.forall_mem_cons.mpr ⟨dX6_isOne_171, List.forall_mem_cons.mpr ⟨dX6_isOne_172, List.forall_mem_cons.mpr ⟨dX6_isOne_174, List.forall_mem_cons.mpr ⟨dX6_isOne_177, fun _ h => absurd h List.not_mem_nil⟩⟩⟩⟩) rfl ?_
              refine xwk [0, 1, 2, 3, 5, 6] rfl rfl ?_
              exact ih _ _ _ _ _ _ _ _ h
            · refine xs tn_X6_isOne [(137, .iload_n 2, 1)] (st' := (138, [(0, .ref 18), (1, .int x1), (2, .int x2), (3, .int x3), (5, .int x5), (6, .int x6)], [.int x2], wd d (wm s22 rest), 0, 0)) (List.forall_mem_cons.mpr ⟨dX6_isOne_137, fun _ h => absurd h List.not_mem_nil⟩) rfl ?_
              refine xifF (t := 167) tn_X6_isOne dX6_isOne_138 (by decide) h (fun h => ?_) (fun h => ?_)
              · refine xs tn_X6_isOne [(167, .iconst 1, 1), (168, .goto 4, 3), (172, .istore 5, 2), (174, .iinc 6 1, 3), (177, .goto (-119), 3)] (st' := (58, [(0, .ref 18), (1, .int x1), (2, .int x2), (3, .int x3), (5, .int (nI 1)), (6, .int (x6 + (nI 1)))], [], wd d (wm s22 rest), 0, 0)) (List.forall_mem_cons.mpr ⟨dX6_isOne_167, List.forall_mem_cons.mpr ⟨dX6_isOne_168, List.forall_mem_cons.mpr ⟨dX6_isOne_172, List.forall_mem_cons.mpr ⟨dX6_isOne_174, List.forall_mem_cons.mpr ⟨dX6_isOne_177, fun _ h => absurd h List.not_mem_nil⟩⟩⟩⟩⟩) rfl ?_
                refine xwk [0, 1, 2, 3, 5, 6] rfl rfl ?_
                exact ih _ _ _ _ _ _ _ _ h
              · refine xs tn_X6_isOne [(141, .aload_n 0, 1), (142, .getfield 61, 3), (145, .iload 6, 2)] (st' := (147, [(0, .ref 18), (1, .int x1), (2, .int x2), (3, .int x3), (5, .int x5), (6, .int x6)], [.int x6, .ref 32], wd d (wm s22 rest), 0, 0)) (List.forall_mem_cons.mpr ⟨dX6_isOne_141, List.forall_mem_cons.mpr ⟨dX6_isOne_142, List.forall_mem_cons.mpr ⟨dX6_isOne_145, fun _ h => absurd h List.not_mem_nil⟩⟩⟩) rfl ?_
                refine xldF tn_X6_isOne dX6_isOne_147 at_32 h (fun v33 h => ?_)
                refine xs tn_X6_isOne [(148, .aload_n 0, 1), (149, .getfield 52, 3), (152, .iconst 0, 1)] (st' := (153, [(0, .ref 18), (1, .int x1), (2, .int x2), (3, .int x3), (5, .int x5), (6, .int x6)], [.int (nI 0), .ref 29, .int v33], wd d (wm s22 rest), 0, 0)) (List.forall_mem_cons.mpr ⟨dX6_isOne_148, List.forall_mem_cons.mpr ⟨dX6_isOne_149, List.forall_mem_cons.mpr ⟨dX6_isOne_152, fun _ h => absurd h List.not_mem_nil⟩⟩⟩) rfl ?_
                refine xldF tn_X6_isOne dX6_isOne_153 at_29 h (fun v34 h => ?_)
                obtain ⟨v35, h36, h⟩ := obind h
                refine xcall tn_X6_isOne dX6_isOne_154 rfl rfl (w_X6_product h36) ?_
                show X 113 (157, [(0, .ref 18), (1, .int x1), (2, .int x2), (3, .int x3), (5, .int x5), (6, .int x6)], [.int v35], wd d (wm s22 rest), 0, 0) _
                refine xs tn_X6_isOne [(157, .aload_n 0, 1), (158, .getfield 58, 3), (161, .iload 6, 2)] (st' := (163, [(0, .ref 18), (1, .int x1), (2, .int x2), (3, .int x3), (5, .int x5), (6, .int x6)], [.int x6, .ref 31, .int v35], wd d (wm s22 rest), 0, 0)) (List.forall_mem_cons.mpr ⟨dX6_isOne_157, List.forall_mem_cons.mpr ⟨dX6_isOne_158, List.forall_mem_cons.mpr ⟨dX6_isOne_161, fun _ h => absurd h List.not_mem_nil⟩⟩⟩) rfl ?_
                refine xldF tn_X6_isOne dX6_isOne_163 at_31 h (fun v37 h => ?_)
                refine xcmpF (t := 171) tn_X6_isOne dX6_isOne_164 (by decide) h (fun h => ?_) (fun h => ?_)
                · refine xs tn_X6_isOne [(171, .iconst 0, 1), (172, .istore 5, 2), (174, .iinc 6 1, 3), (177, .goto (-119), 3)] (st' := (58, [(0, .ref 18), (1, .int x1), (2, .int x2), (3, .int x3), (5, .int (nI 0)), (6, .int (x6 + (nI 1)))], [], wd d (wm s22 rest), 0, 0)) (List.forall_mem_cons.mpr ⟨dX6_isOne_171, List.forall_mem_cons.mpr ⟨dX6_isOne_172, List.forall_mem_cons.mpr ⟨dX6_isOne_174, List.forall_mem_cons.mpr ⟨dX6_isOne_177, fun _ h => absurd h List.not_mem_nil⟩⟩⟩⟩) rfl ?_
                  refine xwk [0, 1, 2, 3, 5, 6] rfl rfl ?_
                  exact ih _ _ _ _ _ _ _ _ h
                · refine xs tn_X6_isOne [(167, .iconst 1, 1), (168, .goto 4, 3), (172, .istore 5, 2), (174, .iinc 6 1, 3), (177, .goto (-119), 3)] (st' := (58, [(0, .ref 18), (1, .int x1), (2, .int x2), (3, .int x3), (5, .int (nI 1)), (6, .int (x6 + (nI 1)))], [], wd d (wm s22 rest), 0, 0)) (List.forall_mem_cons.mpr ⟨dX6_isOne_167, List.forall_mem_cons.mpr ⟨dX6_isOne_168, List.forall_mem_cons.mpr ⟨dX6_isOne_172, List.forall_mem_cons.mpr ⟨dX6_isOne_174, List.forall_mem_cons.mpr ⟨dX6_isOne_177, fun _ h => absurd h List.not_mem_nil⟩⟩⟩⟩⟩) rfl ?_
                  refine xwk [0, 1, 2, 3, 5, 6] rfl rfl ?_
                  exact ih _ _ _ _ _ _ _ _ h
def F_X6_isOne_55 (N : Nat) (s : St) (x1 : Int32) (x2 : Int32) (x3 : Int32) (x5 : Int32) : Option (Int32 × St) := F_X6_isOne_58 N N s x1 x2 x3 x5 (nI 0)
set_option maxRecDepth 100000 in
set_option maxHeartbeats 4000000 in
theorem w_X6_isOne_55 {d : St} {rest : mx_W} {N : Nat} {s : St} {x1 : Int32} {x2 : Int32} {x3 : Int32} {x5 : Int32} {r : Int32} {t : St} (h : F_X6_isOne_55 N s x1 x2 x3 x5 = some (r, t)) : X 113 (55, [(0, .ref 18), (1, .int x1), (2, .int x2), (3, .int x3), (5, .int x5)], [], wd d (wm s rest), 0, 0) (some (.int r), wd d (wm t rest), 0, 0) := by
  unfold F_X6_isOne_55 at h
  refine xs tn_X6_isOne [(55, .iconst 0, 1), (56, .istore 6, 2)] (st' := (58, [(6, .int (nI 0)), (0, .ref 18), (1, .int x1), (2, .int x2), (3, .int x3), (5, .int x5)], [], wd d (wm s rest), 0, 0)) (List.forall_mem_cons.mpr ⟨dX6_isOne_55, List.forall_mem_cons.mpr ⟨dX6_isOne_56, fun _ h => absurd h List.not_mem_nil⟩⟩) rfl ?_
  refine xwk [0, 1, 2, 3, 5, 6] rfl rfl ?_
  exact w_X6_isOne_58 N _ _ _ _ _ _ _ _ h
def F_X6_isOne_39 (N : Nat) (s : St) (x1 : Int32) (x2 : Int32) (x3 : Int32) (x4 : Int32) : Option (Int32 × St) := bif mx_cnd .ne x3 0 then (F_X6_isOne_55 N s x1 x2 x3 (nI 1)) else (bif mx_cnd .eq x4 0 then (F_X6_isOne_55 N s x1 x2 x3 (nI 0)) else (F_X6_isOne_55 N s x1 x2 x3 (nI 1)))
set_option maxRecDepth 100000 in
set_option maxHeartbeats 4000000 in
theorem w_X6_isOne_39 {d : St} {rest : mx_W} {N : Nat} {s : St} {x1 : Int32} {x2 : Int32} {x3 : Int32} {x4 : Int32} {r : Int32} {t : St} (h : F_X6_isOne_39 N s x1 x2 x3 x4 = some (r, t)) : X 113 (39, [(0, .ref 18), (1, .int x1), (2, .int x2), (3, .int x3), (4, .int x4)], [], wd d (wm s rest), 0, 0) (some (.int r), wd d (wm t rest), 0, 0) := by
  unfold F_X6_isOne_39 at h
  refine xs tn_X6_isOne [(39, .iload_n 3, 1)] (st' := (40, [(0, .ref 18), (1, .int x1), (2, .int x2), (3, .int x3), (4, .int x4)], [.int x3], wd d (wm s rest), 0, 0)) (List.forall_mem_cons.mpr ⟨dX6_isOne_39, fun _ h => absurd h List.not_mem_nil⟩) rfl ?_
  refine xifF (t := 48) tn_X6_isOne dX6_isOne_40 (by decide) h (fun h => ?_) (fun h => ?_)
  · refine xs tn_X6_isOne [(48, .iconst 1, 1), (49, .goto 4, 3), (53, .istore 5, 2)] (st' := (55, [(5, .int (nI 1)), (0, .ref 18), (1, .int x1), (2, .int x2), (3, .int x3), (4, .int x4)], [], wd d (wm s rest), 0, 0)) (List.forall_mem_cons.mpr ⟨dX6_isOne_48, List.forall_mem_cons.mpr ⟨dX6_isOne_49, List.forall_mem_cons.mpr ⟨dX6_isOne_53, fun _ h => absurd h List.not_mem_nil⟩⟩⟩) rfl ?_
    refine xwk [0, 1, 2, 3, 5] rfl rfl ?_
    exact w_X6_isOne_55 h
  · refine xs tn_X6_isOne [(43, .iload 4, 2)] (st' := (45, [(0, .ref 18), (1, .int x1), (2, .int x2), (3, .int x3), (4, .int x4)], [.int x4], wd d (wm s rest), 0, 0)) (List.forall_mem_cons.mpr ⟨dX6_isOne_43, fun _ h => absurd h List.not_mem_nil⟩) rfl ?_
    refine xifF (t := 52) tn_X6_isOne dX6_isOne_45 (by decide) h (fun h => ?_) (fun h => ?_)
    · refine xs tn_X6_isOne [(52, .iconst 0, 1), (53, .istore 5, 2)] (st' := (55, [(5, .int (nI 0)), (0, .ref 18), (1, .int x1), (2, .int x2), (3, .int x3), (4, .int x4)], [], wd d (wm s rest), 0, 0)) (List.forall_mem_cons.mpr ⟨dX6_isOne_52, List.forall_mem_cons.mpr ⟨dX6_isOne_53, fun _ h => absurd h List.not_mem_nil⟩⟩) rfl ?_
      refine xwk [0, 1, 2, 3, 5] rfl rfl ?_
      exact w_X6_isOne_55 h
    · refine xs tn_X6_isOne [(48, .iconst 1, 1), (49, .goto 4, 3), (53, .istore 5, 2)] (st' := (55, [(5, .int (nI 1)), (0, .ref 18), (1, .int x1), (2, .int x2), (3, .int x3), (4, .int x4)], [], wd d (wm s rest), 0, 0)) (List.forall_mem_cons.mpr ⟨dX6_isOne_48, List.forall_mem_cons.mpr ⟨dX6_isOne_49, List.forall_mem_cons.mpr ⟨dX6_isOne_53, fun _ h => absurd h List.not_mem_nil⟩⟩⟩) rfl ?_
      refine xwk [0, 1, 2, 3, 5] rfl rfl ?_
      exact w_X6_isOne_55 h
def F_X6_isOne_19 (N : Nat) (s : St) (x1 : Int32) (x2 : Int32) (x3 : Int32) : Option (Int32 × St) := bif mx_cnd .eq x2 0 then (F_X6_isOne_39 N s x1 x2 x3 (nI 0)) else (ldA (gA s 10) 4 (nI 0) fun v1 => bif mx_cnd .eq v1 0 then (F_X6_isOne_39 N s x1 x2 x3 (nI 0)) else (F_X6_isOne_39 N s x1 x2 x3 (nI 1)))
set_option maxRecDepth 100000 in
set_option maxHeartbeats 4000000 in
theorem w_X6_isOne_19 {d : St} {rest : mx_W} {N : Nat} {s : St} {x1 : Int32} {x2 : Int32} {x3 : Int32} {r : Int32} {t : St} (h : F_X6_isOne_19 N s x1 x2 x3 = some (r, t)) : X 113 (19, [(0, .ref 18), (1, .int x1), (2, .int x2), (3, .int x3)], [], wd d (wm s rest), 0, 0) (some (.int r), wd d (wm t rest), 0, 0) := by
  unfold F_X6_isOne_19 at h
  refine xs tn_X6_isOne [(19, .iload_n 2, 1)] (st' := (20, [(0, .ref 18), (1, .int x1), (2, .int x2), (3, .int x3)], [.int x2], wd d (wm s rest), 0, 0)) (List.forall_mem_cons.mpr ⟨dX6_isOne_19, fun _ h => absurd h List.not_mem_nil⟩) rfl ?_
  refine xifF (t := 36) tn_X6_isOne dX6_isOne_20 (by decide) h (fun h => ?_) (fun h => ?_)
  · refine xs tn_X6_isOne [(36, .iconst 0, 1), (37, .istore 4, 2)] (st' := (39, [(4, .int (nI 0)), (0, .ref 18), (1, .int x1), (2, .int x2), (3, .int x3)], [], wd d (wm s rest), 0, 0)) (List.forall_mem_cons.mpr ⟨dX6_isOne_36, List.forall_mem_cons.mpr ⟨dX6_isOne_37, fun _ h => absurd h List.not_mem_nil⟩⟩) rfl ?_
    refine xwk [0, 1, 2, 3, 4] rfl rfl ?_
    exact w_X6_isOne_39 h
  · refine xs tn_X6_isOne [(23, .aload_n 0, 1), (24, .getfield 52, 3), (27, .iconst 0, 1)] (st' := (28, [(0, .ref 18), (1, .int x1), (2, .int x2), (3, .int x3)], [.int (nI 0), .ref 29], wd d (wm s rest), 0, 0)) (List.forall_mem_cons.mpr ⟨dX6_isOne_23, List.forall_mem_cons.mpr ⟨dX6_isOne_24, List.forall_mem_cons.mpr ⟨dX6_isOne_27, fun _ h => absurd h List.not_mem_nil⟩⟩⟩) rfl ?_
    refine xldF tn_X6_isOne dX6_isOne_28 at_29 h (fun v1 h => ?_)
    refine xifF (t := 36) tn_X6_isOne dX6_isOne_29 (by decide) h (fun h => ?_) (fun h => ?_)
    · refine xs tn_X6_isOne [(36, .iconst 0, 1), (37, .istore 4, 2)] (st' := (39, [(4, .int (nI 0)), (0, .ref 18), (1, .int x1), (2, .int x2), (3, .int x3)], [], wd d (wm s rest), 0, 0)) (List.forall_mem_cons.mpr ⟨dX6_isOne_36, List.forall_mem_cons.mpr ⟨dX6_isOne_37, fun _ h => absurd h List.not_mem_nil⟩⟩) rfl ?_
      refine xwk [0, 1, 2, 3, 4] rfl rfl ?_
      exact w_X6_isOne_39 h
    · refine xs tn_X6_isOne [(32, .iconst 1, 1), (33, .goto 4, 3), (37, .istore 4, 2)] (st' := (39, [(4, .int (nI 1)), (0, .ref 18), (1, .int x1), (2, .int x2), (3, .int x3)], [], wd d (wm s rest), 0, 0)) (List.forall_mem_cons.mpr ⟨dX6_isOne_32, List.forall_mem_cons.mpr ⟨dX6_isOne_33, List.forall_mem_cons.mpr ⟨dX6_isOne_37, fun _ h => absurd h List.not_mem_nil⟩⟩⟩) rfl ?_
      refine xwk [0, 1, 2, 3, 4] rfl rfl ?_
      exact w_X6_isOne_39 h
def F_X6_isOne (N : Nat) (s : St) (x1 : Int32) (x2 : Int32) : Option (Int32 × St) := bif mx_cnd .eq x1 0 then (F_X6_isOne_19 N s x1 x2 (nI 0)) else (ldA (gA s 9) 4 (nI 0) fun v1 => bif mx_cnd .eq v1 0 then (F_X6_isOne_19 N s x1 x2 (nI 0)) else (F_X6_isOne_19 N s x1 x2 (nI 1)))
set_option maxRecDepth 100000 in
set_option maxHeartbeats 4000000 in
theorem w_X6_isOne {d : St} {rest : mx_W} {N : Nat} {s : St} {x1 : Int32} {x2 : Int32} {r : Int32} {t : St} (h : F_X6_isOne N s x1 x2 = some (r, t)) : X 113 (0, [(0, .ref 18), (1, .int x1), (2, .int x2)], [], wd d (wm s rest), 0, 0) (some (.int r), wd d (wm t rest), 0, 0) := by
  unfold F_X6_isOne at h
  refine xs tn_X6_isOne [(0, .iload_n 1, 1)] (st' := (1, [(0, .ref 18), (1, .int x1), (2, .int x2)], [.int x1], wd d (wm s rest), 0, 0)) (List.forall_mem_cons.mpr ⟨dX6_isOne_0, fun _ h => absurd h List.not_mem_nil⟩) rfl ?_
  refine xifF (t := 17) tn_X6_isOne dX6_isOne_1 (by decide) h (fun h => ?_) (fun h => ?_)
  · refine xs tn_X6_isOne [(17, .iconst 0, 1), (18, .istore_n 3, 1)] (st' := (19, [(3, .int (nI 0)), (0, .ref 18), (1, .int x1), (2, .int x2)], [], wd d (wm s rest), 0, 0)) (List.forall_mem_cons.mpr ⟨dX6_isOne_17, List.forall_mem_cons.mpr ⟨dX6_isOne_18, fun _ h => absurd h List.not_mem_nil⟩⟩) rfl ?_
    refine xwk [0, 1, 2, 3] rfl rfl ?_
    exact w_X6_isOne_19 h
  · refine xs tn_X6_isOne [(4, .aload_n 0, 1), (5, .getfield 49, 3), (8, .iconst 0, 1)] (st' := (9, [(0, .ref 18), (1, .int x1), (2, .int x2)], [.int (nI 0), .ref 28], wd d (wm s rest), 0, 0)) (List.forall_mem_cons.mpr ⟨dX6_isOne_4, List.forall_mem_cons.mpr ⟨dX6_isOne_5, List.forall_mem_cons.mpr ⟨dX6_isOne_8, fun _ h => absurd h List.not_mem_nil⟩⟩⟩) rfl ?_
    refine xldF tn_X6_isOne dX6_isOne_9 at_28 h (fun v1 h => ?_)
    refine xifF (t := 17) tn_X6_isOne dX6_isOne_10 (by decide) h (fun h => ?_) (fun h => ?_)
    · refine xs tn_X6_isOne [(17, .iconst 0, 1), (18, .istore_n 3, 1)] (st' := (19, [(3, .int (nI 0)), (0, .ref 18), (1, .int x1), (2, .int x2)], [], wd d (wm s rest), 0, 0)) (List.forall_mem_cons.mpr ⟨dX6_isOne_17, List.forall_mem_cons.mpr ⟨dX6_isOne_18, fun _ h => absurd h List.not_mem_nil⟩⟩) rfl ?_
      refine xwk [0, 1, 2, 3] rfl rfl ?_
      exact w_X6_isOne_19 h
    · refine xs tn_X6_isOne [(13, .iconst 1, 1), (14, .goto 4, 3), (18, .istore_n 3, 1)] (st' := (19, [(3, .int (nI 1)), (0, .ref 18), (1, .int x1), (2, .int x2)], [], wd d (wm s rest), 0, 0)) (List.forall_mem_cons.mpr ⟨dX6_isOne_13, List.forall_mem_cons.mpr ⟨dX6_isOne_14, List.forall_mem_cons.mpr ⟨dX6_isOne_18, fun _ h => absurd h List.not_mem_nil⟩⟩⟩) rfl ?_
      refine xwk [0, 1, 2, 3] rfl rfl ?_
      exact w_X6_isOne_19 h
