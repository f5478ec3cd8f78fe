/-! the law: its cases on a fresh object -/
abbrev WF (n : Nat) : mx_W := wD n (nI 1) (nI 2) (nI 0) (nI 0) (nI 0) (-nI 1) (nI 0) (nI 0) (nI 0) (nI 0) (nI 0) (fun _ => 0) (fun _ => 0) (fun _ => 0) (fun _ => 0) (fun _ => 0) (fun _ => 0) (fun _ => 0) (fun _ => 0) (fun _ => 0) (fun _ => 0) (fun _ => 0) (fun _ => 0) (fun _ => 0) (wM n (nI 0) (nI 1) (nI 2) (nI 0) (nI 0) (nI 0) (nI 0) (-nI 1) (nI 0) (nI 0) (nI 0) (fun _ => 0) (fun _ => 0) (fun _ => 0) (fun _ => 0) (fun _ => 0) (fun _ => 0) (fun _ => 0) (fun _ => 0) (fun _ => 0) (fun _ => 0) (fun _ => 0) (fun _ => 0) (fun _ => 0) (fun _ => 0) (fun _ => 0) [.inl (2, 1, .inr (.inl (fun _ => 0)))])
theorem rngE {v : Int32} {lo hi : Nat} (hl : lo < 2 ^ 31) (hh : hi < 2 ^ 31) (h : ¬ (v < nI lo ∨ nI hi < v)) : ∃ q : Nat, lo ≤ q ∧ q ≤ hi ∧ v = nI q := by
  have h1 : ¬ v < nI lo := fun z => h (Or.inl z)
  have h2 : ¬ nI hi < v := fun z => h (Or.inr z)
  have h0 : ¬ v < 0 := fun z => h1 (by
    rw [Int32.lt_iff_toInt_lt] at z ⊢
    rw [nI_toInt hl]
    have : (0 : Int32).toInt = 0 := by decide
    omega)
  obtain ⟨j, hj, rfl⟩ := nI_of h0
  exact ⟨j, Nat.le_of_not_lt fun z => h1 (nlt hj hl z), Nat.le_of_not_lt fun z => h2 (nlt hh hj z), rfl⟩
theorem rngN {v : Int32} {n : Nat} (hn : n < 2 ^ 31) (h : ¬ (v < 0 ∨ nI n ≤ v)) : ∃ q : Nat, q < n ∧ v = nI q := by
  have h1 : ¬ v < 0 := fun z => h (Or.inl z)
  obtain ⟨j, hj, rfl⟩ := nI_of h1
  exact ⟨j, Nat.lt_of_not_le fun z => h (Or.inr (nle hn hj z)), rfl⟩
set_option maxRecDepth 100000 in
set_option maxHeartbeats 4000000 in
theorem w_end {p : Program} {l : Launch} {e : Env} {s : State} {m : MethodId} {below : List Frame} {meth : Method} {c : Code} {D : va_G} {cT : Nat → ClassId} {b : Nat} {xs : Nat → Int32} (C : lC p s m meth c D cT b 5 xs) {w : mx_W} (hw : w.length ≤ 1000) : lG p l e s m below meth c D cT b (622, [(4, .int (nI 1)), (3, .ref 34), (2, .ref 18), (1, .ref 0), (0, .ref 1000)], [], w, 40, 20000) := by
  refine (lgs C (pc' := 36) (L' := [(4, .int (nI 1 + nI 4)), (3, .ref 34), (2, .ref 18), (1, .ref 0), (0, .ref 1000)]) (S' := [.ref 1000, .int (nI 1 + nI 4)]) (by decide) (by decide) [(622, .iinc 4 4, 3), (625, .goto (-592), 3), (33, .iload 4, 2), (35, .aload_n 0, 1)] (List.forall_mem_cons.mpr ⟨dL_law_622, List.forall_mem_cons.mpr ⟨dL_law_625, List.forall_mem_cons.mpr ⟨dL_law_33, List.forall_mem_cons.mpr ⟨dL_law_35, fun _ h => absurd h List.not_mem_nil⟩⟩⟩⟩) rfl ?_).1
  refine lsln C dL_law_36 hw ?_
  refine (lgs C (pc' := 39) (L' := [(4, .int (nI 1 + nI 4)), (3, .ref 34), (2, .ref 18), (1, .ref 0), (0, .ref 1000)]) (S' := [.int (nI 5 - nI 4), .int (nI 1 + nI 4)]) (by decide) (by decide) [(37, .iconst 4, 1), (38, .isub, 1)] (List.forall_mem_cons.mpr ⟨dL_law_37, List.forall_mem_cons.mpr ⟨dL_law_38, fun _ h => absurd h List.not_mem_nil⟩⟩) rfl ?_).1
  refine lcmp (t := 628) C dL_law_39 (by decide) (by decide) (by decide) true (by decide) ?_
  show lG p l e s m below meth c D cT b (628, [(4, .int (nI 1 + nI 4)), (3, .ref 34), (2, .ref 18), (1, .ref 0), (0, .ref 1000)], [], w, 40, 20000)
  refine (lgs C (pc' := 629) (L' := [(4, .int (nI 1 + nI 4)), (3, .ref 34), (2, .ref 18), (1, .ref 0), (0, .ref 1000)]) (S' := [.int (nI 1)]) (by decide) (by decide) [(628, .iconst 1, 1)] (List.forall_mem_cons.mpr ⟨dL_law_628, fun _ h => absurd h List.not_mem_nil⟩) rfl ?_).1
  exact lret C dL_law_629 (by decide) (by decide)
theorem cnd_eq {x y : Int32} (h : x = y) : mx_cnd .eq x y = true := decide_eq_true h
theorem lt31 {t : Int32} (h : nI 31 < t) : nI 32 ≤ t := by
  rw [Int32.lt_iff_toInt_lt, nI_toInt (by omega)] at h
  rw [Int32.le_iff_toInt_le, nI_toInt (by omega)]
  omega
theorem and255 {k : Nat} (h : k ≤ 255) : nI k &&& nI 255 = nI k := by
  rw [pk_andN (by omega) 8 (by decide), Nat.mod_eq_of_lt (by omega)]
theorem toldE {v : Int32} (h : ¬ (v.toInt < 0 ∨ 9 < v.toInt)) : ∃ q : Nat, q ≤ 9 ∧ v = nI q := by
  have h0 : ¬ v < 0 := fun z => h (Or.inl (by
    rw [Int32.lt_iff_toInt_lt] at z
    have : (0 : Int32).toInt = 0 := by decide
    omega))
  obtain ⟨j, hj, rfl⟩ := nI_of h0
  rw [nI_toInt hj] at h
  exact ⟨j, by omega, rfl⟩
set_option maxRecDepth 100000 in
set_option maxHeartbeats 4000000 in
theorem w_open {p : Program} {l : Launch} {e : Env} {s : State} {m : MethodId} {below : List Frame} {meth : Method} {c : Code} {D : va_G} {cT : Nat → ClassId} {b : Nat} {xs : Nat → Int32} (C : lC p s m meth c D cT b 5 xs) {n : Nat} (hn : n ≤ 60) (h8 : 8 ≤ n) (v2 : Int32) (e2 : xs 2 = v2) : lG p l e s m below meth c D cT b (124, [(4, .int (nI 1)), (3, .ref 34), (2, .ref 18), (1, .ref 0), (0, .ref 1000)], [], WF n, 40, 20000) := by
  by_cases hk : v2 < nI 0 ∨ nI 9 < v2
  · skip
    refine (lgs C (pc' := 125) (L' := [(4, .int (nI 1)), (3, .ref 34), (2, .ref 18), (1, .ref 0), (0, .ref 1000)]) (S' := [.ref 0]) (by decide) (by decide) [(124, .aload_n 1, 1)] (List.forall_mem_cons.mpr ⟨dL_law_124, fun _ h => absurd h List.not_mem_nil⟩) rfl ?_).1
    refine (lgs C (pc' := 130) (L' := [(4, .int (nI 1)), (3, .ref 34), (2, .ref 18), (1, .ref 0), (0, .ref 1000)]) (S' := [.int (nI 1 + nI 1), .ref 1000, .ref 0]) (by decide) (by decide) [(125, .aload_n 0, 1), (126, .iload 4, 2), (128, .iconst 1, 1), (129, .iadd, 1)] (List.forall_mem_cons.mpr ⟨dL_law_125, List.forall_mem_cons.mpr ⟨dL_law_126, List.forall_mem_cons.mpr ⟨dL_law_128, List.forall_mem_cons.mpr ⟨dL_law_129, fun _ h => absurd h List.not_mem_nil⟩⟩⟩⟩) rfl ?_).1
    rw [show nI 1 + nI 1 = nI 2 from nI_add _ _]
    refine lsld C dL_law_130 (Nat.le_of_ble_eq_true rfl) (by decide) (by decide) e2 ?_
    show lG p l e s m below meth c D cT b (131, [(4, .int (nI 1)), (3, .ref 34), (2, .ref 18), (1, .ref 0), (0, .ref 1000)], [.int v2, .ref 0], _, 40, 20000)
    refine lcl C dL_law_131 rfl tn_X5_open rfl (q_open_bad _ _ _ _ _ _ _ _ _ _ _ _ _ _ _ hn h8 v2 hk) (Nat.le_of_ble_eq_true rfl) (Nat.le_of_ble_eq_true rfl) (Or.inl rfl) ?_
    show lG p l e s m below meth c D cT b (134, [(4, .int (nI 1)), (3, .ref 34), (2, .ref 18), (1, .ref 0), (0, .ref 1000)], [.int (-nI 2)], _, 40, 20000)
    refine (lgs C (pc' := 135) (L' := [(4, .int (nI 1)), (3, .ref 34), (2, .ref 18), (1, .ref 0), (0, .ref 1000)]) (S' := [.ref 18, .int (-nI 2)]) (by decide) (by decide) [(134, .aload_n 2, 1)] (List.forall_mem_cons.mpr ⟨dL_law_134, fun _ h => absurd h List.not_mem_nil⟩) rfl ?_).1
    refine (lgs C (pc' := 140) (L' := [(4, .int (nI 1)), (3, .ref 34), (2, .ref 18), (1, .ref 0), (0, .ref 1000)]) (S' := [.int (nI 1 + nI 1), .ref 1000, .ref 18, .int (-nI 2)]) (by decide) (by decide) [(135, .aload_n 0, 1), (136, .iload 4, 2), (138, .iconst 1, 1), (139, .iadd, 1)] (List.forall_mem_cons.mpr ⟨dL_law_135, List.forall_mem_cons.mpr ⟨dL_law_136, List.forall_mem_cons.mpr ⟨dL_law_138, List.forall_mem_cons.mpr ⟨dL_law_139, fun _ h => absurd h List.not_mem_nil⟩⟩⟩⟩) rfl ?_).1
    rw [show nI 1 + nI 1 = nI 2 from nI_add _ _]
    refine lsld C dL_law_140 (Nat.le_of_ble_eq_true rfl) (by decide) (by decide) e2 ?_
    show lG p l e s m below meth c D cT b (141, [(4, .int (nI 1)), (3, .ref 34), (2, .ref 18), (1, .ref 0), (0, .ref 1000)], [.int v2, .ref 18, .int (-nI 2)], _, 40, 20000)
    refine lcl C dL_law_141 rfl tn_X6_open rfl (p_open_bad _ _ _ _ _ _ _ _ _ _ _ _ _ _ _ _ _ _ _ _ _ _ _ _ _ _ _ _ _ _ _ _ _ _ _ _ _ _ _ _ _ hn h8 v2 hk) (Nat.le_of_ble_eq_true rfl) (Nat.le_of_ble_eq_true rfl) (Or.inl rfl) ?_
    show lG p l e s m below meth c D cT b (144, [(4, .int (nI 1)), (3, .ref 34), (2, .ref 18), (1, .ref 0), (0, .ref 1000)], [.int (-nI 2), .int (-nI 2)], _, 40, 20000)
    refine lcmp (t := 622) C dL_law_144 (by decide) (by decide) (by decide) true (cnd_eq (rfl)) ?_
    exact w_end C (Nat.le_of_ble_eq_true rfl)
  · obtain ⟨q, -, hq, rfl⟩ := rngE (by decide) (by decide) hk
    refine (lgs C (pc' := 125) (L' := [(4, .int (nI 1)), (3, .ref 34), (2, .ref 18), (1, .ref 0), (0, .ref 1000)]) (S' := [.ref 0]) (by decide) (by decide) [(124, .aload_n 1, 1)] (List.forall_mem_cons.mpr ⟨dL_law_124, fun _ h => absurd h List.not_mem_nil⟩) rfl ?_).1
    refine (lgs C (pc' := 130) (L' := [(4, .int (nI 1)), (3, .ref 34), (2, .ref 18), (1, .ref 0), (0, .ref 1000)]) (S' := [.int (nI 1 + nI 1), .ref 1000, .ref 0]) (by decide) (by decide) [(125, .aload_n 0, 1), (126, .iload 4, 2), (128, .iconst 1, 1), (129, .iadd, 1)] (List.forall_mem_cons.mpr ⟨dL_law_125, List.forall_mem_cons.mpr ⟨dL_law_126, List.forall_mem_cons.mpr ⟨dL_law_128, List.forall_mem_cons.mpr ⟨dL_law_129, fun _ h => absurd h List.not_mem_nil⟩⟩⟩⟩) rfl ?_).1
    rw [show nI 1 + nI 1 = nI 2 from nI_add _ _]
    refine lsld C dL_law_130 (Nat.le_of_ble_eq_true rfl) (by decide) (by decide) e2 ?_
    show lG p l e s m below meth c D cT b (131, [(4, .int (nI 1)), (3, .ref 34), (2, .ref 18), (1, .ref 0), (0, .ref 1000)], [.int (nI q), .ref 0], _, 40, 20000)
    refine lcl C dL_law_131 rfl tn_X5_open rfl (q_open_ok _ _ _ _ _ _ _ _ _ _ _ _ _ _ _ hn h8 q hq) (Nat.le_of_ble_eq_true rfl) (Nat.le_of_ble_eq_true rfl) (Or.inl rfl) ?_
    show lG p l e s m below meth c D cT b (134, [(4, .int (nI 1)), (3, .ref 34), (2, .ref 18), (1, .ref 0), (0, .ref 1000)], [.int (nI 0)], _, 40, 20000)
    refine (lgs C (pc' := 135) (L' := [(4, .int (nI 1)), (3, .ref 34), (2, .ref 18), (1, .ref 0), (0, .ref 1000)]) (S' := [.ref 18, .int (nI 0)]) (by decide) (by decide) [(134, .aload_n 2, 1)] (List.forall_mem_cons.mpr ⟨dL_law_134, fun _ h => absurd h List.not_mem_nil⟩) rfl ?_).1
    refine (lgs C (pc' := 140) (L' := [(4, .int (nI 1)), (3, .ref 34), (2, .ref 18), (1, .ref 0), (0, .ref 1000)]) (S' := [.int (nI 1 + nI 1), .ref 1000, .ref 18, .int (nI 0)]) (by decide) (by decide) [(135, .aload_n 0, 1), (136, .iload 4, 2), (138, .iconst 1, 1), (139, .iadd, 1)] (List.forall_mem_cons.mpr ⟨dL_law_135, List.forall_mem_cons.mpr ⟨dL_law_136, List.forall_mem_cons.mpr ⟨dL_law_138, List.forall_mem_cons.mpr ⟨dL_law_139, fun _ h => absurd h List.not_mem_nil⟩⟩⟩⟩) rfl ?_).1
    rw [show nI 1 + nI 1 = nI 2 from nI_add _ _]
    refine lsld C dL_law_140 (Nat.le_of_ble_eq_true rfl) (by decide) (by decide) e2 ?_
    show lG p l e s m below meth c D cT b (141, [(4, .int (nI 1)), (3, .ref 34), (2, .ref 18), (1, .ref 0), (0, .ref 1000)], [.int (nI q), .ref 18, .int (nI 0)], _, 40, 20000)
    refine lcl C dL_law_141 rfl tn_X6_open rfl (p_open_ok _ _ _ _ _ _ _ _ _ _ _ _ _ _ _ _ _ _ _ _ _ _ _ _ _ _ _ _ _ _ _ _ _ _ _ _ _ _ _ _ _ hn h8 q hq) (Nat.le_of_ble_eq_true rfl) (Nat.le_of_ble_eq_true rfl) (Or.inl rfl) ?_
    show lG p l e s m below meth c D cT b (144, [(4, .int (nI 1)), (3, .ref 34), (2, .ref 18), (1, .ref 0), (0, .ref 1000)], [.int (nI 0), .int (nI 0)], _, 40, 20000)
    refine lcmp (t := 622) C dL_law_144 (by decide) (by decide) (by decide) true (cnd_eq (rfl)) ?_
    exact w_end C (Nat.le_of_ble_eq_true rfl)
set_option maxRecDepth 100000 in
set_option maxHeartbeats 4000000 in
theorem w_fin {p : Program} {l : Launch} {e : Env} {s : State} {m : MethodId} {below : List Frame} {meth : Method} {c : Code} {D : va_G} {cT : Nat → ClassId} {b : Nat} {xs : Nat → Int32} (C : lC p s m meth c D cT b 5 xs) {n : Nat} (hn : n ≤ 60) (h8 : 8 ≤ n)  : lG p l e s m below meth c D cT b (218, [(4, .int (nI 1)), (3, .ref 34), (2, .ref 18), (1, .ref 0), (0, .ref 1000)], [], WF n, 40, 20000) := by
  refine (lgs C (pc' := 219) (L' := [(4, .int (nI 1)), (3, .ref 34), (2, .ref 18), (1, .ref 0), (0, .ref 1000)]) (S' := [.ref 0]) (by decide) (by decide) [(218, .aload_n 1, 1)] (List.forall_mem_cons.mpr ⟨dL_law_218, fun _ h => absurd h List.not_mem_nil⟩) rfl ?_).1
  refine lcl C dL_law_219 rfl tn_X5_end rfl (q_end _ _ _ _ _ _ _ _ _ _ _ _ _ _ _ hn h8) (Nat.le_of_ble_eq_true rfl) (Nat.le_of_ble_eq_true rfl) (Or.inl rfl) ?_
  show lG p l e s m below meth c D cT b (222, [(4, .int (nI 1)), (3, .ref 34), (2, .ref 18), (1, .ref 0), (0, .ref 1000)], [.int (-nI 3)], _, 40, 20000)
  refine (lgs C (pc' := 223) (L' := [(4, .int (nI 1)), (3, .ref 34), (2, .ref 18), (1, .ref 0), (0, .ref 1000)]) (S' := [.ref 18, .int (-nI 3)]) (by decide) (by decide) [(222, .aload_n 2, 1)] (List.forall_mem_cons.mpr ⟨dL_law_222, fun _ h => absurd h List.not_mem_nil⟩) rfl ?_).1
  refine lcl C dL_law_223 rfl tn_X6_end rfl (p_end _ _ _ _ _ _ _ _ _ _ _ _ _ _ _ _ _ _ _ _ _ _ _ _ _ _ _ _ _ _ _ _ _ _ _ _ _ _ _ _ _ hn h8) (Nat.le_of_ble_eq_true rfl) (Nat.le_of_ble_eq_true rfl) (Or.inl rfl) ?_
  show lG p l e s m below meth c D cT b (226, [(4, .int (nI 1)), (3, .ref 34), (2, .ref 18), (1, .ref 0), (0, .ref 1000)], [.int (-nI 3), .int (-nI 3)], _, 40, 20000)
  refine lcmp (t := 622) C dL_law_226 (by decide) (by decide) (by decide) true (cnd_eq (rfl)) ?_
  exact w_end C (Nat.le_of_ble_eq_true rfl)
set_option maxRecDepth 100000 in
set_option maxHeartbeats 4000000 in
theorem w_protect {p : Program} {l : Launch} {e : Env} {s : State} {m : MethodId} {below : List Frame} {meth : Method} {c : Code} {D : va_G} {cT : Nat → ClassId} {b : Nat} {xs : Nat → Int32} (C : lC p s m meth c D cT b 5 xs) {n : Nat} (hn : n ≤ 60) (h8 : 8 ≤ n) (v2 : Int32) (e2 : xs 2 = v2) (v3 : Int32) (e3 : xs 3 = v3) : lG p l e s m below meth c D cT b (231, [(4, .int (nI 1)), (3, .ref 34), (2, .ref 18), (1, .ref 0), (0, .ref 1000)], [], WF n, 40, 20000) := by
  refine (lgs C (pc' := 232) (L' := [(4, .int (nI 1)), (3, .ref 34), (2, .ref 18), (1, .ref 0), (0, .ref 1000)]) (S' := [.ref 0]) (by decide) (by decide) [(231, .aload_n 1, 1)] (List.forall_mem_cons.mpr ⟨dL_law_231, fun _ h => absurd h List.not_mem_nil⟩) rfl ?_).1
  refine (lgs C (pc' := 237) (L' := [(4, .int (nI 1)), (3, .ref 34), (2, .ref 18), (1, .ref 0), (0, .ref 1000)]) (S' := [.int (nI 1 + nI 1), .ref 1000, .ref 0]) (by decide) (by decide) [(232, .aload_n 0, 1), (233, .iload 4, 2), (235, .iconst 1, 1), (236, .iadd, 1)] (List.forall_mem_cons.mpr ⟨dL_law_232, List.forall_mem_cons.mpr ⟨dL_law_233, List.forall_mem_cons.mpr ⟨dL_law_235, List.forall_mem_cons.mpr ⟨dL_law_236, fun _ h => absurd h List.not_mem_nil⟩⟩⟩⟩) rfl ?_).1
  rw [show nI 1 + nI 1 = nI 2 from nI_add _ _]
  refine lsld C dL_law_237 (Nat.le_of_ble_eq_true rfl) (by decide) (by decide) e2 ?_
  show lG p l e s m below meth c D cT b (238, [(4, .int (nI 1)), (3, .ref 34), (2, .ref 18), (1, .ref 0), (0, .ref 1000)], [.int v2, .ref 0], _, 40, 20000)
  refine (lgs C (pc' := 243) (L' := [(4, .int (nI 1)), (3, .ref 34), (2, .ref 18), (1, .ref 0), (0, .ref 1000)]) (S' := [.int (nI 1 + nI 2), .ref 1000, .int v2, .ref 0]) (by decide) (by decide) [(238, .aload_n 0, 1), (239, .iload 4, 2), (241, .iconst 2, 1), (242, .iadd, 1)] (List.forall_mem_cons.mpr ⟨dL_law_238, List.forall_mem_cons.mpr ⟨dL_law_239, List.forall_mem_cons.mpr ⟨dL_law_241, List.forall_mem_cons.mpr ⟨dL_law_242, fun _ h => absurd h List.not_mem_nil⟩⟩⟩⟩) rfl ?_).1
  rw [show nI 1 + nI 2 = nI 3 from nI_add _ _]
  refine lsld C dL_law_243 (Nat.le_of_ble_eq_true rfl) (by decide) (by decide) e3 ?_
  show lG p l e s m below meth c D cT b (244, [(4, .int (nI 1)), (3, .ref 34), (2, .ref 18), (1, .ref 0), (0, .ref 1000)], [.int v3, .int v2, .ref 0], _, 40, 20000)
  refine lcl C dL_law_244 rfl tn_X5_protect rfl (q_protect _ _ _ _ _ _ _ _ _ _ _ _ _ _ _ hn h8 v2 v3) (Nat.le_of_ble_eq_true rfl) (Nat.le_of_ble_eq_true rfl) (Or.inl rfl) ?_
  show lG p l e s m below meth c D cT b (247, [(4, .int (nI 1)), (3, .ref 34), (2, .ref 18), (1, .ref 0), (0, .ref 1000)], [.int (-nI 2)], _, 40, 20000)
  refine (lgs C (pc' := 248) (L' := [(4, .int (nI 1)), (3, .ref 34), (2, .ref 18), (1, .ref 0), (0, .ref 1000)]) (S' := [.ref 18, .int (-nI 2)]) (by decide) (by decide) [(247, .aload_n 2, 1)] (List.forall_mem_cons.mpr ⟨dL_law_247, fun _ h => absurd h List.not_mem_nil⟩) rfl ?_).1
  refine (lgs C (pc' := 253) (L' := [(4, .int (nI 1)), (3, .ref 34), (2, .ref 18), (1, .ref 0), (0, .ref 1000)]) (S' := [.int (nI 1 + nI 1), .ref 1000, .ref 18, .int (-nI 2)]) (by decide) (by decide) [(248, .aload_n 0, 1), (249, .iload 4, 2), (251, .iconst 1, 1), (252, .iadd, 1)] (List.forall_mem_cons.mpr ⟨dL_law_248, List.forall_mem_cons.mpr ⟨dL_law_249, List.forall_mem_cons.mpr ⟨dL_law_251, List.forall_mem_cons.mpr ⟨dL_law_252, fun _ h => absurd h List.not_mem_nil⟩⟩⟩⟩) rfl ?_).1
  rw [show nI 1 + nI 1 = nI 2 from nI_add _ _]
  refine lsld C dL_law_253 (Nat.le_of_ble_eq_true rfl) (by decide) (by decide) e2 ?_
  show lG p l e s m below meth c D cT b (254, [(4, .int (nI 1)), (3, .ref 34), (2, .ref 18), (1, .ref 0), (0, .ref 1000)], [.int v2, .ref 18, .int (-nI 2)], _, 40, 20000)
  refine (lgs C (pc' := 259) (L' := [(4, .int (nI 1)), (3, .ref 34), (2, .ref 18), (1, .ref 0), (0, .ref 1000)]) (S' := [.int (nI 1 + nI 2), .ref 1000, .int v2, .ref 18, .int (-nI 2)]) (by decide) (by decide) [(254, .aload_n 0, 1), (255, .iload 4, 2), (257, .iconst 2, 1), (258, .iadd, 1)] (List.forall_mem_cons.mpr ⟨dL_law_254, List.forall_mem_cons.mpr ⟨dL_law_255, List.forall_mem_cons.mpr ⟨dL_law_257, List.forall_mem_cons.mpr ⟨dL_law_258, fun _ h => absurd h List.not_mem_nil⟩⟩⟩⟩) rfl ?_).1
  rw [show nI 1 + nI 2 = nI 3 from nI_add _ _]
  refine lsld C dL_law_259 (Nat.le_of_ble_eq_true rfl) (by decide) (by decide) e3 ?_
  show lG p l e s m below meth c D cT b (260, [(4, .int (nI 1)), (3, .ref 34), (2, .ref 18), (1, .ref 0), (0, .ref 1000)], [.int v3, .int v2, .ref 18, .int (-nI 2)], _, 40, 20000)
  refine lcl C dL_law_260 rfl tn_X6_protect rfl (p_protect _ _ _ _ _ _ _ _ _ _ _ _ _ _ _ _ _ _ _ _ _ _ _ _ _ _ _ _ _ _ _ _ _ _ _ _ _ _ _ _ _ hn h8 v2 v3) (Nat.le_of_ble_eq_true rfl) (Nat.le_of_ble_eq_true rfl) (Or.inl rfl) ?_
  show lG p l e s m below meth c D cT b (263, [(4, .int (nI 1)), (3, .ref 34), (2, .ref 18), (1, .ref 0), (0, .ref 1000)], [.int (-nI 2), .int (-nI 2)], _, 40, 20000)
  refine lcmp (t := 622) C dL_law_263 (by decide) (by decide) (by decide) true (cnd_eq (rfl)) ?_
  exact w_end C (Nat.le_of_ble_eq_true rfl)
set_option maxRecDepth 100000 in
set_option maxHeartbeats 4000000 in
theorem w_start {p : Program} {l : Launch} {e : Env} {s : State} {m : MethodId} {below : List Frame} {meth : Method} {c : Code} {D : va_G} {cT : Nat → ClassId} {b : Nat} {xs : Nat → Int32} (C : lC p s m meth c D cT b 5 xs) {n : Nat} (hn : n ≤ 60) (h8 : 8 ≤ n)  : lG p l e s m below meth c D cT b (318, [(4, .int (nI 1)), (3, .ref 34), (2, .ref 18), (1, .ref 0), (0, .ref 1000)], [], WF n, 40, 20000) := by
  refine (lgs C (pc' := 319) (L' := [(4, .int (nI 1)), (3, .ref 34), (2, .ref 18), (1, .ref 0), (0, .ref 1000)]) (S' := [.ref 0]) (by decide) (by decide) [(318, .aload_n 1, 1)] (List.forall_mem_cons.mpr ⟨dL_law_318, fun _ h => absurd h List.not_mem_nil⟩) rfl ?_).1
  refine lcl C dL_law_319 rfl tn_X5_start rfl (q_start _ _ _ _ _ _ _ _ _ _ _ _ _ _ _ hn h8) (Nat.le_of_ble_eq_true rfl) (Nat.le_of_ble_eq_true rfl) (Or.inl rfl) ?_
  show lG p l e s m below meth c D cT b (322, [(4, .int (nI 1)), (3, .ref 34), (2, .ref 18), (1, .ref 0), (0, .ref 1000)], [.int (-nI 3)], _, 40, 20000)
  refine (lgs C (pc' := 323) (L' := [(4, .int (nI 1)), (3, .ref 34), (2, .ref 18), (1, .ref 0), (0, .ref 1000)]) (S' := [.ref 18, .int (-nI 3)]) (by decide) (by decide) [(322, .aload_n 2, 1)] (List.forall_mem_cons.mpr ⟨dL_law_322, fun _ h => absurd h List.not_mem_nil⟩) rfl ?_).1
  refine lcl C dL_law_323 rfl tn_X6_start rfl (p_start _ _ _ _ _ _ _ _ _ _ _ _ _ _ _ _ _ _ _ _ _ _ _ _ _ _ _ _ _ _ _ _ _ _ _ _ _ _ _ _ _ hn h8) (Nat.le_of_ble_eq_true rfl) (Nat.le_of_ble_eq_true rfl) (Or.inl rfl) ?_
  show lG p l e s m below meth c D cT b (326, [(4, .int (nI 1)), (3, .ref 34), (2, .ref 18), (1, .ref 0), (0, .ref 1000)], [.int (-nI 3), .int (-nI 3)], _, 40, 20000)
  refine lcmp (t := 622) C dL_law_326 (by decide) (by decide) (by decide) true (cnd_eq (rfl)) ?_
  exact w_end C (Nat.le_of_ble_eq_true rfl)
set_option maxRecDepth 100000 in
set_option maxHeartbeats 4000000 in
theorem w_sync {p : Program} {l : Launch} {e : Env} {s : State} {m : MethodId} {below : List Frame} {meth : Method} {c : Code} {D : va_G} {cT : Nat → ClassId} {b : Nat} {xs : Nat → Int32} (C : lC p s m meth c D cT b 5 xs) {n : Nat} (hn : n ≤ 60) (h8 : 8 ≤ n)  : lG p l e s m below meth c D cT b (268, [(4, .int (nI 1)), (3, .ref 34), (2, .ref 18), (1, .ref 0), (0, .ref 1000)], [], WF n, 40, 20000) := by
  refine (lgs C (pc' := 269) (L' := [(4, .int (nI 1)), (3, .ref 34), (2, .ref 18), (1, .ref 0), (0, .ref 1000)]) (S' := [.ref 0]) (by decide) (by decide) [(268, .aload_n 1, 1)] (List.forall_mem_cons.mpr ⟨dL_law_268, fun _ h => absurd h List.not_mem_nil⟩) rfl ?_).1
  refine lcl C dL_law_269 rfl tn_X5_sync rfl (q_sync _ _ _ _ _ _ _ _ _ _ _ _ _ _ _ hn h8) (Nat.le_of_ble_eq_true rfl) (Nat.le_of_ble_eq_true rfl) (Or.inl rfl) ?_
  show lG p l e s m below meth c D cT b (272, [(4, .int (nI 1)), (3, .ref 34), (2, .ref 18), (1, .ref 0), (0, .ref 1000)], [.int (nI 1)], _, 40, 20000)
  refine (lgs C (pc' := 273) (L' := [(4, .int (nI 1)), (3, .ref 34), (2, .ref 18), (1, .ref 0), (0, .ref 1000)]) (S' := [.ref 18, .int (nI 1)]) (by decide) (by decide) [(272, .aload_n 2, 1)] (List.forall_mem_cons.mpr ⟨dL_law_272, fun _ h => absurd h List.not_mem_nil⟩) rfl ?_).1
  refine lcl C dL_law_273 rfl tn_X6_sync rfl (p_sync _ _ _ _ _ _ _ _ _ _ _ _ _ _ _ _ _ _ _ _ _ _ _ _ _ _ _ _ _ _ _ _ _ _ _ _ _ _ _ _ _ hn h8 (fun _ => rfl) (fun _ => rfl)) (Nat.le_of_ble_eq_true rfl) (Nat.le_of_ble_eq_true rfl) (Or.inl rfl) ?_
  show lG p l e s m below meth c D cT b (276, [(4, .int (nI 1)), (3, .ref 34), (2, .ref 18), (1, .ref 0), (0, .ref 1000)], [.int (nI 1), .int (nI 1)], _, 40, 20000)
  refine lcmp (t := 622) C dL_law_276 (by decide) (by decide) (by decide) true (cnd_eq (rfl)) ?_
  exact w_end C (Nat.le_of_ble_eq_true rfl)
set_option maxRecDepth 100000 in
set_option maxHeartbeats 4000000 in
theorem w_row {p : Program} {l : Launch} {e : Env} {s : State} {m : MethodId} {below : List Frame} {meth : Method} {c : Code} {D : va_G} {cT : Nat → ClassId} {b : Nat} {xs : Nat → Int32} (C : lC p s m meth c D cT b 5 xs) {n : Nat} (hn : n ≤ 60) (h8 : 8 ≤ n) (v2 : Int32) (e2 : xs 2 = v2) (v3 : Int32) (e3 : xs 3 = v3) : lG p l e s m below meth c D cT b (399, [(4, .int (nI 1)), (3, .ref 34), (2, .ref 18), (1, .ref 0), (0, .ref 1000)], [], WF n, 40, 20000) := by
  refine (lgs C (pc' := 400) (L' := [(4, .int (nI 1)), (3, .ref 34), (2, .ref 18), (1, .ref 0), (0, .ref 1000)]) (S' := [.ref 0]) (by decide) (by decide) [(399, .aload_n 1, 1)] (List.forall_mem_cons.mpr ⟨dL_law_399, fun _ h => absurd h List.not_mem_nil⟩) rfl ?_).1
  refine (lgs C (pc' := 405) (L' := [(4, .int (nI 1)), (3, .ref 34), (2, .ref 18), (1, .ref 0), (0, .ref 1000)]) (S' := [.int (nI 1 + nI 1), .ref 1000, .ref 0]) (by decide) (by decide) [(400, .aload_n 0, 1), (401, .iload 4, 2), (403, .iconst 1, 1), (404, .iadd, 1)] (List.forall_mem_cons.mpr ⟨dL_law_400, List.forall_mem_cons.mpr ⟨dL_law_401, List.forall_mem_cons.mpr ⟨dL_law_403, List.forall_mem_cons.mpr ⟨dL_law_404, fun _ h => absurd h List.not_mem_nil⟩⟩⟩⟩) rfl ?_).1
  rw [show nI 1 + nI 1 = nI 2 from nI_add _ _]
  refine lsld C dL_law_405 (Nat.le_of_ble_eq_true rfl) (by decide) (by decide) e2 ?_
  show lG p l e s m below meth c D cT b (406, [(4, .int (nI 1)), (3, .ref 34), (2, .ref 18), (1, .ref 0), (0, .ref 1000)], [.int v2, .ref 0], _, 40, 20000)
  refine (lgs C (pc' := 411) (L' := [(4, .int (nI 1)), (3, .ref 34), (2, .ref 18), (1, .ref 0), (0, .ref 1000)]) (S' := [.int (nI 1 + nI 2), .ref 1000, .int v2, .ref 0]) (by decide) (by decide) [(406, .aload_n 0, 1), (407, .iload 4, 2), (409, .iconst 2, 1), (410, .iadd, 1)] (List.forall_mem_cons.mpr ⟨dL_law_406, List.forall_mem_cons.mpr ⟨dL_law_407, List.forall_mem_cons.mpr ⟨dL_law_409, List.forall_mem_cons.mpr ⟨dL_law_410, fun _ h => absurd h List.not_mem_nil⟩⟩⟩⟩) rfl ?_).1
  rw [show nI 1 + nI 2 = nI 3 from nI_add _ _]
  refine lsld C dL_law_411 (Nat.le_of_ble_eq_true rfl) (by decide) (by decide) e3 ?_
  show lG p l e s m below meth c D cT b (412, [(4, .int (nI 1)), (3, .ref 34), (2, .ref 18), (1, .ref 0), (0, .ref 1000)], [.int v3, .int v2, .ref 0], _, 40, 20000)
  refine lcl C dL_law_412 rfl tn_X5_row rfl (q_row _ _ _ _ _ _ _ _ _ _ _ _ _ _ _ hn h8 v2 v3) (Nat.le_of_ble_eq_true rfl) (Nat.le_of_ble_eq_true rfl) (Or.inl rfl) ?_
  show lG p l e s m below meth c D cT b (415, [(4, .int (nI 1)), (3, .ref 34), (2, .ref 18), (1, .ref 0), (0, .ref 1000)], [.int (-nI 2)], _, 40, 20000)
  refine (lgs C (pc' := 416) (L' := [(4, .int (nI 1)), (3, .ref 34), (2, .ref 18), (1, .ref 0), (0, .ref 1000)]) (S' := [.ref 18, .int (-nI 2)]) (by decide) (by decide) [(415, .aload_n 2, 1)] (List.forall_mem_cons.mpr ⟨dL_law_415, fun _ h => absurd h List.not_mem_nil⟩) rfl ?_).1
  refine (lgs C (pc' := 421) (L' := [(4, .int (nI 1)), (3, .ref 34), (2, .ref 18), (1, .ref 0), (0, .ref 1000)]) (S' := [.int (nI 1 + nI 1), .ref 1000, .ref 18, .int (-nI 2)]) (by decide) (by decide) [(416, .aload_n 0, 1), (417, .iload 4, 2), (419, .iconst 1, 1), (420, .iadd, 1)] (List.forall_mem_cons.mpr ⟨dL_law_416, List.forall_mem_cons.mpr ⟨dL_law_417, List.forall_mem_cons.mpr ⟨dL_law_419, List.forall_mem_cons.mpr ⟨dL_law_420, fun _ h => absurd h List.not_mem_nil⟩⟩⟩⟩) rfl ?_).1
  rw [show nI 1 + nI 1 = nI 2 from nI_add _ _]
  refine lsld C dL_law_421 (Nat.le_of_ble_eq_true rfl) (by decide) (by decide) e2 ?_
  show lG p l e s m below meth c D cT b (422, [(4, .int (nI 1)), (3, .ref 34), (2, .ref 18), (1, .ref 0), (0, .ref 1000)], [.int v2, .ref 18, .int (-nI 2)], _, 40, 20000)
  refine (lgs C (pc' := 427) (L' := [(4, .int (nI 1)), (3, .ref 34), (2, .ref 18), (1, .ref 0), (0, .ref 1000)]) (S' := [.int (nI 1 + nI 2), .ref 1000, .int v2, .ref 18, .int (-nI 2)]) (by decide) (by decide) [(422, .aload_n 0, 1), (423, .iload 4, 2), (425, .iconst 2, 1), (426, .iadd, 1)] (List.forall_mem_cons.mpr ⟨dL_law_422, List.forall_mem_cons.mpr ⟨dL_law_423, List.forall_mem_cons.mpr ⟨dL_law_425, List.forall_mem_cons.mpr ⟨dL_law_426, fun _ h => absurd h List.not_mem_nil⟩⟩⟩⟩) rfl ?_).1
  rw [show nI 1 + nI 2 = nI 3 from nI_add _ _]
  refine lsld C dL_law_427 (Nat.le_of_ble_eq_true rfl) (by decide) (by decide) e3 ?_
  show lG p l e s m below meth c D cT b (428, [(4, .int (nI 1)), (3, .ref 34), (2, .ref 18), (1, .ref 0), (0, .ref 1000)], [.int v3, .int v2, .ref 18, .int (-nI 2)], _, 40, 20000)
  refine lcl C dL_law_428 rfl tn_X6_row rfl (p_row _ _ _ _ _ _ _ _ _ _ _ _ _ _ _ _ _ _ _ _ _ _ _ _ _ _ _ _ _ _ _ _ _ _ _ _ _ _ _ _ _ hn h8 v2 v3) (Nat.le_of_ble_eq_true rfl) (Nat.le_of_ble_eq_true rfl) (Or.inl rfl) ?_
  show lG p l e s m below meth c D cT b (431, [(4, .int (nI 1)), (3, .ref 34), (2, .ref 18), (1, .ref 0), (0, .ref 1000)], [.int (-nI 2), .int (-nI 2)], _, 40, 20000)
  refine lcmp (t := 622) C dL_law_431 (by decide) (by decide) (by decide) true (cnd_eq (rfl)) ?_
  exact w_end C (Nat.le_of_ble_eq_true rfl)
set_option maxRecDepth 100000 in
set_option maxHeartbeats 4000000 in
theorem w_listed {p : Program} {l : Launch} {e : Env} {s : State} {m : MethodId} {below : List Frame} {meth : Method} {c : Code} {D : va_G} {cT : Nat → ClassId} {b : Nat} {xs : Nat → Int32} (C : lC p s m meth c D cT b 5 xs) {n : Nat} (hn : n ≤ 60) (h8 : 8 ≤ n) (v2 : Int32) (e2 : xs 2 = v2) : lG p l e s m below meth c D cT b (572, [(4, .int (nI 1)), (3, .ref 34), (2, .ref 18), (1, .ref 0), (0, .ref 1000)], [], WF n, 40, 20000) := by
  refine (lgs C (pc' := 573) (L' := [(4, .int (nI 1)), (3, .ref 34), (2, .ref 18), (1, .ref 0), (0, .ref 1000)]) (S' := [.ref 0]) (by decide) (by decide) [(572, .aload_n 1, 1)] (List.forall_mem_cons.mpr ⟨dL_law_572, fun _ h => absurd h List.not_mem_nil⟩) rfl ?_).1
  refine (lgs C (pc' := 578) (L' := [(4, .int (nI 1)), (3, .ref 34), (2, .ref 18), (1, .ref 0), (0, .ref 1000)]) (S' := [.int (nI 1 + nI 1), .ref 1000, .ref 0]) (by decide) (by decide) [(573, .aload_n 0, 1), (574, .iload 4, 2), (576, .iconst 1, 1), (577, .iadd, 1)] (List.forall_mem_cons.mpr ⟨dL_law_573, List.forall_mem_cons.mpr ⟨dL_law_574, List.forall_mem_cons.mpr ⟨dL_law_576, List.forall_mem_cons.mpr ⟨dL_law_577, fun _ h => absurd h List.not_mem_nil⟩⟩⟩⟩) rfl ?_).1
  rw [show nI 1 + nI 1 = nI 2 from nI_add _ _]
  refine lsld C dL_law_578 (Nat.le_of_ble_eq_true rfl) (by decide) (by decide) e2 ?_
  show lG p l e s m below meth c D cT b (579, [(4, .int (nI 1)), (3, .ref 34), (2, .ref 18), (1, .ref 0), (0, .ref 1000)], [.int v2, .ref 0], _, 40, 20000)
  refine lcl C dL_law_579 rfl tn_X5_listed rfl (q_listed _ _ _ _ _ _ _ _ _ _ _ _ _ _ _ hn h8 v2) (Nat.le_of_ble_eq_true rfl) (Nat.le_of_ble_eq_true rfl) (Or.inl rfl) ?_
  show lG p l e s m below meth c D cT b (582, [(4, .int (nI 1)), (3, .ref 34), (2, .ref 18), (1, .ref 0), (0, .ref 1000)], [.int (-nI 1)], _, 40, 20000)
  refine (lgs C (pc' := 583) (L' := [(4, .int (nI 1)), (3, .ref 34), (2, .ref 18), (1, .ref 0), (0, .ref 1000)]) (S' := [.ref 18, .int (-nI 1)]) (by decide) (by decide) [(582, .aload_n 2, 1)] (List.forall_mem_cons.mpr ⟨dL_law_582, fun _ h => absurd h List.not_mem_nil⟩) rfl ?_).1
  refine (lgs C (pc' := 588) (L' := [(4, .int (nI 1)), (3, .ref 34), (2, .ref 18), (1, .ref 0), (0, .ref 1000)]) (S' := [.int (nI 1 + nI 1), .ref 1000, .ref 18, .int (-nI 1)]) (by decide) (by decide) [(583, .aload_n 0, 1), (584, .iload 4, 2), (586, .iconst 1, 1), (587, .iadd, 1)] (List.forall_mem_cons.mpr ⟨dL_law_583, List.forall_mem_cons.mpr ⟨dL_law_584, List.forall_mem_cons.mpr ⟨dL_law_586, List.forall_mem_cons.mpr ⟨dL_law_587, fun _ h => absurd h List.not_mem_nil⟩⟩⟩⟩) rfl ?_).1
  rw [show nI 1 + nI 1 = nI 2 from nI_add _ _]
  refine lsld C dL_law_588 (Nat.le_of_ble_eq_true rfl) (by decide) (by decide) e2 ?_
  show lG p l e s m below meth c D cT b (589, [(4, .int (nI 1)), (3, .ref 34), (2, .ref 18), (1, .ref 0), (0, .ref 1000)], [.int v2, .ref 18, .int (-nI 1)], _, 40, 20000)
  refine lcl C dL_law_589 rfl tn_X6_listed rfl (p_listed _ _ _ _ _ _ _ _ _ _ _ _ _ _ _ _ _ _ _ _ _ _ _ _ _ _ _ _ _ _ _ _ _ _ _ _ _ _ _ _ _ hn h8 v2) (Nat.le_of_ble_eq_true rfl) (Nat.le_of_ble_eq_true rfl) (Or.inl rfl) ?_
  show lG p l e s m below meth c D cT b (592, [(4, .int (nI 1)), (3, .ref 34), (2, .ref 18), (1, .ref 0), (0, .ref 1000)], [.int (-nI 1), .int (-nI 1)], _, 40, 20000)
  refine lcmp (t := 622) C dL_law_592 (by decide) (by decide) (by decide) true (cnd_eq (rfl)) ?_
  exact w_end C (Nat.le_of_ble_eq_true rfl)
set_option maxRecDepth 100000 in
set_option maxHeartbeats 4000000 in
theorem w_cut {p : Program} {l : Launch} {e : Env} {s : State} {m : MethodId} {below : List Frame} {meth : Method} {c : Code} {D : va_G} {cT : Nat → ClassId} {b : Nat} {xs : Nat → Int32} (C : lC p s m meth c D cT b 5 xs) {n : Nat} (hn : n ≤ 60) (h8 : 8 ≤ n) (v2 : Int32) (e2 : xs 2 = v2) (v3 : Int32) (e3 : xs 3 = v3) : lG p l e s m below meth c D cT b (281, [(4, .int (nI 1)), (3, .ref 34), (2, .ref 18), (1, .ref 0), (0, .ref 1000)], [], WF n, 40, 20000) := by
  by_cases ht : v3 < nI 1 ∨ nI 31 < v3
  · skip
    refine (lgs C (pc' := 282) (L' := [(4, .int (nI 1)), (3, .ref 34), (2, .ref 18), (1, .ref 0), (0, .ref 1000)]) (S' := [.ref 0]) (by decide) (by decide) [(281, .aload_n 1, 1)] (List.forall_mem_cons.mpr ⟨dL_law_281, fun _ h => absurd h List.not_mem_nil⟩) rfl ?_).1
    refine (lgs C (pc' := 287) (L' := [(4, .int (nI 1)), (3, .ref 34), (2, .ref 18), (1, .ref 0), (0, .ref 1000)]) (S' := [.int (nI 1 + nI 1), .ref 1000, .ref 0]) (by decide) (by decide) [(282, .aload_n 0, 1), (283, .iload 4, 2), (285, .iconst 1, 1), (286, .iadd, 1)] (List.forall_mem_cons.mpr ⟨dL_law_282, List.forall_mem_cons.mpr ⟨dL_law_283, List.forall_mem_cons.mpr ⟨dL_law_285, List.forall_mem_cons.mpr ⟨dL_law_286, fun _ h => absurd h List.not_mem_nil⟩⟩⟩⟩) rfl ?_).1
    rw [show nI 1 + nI 1 = nI 2 from nI_add _ _]
    refine lsld C dL_law_287 (Nat.le_of_ble_eq_true rfl) (by decide) (by decide) e2 ?_
    show lG p l e s m below meth c D cT b (288, [(4, .int (nI 1)), (3, .ref 34), (2, .ref 18), (1, .ref 0), (0, .ref 1000)], [.int v2, .ref 0], _, 40, 20000)
    refine (lgs C (pc' := 293) (L' := [(4, .int (nI 1)), (3, .ref 34), (2, .ref 18), (1, .ref 0), (0, .ref 1000)]) (S' := [.int (nI 1 + nI 2), .ref 1000, .int v2, .ref 0]) (by decide) (by decide) [(288, .aload_n 0, 1), (289, .iload 4, 2), (291, .iconst 2, 1), (292, .iadd, 1)] (List.forall_mem_cons.mpr ⟨dL_law_288, List.forall_mem_cons.mpr ⟨dL_law_289, List.forall_mem_cons.mpr ⟨dL_law_291, List.forall_mem_cons.mpr ⟨dL_law_292, fun _ h => absurd h List.not_mem_nil⟩⟩⟩⟩) rfl ?_).1
    rw [show nI 1 + nI 2 = nI 3 from nI_add _ _]
    refine lsld C dL_law_293 (Nat.le_of_ble_eq_true rfl) (by decide) (by decide) e3 ?_
    show lG p l e s m below meth c D cT b (294, [(4, .int (nI 1)), (3, .ref 34), (2, .ref 18), (1, .ref 0), (0, .ref 1000)], [.int v3, .int v2, .ref 0], _, 40, 20000)
    refine lcl C dL_law_294 rfl tn_X5_cut rfl (q_cut_bad _ _ _ _ _ _ _ _ _ _ _ _ _ _ _ hn h8 v2 v3 (ht.imp id (fun z => Or.inl (lt31 z)))) (Nat.le_of_ble_eq_true rfl) (Nat.le_of_ble_eq_true rfl) (Or.inl rfl) ?_
    show lG p l e s m below meth c D cT b (297, [(4, .int (nI 1)), (3, .ref 34), (2, .ref 18), (1, .ref 0), (0, .ref 1000)], [.int (-nI 2)], _, 40, 20000)
    refine (lgs C (pc' := 298) (L' := [(4, .int (nI 1)), (3, .ref 34), (2, .ref 18), (1, .ref 0), (0, .ref 1000)]) (S' := [.ref 18, .int (-nI 2)]) (by decide) (by decide) [(297, .aload_n 2, 1)] (List.forall_mem_cons.mpr ⟨dL_law_297, fun _ h => absurd h List.not_mem_nil⟩) rfl ?_).1
    refine (lgs C (pc' := 303) (L' := [(4, .int (nI 1)), (3, .ref 34), (2, .ref 18), (1, .ref 0), (0, .ref 1000)]) (S' := [.int (nI 1 + nI 1), .ref 1000, .ref 18, .int (-nI 2)]) (by decide) (by decide) [(298, .aload_n 0, 1), (299, .iload 4, 2), (301, .iconst 1, 1), (302, .iadd, 1)] (List.forall_mem_cons.mpr ⟨dL_law_298, List.forall_mem_cons.mpr ⟨dL_law_299, List.forall_mem_cons.mpr ⟨dL_law_301, List.forall_mem_cons.mpr ⟨dL_law_302, fun _ h => absurd h List.not_mem_nil⟩⟩⟩⟩) rfl ?_).1
    rw [show nI 1 + nI 1 = nI 2 from nI_add _ _]
    refine lsld C dL_law_303 (Nat.le_of_ble_eq_true rfl) (by decide) (by decide) e2 ?_
    show lG p l e s m below meth c D cT b (304, [(4, .int (nI 1)), (3, .ref 34), (2, .ref 18), (1, .ref 0), (0, .ref 1000)], [.int v2, .ref 18, .int (-nI 2)], _, 40, 20000)
    refine (lgs C (pc' := 309) (L' := [(4, .int (nI 1)), (3, .ref 34), (2, .ref 18), (1, .ref 0), (0, .ref 1000)]) (S' := [.int (nI 1 + nI 2), .ref 1000, .int v2, .ref 18, .int (-nI 2)]) (by decide) (by decide) [(304, .aload_n 0, 1), (305, .iload 4, 2), (307, .iconst 2, 1), (308, .iadd, 1)] (List.forall_mem_cons.mpr ⟨dL_law_304, List.forall_mem_cons.mpr ⟨dL_law_305, List.forall_mem_cons.mpr ⟨dL_law_307, List.forall_mem_cons.mpr ⟨dL_law_308, fun _ h => absurd h List.not_mem_nil⟩⟩⟩⟩) rfl ?_).1
    rw [show nI 1 + nI 2 = nI 3 from nI_add _ _]
    refine lsld C dL_law_309 (Nat.le_of_ble_eq_true rfl) (by decide) (by decide) e3 ?_
    show lG p l e s m below meth c D cT b (310, [(4, .int (nI 1)), (3, .ref 34), (2, .ref 18), (1, .ref 0), (0, .ref 1000)], [.int v3, .int v2, .ref 18, .int (-nI 2)], _, 40, 20000)
    refine lcl C dL_law_310 rfl tn_X6_cut rfl (p_cut_bad1 _ _ _ _ _ _ _ _ _ _ _ _ _ _ _ _ _ _ _ _ _ _ _ _ _ _ _ _ _ _ _ _ _ _ _ _ _ _ _ _ _ hn h8 v2 v3 ht) (Nat.le_of_ble_eq_true rfl) (Nat.le_of_ble_eq_true rfl) (Or.inl rfl) ?_
    show lG p l e s m below meth c D cT b (313, [(4, .int (nI 1)), (3, .ref 34), (2, .ref 18), (1, .ref 0), (0, .ref 1000)], [.int (-nI 2), .int (-nI 2)], _, 40, 20000)
    refine lcmp (t := 622) C dL_law_313 (by decide) (by decide) (by decide) true (cnd_eq (rfl)) ?_
    exact w_end C (Nat.le_of_ble_eq_true rfl)
  · obtain ⟨t, h1, h2, rfl⟩ := rngE (by decide) (by decide) ht
    by_cases hk : v2 < nI 0 ∨ nI 0 < v2
    · skip
      refine (lgs C (pc' := 282) (L' := [(4, .int (nI 1)), (3, .ref 34), (2, .ref 18), (1, .ref 0), (0, .ref 1000)]) (S' := [.ref 0]) (by decide) (by decide) [(281, .aload_n 1, 1)] (List.forall_mem_cons.mpr ⟨dL_law_281, fun _ h => absurd h List.not_mem_nil⟩) rfl ?_).1
      refine (lgs C (pc' := 287) (L' := [(4, .int (nI 1)), (3, .ref 34), (2, .ref 18), (1, .ref 0), (0, .ref 1000)]) (S' := [.int (nI 1 + nI 1), .ref 1000, .ref 0]) (by decide) (by decide) [(282, .aload_n 0, 1), (283, .iload 4, 2), (285, .iconst 1, 1), (286, .iadd, 1)] (List.forall_mem_cons.mpr ⟨dL_law_282, List.forall_mem_cons.mpr ⟨dL_law_283, List.forall_mem_cons.mpr ⟨dL_law_285, List.forall_mem_cons.mpr ⟨dL_law_286, fun _ h => absurd h List.not_mem_nil⟩⟩⟩⟩) rfl ?_).1
      rw [show nI 1 + nI 1 = nI 2 from nI_add _ _]
      refine lsld C dL_law_287 (Nat.le_of_ble_eq_true rfl) (by decide) (by decide) e2 ?_
      show lG p l e s m below meth c D cT b (288, [(4, .int (nI 1)), (3, .ref 34), (2, .ref 18), (1, .ref 0), (0, .ref 1000)], [.int v2, .ref 0], _, 40, 20000)
      refine (lgs C (pc' := 293) (L' := [(4, .int (nI 1)), (3, .ref 34), (2, .ref 18), (1, .ref 0), (0, .ref 1000)]) (S' := [.int (nI 1 + nI 2), .ref 1000, .int v2, .ref 0]) (by decide) (by decide) [(288, .aload_n 0, 1), (289, .iload 4, 2), (291, .iconst 2, 1), (292, .iadd, 1)] (List.forall_mem_cons.mpr ⟨dL_law_288, List.forall_mem_cons.mpr ⟨dL_law_289, List.forall_mem_cons.mpr ⟨dL_law_291, List.forall_mem_cons.mpr ⟨dL_law_292, fun _ h => absurd h List.not_mem_nil⟩⟩⟩⟩) rfl ?_).1
      rw [show nI 1 + nI 2 = nI 3 from nI_add _ _]
      refine lsld C dL_law_293 (Nat.le_of_ble_eq_true rfl) (by decide) (by decide) e3 ?_
      show lG p l e s m below meth c D cT b (294, [(4, .int (nI 1)), (3, .ref 34), (2, .ref 18), (1, .ref 0), (0, .ref 1000)], [.int (nI t), .int v2, .ref 0], _, 40, 20000)
      refine lcl C dL_law_294 rfl tn_X5_cut rfl (q_cut_bad _ _ _ _ _ _ _ _ _ _ _ _ _ _ _ hn h8 v2 (nI t) (Or.inr (Or.inr hk))) (Nat.le_of_ble_eq_true rfl) (Nat.le_of_ble_eq_true rfl) (Or.inl rfl) ?_
      show lG p l e s m below meth c D cT b (297, [(4, .int (nI 1)), (3, .ref 34), (2, .ref 18), (1, .ref 0), (0, .ref 1000)], [.int (-nI 2)], _, 40, 20000)
      refine (lgs C (pc' := 298) (L' := [(4, .int (nI 1)), (3, .ref 34), (2, .ref 18), (1, .ref 0), (0, .ref 1000)]) (S' := [.ref 18, .int (-nI 2)]) (by decide) (by decide) [(297, .aload_n 2, 1)] (List.forall_mem_cons.mpr ⟨dL_law_297, fun _ h => absurd h List.not_mem_nil⟩) rfl ?_).1
      refine (lgs C (pc' := 303) (L' := [(4, .int (nI 1)), (3, .ref 34), (2, .ref 18), (1, .ref 0), (0, .ref 1000)]) (S' := [.int (nI 1 + nI 1), .ref 1000, .ref 18, .int (-nI 2)]) (by decide) (by decide) [(298, .aload_n 0, 1), (299, .iload 4, 2), (301, .iconst 1, 1), (302, .iadd, 1)] (List.forall_mem_cons.mpr ⟨dL_law_298, List.forall_mem_cons.mpr ⟨dL_law_299, List.forall_mem_cons.mpr ⟨dL_law_301, List.forall_mem_cons.mpr ⟨dL_law_302, fun _ h => absurd h List.not_mem_nil⟩⟩⟩⟩) rfl ?_).1
      rw [show nI 1 + nI 1 = nI 2 from nI_add _ _]
      refine lsld C dL_law_303 (Nat.le_of_ble_eq_true rfl) (by decide) (by decide) e2 ?_
      show lG p l e s m below meth c D cT b (304, [(4, .int (nI 1)), (3, .ref 34), (2, .ref 18), (1, .ref 0), (0, .ref 1000)], [.int v2, .ref 18, .int (-nI 2)], _, 40, 20000)
      refine (lgs C (pc' := 309) (L' := [(4, .int (nI 1)), (3, .ref 34), (2, .ref 18), (1, .ref 0), (0, .ref 1000)]) (S' := [.int (nI 1 + nI 2), .ref 1000, .int v2, .ref 18, .int (-nI 2)]) (by decide) (by decide) [(304, .aload_n 0, 1), (305, .iload 4, 2), (307, .iconst 2, 1), (308, .iadd, 1)] (List.forall_mem_cons.mpr ⟨dL_law_304, List.forall_mem_cons.mpr ⟨dL_law_305, List.forall_mem_cons.mpr ⟨dL_law_307, List.forall_mem_cons.mpr ⟨dL_law_308, fun _ h => absurd h List.not_mem_nil⟩⟩⟩⟩) rfl ?_).1
      rw [show nI 1 + nI 2 = nI 3 from nI_add _ _]
      refine lsld C dL_law_309 (Nat.le_of_ble_eq_true rfl) (by decide) (by decide) e3 ?_
      show lG p l e s m below meth c D cT b (310, [(4, .int (nI 1)), (3, .ref 34), (2, .ref 18), (1, .ref 0), (0, .ref 1000)], [.int (nI t), .int v2, .ref 18, .int (-nI 2)], _, 40, 20000)
      refine lcl C dL_law_310 rfl tn_X6_cut rfl (p_cut_bad2 _ _ _ _ _ _ _ _ _ _ _ _ _ _ _ _ _ _ _ _ _ _ _ _ _ _ _ _ _ _ _ _ _ _ _ _ _ _ _ _ _ hn h8 v2 t h1 h2 hk) (Nat.le_of_ble_eq_true rfl) (Nat.le_of_ble_eq_true rfl) (Or.inl rfl) ?_
      show lG p l e s m below meth c D cT b (313, [(4, .int (nI 1)), (3, .ref 34), (2, .ref 18), (1, .ref 0), (0, .ref 1000)], [.int (-nI 2), .int (-nI 2)], _, 40, 20000)
      refine lcmp (t := 622) C dL_law_313 (by decide) (by decide) (by decide) true (cnd_eq (rfl)) ?_
      exact w_end C (Nat.le_of_ble_eq_true rfl)
    · obtain ⟨q, -, hq, rfl⟩ := rngE (by decide) (by decide) hk
      obtain rfl : q = 0 := by omega
      refine (lgs C (pc' := 282) (L' := [(4, .int (nI 1)), (3, .ref 34), (2, .ref 18), (1, .ref 0), (0, .ref 1000)]) (S' := [.ref 0]) (by decide) (by decide) [(281, .aload_n 1, 1)] (List.forall_mem_cons.mpr ⟨dL_law_281, fun _ h => absurd h List.not_mem_nil⟩) rfl ?_).1
      refine (lgs C (pc' := 287) (L' := [(4, .int (nI 1)), (3, .ref 34), (2, .ref 18), (1, .ref 0), (0, .ref 1000)]) (S' := [.int (nI 1 + nI 1), .ref 1000, .ref 0]) (by decide) (by decide) [(282, .aload_n 0, 1), (283, .iload 4, 2), (285, .iconst 1, 1), (286, .iadd, 1)] (List.forall_mem_cons.mpr ⟨dL_law_282, List.forall_mem_cons.mpr ⟨dL_law_283, List.forall_mem_cons.mpr ⟨dL_law_285, List.forall_mem_cons.mpr ⟨dL_law_286, fun _ h => absurd h List.not_mem_nil⟩⟩⟩⟩) rfl ?_).1
      rw [show nI 1 + nI 1 = nI 2 from nI_add _ _]
      refine lsld C dL_law_287 (Nat.le_of_ble_eq_true rfl) (by decide) (by decide) e2 ?_
      show lG p l e s m below meth c D cT b (288, [(4, .int (nI 1)), (3, .ref 34), (2, .ref 18), (1, .ref 0), (0, .ref 1000)], [.int (nI 0), .ref 0], _, 40, 20000)
      refine (lgs C (pc' := 293) (L' := [(4, .int (nI 1)), (3, .ref 34), (2, .ref 18), (1, .ref 0), (0, .ref 1000)]) (S' := [.int (nI 1 + nI 2), .ref 1000, .int (nI 0), .ref 0]) (by decide) (by decide) [(288, .aload_n 0, 1), (289, .iload 4, 2), (291, .iconst 2, 1), (292, .iadd, 1)] (List.forall_mem_cons.mpr ⟨dL_law_288, List.forall_mem_cons.mpr ⟨dL_law_289, List.forall_mem_cons.mpr ⟨dL_law_291, List.forall_mem_cons.mpr ⟨dL_law_292, fun _ h => absurd h List.not_mem_nil⟩⟩⟩⟩) rfl ?_).1
      rw [show nI 1 + nI 2 = nI 3 from nI_add _ _]
      refine lsld C dL_law_293 (Nat.le_of_ble_eq_true rfl) (by decide) (by decide) e3 ?_
      show lG p l e s m below meth c D cT b (294, [(4, .int (nI 1)), (3, .ref 34), (2, .ref 18), (1, .ref 0), (0, .ref 1000)], [.int (nI t), .int (nI 0), .ref 0], _, 40, 20000)
      refine lcl C dL_law_294 rfl tn_X5_cut rfl (q_cut_ok _ _ _ _ _ _ _ _ _ _ _ _ _ _ _ hn h8 t h1 h2) (Nat.le_of_ble_eq_true rfl) (Nat.le_of_ble_eq_true rfl) (Or.inl rfl) ?_
      show lG p l e s m below meth c D cT b (297, [(4, .int (nI 1)), (3, .ref 34), (2, .ref 18), (1, .ref 0), (0, .ref 1000)], [.int (nI 1)], _, 40, 20000)
      refine (lgs C (pc' := 298) (L' := [(4, .int (nI 1)), (3, .ref 34), (2, .ref 18), (1, .ref 0), (0, .ref 1000)]) (S' := [.ref 18, .int (nI 1)]) (by decide) (by decide) [(297, .aload_n 2, 1)] (List.forall_mem_cons.mpr ⟨dL_law_297, fun _ h => absurd h List.not_mem_nil⟩) rfl ?_).1
      refine (lgs C (pc' := 303) (L' := [(4, .int (nI 1)), (3, .ref 34), (2, .ref 18), (1, .ref 0), (0, .ref 1000)]) (S' := [.int (nI 1 + nI 1), .ref 1000, .ref 18, .int (nI 1)]) (by decide) (by decide) [(298, .aload_n 0, 1), (299, .iload 4, 2), (301, .iconst 1, 1), (302, .iadd, 1)] (List.forall_mem_cons.mpr ⟨dL_law_298, List.forall_mem_cons.mpr ⟨dL_law_299, List.forall_mem_cons.mpr ⟨dL_law_301, List.forall_mem_cons.mpr ⟨dL_law_302, fun _ h => absurd h List.not_mem_nil⟩⟩⟩⟩) rfl ?_).1
      rw [show nI 1 + nI 1 = nI 2 from nI_add _ _]
      refine lsld C dL_law_303 (Nat.le_of_ble_eq_true rfl) (by decide) (by decide) e2 ?_
      show lG p l e s m below meth c D cT b (304, [(4, .int (nI 1)), (3, .ref 34), (2, .ref 18), (1, .ref 0), (0, .ref 1000)], [.int (nI 0), .ref 18, .int (nI 1)], _, 40, 20000)
      refine (lgs C (pc' := 309) (L' := [(4, .int (nI 1)), (3, .ref 34), (2, .ref 18), (1, .ref 0), (0, .ref 1000)]) (S' := [.int (nI 1 + nI 2), .ref 1000, .int (nI 0), .ref 18, .int (nI 1)]) (by decide) (by decide) [(304, .aload_n 0, 1), (305, .iload 4, 2), (307, .iconst 2, 1), (308, .iadd, 1)] (List.forall_mem_cons.mpr ⟨dL_law_304, List.forall_mem_cons.mpr ⟨dL_law_305, List.forall_mem_cons.mpr ⟨dL_law_307, List.forall_mem_cons.mpr ⟨dL_law_308, fun _ h => absurd h List.not_mem_nil⟩⟩⟩⟩) rfl ?_).1
      rw [show nI 1 + nI 2 = nI 3 from nI_add _ _]
      refine lsld C dL_law_309 (Nat.le_of_ble_eq_true rfl) (by decide) (by decide) e3 ?_
      show lG p l e s m below meth c D cT b (310, [(4, .int (nI 1)), (3, .ref 34), (2, .ref 18), (1, .ref 0), (0, .ref 1000)], [.int (nI t), .int (nI 0), .ref 18, .int (nI 1)], _, 40, 20000)
      refine lcl C dL_law_310 rfl tn_X6_cut rfl (p_cut_ok _ _ _ _ _ _ _ _ _ _ _ _ _ _ _ _ _ _ _ _ _ _ _ _ _ _ _ _ _ _ _ _ _ _ _ _ _ _ _ _ _ hn h8 t h1 h2 (fun _ => rfl) (fun _ => rfl)) (Nat.le_of_ble_eq_true rfl) (Nat.le_of_ble_eq_true rfl) (Or.inl rfl) ?_
      show lG p l e s m below meth c D cT b (313, [(4, .int (nI 1)), (3, .ref 34), (2, .ref 18), (1, .ref 0), (0, .ref 1000)], [.int (nI 1), .int (nI 1)], _, 40, 20000)
      refine lcmp (t := 622) C dL_law_313 (by decide) (by decide) (by decide) true (cnd_eq (rfl)) ?_
      exact w_end C (Nat.le_of_ble_eq_true rfl)
set_option maxRecDepth 100000 in
set_option maxHeartbeats 4000000 in
theorem w_lose {p : Program} {l : Launch} {e : Env} {s : State} {m : MethodId} {below : List Frame} {meth : Method} {c : Code} {D : va_G} {cT : Nat → ClassId} {b : Nat} {xs : Nat → Int32} (C : lC p s m meth c D cT b 5 xs) {n : Nat} (hn : n ≤ 60) (h8 : 8 ≤ n) (v2 : Int32) (e2 : xs 2 = v2) : lG p l e s m below meth c D cT b (436, [(4, .int (nI 1)), (3, .ref 34), (2, .ref 18), (1, .ref 0), (0, .ref 1000)], [], WF n, 40, 20000) := by
  by_cases hs : v2 < 0 ∨ nI n ≤ v2
  · skip
    refine (lgs C (pc' := 437) (L' := [(4, .int (nI 1)), (3, .ref 34), (2, .ref 18), (1, .ref 0), (0, .ref 1000)]) (S' := [.ref 0]) (by decide) (by decide) [(436, .aload_n 1, 1)] (List.forall_mem_cons.mpr ⟨dL_law_436, fun _ h => absurd h List.not_mem_nil⟩) rfl ?_).1
    refine (lgs C (pc' := 442) (L' := [(4, .int (nI 1)), (3, .ref 34), (2, .ref 18), (1, .ref 0), (0, .ref 1000)]) (S' := [.int (nI 1 + nI 1), .ref 1000, .ref 0]) (by decide) (by decide) [(437, .aload_n 0, 1), (438, .iload 4, 2), (440, .iconst 1, 1), (441, .iadd, 1)] (List.forall_mem_cons.mpr ⟨dL_law_437, List.forall_mem_cons.mpr ⟨dL_law_438, List.forall_mem_cons.mpr ⟨dL_law_440, List.forall_mem_cons.mpr ⟨dL_law_441, fun _ h => absurd h List.not_mem_nil⟩⟩⟩⟩) rfl ?_).1
    rw [show nI 1 + nI 1 = nI 2 from nI_add _ _]
    refine lsld C dL_law_442 (Nat.le_of_ble_eq_true rfl) (by decide) (by decide) e2 ?_
    show lG p l e s m below meth c D cT b (443, [(4, .int (nI 1)), (3, .ref 34), (2, .ref 18), (1, .ref 0), (0, .ref 1000)], [.int v2, .ref 0], _, 40, 20000)
    refine lcl C dL_law_443 rfl tn_X5_lose rfl (q_lose_bad _ _ _ _ _ _ _ _ _ _ _ _ _ _ _ hn h8 v2 hs) (Nat.le_of_ble_eq_true rfl) (Nat.le_of_ble_eq_true rfl) (Or.inl rfl) ?_
    show lG p l e s m below meth c D cT b (446, [(4, .int (nI 1)), (3, .ref 34), (2, .ref 18), (1, .ref 0), (0, .ref 1000)], [.int (-nI 2)], _, 40, 20000)
    refine (lgs C (pc' := 447) (L' := [(4, .int (nI 1)), (3, .ref 34), (2, .ref 18), (1, .ref 0), (0, .ref 1000)]) (S' := [.ref 18, .int (-nI 2)]) (by decide) (by decide) [(446, .aload_n 2, 1)] (List.forall_mem_cons.mpr ⟨dL_law_446, fun _ h => absurd h List.not_mem_nil⟩) rfl ?_).1
    refine (lgs C (pc' := 452) (L' := [(4, .int (nI 1)), (3, .ref 34), (2, .ref 18), (1, .ref 0), (0, .ref 1000)]) (S' := [.int (nI 1 + nI 1), .ref 1000, .ref 18, .int (-nI 2)]) (by decide) (by decide) [(447, .aload_n 0, 1), (448, .iload 4, 2), (450, .iconst 1, 1), (451, .iadd, 1)] (List.forall_mem_cons.mpr ⟨dL_law_447, List.forall_mem_cons.mpr ⟨dL_law_448, List.forall_mem_cons.mpr ⟨dL_law_450, List.forall_mem_cons.mpr ⟨dL_law_451, fun _ h => absurd h List.not_mem_nil⟩⟩⟩⟩) rfl ?_).1
    rw [show nI 1 + nI 1 = nI 2 from nI_add _ _]
    refine lsld C dL_law_452 (Nat.le_of_ble_eq_true rfl) (by decide) (by decide) e2 ?_
    show lG p l e s m below meth c D cT b (453, [(4, .int (nI 1)), (3, .ref 34), (2, .ref 18), (1, .ref 0), (0, .ref 1000)], [.int v2, .ref 18, .int (-nI 2)], _, 40, 20000)
    refine lcl C dL_law_453 rfl tn_X6_lose rfl (p_lose_bad _ _ _ _ _ _ _ _ _ _ _ _ _ _ _ _ _ _ _ _ _ _ _ _ _ _ _ _ _ _ _ _ _ _ _ _ _ _ _ _ _ hn h8 v2 hs) (Nat.le_of_ble_eq_true rfl) (Nat.le_of_ble_eq_true rfl) (Or.inl rfl) ?_
    show lG p l e s m below meth c D cT b (456, [(4, .int (nI 1)), (3, .ref 34), (2, .ref 18), (1, .ref 0), (0, .ref 1000)], [.int (-nI 2), .int (-nI 2)], _, 40, 20000)
    refine lcmp (t := 622) C dL_law_456 (by decide) (by decide) (by decide) true (cnd_eq (rfl)) ?_
    exact w_end C (Nat.le_of_ble_eq_true rfl)
  · obtain ⟨j, hj, rfl⟩ := rngN (by omega) hs
    refine (lgs C (pc' := 437) (L' := [(4, .int (nI 1)), (3, .ref 34), (2, .ref 18), (1, .ref 0), (0, .ref 1000)]) (S' := [.ref 0]) (by decide) (by decide) [(436, .aload_n 1, 1)] (List.forall_mem_cons.mpr ⟨dL_law_436, fun _ h => absurd h List.not_mem_nil⟩) rfl ?_).1
    refine (lgs C (pc' := 442) (L' := [(4, .int (nI 1)), (3, .ref 34), (2, .ref 18), (1, .ref 0), (0, .ref 1000)]) (S' := [.int (nI 1 + nI 1), .ref 1000, .ref 0]) (by decide) (by decide) [(437, .aload_n 0, 1), (438, .iload 4, 2), (440, .iconst 1, 1), (441, .iadd, 1)] (List.forall_mem_cons.mpr ⟨dL_law_437, List.forall_mem_cons.mpr ⟨dL_law_438, List.forall_mem_cons.mpr ⟨dL_law_440, List.forall_mem_cons.mpr ⟨dL_law_441, fun _ h => absurd h List.not_mem_nil⟩⟩⟩⟩) rfl ?_).1
    rw [show nI 1 + nI 1 = nI 2 from nI_add _ _]
    refine lsld C dL_law_442 (Nat.le_of_ble_eq_true rfl) (by decide) (by decide) e2 ?_
    show lG p l e s m below meth c D cT b (443, [(4, .int (nI 1)), (3, .ref 34), (2, .ref 18), (1, .ref 0), (0, .ref 1000)], [.int (nI j), .ref 0], _, 40, 20000)
    refine lcl C dL_law_443 rfl tn_X5_lose rfl (q_lose_ok _ _ _ _ _ _ _ _ _ _ _ _ _ _ _ hn h8 j hj (fun _ => rfl)) (Nat.le_of_ble_eq_true rfl) (Nat.le_of_ble_eq_true rfl) (Or.inl rfl) ?_
    show lG p l e s m below meth c D cT b (446, [(4, .int (nI 1)), (3, .ref 34), (2, .ref 18), (1, .ref 0), (0, .ref 1000)], [.int (nI 1)], _, 40, 20000)
    refine (lgs C (pc' := 447) (L' := [(4, .int (nI 1)), (3, .ref 34), (2, .ref 18), (1, .ref 0), (0, .ref 1000)]) (S' := [.ref 18, .int (nI 1)]) (by decide) (by decide) [(446, .aload_n 2, 1)] (List.forall_mem_cons.mpr ⟨dL_law_446, fun _ h => absurd h List.not_mem_nil⟩) rfl ?_).1
    refine (lgs C (pc' := 452) (L' := [(4, .int (nI 1)), (3, .ref 34), (2, .ref 18), (1, .ref 0), (0, .ref 1000)]) (S' := [.int (nI 1 + nI 1), .ref 1000, .ref 18, .int (nI 1)]) (by decide) (by decide) [(447, .aload_n 0, 1), (448, .iload 4, 2), (450, .iconst 1, 1), (451, .iadd, 1)] (List.forall_mem_cons.mpr ⟨dL_law_447, List.forall_mem_cons.mpr ⟨dL_law_448, List.forall_mem_cons.mpr ⟨dL_law_450, List.forall_mem_cons.mpr ⟨dL_law_451, fun _ h => absurd h List.not_mem_nil⟩⟩⟩⟩) rfl ?_).1
    rw [show nI 1 + nI 1 = nI 2 from nI_add _ _]
    refine lsld C dL_law_452 (Nat.le_of_ble_eq_true rfl) (by decide) (by decide) e2 ?_
    show lG p l e s m below meth c D cT b (453, [(4, .int (nI 1)), (3, .ref 34), (2, .ref 18), (1, .ref 0), (0, .ref 1000)], [.int (nI j), .ref 18, .int (nI 1)], _, 40, 20000)
    refine lcl C dL_law_453 rfl tn_X6_lose rfl (p_lose_ok _ _ _ _ _ _ _ _ _ _ _ _ _ _ _ _ _ _ _ _ _ _ _ _ _ _ _ _ _ _ _ _ _ _ _ _ _ _ _ _ _ hn h8 j hj (fun _ => rfl) (fun _ => rfl)) (Nat.le_of_ble_eq_true rfl) (Nat.le_of_ble_eq_true rfl) (Or.inl rfl) ?_
    show lG p l e s m below meth c D cT b (456, [(4, .int (nI 1)), (3, .ref 34), (2, .ref 18), (1, .ref 0), (0, .ref 1000)], [.int (nI 1), .int (nI 1)], _, 40, 20000)
    refine lcmp (t := 622) C dL_law_456 (by decide) (by decide) (by decide) true (cnd_eq (rfl)) ?_
    exact w_end C (Nat.le_of_ble_eq_true rfl)
set_option maxRecDepth 100000 in
set_option maxHeartbeats 4000000 in
theorem w_octet {p : Program} {l : Launch} {e : Env} {s : State} {m : MethodId} {below : List Frame} {meth : Method} {c : Code} {D : va_G} {cT : Nat → ClassId} {b : Nat} {xs : Nat → Int32} (C : lC p s m meth c D cT b 5 xs) {n : Nat} (hn : n ≤ 60) (h8 : 8 ≤ n) (v2 : Int32) (e2 : xs 2 = v2) (v3 : Int32) (e3 : xs 3 = v3) : lG p l e s m below meth c D cT b (510, [(4, .int (nI 1)), (3, .ref 34), (2, .ref 18), (1, .ref 0), (0, .ref 1000)], [], WF n, 40, 20000) := by
  by_cases hs : v2 < 0 ∨ nI n ≤ v2
  · skip
    refine (lgs C (pc' := 511) (L' := [(4, .int (nI 1)), (3, .ref 34), (2, .ref 18), (1, .ref 0), (0, .ref 1000)]) (S' := [.ref 0]) (by decide) (by decide) [(510, .aload_n 1, 1)] (List.forall_mem_cons.mpr ⟨dL_law_510, fun _ h => absurd h List.not_mem_nil⟩) rfl ?_).1
    refine (lgs C (pc' := 516) (L' := [(4, .int (nI 1)), (3, .ref 34), (2, .ref 18), (1, .ref 0), (0, .ref 1000)]) (S' := [.int (nI 1 + nI 1), .ref 1000, .ref 0]) (by decide) (by decide) [(511, .aload_n 0, 1), (512, .iload 4, 2), (514, .iconst 1, 1), (515, .iadd, 1)] (List.forall_mem_cons.mpr ⟨dL_law_511, List.forall_mem_cons.mpr ⟨dL_law_512, List.forall_mem_cons.mpr ⟨dL_law_514, List.forall_mem_cons.mpr ⟨dL_law_515, fun _ h => absurd h List.not_mem_nil⟩⟩⟩⟩) rfl ?_).1
    rw [show nI 1 + nI 1 = nI 2 from nI_add _ _]
    refine lsld C dL_law_516 (Nat.le_of_ble_eq_true rfl) (by decide) (by decide) e2 ?_
    show lG p l e s m below meth c D cT b (517, [(4, .int (nI 1)), (3, .ref 34), (2, .ref 18), (1, .ref 0), (0, .ref 1000)], [.int v2, .ref 0], _, 40, 20000)
    refine (lgs C (pc' := 522) (L' := [(4, .int (nI 1)), (3, .ref 34), (2, .ref 18), (1, .ref 0), (0, .ref 1000)]) (S' := [.int (nI 1 + nI 2), .ref 1000, .int v2, .ref 0]) (by decide) (by decide) [(517, .aload_n 0, 1), (518, .iload 4, 2), (520, .iconst 2, 1), (521, .iadd, 1)] (List.forall_mem_cons.mpr ⟨dL_law_517, List.forall_mem_cons.mpr ⟨dL_law_518, List.forall_mem_cons.mpr ⟨dL_law_520, List.forall_mem_cons.mpr ⟨dL_law_521, fun _ h => absurd h List.not_mem_nil⟩⟩⟩⟩) rfl ?_).1
    rw [show nI 1 + nI 2 = nI 3 from nI_add _ _]
    refine lsld C dL_law_522 (Nat.le_of_ble_eq_true rfl) (by decide) (by decide) e3 ?_
    show lG p l e s m below meth c D cT b (523, [(4, .int (nI 1)), (3, .ref 34), (2, .ref 18), (1, .ref 0), (0, .ref 1000)], [.int v3, .int v2, .ref 0], _, 40, 20000)
    refine lcl C dL_law_523 rfl tn_X5_octet rfl (q_octet_bad _ _ _ _ _ _ _ _ _ _ _ _ _ _ _ hn h8 v2 v3 (Or.inl hs)) (Nat.le_of_ble_eq_true rfl) (Nat.le_of_ble_eq_true rfl) (Or.inl rfl) ?_
    show lG p l e s m below meth c D cT b (526, [(4, .int (nI 1)), (3, .ref 34), (2, .ref 18), (1, .ref 0), (0, .ref 1000)], [.int (-nI 2)], _, 40, 20000)
    refine (lgs C (pc' := 527) (L' := [(4, .int (nI 1)), (3, .ref 34), (2, .ref 18), (1, .ref 0), (0, .ref 1000)]) (S' := [.ref 18, .int (-nI 2)]) (by decide) (by decide) [(526, .aload_n 2, 1)] (List.forall_mem_cons.mpr ⟨dL_law_526, fun _ h => absurd h List.not_mem_nil⟩) rfl ?_).1
    refine (lgs C (pc' := 532) (L' := [(4, .int (nI 1)), (3, .ref 34), (2, .ref 18), (1, .ref 0), (0, .ref 1000)]) (S' := [.int (nI 1 + nI 1), .ref 1000, .ref 18, .int (-nI 2)]) (by decide) (by decide) [(527, .aload_n 0, 1), (528, .iload 4, 2), (530, .iconst 1, 1), (531, .iadd, 1)] (List.forall_mem_cons.mpr ⟨dL_law_527, List.forall_mem_cons.mpr ⟨dL_law_528, List.forall_mem_cons.mpr ⟨dL_law_530, List.forall_mem_cons.mpr ⟨dL_law_531, fun _ h => absurd h List.not_mem_nil⟩⟩⟩⟩) rfl ?_).1
    rw [show nI 1 + nI 1 = nI 2 from nI_add _ _]
    refine lsld C dL_law_532 (Nat.le_of_ble_eq_true rfl) (by decide) (by decide) e2 ?_
    show lG p l e s m below meth c D cT b (533, [(4, .int (nI 1)), (3, .ref 34), (2, .ref 18), (1, .ref 0), (0, .ref 1000)], [.int v2, .ref 18, .int (-nI 2)], _, 40, 20000)
    refine (lgs C (pc' := 538) (L' := [(4, .int (nI 1)), (3, .ref 34), (2, .ref 18), (1, .ref 0), (0, .ref 1000)]) (S' := [.int (nI 1 + nI 2), .ref 1000, .int v2, .ref 18, .int (-nI 2)]) (by decide) (by decide) [(533, .aload_n 0, 1), (534, .iload 4, 2), (536, .iconst 2, 1), (537, .iadd, 1)] (List.forall_mem_cons.mpr ⟨dL_law_533, List.forall_mem_cons.mpr ⟨dL_law_534, List.forall_mem_cons.mpr ⟨dL_law_536, List.forall_mem_cons.mpr ⟨dL_law_537, fun _ h => absurd h List.not_mem_nil⟩⟩⟩⟩) rfl ?_).1
    rw [show nI 1 + nI 2 = nI 3 from nI_add _ _]
    refine lsld C dL_law_538 (Nat.le_of_ble_eq_true rfl) (by decide) (by decide) e3 ?_
    show lG p l e s m below meth c D cT b (539, [(4, .int (nI 1)), (3, .ref 34), (2, .ref 18), (1, .ref 0), (0, .ref 1000)], [.int v3, .int v2, .ref 18, .int (-nI 2)], _, 40, 20000)
    refine lcl C dL_law_539 rfl tn_X6_octet rfl (p_octet_bad1 _ _ _ _ _ _ _ _ _ _ _ _ _ _ _ _ _ _ _ _ _ _ _ _ _ _ _ _ _ _ _ _ _ _ _ _ _ _ _ _ _ hn h8 v2 v3 hs) (Nat.le_of_ble_eq_true rfl) (Nat.le_of_ble_eq_true rfl) (Or.inl rfl) ?_
    show lG p l e s m below meth c D cT b (542, [(4, .int (nI 1)), (3, .ref 34), (2, .ref 18), (1, .ref 0), (0, .ref 1000)], [.int (-nI 2), .int (-nI 2)], _, 40, 20000)
    refine lcmp (t := 622) C dL_law_542 (by decide) (by decide) (by decide) true (cnd_eq (rfl)) ?_
    exact w_end C (Nat.le_of_ble_eq_true rfl)
  · obtain ⟨j, hj, rfl⟩ := rngN (by omega) hs
    by_cases hi : v3 < 0 ∨ nI 32 ≤ v3
    · skip
      refine (lgs C (pc' := 511) (L' := [(4, .int (nI 1)), (3, .ref 34), (2, .ref 18), (1, .ref 0), (0, .ref 1000)]) (S' := [.ref 0]) (by decide) (by decide) [(510, .aload_n 1, 1)] (List.forall_mem_cons.mpr ⟨dL_law_510, fun _ h => absurd h List.not_mem_nil⟩) rfl ?_).1
      refine (lgs C (pc' := 516) (L' := [(4, .int (nI 1)), (3, .ref 34), (2, .ref 18), (1, .ref 0), (0, .ref 1000)]) (S' := [.int (nI 1 + nI 1), .ref 1000, .ref 0]) (by decide) (by decide) [(511, .aload_n 0, 1), (512, .iload 4, 2), (514, .iconst 1, 1), (515, .iadd, 1)] (List.forall_mem_cons.mpr ⟨dL_law_511, List.forall_mem_cons.mpr ⟨dL_law_512, List.forall_mem_cons.mpr ⟨dL_law_514, List.forall_mem_cons.mpr ⟨dL_law_515, fun _ h => absurd h List.not_mem_nil⟩⟩⟩⟩) rfl ?_).1
      rw [show nI 1 + nI 1 = nI 2 from nI_add _ _]
      refine lsld C dL_law_516 (Nat.le_of_ble_eq_true rfl) (by decide) (by decide) e2 ?_
      show lG p l e s m below meth c D cT b (517, [(4, .int (nI 1)), (3, .ref 34), (2, .ref 18), (1, .ref 0), (0, .ref 1000)], [.int (nI j), .ref 0], _, 40, 20000)
      refine (lgs C (pc' := 522) (L' := [(4, .int (nI 1)), (3, .ref 34), (2, .ref 18), (1, .ref 0), (0, .ref 1000)]) (S' := [.int (nI 1 + nI 2), .ref 1000, .int (nI j), .ref 0]) (by decide) (by decide) [(517, .aload_n 0, 1), (518, .iload 4, 2), (520, .iconst 2, 1), (521, .iadd, 1)] (List.forall_mem_cons.mpr ⟨dL_law_517, List.forall_mem_cons.mpr ⟨dL_law_518, List.forall_mem_cons.mpr ⟨dL_law_520, List.forall_mem_cons.mpr ⟨dL_law_521, fun _ h => absurd h List.not_mem_nil⟩⟩⟩⟩) rfl ?_).1
      rw [show nI 1 + nI 2 = nI 3 from nI_add _ _]
      refine lsld C dL_law_522 (Nat.le_of_ble_eq_true rfl) (by decide) (by decide) e3 ?_
      show lG p l e s m below meth c D cT b (523, [(4, .int (nI 1)), (3, .ref 34), (2, .ref 18), (1, .ref 0), (0, .ref 1000)], [.int v3, .int (nI j), .ref 0], _, 40, 20000)
      refine lcl C dL_law_523 rfl tn_X5_octet rfl (q_octet_bad _ _ _ _ _ _ _ _ _ _ _ _ _ _ _ hn h8 (nI j) v3 (Or.inr hi)) (Nat.le_of_ble_eq_true rfl) (Nat.le_of_ble_eq_true rfl) (Or.inl rfl) ?_
      show lG p l e s m below meth c D cT b (526, [(4, .int (nI 1)), (3, .ref 34), (2, .ref 18), (1, .ref 0), (0, .ref 1000)], [.int (-nI 2)], _, 40, 20000)
      refine (lgs C (pc' := 527) (L' := [(4, .int (nI 1)), (3, .ref 34), (2, .ref 18), (1, .ref 0), (0, .ref 1000)]) (S' := [.ref 18, .int (-nI 2)]) (by decide) (by decide) [(526, .aload_n 2, 1)] (List.forall_mem_cons.mpr ⟨dL_law_526, fun _ h => absurd h List.not_mem_nil⟩) rfl ?_).1
      refine (lgs C (pc' := 532) (L' := [(4, .int (nI 1)), (3, .ref 34), (2, .ref 18), (1, .ref 0), (0, .ref 1000)]) (S' := [.int (nI 1 + nI 1), .ref 1000, .ref 18, .int (-nI 2)]) (by decide) (by decide) [(527, .aload_n 0, 1), (528, .iload 4, 2), (530, .iconst 1, 1), (531, .iadd, 1)] (List.forall_mem_cons.mpr ⟨dL_law_527, List.forall_mem_cons.mpr ⟨dL_law_528, List.forall_mem_cons.mpr ⟨dL_law_530, List.forall_mem_cons.mpr ⟨dL_law_531, fun _ h => absurd h List.not_mem_nil⟩⟩⟩⟩) rfl ?_).1
      rw [show nI 1 + nI 1 = nI 2 from nI_add _ _]
      refine lsld C dL_law_532 (Nat.le_of_ble_eq_true rfl) (by decide) (by decide) e2 ?_
      show lG p l e s m below meth c D cT b (533, [(4, .int (nI 1)), (3, .ref 34), (2, .ref 18), (1, .ref 0), (0, .ref 1000)], [.int (nI j), .ref 18, .int (-nI 2)], _, 40, 20000)
      refine (lgs C (pc' := 538) (L' := [(4, .int (nI 1)), (3, .ref 34), (2, .ref 18), (1, .ref 0), (0, .ref 1000)]) (S' := [.int (nI 1 + nI 2), .ref 1000, .int (nI j), .ref 18, .int (-nI 2)]) (by decide) (by decide) [(533, .aload_n 0, 1), (534, .iload 4, 2), (536, .iconst 2, 1), (537, .iadd, 1)] (List.forall_mem_cons.mpr ⟨dL_law_533, List.forall_mem_cons.mpr ⟨dL_law_534, List.forall_mem_cons.mpr ⟨dL_law_536, List.forall_mem_cons.mpr ⟨dL_law_537, fun _ h => absurd h List.not_mem_nil⟩⟩⟩⟩) rfl ?_).1
      rw [show nI 1 + nI 2 = nI 3 from nI_add _ _]
      refine lsld C dL_law_538 (Nat.le_of_ble_eq_true rfl) (by decide) (by decide) e3 ?_
      show lG p l e s m below meth c D cT b (539, [(4, .int (nI 1)), (3, .ref 34), (2, .ref 18), (1, .ref 0), (0, .ref 1000)], [.int v3, .int (nI j), .ref 18, .int (-nI 2)], _, 40, 20000)
      refine lcl C dL_law_539 rfl tn_X6_octet rfl (p_octet_bad2 _ _ _ _ _ _ _ _ _ _ _ _ _ _ _ _ _ _ _ _ _ _ _ _ _ _ _ _ _ _ _ _ _ _ _ _ _ _ _ _ _ hn h8 j hj v3 hi) (Nat.le_of_ble_eq_true rfl) (Nat.le_of_ble_eq_true rfl) (Or.inl rfl) ?_
      show lG p l e s m below meth c D cT b (542, [(4, .int (nI 1)), (3, .ref 34), (2, .ref 18), (1, .ref 0), (0, .ref 1000)], [.int (-nI 2), .int (-nI 2)], _, 40, 20000)
      refine lcmp (t := 622) C dL_law_542 (by decide) (by decide) (by decide) true (cnd_eq (rfl)) ?_
      exact w_end C (Nat.le_of_ble_eq_true rfl)
    · obtain ⟨i, hi9, rfl⟩ := rngN (by omega) hi
      refine (lgs C (pc' := 511) (L' := [(4, .int (nI 1)), (3, .ref 34), (2, .ref 18), (1, .ref 0), (0, .ref 1000)]) (S' := [.ref 0]) (by decide) (by decide) [(510, .aload_n 1, 1)] (List.forall_mem_cons.mpr ⟨dL_law_510, fun _ h => absurd h List.not_mem_nil⟩) rfl ?_).1
      refine (lgs C (pc' := 516) (L' := [(4, .int (nI 1)), (3, .ref 34), (2, .ref 18), (1, .ref 0), (0, .ref 1000)]) (S' := [.int (nI 1 + nI 1), .ref 1000, .ref 0]) (by decide) (by decide) [(511, .aload_n 0, 1), (512, .iload 4, 2), (514, .iconst 1, 1), (515, .iadd, 1)] (List.forall_mem_cons.mpr ⟨dL_law_511, List.forall_mem_cons.mpr ⟨dL_law_512, List.forall_mem_cons.mpr ⟨dL_law_514, List.forall_mem_cons.mpr ⟨dL_law_515, fun _ h => absurd h List.not_mem_nil⟩⟩⟩⟩) rfl ?_).1
      rw [show nI 1 + nI 1 = nI 2 from nI_add _ _]
      refine lsld C dL_law_516 (Nat.le_of_ble_eq_true rfl) (by decide) (by decide) e2 ?_
      show lG p l e s m below meth c D cT b (517, [(4, .int (nI 1)), (3, .ref 34), (2, .ref 18), (1, .ref 0), (0, .ref 1000)], [.int (nI j), .ref 0], _, 40, 20000)
      refine (lgs C (pc' := 522) (L' := [(4, .int (nI 1)), (3, .ref 34), (2, .ref 18), (1, .ref 0), (0, .ref 1000)]) (S' := [.int (nI 1 + nI 2), .ref 1000, .int (nI j), .ref 0]) (by decide) (by decide) [(517, .aload_n 0, 1), (518, .iload 4, 2), (520, .iconst 2, 1), (521, .iadd, 1)] (List.forall_mem_cons.mpr ⟨dL_law_517, List.forall_mem_cons.mpr ⟨dL_law_518, List.forall_mem_cons.mpr ⟨dL_law_520, List.forall_mem_cons.mpr ⟨dL_law_521, fun _ h => absurd h List.not_mem_nil⟩⟩⟩⟩) rfl ?_).1
      rw [show nI 1 + nI 2 = nI 3 from nI_add _ _]
      refine lsld C dL_law_522 (Nat.le_of_ble_eq_true rfl) (by decide) (by decide) e3 ?_
      show lG p l e s m below meth c D cT b (523, [(4, .int (nI 1)), (3, .ref 34), (2, .ref 18), (1, .ref 0), (0, .ref 1000)], [.int (nI i), .int (nI j), .ref 0], _, 40, 20000)
      refine lcl C dL_law_523 rfl tn_X5_octet rfl (q_octet_ok _ _ _ _ _ _ _ _ _ _ _ _ _ _ _ hn h8 j i hj hi9) (Nat.le_of_ble_eq_true rfl) (Nat.le_of_ble_eq_true rfl) (Or.inl rfl) ?_
      show lG p l e s m below meth c D cT b (526, [(4, .int (nI 1)), (3, .ref 34), (2, .ref 18), (1, .ref 0), (0, .ref 1000)], [.int 0], _, 40, 20000)
      refine (lgs C (pc' := 527) (L' := [(4, .int (nI 1)), (3, .ref 34), (2, .ref 18), (1, .ref 0), (0, .ref 1000)]) (S' := [.ref 18, .int 0]) (by decide) (by decide) [(526, .aload_n 2, 1)] (List.forall_mem_cons.mpr ⟨dL_law_526, fun _ h => absurd h List.not_mem_nil⟩) rfl ?_).1
      refine (lgs C (pc' := 532) (L' := [(4, .int (nI 1)), (3, .ref 34), (2, .ref 18), (1, .ref 0), (0, .ref 1000)]) (S' := [.int (nI 1 + nI 1), .ref 1000, .ref 18, .int 0]) (by decide) (by decide) [(527, .aload_n 0, 1), (528, .iload 4, 2), (530, .iconst 1, 1), (531, .iadd, 1)] (List.forall_mem_cons.mpr ⟨dL_law_527, List.forall_mem_cons.mpr ⟨dL_law_528, List.forall_mem_cons.mpr ⟨dL_law_530, List.forall_mem_cons.mpr ⟨dL_law_531, fun _ h => absurd h List.not_mem_nil⟩⟩⟩⟩) rfl ?_).1
      rw [show nI 1 + nI 1 = nI 2 from nI_add _ _]
      refine lsld C dL_law_532 (Nat.le_of_ble_eq_true rfl) (by decide) (by decide) e2 ?_
      show lG p l e s m below meth c D cT b (533, [(4, .int (nI 1)), (3, .ref 34), (2, .ref 18), (1, .ref 0), (0, .ref 1000)], [.int (nI j), .ref 18, .int 0], _, 40, 20000)
      refine (lgs C (pc' := 538) (L' := [(4, .int (nI 1)), (3, .ref 34), (2, .ref 18), (1, .ref 0), (0, .ref 1000)]) (S' := [.int (nI 1 + nI 2), .ref 1000, .int (nI j), .ref 18, .int 0]) (by decide) (by decide) [(533, .aload_n 0, 1), (534, .iload 4, 2), (536, .iconst 2, 1), (537, .iadd, 1)] (List.forall_mem_cons.mpr ⟨dL_law_533, List.forall_mem_cons.mpr ⟨dL_law_534, List.forall_mem_cons.mpr ⟨dL_law_536, List.forall_mem_cons.mpr ⟨dL_law_537, fun _ h => absurd h List.not_mem_nil⟩⟩⟩⟩) rfl ?_).1
      rw [show nI 1 + nI 2 = nI 3 from nI_add _ _]
      refine lsld C dL_law_538 (Nat.le_of_ble_eq_true rfl) (by decide) (by decide) e3 ?_
      show lG p l e s m below meth c D cT b (539, [(4, .int (nI 1)), (3, .ref 34), (2, .ref 18), (1, .ref 0), (0, .ref 1000)], [.int (nI i), .int (nI j), .ref 18, .int 0], _, 40, 20000)
      refine lcl C dL_law_539 rfl tn_X6_octet rfl (p_octet_ok _ _ _ _ _ _ _ _ _ _ _ _ _ _ _ _ _ _ _ _ _ _ _ _ _ _ _ _ _ _ _ _ _ _ _ _ _ _ _ _ _ hn h8 j i hj hi9) (Nat.le_of_ble_eq_true rfl) (Nat.le_of_ble_eq_true rfl) (Or.inl rfl) ?_
      show lG p l e s m below meth c D cT b (542, [(4, .int (nI 1)), (3, .ref 34), (2, .ref 18), (1, .ref 0), (0, .ref 1000)], [.int 0, .int 0], _, 40, 20000)
      refine lcmp (t := 622) C dL_law_542 (by decide) (by decide) (by decide) true (cnd_eq (rfl)) ?_
      exact w_end C (Nat.le_of_ble_eq_true rfl)
set_option maxRecDepth 100000 in
set_option maxHeartbeats 4000000 in
theorem w_whole {p : Program} {l : Launch} {e : Env} {s : State} {m : MethodId} {below : List Frame} {meth : Method} {c : Code} {D : va_G} {cT : Nat → ClassId} {b : Nat} {xs : Nat → Int32} (C : lC p s m meth c D cT b 5 xs) {n : Nat} (hn : n ≤ 60) (h8 : 8 ≤ n) (v2 : Int32) (e2 : xs 2 = v2) : lG p l e s m below meth c D cT b (547, [(4, .int (nI 1)), (3, .ref 34), (2, .ref 18), (1, .ref 0), (0, .ref 1000)], [], WF n, 40, 20000) := by
  by_cases hs : v2 < 0 ∨ nI n ≤ v2
  · skip
    refine (lgs C (pc' := 548) (L' := [(4, .int (nI 1)), (3, .ref 34), (2, .ref 18), (1, .ref 0), (0, .ref 1000)]) (S' := [.ref 0]) (by decide) (by decide) [(547, .aload_n 1, 1)] (List.forall_mem_cons.mpr ⟨dL_law_547, fun _ h => absurd h List.not_mem_nil⟩) rfl ?_).1
    refine (lgs C (pc' := 553) (L' := [(4, .int (nI 1)), (3, .ref 34), (2, .ref 18), (1, .ref 0), (0, .ref 1000)]) (S' := [.int (nI 1 + nI 1), .ref 1000, .ref 0]) (by decide) (by decide) [(548, .aload_n 0, 1), (549, .iload 4, 2), (551, .iconst 1, 1), (552, .iadd, 1)] (List.forall_mem_cons.mpr ⟨dL_law_548, List.forall_mem_cons.mpr ⟨dL_law_549, List.forall_mem_cons.mpr ⟨dL_law_551, List.forall_mem_cons.mpr ⟨dL_law_552, fun _ h => absurd h List.not_mem_nil⟩⟩⟩⟩) rfl ?_).1
    rw [show nI 1 + nI 1 = nI 2 from nI_add _ _]
    refine lsld C dL_law_553 (Nat.le_of_ble_eq_true rfl) (by decide) (by decide) e2 ?_
    show lG p l e s m below meth c D cT b (554, [(4, .int (nI 1)), (3, .ref 34), (2, .ref 18), (1, .ref 0), (0, .ref 1000)], [.int v2, .ref 0], _, 40, 20000)
    refine lcl C dL_law_554 rfl tn_X5_whole rfl (q_whole_bad _ _ _ _ _ _ _ _ _ _ _ _ _ _ _ hn h8 v2 hs) (Nat.le_of_ble_eq_true rfl) (Nat.le_of_ble_eq_true rfl) (Or.inl rfl) ?_
    show lG p l e s m below meth c D cT b (557, [(4, .int (nI 1)), (3, .ref 34), (2, .ref 18), (1, .ref 0), (0, .ref 1000)], [.int (-nI 2)], _, 40, 20000)
    refine (lgs C (pc' := 558) (L' := [(4, .int (nI 1)), (3, .ref 34), (2, .ref 18), (1, .ref 0), (0, .ref 1000)]) (S' := [.ref 18, .int (-nI 2)]) (by decide) (by decide) [(557, .aload_n 2, 1)] (List.forall_mem_cons.mpr ⟨dL_law_557, fun _ h => absurd h List.not_mem_nil⟩) rfl ?_).1
    refine (lgs C (pc' := 563) (L' := [(4, .int (nI 1)), (3, .ref 34), (2, .ref 18), (1, .ref 0), (0, .ref 1000)]) (S' := [.int (nI 1 + nI 1), .ref 1000, .ref 18, .int (-nI 2)]) (by decide) (by decide) [(558, .aload_n 0, 1), (559, .iload 4, 2), (561, .iconst 1, 1), (562, .iadd, 1)] (List.forall_mem_cons.mpr ⟨dL_law_558, List.forall_mem_cons.mpr ⟨dL_law_559, List.forall_mem_cons.mpr ⟨dL_law_561, List.forall_mem_cons.mpr ⟨dL_law_562, fun _ h => absurd h List.not_mem_nil⟩⟩⟩⟩) rfl ?_).1
    rw [show nI 1 + nI 1 = nI 2 from nI_add _ _]
    refine lsld C dL_law_563 (Nat.le_of_ble_eq_true rfl) (by decide) (by decide) e2 ?_
    show lG p l e s m below meth c D cT b (564, [(4, .int (nI 1)), (3, .ref 34), (2, .ref 18), (1, .ref 0), (0, .ref 1000)], [.int v2, .ref 18, .int (-nI 2)], _, 40, 20000)
    refine lcl C dL_law_564 rfl tn_X6_whole rfl (p_whole_bad _ _ _ _ _ _ _ _ _ _ _ _ _ _ _ _ _ _ _ _ _ _ _ _ _ _ _ _ _ _ _ _ _ _ _ _ _ _ _ _ _ hn h8 v2 hs) (Nat.le_of_ble_eq_true rfl) (Nat.le_of_ble_eq_true rfl) (Or.inl rfl) ?_
    show lG p l e s m below meth c D cT b (567, [(4, .int (nI 1)), (3, .ref 34), (2, .ref 18), (1, .ref 0), (0, .ref 1000)], [.int (-nI 2), .int (-nI 2)], _, 40, 20000)
    refine lcmp (t := 622) C dL_law_567 (by decide) (by decide) (by decide) true (cnd_eq (rfl)) ?_
    exact w_end C (Nat.le_of_ble_eq_true rfl)
  · obtain ⟨j, hj, rfl⟩ := rngN (by omega) hs
    refine (lgs C (pc' := 548) (L' := [(4, .int (nI 1)), (3, .ref 34), (2, .ref 18), (1, .ref 0), (0, .ref 1000)]) (S' := [.ref 0]) (by decide) (by decide) [(547, .aload_n 1, 1)] (List.forall_mem_cons.mpr ⟨dL_law_547, fun _ h => absurd h List.not_mem_nil⟩) rfl ?_).1
    refine (lgs C (pc' := 553) (L' := [(4, .int (nI 1)), (3, .ref 34), (2, .ref 18), (1, .ref 0), (0, .ref 1000)]) (S' := [.int (nI 1 + nI 1), .ref 1000, .ref 0]) (by decide) (by decide) [(548, .aload_n 0, 1), (549, .iload 4, 2), (551, .iconst 1, 1), (552, .iadd, 1)] (List.forall_mem_cons.mpr ⟨dL_law_548, List.forall_mem_cons.mpr ⟨dL_law_549, List.forall_mem_cons.mpr ⟨dL_law_551, List.forall_mem_cons.mpr ⟨dL_law_552, fun _ h => absurd h List.not_mem_nil⟩⟩⟩⟩) rfl ?_).1
    rw [show nI 1 + nI 1 = nI 2 from nI_add _ _]
    refine lsld C dL_law_553 (Nat.le_of_ble_eq_true rfl) (by decide) (by decide) e2 ?_
    show lG p l e s m below meth c D cT b (554, [(4, .int (nI 1)), (3, .ref 34), (2, .ref 18), (1, .ref 0), (0, .ref 1000)], [.int (nI j), .ref 0], _, 40, 20000)
    refine lcl C dL_law_554 rfl tn_X5_whole rfl (q_whole_ok _ _ _ _ _ _ _ _ _ _ _ _ _ _ _ hn h8 j hj) (Nat.le_of_ble_eq_true rfl) (Nat.le_of_ble_eq_true rfl) (Or.inl rfl) ?_
    show lG p l e s m below meth c D cT b (557, [(4, .int (nI 1)), (3, .ref 34), (2, .ref 18), (1, .ref 0), (0, .ref 1000)], [.int 0], _, 40, 20000)
    refine (lgs C (pc' := 558) (L' := [(4, .int (nI 1)), (3, .ref 34), (2, .ref 18), (1, .ref 0), (0, .ref 1000)]) (S' := [.ref 18, .int 0]) (by decide) (by decide) [(557, .aload_n 2, 1)] (List.forall_mem_cons.mpr ⟨dL_law_557, fun _ h => absurd h List.not_mem_nil⟩) rfl ?_).1
    refine (lgs C (pc' := 563) (L' := [(4, .int (nI 1)), (3, .ref 34), (2, .ref 18), (1, .ref 0), (0, .ref 1000)]) (S' := [.int (nI 1 + nI 1), .ref 1000, .ref 18, .int 0]) (by decide) (by decide) [(558, .aload_n 0, 1), (559, .iload 4, 2), (561, .iconst 1, 1), (562, .iadd, 1)] (List.forall_mem_cons.mpr ⟨dL_law_558, List.forall_mem_cons.mpr ⟨dL_law_559, List.forall_mem_cons.mpr ⟨dL_law_561, List.forall_mem_cons.mpr ⟨dL_law_562, fun _ h => absurd h List.not_mem_nil⟩⟩⟩⟩) rfl ?_).1
    rw [show nI 1 + nI 1 = nI 2 from nI_add _ _]
    refine lsld C dL_law_563 (Nat.le_of_ble_eq_true rfl) (by decide) (by decide) e2 ?_
    show lG p l e s m below meth c D cT b (564, [(4, .int (nI 1)), (3, .ref 34), (2, .ref 18), (1, .ref 0), (0, .ref 1000)], [.int (nI j), .ref 18, .int 0], _, 40, 20000)
    refine lcl C dL_law_564 rfl tn_X6_whole rfl (p_whole_ok _ _ _ _ _ _ _ _ _ _ _ _ _ _ _ _ _ _ _ _ _ _ _ _ _ _ _ _ _ _ _ _ _ _ _ _ _ _ _ _ _ hn h8 j hj (fun _ => rfl) (fun _ => rfl)) (Nat.le_of_ble_eq_true rfl) (Nat.le_of_ble_eq_true rfl) (Or.inl rfl) ?_
    show lG p l e s m below meth c D cT b (567, [(4, .int (nI 1)), (3, .ref 34), (2, .ref 18), (1, .ref 0), (0, .ref 1000)], [.int (nI 0), .int 0], _, 40, 20000)
    refine lcmp (t := 622) C dL_law_567 (by decide) (by decide) (by decide) true (cnd_eq (rfl)) ?_
    exact w_end C (Nat.le_of_ble_eq_true rfl)
set_option maxRecDepth 100000 in
set_option maxHeartbeats 4000000 in
theorem w_poke {p : Program} {l : Launch} {e : Env} {s : State} {m : MethodId} {below : List Frame} {meth : Method} {c : Code} {D : va_G} {cT : Nat → ClassId} {b : Nat} {xs : Nat → Int32} (C : lC p s m meth c D cT b 5 xs) {n : Nat} (hn : n ≤ 60) (h8 : 8 ≤ n) (v2 : Int32) (e2 : xs 2 = v2) (v3 : Int32) (e3 : xs 3 = v3) (v4 : Int32) (e4 : xs 4 = v4) : lG p l e s m below meth c D cT b (461, [(4, .int (nI 1)), (3, .ref 34), (2, .ref 18), (1, .ref 0), (0, .ref 1000)], [], WF n, 40, 20000) := by
  by_cases hs : v2 < 0 ∨ nI n ≤ v2
  · skip
    refine (lgs C (pc' := 462) (L' := [(4, .int (nI 1)), (3, .ref 34), (2, .ref 18), (1, .ref 0), (0, .ref 1000)]) (S' := [.ref 0]) (by decide) (by decide) [(461, .aload_n 1, 1)] (List.forall_mem_cons.mpr ⟨dL_law_461, fun _ h => absurd h List.not_mem_nil⟩) rfl ?_).1
    refine (lgs C (pc' := 467) (L' := [(4, .int (nI 1)), (3, .ref 34), (2, .ref 18), (1, .ref 0), (0, .ref 1000)]) (S' := [.int (nI 1 + nI 1), .ref 1000, .ref 0]) (by decide) (by decide) [(462, .aload_n 0, 1), (463, .iload 4, 2), (465, .iconst 1, 1), (466, .iadd, 1)] (List.forall_mem_cons.mpr ⟨dL_law_462, List.forall_mem_cons.mpr ⟨dL_law_463, List.forall_mem_cons.mpr ⟨dL_law_465, List.forall_mem_cons.mpr ⟨dL_law_466, fun _ h => absurd h List.not_mem_nil⟩⟩⟩⟩) rfl ?_).1
    rw [show nI 1 + nI 1 = nI 2 from nI_add _ _]
    refine lsld C dL_law_467 (Nat.le_of_ble_eq_true rfl) (by decide) (by decide) e2 ?_
    show lG p l e s m below meth c D cT b (468, [(4, .int (nI 1)), (3, .ref 34), (2, .ref 18), (1, .ref 0), (0, .ref 1000)], [.int v2, .ref 0], _, 40, 20000)
    refine (lgs C (pc' := 473) (L' := [(4, .int (nI 1)), (3, .ref 34), (2, .ref 18), (1, .ref 0), (0, .ref 1000)]) (S' := [.int (nI 1 + nI 2), .ref 1000, .int v2, .ref 0]) (by decide) (by decide) [(468, .aload_n 0, 1), (469, .iload 4, 2), (471, .iconst 2, 1), (472, .iadd, 1)] (List.forall_mem_cons.mpr ⟨dL_law_468, List.forall_mem_cons.mpr ⟨dL_law_469, List.forall_mem_cons.mpr ⟨dL_law_471, List.forall_mem_cons.mpr ⟨dL_law_472, fun _ h => absurd h List.not_mem_nil⟩⟩⟩⟩) rfl ?_).1
    rw [show nI 1 + nI 2 = nI 3 from nI_add _ _]
    refine lsld C dL_law_473 (Nat.le_of_ble_eq_true rfl) (by decide) (by decide) e3 ?_
    show lG p l e s m below meth c D cT b (474, [(4, .int (nI 1)), (3, .ref 34), (2, .ref 18), (1, .ref 0), (0, .ref 1000)], [.int v3, .int v2, .ref 0], _, 40, 20000)
    refine (lgs C (pc' := 479) (L' := [(4, .int (nI 1)), (3, .ref 34), (2, .ref 18), (1, .ref 0), (0, .ref 1000)]) (S' := [.int (nI 1 + nI 3), .ref 1000, .int v3, .int v2, .ref 0]) (by decide) (by decide) [(474, .aload_n 0, 1), (475, .iload 4, 2), (477, .iconst 3, 1), (478, .iadd, 1)] (List.forall_mem_cons.mpr ⟨dL_law_474, List.forall_mem_cons.mpr ⟨dL_law_475, List.forall_mem_cons.mpr ⟨dL_law_477, List.forall_mem_cons.mpr ⟨dL_law_478, fun _ h => absurd h List.not_mem_nil⟩⟩⟩⟩) rfl ?_).1
    rw [show nI 1 + nI 3 = nI 4 from nI_add _ _]
    refine lsld C dL_law_479 (Nat.le_of_ble_eq_true rfl) (by decide) (by decide) e4 ?_
    show lG p l e s m below meth c D cT b (480, [(4, .int (nI 1)), (3, .ref 34), (2, .ref 18), (1, .ref 0), (0, .ref 1000)], [.int v4, .int v3, .int v2, .ref 0], _, 40, 20000)
    refine lcl C dL_law_480 rfl tn_X5_poke rfl (q_poke_bad1 _ _ _ _ _ _ _ _ _ _ _ _ _ _ _ hn h8 v2 v3 v4 (Or.inl hs)) (Nat.le_of_ble_eq_true rfl) (Nat.le_of_ble_eq_true rfl) (Or.inl rfl) ?_
    show lG p l e s m below meth c D cT b (483, [(4, .int (nI 1)), (3, .ref 34), (2, .ref 18), (1, .ref 0), (0, .ref 1000)], [.int (-nI 2)], _, 40, 20000)
    refine (lgs C (pc' := 484) (L' := [(4, .int (nI 1)), (3, .ref 34), (2, .ref 18), (1, .ref 0), (0, .ref 1000)]) (S' := [.ref 18, .int (-nI 2)]) (by decide) (by decide) [(483, .aload_n 2, 1)] (List.forall_mem_cons.mpr ⟨dL_law_483, fun _ h => absurd h List.not_mem_nil⟩) rfl ?_).1
    refine (lgs C (pc' := 489) (L' := [(4, .int (nI 1)), (3, .ref 34), (2, .ref 18), (1, .ref 0), (0, .ref 1000)]) (S' := [.int (nI 1 + nI 1), .ref 1000, .ref 18, .int (-nI 2)]) (by decide) (by decide) [(484, .aload_n 0, 1), (485, .iload 4, 2), (487, .iconst 1, 1), (488, .iadd, 1)] (List.forall_mem_cons.mpr ⟨dL_law_484, List.forall_mem_cons.mpr ⟨dL_law_485, List.forall_mem_cons.mpr ⟨dL_law_487, List.forall_mem_cons.mpr ⟨dL_law_488, fun _ h => absurd h List.not_mem_nil⟩⟩⟩⟩) rfl ?_).1
    rw [show nI 1 + nI 1 = nI 2 from nI_add _ _]
    refine lsld C dL_law_489 (Nat.le_of_ble_eq_true rfl) (by decide) (by decide) e2 ?_
    show lG p l e s m below meth c D cT b (490, [(4, .int (nI 1)), (3, .ref 34), (2, .ref 18), (1, .ref 0), (0, .ref 1000)], [.int v2, .ref 18, .int (-nI 2)], _, 40, 20000)
    refine (lgs C (pc' := 495) (L' := [(4, .int (nI 1)), (3, .ref 34), (2, .ref 18), (1, .ref 0), (0, .ref 1000)]) (S' := [.int (nI 1 + nI 2), .ref 1000, .int v2, .ref 18, .int (-nI 2)]) (by decide) (by decide) [(490, .aload_n 0, 1), (491, .iload 4, 2), (493, .iconst 2, 1), (494, .iadd, 1)] (List.forall_mem_cons.mpr ⟨dL_law_490, List.forall_mem_cons.mpr ⟨dL_law_491, List.forall_mem_cons.mpr ⟨dL_law_493, List.forall_mem_cons.mpr ⟨dL_law_494, fun _ h => absurd h List.not_mem_nil⟩⟩⟩⟩) rfl ?_).1
    rw [show nI 1 + nI 2 = nI 3 from nI_add _ _]
    refine lsld C dL_law_495 (Nat.le_of_ble_eq_true rfl) (by decide) (by decide) e3 ?_
    show lG p l e s m below meth c D cT b (496, [(4, .int (nI 1)), (3, .ref 34), (2, .ref 18), (1, .ref 0), (0, .ref 1000)], [.int v3, .int v2, .ref 18, .int (-nI 2)], _, 40, 20000)
    refine (lgs C (pc' := 501) (L' := [(4, .int (nI 1)), (3, .ref 34), (2, .ref 18), (1, .ref 0), (0, .ref 1000)]) (S' := [.int (nI 1 + nI 3), .ref 1000, .int v3, .int v2, .ref 18, .int (-nI 2)]) (by decide) (by decide) [(496, .aload_n 0, 1), (497, .iload 4, 2), (499, .iconst 3, 1), (500, .iadd, 1)] (List.forall_mem_cons.mpr ⟨dL_law_496, List.forall_mem_cons.mpr ⟨dL_law_497, List.forall_mem_cons.mpr ⟨dL_law_499, List.forall_mem_cons.mpr ⟨dL_law_500, fun _ h => absurd h List.not_mem_nil⟩⟩⟩⟩) rfl ?_).1
    rw [show nI 1 + nI 3 = nI 4 from nI_add _ _]
    refine lsld C dL_law_501 (Nat.le_of_ble_eq_true rfl) (by decide) (by decide) e4 ?_
    show lG p l e s m below meth c D cT b (502, [(4, .int (nI 1)), (3, .ref 34), (2, .ref 18), (1, .ref 0), (0, .ref 1000)], [.int v4, .int v3, .int v2, .ref 18, .int (-nI 2)], _, 40, 20000)
    refine lcl C dL_law_502 rfl tn_X6_poke rfl (p_poke_bad1 _ _ _ _ _ _ _ _ _ _ _ _ _ _ _ _ _ _ _ _ _ _ _ _ _ _ _ _ _ _ _ _ _ _ _ _ _ _ _ _ _ hn h8 v2 v3 v4 hs) (Nat.le_of_ble_eq_true rfl) (Nat.le_of_ble_eq_true rfl) (Or.inl rfl) ?_
    show lG p l e s m below meth c D cT b (505, [(4, .int (nI 1)), (3, .ref 34), (2, .ref 18), (1, .ref 0), (0, .ref 1000)], [.int (-nI 2), .int (-nI 2)], _, 40, 20000)
    refine lcmp (t := 622) C dL_law_505 (by decide) (by decide) (by decide) true (cnd_eq (rfl)) ?_
    exact w_end C (Nat.le_of_ble_eq_true rfl)
  · obtain ⟨j, hj, rfl⟩ := rngN (by omega) hs
    by_cases hi : v3 < 0 ∨ nI 32 ≤ v3
    · skip
      refine (lgs C (pc' := 462) (L' := [(4, .int (nI 1)), (3, .ref 34), (2, .ref 18), (1, .ref 0), (0, .ref 1000)]) (S' := [.ref 0]) (by decide) (by decide) [(461, .aload_n 1, 1)] (List.forall_mem_cons.mpr ⟨dL_law_461, fun _ h => absurd h List.not_mem_nil⟩) rfl ?_).1
      refine (lgs C (pc' := 467) (L' := [(4, .int (nI 1)), (3, .ref 34), (2, .ref 18), (1, .ref 0), (0, .ref 1000)]) (S' := [.int (nI 1 + nI 1), .ref 1000, .ref 0]) (by decide) (by decide) [(462, .aload_n 0, 1), (463, .iload 4, 2), (465, .iconst 1, 1), (466, .iadd, 1)] (List.forall_mem_cons.mpr ⟨dL_law_462, List.forall_mem_cons.mpr ⟨dL_law_463, List.forall_mem_cons.mpr ⟨dL_law_465, List.forall_mem_cons.mpr ⟨dL_law_466, fun _ h => absurd h List.not_mem_nil⟩⟩⟩⟩) rfl ?_).1
      rw [show nI 1 + nI 1 = nI 2 from nI_add _ _]
      refine lsld C dL_law_467 (Nat.le_of_ble_eq_true rfl) (by decide) (by decide) e2 ?_
      show lG p l e s m below meth c D cT b (468, [(4, .int (nI 1)), (3, .ref 34), (2, .ref 18), (1, .ref 0), (0, .ref 1000)], [.int (nI j), .ref 0], _, 40, 20000)
      refine (lgs C (pc' := 473) (L' := [(4, .int (nI 1)), (3, .ref 34), (2, .ref 18), (1, .ref 0), (0, .ref 1000)]) (S' := [.int (nI 1 + nI 2), .ref 1000, .int (nI j), .ref 0]) (by decide) (by decide) [(468, .aload_n 0, 1), (469, .iload 4, 2), (471, .iconst 2, 1), (472, .iadd, 1)] (List.forall_mem_cons.mpr ⟨dL_law_468, List.forall_mem_cons.mpr ⟨dL_law_469, List.forall_mem_cons.mpr ⟨dL_law_471, List.forall_mem_cons.mpr ⟨dL_law_472, fun _ h => absurd h List.not_mem_nil⟩⟩⟩⟩) rfl ?_).1
      rw [show nI 1 + nI 2 = nI 3 from nI_add _ _]
      refine lsld C dL_law_473 (Nat.le_of_ble_eq_true rfl) (by decide) (by decide) e3 ?_
      show lG p l e s m below meth c D cT b (474, [(4, .int (nI 1)), (3, .ref 34), (2, .ref 18), (1, .ref 0), (0, .ref 1000)], [.int v3, .int (nI j), .ref 0], _, 40, 20000)
      refine (lgs C (pc' := 479) (L' := [(4, .int (nI 1)), (3, .ref 34), (2, .ref 18), (1, .ref 0), (0, .ref 1000)]) (S' := [.int (nI 1 + nI 3), .ref 1000, .int v3, .int (nI j), .ref 0]) (by decide) (by decide) [(474, .aload_n 0, 1), (475, .iload 4, 2), (477, .iconst 3, 1), (478, .iadd, 1)] (List.forall_mem_cons.mpr ⟨dL_law_474, List.forall_mem_cons.mpr ⟨dL_law_475, List.forall_mem_cons.mpr ⟨dL_law_477, List.forall_mem_cons.mpr ⟨dL_law_478, fun _ h => absurd h List.not_mem_nil⟩⟩⟩⟩) rfl ?_).1
      rw [show nI 1 + nI 3 = nI 4 from nI_add _ _]
      refine lsld C dL_law_479 (Nat.le_of_ble_eq_true rfl) (by decide) (by decide) e4 ?_
      show lG p l e s m below meth c D cT b (480, [(4, .int (nI 1)), (3, .ref 34), (2, .ref 18), (1, .ref 0), (0, .ref 1000)], [.int v4, .int v3, .int (nI j), .ref 0], _, 40, 20000)
      refine lcl C dL_law_480 rfl tn_X5_poke rfl (q_poke_bad1 _ _ _ _ _ _ _ _ _ _ _ _ _ _ _ hn h8 (nI j) v3 v4 (Or.inr hi)) (Nat.le_of_ble_eq_true rfl) (Nat.le_of_ble_eq_true rfl) (Or.inl rfl) ?_
      show lG p l e s m below meth c D cT b (483, [(4, .int (nI 1)), (3, .ref 34), (2, .ref 18), (1, .ref 0), (0, .ref 1000)], [.int (-nI 2)], _, 40, 20000)
      refine (lgs C (pc' := 484) (L' := [(4, .int (nI 1)), (3, .ref 34), (2, .ref 18), (1, .ref 0), (0, .ref 1000)]) (S' := [.ref 18, .int (-nI 2)]) (by decide) (by decide) [(483, .aload_n 2, 1)] (List.forall_mem_cons.mpr ⟨dL_law_483, fun _ h => absurd h List.not_mem_nil⟩) rfl ?_).1
      refine (lgs C (pc' := 489) (L' := [(4, .int (nI 1)), (3, .ref 34), (2, .ref 18), (1, .ref 0), (0, .ref 1000)]) (S' := [.int (nI 1 + nI 1), .ref 1000, .ref 18, .int (-nI 2)]) (by decide) (by decide) [(484, .aload_n 0, 1), (485, .iload 4, 2), (487, .iconst 1, 1), (488, .iadd, 1)] (List.forall_mem_cons.mpr ⟨dL_law_484, List.forall_mem_cons.mpr ⟨dL_law_485, List.forall_mem_cons.mpr ⟨dL_law_487, List.forall_mem_cons.mpr ⟨dL_law_488, fun _ h => absurd h List.not_mem_nil⟩⟩⟩⟩) rfl ?_).1
      rw [show nI 1 + nI 1 = nI 2 from nI_add _ _]
      refine lsld C dL_law_489 (Nat.le_of_ble_eq_true rfl) (by decide) (by decide) e2 ?_
      show lG p l e s m below meth c D cT b (490, [(4, .int (nI 1)), (3, .ref 34), (2, .ref 18), (1, .ref 0), (0, .ref 1000)], [.int (nI j), .ref 18, .int (-nI 2)], _, 40, 20000)
      refine (lgs C (pc' := 495) (L' := [(4, .int (nI 1)), (3, .ref 34), (2, .ref 18), (1, .ref 0), (0, .ref 1000)]) (S' := [.int (nI 1 + nI 2), .ref 1000, .int (nI j), .ref 18, .int (-nI 2)]) (by decide) (by decide) [(490, .aload_n 0, 1), (491, .iload 4, 2), (493, .iconst 2, 1), (494, .iadd, 1)] (List.forall_mem_cons.mpr ⟨dL_law_490, List.forall_mem_cons.mpr ⟨dL_law_491, List.forall_mem_cons.mpr ⟨dL_law_493, List.forall_mem_cons.mpr ⟨dL_law_494, fun _ h => absurd h List.not_mem_nil⟩⟩⟩⟩) rfl ?_).1
      rw [show nI 1 + nI 2 = nI 3 from nI_add _ _]
      refine lsld C dL_law_495 (Nat.le_of_ble_eq_true rfl) (by decide) (by decide) e3 ?_
      show lG p l e s m below meth c D cT b (496, [(4, .int (nI 1)), (3, .ref 34), (2, .ref 18), (1, .ref 0), (0, .ref 1000)], [.int v3, .int (nI j), .ref 18, .int (-nI 2)], _, 40, 20000)
      refine (lgs C (pc' := 501) (L' := [(4, .int (nI 1)), (3, .ref 34), (2, .ref 18), (1, .ref 0), (0, .ref 1000)]) (S' := [.int (nI 1 + nI 3), .ref 1000, .int v3, .int (nI j), .ref 18, .int (-nI 2)]) (by decide) (by decide) [(496, .aload_n 0, 1), (497, .iload 4, 2), (499, .iconst 3, 1), (500, .iadd, 1)] (List.forall_mem_cons.mpr ⟨dL_law_496, List.forall_mem_cons.mpr ⟨dL_law_497, List.forall_mem_cons.mpr ⟨dL_law_499, List.forall_mem_cons.mpr ⟨dL_law_500, fun _ h => absurd h List.not_mem_nil⟩⟩⟩⟩) rfl ?_).1
      rw [show nI 1 + nI 3 = nI 4 from nI_add _ _]
      refine lsld C dL_law_501 (Nat.le_of_ble_eq_true rfl) (by decide) (by decide) e4 ?_
      show lG p l e s m below meth c D cT b (502, [(4, .int (nI 1)), (3, .ref 34), (2, .ref 18), (1, .ref 0), (0, .ref 1000)], [.int v4, .int v3, .int (nI j), .ref 18, .int (-nI 2)], _, 40, 20000)
      refine lcl C dL_law_502 rfl tn_X6_poke rfl (p_poke_bad2 _ _ _ _ _ _ _ _ _ _ _ _ _ _ _ _ _ _ _ _ _ _ _ _ _ _ _ _ _ _ _ _ _ _ _ _ _ _ _ _ _ hn h8 j hj v3 v4 hi) (Nat.le_of_ble_eq_true rfl) (Nat.le_of_ble_eq_true rfl) (Or.inl rfl) ?_
      show lG p l e s m below meth c D cT b (505, [(4, .int (nI 1)), (3, .ref 34), (2, .ref 18), (1, .ref 0), (0, .ref 1000)], [.int (-nI 2), .int (-nI 2)], _, 40, 20000)
      refine lcmp (t := 622) C dL_law_505 (by decide) (by decide) (by decide) true (cnd_eq (rfl)) ?_
      exact w_end C (Nat.le_of_ble_eq_true rfl)
    · obtain ⟨i, hi9, rfl⟩ := rngN (by omega) hi
      by_cases hk : v4 < nI 0 ∨ nI 255 < v4
      · skip
        refine (lgs C (pc' := 462) (L' := [(4, .int (nI 1)), (3, .ref 34), (2, .ref 18), (1, .ref 0), (0, .ref 1000)]) (S' := [.ref 0]) (by decide) (by decide) [(461, .aload_n 1, 1)] (List.forall_mem_cons.mpr ⟨dL_law_461, fun _ h => absurd h List.not_mem_nil⟩) rfl ?_).1
        refine (lgs C (pc' := 467) (L' := [(4, .int (nI 1)), (3, .ref 34), (2, .ref 18), (1, .ref 0), (0, .ref 1000)]) (S' := [.int (nI 1 + nI 1), .ref 1000, .ref 0]) (by decide) (by decide) [(462, .aload_n 0, 1), (463, .iload 4, 2), (465, .iconst 1, 1), (466, .iadd, 1)] (List.forall_mem_cons.mpr ⟨dL_law_462, List.forall_mem_cons.mpr ⟨dL_law_463, List.forall_mem_cons.mpr ⟨dL_law_465, List.forall_mem_cons.mpr ⟨dL_law_466, fun _ h => absurd h List.not_mem_nil⟩⟩⟩⟩) rfl ?_).1
        rw [show nI 1 + nI 1 = nI 2 from nI_add _ _]
        refine lsld C dL_law_467 (Nat.le_of_ble_eq_true rfl) (by decide) (by decide) e2 ?_
        show lG p l e s m below meth c D cT b (468, [(4, .int (nI 1)), (3, .ref 34), (2, .ref 18), (1, .ref 0), (0, .ref 1000)], [.int (nI j), .ref 0], _, 40, 20000)
        refine (lgs C (pc' := 473) (L' := [(4, .int (nI 1)), (3, .ref 34), (2, .ref 18), (1, .ref 0), (0, .ref 1000)]) (S' := [.int (nI 1 + nI 2), .ref 1000, .int (nI j), .ref 0]) (by decide) (by decide) [(468, .aload_n 0, 1), (469, .iload 4, 2), (471, .iconst 2, 1), (472, .iadd, 1)] (List.forall_mem_cons.mpr ⟨dL_law_468, List.forall_mem_cons.mpr ⟨dL_law_469, List.forall_mem_cons.mpr ⟨dL_law_471, List.forall_mem_cons.mpr ⟨dL_law_472, fun _ h => absurd h List.not_mem_nil⟩⟩⟩⟩) rfl ?_).1
        rw [show nI 1 + nI 2 = nI 3 from nI_add _ _]
        refine lsld C dL_law_473 (Nat.le_of_ble_eq_true rfl) (by decide) (by decide) e3 ?_
        show lG p l e s m below meth c D cT b (474, [(4, .int (nI 1)), (3, .ref 34), (2, .ref 18), (1, .ref 0), (0, .ref 1000)], [.int (nI i), .int (nI j), .ref 0], _, 40, 20000)
        refine (lgs C (pc' := 479) (L' := [(4, .int (nI 1)), (3, .ref 34), (2, .ref 18), (1, .ref 0), (0, .ref 1000)]) (S' := [.int (nI 1 + nI 3), .ref 1000, .int (nI i), .int (nI j), .ref 0]) (by decide) (by decide) [(474, .aload_n 0, 1), (475, .iload 4, 2), (477, .iconst 3, 1), (478, .iadd, 1)] (List.forall_mem_cons.mpr ⟨dL_law_474, List.forall_mem_cons.mpr ⟨dL_law_475, List.forall_mem_cons.mpr ⟨dL_law_477, List.forall_mem_cons.mpr ⟨dL_law_478, fun _ h => absurd h List.not_mem_nil⟩⟩⟩⟩) rfl ?_).1
        rw [show nI 1 + nI 3 = nI 4 from nI_add _ _]
        refine lsld C dL_law_479 (Nat.le_of_ble_eq_true rfl) (by decide) (by decide) e4 ?_
        show lG p l e s m below meth c D cT b (480, [(4, .int (nI 1)), (3, .ref 34), (2, .ref 18), (1, .ref 0), (0, .ref 1000)], [.int v4, .int (nI i), .int (nI j), .ref 0], _, 40, 20000)
        refine lcl C dL_law_480 rfl tn_X5_poke rfl (q_poke_bad2 _ _ _ _ _ _ _ _ _ _ _ _ _ _ _ hn h8 j i hj hi9 v4 hk) (Nat.le_of_ble_eq_true rfl) (Nat.le_of_ble_eq_true rfl) (Or.inl rfl) ?_
        show lG p l e s m below meth c D cT b (483, [(4, .int (nI 1)), (3, .ref 34), (2, .ref 18), (1, .ref 0), (0, .ref 1000)], [.int (-nI 2)], _, 40, 20000)
        refine (lgs C (pc' := 484) (L' := [(4, .int (nI 1)), (3, .ref 34), (2, .ref 18), (1, .ref 0), (0, .ref 1000)]) (S' := [.ref 18, .int (-nI 2)]) (by decide) (by decide) [(483, .aload_n 2, 1)] (List.forall_mem_cons.mpr ⟨dL_law_483, fun _ h => absurd h List.not_mem_nil⟩) rfl ?_).1
        refine (lgs C (pc' := 489) (L' := [(4, .int (nI 1)), (3, .ref 34), (2, .ref 18), (1, .ref 0), (0, .ref 1000)]) (S' := [.int (nI 1 + nI 1), .ref 1000, .ref 18, .int (-nI 2)]) (by decide) (by decide) [(484, .aload_n 0, 1), (485, .iload 4, 2), (487, .iconst 1, 1), (488, .iadd, 1)] (List.forall_mem_cons.mpr ⟨dL_law_484, List.forall_mem_cons.mpr ⟨dL_law_485, List.forall_mem_cons.mpr ⟨dL_law_487, List.forall_mem_cons.mpr ⟨dL_law_488, fun _ h => absurd h List.not_mem_nil⟩⟩⟩⟩) rfl ?_).1
        rw [show nI 1 + nI 1 = nI 2 from nI_add _ _]
        refine lsld C dL_law_489 (Nat.le_of_ble_eq_true rfl) (by decide) (by decide) e2 ?_
        show lG p l e s m below meth c D cT b (490, [(4, .int (nI 1)), (3, .ref 34), (2, .ref 18), (1, .ref 0), (0, .ref 1000)], [.int (nI j), .ref 18, .int (-nI 2)], _, 40, 20000)
        refine (lgs C (pc' := 495) (L' := [(4, .int (nI 1)), (3, .ref 34), (2, .ref 18), (1, .ref 0), (0, .ref 1000)]) (S' := [.int (nI 1 + nI 2), .ref 1000, .int (nI j), .ref 18, .int (-nI 2)]) (by decide) (by decide) [(490, .aload_n 0, 1), (491, .iload 4, 2), (493, .iconst 2, 1), (494, .iadd, 1)] (List.forall_mem_cons.mpr ⟨dL_law_490, List.forall_mem_cons.mpr ⟨dL_law_491, List.forall_mem_cons.mpr ⟨dL_law_493, List.forall_mem_cons.mpr ⟨dL_law_494, fun _ h => absurd h List.not_mem_nil⟩⟩⟩⟩) rfl ?_).1
        rw [show nI 1 + nI 2 = nI 3 from nI_add _ _]
        refine lsld C dL_law_495 (Nat.le_of_ble_eq_true rfl) (by decide) (by decide) e3 ?_
        show lG p l e s m below meth c D cT b (496, [(4, .int (nI 1)), (3, .ref 34), (2, .ref 18), (1, .ref 0), (0, .ref 1000)], [.int (nI i), .int (nI j), .ref 18, .int (-nI 2)], _, 40, 20000)
        refine (lgs C (pc' := 501) (L' := [(4, .int (nI 1)), (3, .ref 34), (2, .ref 18), (1, .ref 0), (0, .ref 1000)]) (S' := [.int (nI 1 + nI 3), .ref 1000, .int (nI i), .int (nI j), .ref 18, .int (-nI 2)]) (by decide) (by decide) [(496, .aload_n 0, 1), (497, .iload 4, 2), (499, .iconst 3, 1), (500, .iadd, 1)] (List.forall_mem_cons.mpr ⟨dL_law_496, List.forall_mem_cons.mpr ⟨dL_law_497, List.forall_mem_cons.mpr ⟨dL_law_499, List.forall_mem_cons.mpr ⟨dL_law_500, fun _ h => absurd h List.not_mem_nil⟩⟩⟩⟩) rfl ?_).1
        rw [show nI 1 + nI 3 = nI 4 from nI_add _ _]
        refine lsld C dL_law_501 (Nat.le_of_ble_eq_true rfl) (by decide) (by decide) e4 ?_
        show lG p l e s m below meth c D cT b (502, [(4, .int (nI 1)), (3, .ref 34), (2, .ref 18), (1, .ref 0), (0, .ref 1000)], [.int v4, .int (nI i), .int (nI j), .ref 18, .int (-nI 2)], _, 40, 20000)
        refine lcl C dL_law_502 rfl tn_X6_poke rfl (p_poke_bad3 _ _ _ _ _ _ _ _ _ _ _ _ _ _ _ _ _ _ _ _ _ _ _ _ _ _ _ _ _ _ _ _ _ _ _ _ _ _ _ _ _ hn h8 j i hj hi9 v4 hk) (Nat.le_of_ble_eq_true rfl) (Nat.le_of_ble_eq_true rfl) (Or.inl rfl) ?_
        show lG p l e s m below meth c D cT b (505, [(4, .int (nI 1)), (3, .ref 34), (2, .ref 18), (1, .ref 0), (0, .ref 1000)], [.int (-nI 2), .int (-nI 2)], _, 40, 20000)
        refine lcmp (t := 622) C dL_law_505 (by decide) (by decide) (by decide) true (cnd_eq (rfl)) ?_
        exact w_end C (Nat.le_of_ble_eq_true rfl)
      · obtain ⟨k, -, hk9, rfl⟩ := rngE (by decide) (by decide) hk
        refine (lgs C (pc' := 462) (L' := [(4, .int (nI 1)), (3, .ref 34), (2, .ref 18), (1, .ref 0), (0, .ref 1000)]) (S' := [.ref 0]) (by decide) (by decide) [(461, .aload_n 1, 1)] (List.forall_mem_cons.mpr ⟨dL_law_461, fun _ h => absurd h List.not_mem_nil⟩) rfl ?_).1
        refine (lgs C (pc' := 467) (L' := [(4, .int (nI 1)), (3, .ref 34), (2, .ref 18), (1, .ref 0), (0, .ref 1000)]) (S' := [.int (nI 1 + nI 1), .ref 1000, .ref 0]) (by decide) (by decide) [(462, .aload_n 0, 1), (463, .iload 4, 2), (465, .iconst 1, 1), (466, .iadd, 1)] (List.forall_mem_cons.mpr ⟨dL_law_462, List.forall_mem_cons.mpr ⟨dL_law_463, List.forall_mem_cons.mpr ⟨dL_law_465, List.forall_mem_cons.mpr ⟨dL_law_466, fun _ h => absurd h List.not_mem_nil⟩⟩⟩⟩) rfl ?_).1
        rw [show nI 1 + nI 1 = nI 2 from nI_add _ _]
        refine lsld C dL_law_467 (Nat.le_of_ble_eq_true rfl) (by decide) (by decide) e2 ?_
        show lG p l e s m below meth c D cT b (468, [(4, .int (nI 1)), (3, .ref 34), (2, .ref 18), (1, .ref 0), (0, .ref 1000)], [.int (nI j), .ref 0], _, 40, 20000)
        refine (lgs C (pc' := 473) (L' := [(4, .int (nI 1)), (3, .ref 34), (2, .ref 18), (1, .ref 0), (0, .ref 1000)]) (S' := [.int (nI 1 + nI 2), .ref 1000, .int (nI j), .ref 0]) (by decide) (by decide) [(468, .aload_n 0, 1), (469, .iload 4, 2), (471, .iconst 2, 1), (472, .iadd, 1)] (List.forall_mem_cons.mpr ⟨dL_law_468, List.forall_mem_cons.mpr ⟨dL_law_469, List.forall_mem_cons.mpr ⟨dL_law_471, List.forall_mem_cons.mpr ⟨dL_law_472, fun _ h => absurd h List.not_mem_nil⟩⟩⟩⟩) rfl ?_).1
        rw [show nI 1 + nI 2 = nI 3 from nI_add _ _]
        refine lsld C dL_law_473 (Nat.le_of_ble_eq_true rfl) (by decide) (by decide) e3 ?_
        show lG p l e s m below meth c D cT b (474, [(4, .int (nI 1)), (3, .ref 34), (2, .ref 18), (1, .ref 0), (0, .ref 1000)], [.int (nI i), .int (nI j), .ref 0], _, 40, 20000)
        refine (lgs C (pc' := 479) (L' := [(4, .int (nI 1)), (3, .ref 34), (2, .ref 18), (1, .ref 0), (0, .ref 1000)]) (S' := [.int (nI 1 + nI 3), .ref 1000, .int (nI i), .int (nI j), .ref 0]) (by decide) (by decide) [(474, .aload_n 0, 1), (475, .iload 4, 2), (477, .iconst 3, 1), (478, .iadd, 1)] (List.forall_mem_cons.mpr ⟨dL_law_474, List.forall_mem_cons.mpr ⟨dL_law_475, List.forall_mem_cons.mpr ⟨dL_law_477, List.forall_mem_cons.mpr ⟨dL_law_478, fun _ h => absurd h List.not_mem_nil⟩⟩⟩⟩) rfl ?_).1
        rw [show nI 1 + nI 3 = nI 4 from nI_add _ _]
        refine lsld C dL_law_479 (Nat.le_of_ble_eq_true rfl) (by decide) (by decide) e4 ?_
        show lG p l e s m below meth c D cT b (480, [(4, .int (nI 1)), (3, .ref 34), (2, .ref 18), (1, .ref 0), (0, .ref 1000)], [.int (nI k), .int (nI i), .int (nI j), .ref 0], _, 40, 20000)
        refine lcl C dL_law_480 rfl tn_X5_poke rfl (q_poke_ok _ _ _ _ _ _ _ _ _ _ _ _ _ _ _ hn h8 j i k hj hi9 hk9) (Nat.le_of_ble_eq_true rfl) (Nat.le_of_ble_eq_true rfl) (Or.inl rfl) ?_
        show lG p l e s m below meth c D cT b (483, [(4, .int (nI 1)), (3, .ref 34), (2, .ref 18), (1, .ref 0), (0, .ref 1000)], [.int (0 ^^^ (nI k &&& nI 255))], _, 40, 20000)
        refine (lgs C (pc' := 484) (L' := [(4, .int (nI 1)), (3, .ref 34), (2, .ref 18), (1, .ref 0), (0, .ref 1000)]) (S' := [.ref 18, .int (0 ^^^ (nI k &&& nI 255))]) (by decide) (by decide) [(483, .aload_n 2, 1)] (List.forall_mem_cons.mpr ⟨dL_law_483, fun _ h => absurd h List.not_mem_nil⟩) rfl ?_).1
        refine (lgs C (pc' := 489) (L' := [(4, .int (nI 1)), (3, .ref 34), (2, .ref 18), (1, .ref 0), (0, .ref 1000)]) (S' := [.int (nI 1 + nI 1), .ref 1000, .ref 18, .int (0 ^^^ (nI k &&& nI 255))]) (by decide) (by decide) [(484, .aload_n 0, 1), (485, .iload 4, 2), (487, .iconst 1, 1), (488, .iadd, 1)] (List.forall_mem_cons.mpr ⟨dL_law_484, List.forall_mem_cons.mpr ⟨dL_law_485, List.forall_mem_cons.mpr ⟨dL_law_487, List.forall_mem_cons.mpr ⟨dL_law_488, fun _ h => absurd h List.not_mem_nil⟩⟩⟩⟩) rfl ?_).1
        rw [show nI 1 + nI 1 = nI 2 from nI_add _ _]
        refine lsld C dL_law_489 (Nat.le_of_ble_eq_true rfl) (by decide) (by decide) e2 ?_
        show lG p l e s m below meth c D cT b (490, [(4, .int (nI 1)), (3, .ref 34), (2, .ref 18), (1, .ref 0), (0, .ref 1000)], [.int (nI j), .ref 18, .int (0 ^^^ (nI k &&& nI 255))], _, 40, 20000)
        refine (lgs C (pc' := 495) (L' := [(4, .int (nI 1)), (3, .ref 34), (2, .ref 18), (1, .ref 0), (0, .ref 1000)]) (S' := [.int (nI 1 + nI 2), .ref 1000, .int (nI j), .ref 18, .int (0 ^^^ (nI k &&& nI 255))]) (by decide) (by decide) [(490, .aload_n 0, 1), (491, .iload 4, 2), (493, .iconst 2, 1), (494, .iadd, 1)] (List.forall_mem_cons.mpr ⟨dL_law_490, List.forall_mem_cons.mpr ⟨dL_law_491, List.forall_mem_cons.mpr ⟨dL_law_493, List.forall_mem_cons.mpr ⟨dL_law_494, fun _ h => absurd h List.not_mem_nil⟩⟩⟩⟩) rfl ?_).1
        rw [show nI 1 + nI 2 = nI 3 from nI_add _ _]
        refine lsld C dL_law_495 (Nat.le_of_ble_eq_true rfl) (by decide) (by decide) e3 ?_
        show lG p l e s m below meth c D cT b (496, [(4, .int (nI 1)), (3, .ref 34), (2, .ref 18), (1, .ref 0), (0, .ref 1000)], [.int (nI i), .int (nI j), .ref 18, .int (0 ^^^ (nI k &&& nI 255))], _, 40, 20000)
        refine (lgs C (pc' := 501) (L' := [(4, .int (nI 1)), (3, .ref 34), (2, .ref 18), (1, .ref 0), (0, .ref 1000)]) (S' := [.int (nI 1 + nI 3), .ref 1000, .int (nI i), .int (nI j), .ref 18, .int (0 ^^^ (nI k &&& nI 255))]) (by decide) (by decide) [(496, .aload_n 0, 1), (497, .iload 4, 2), (499, .iconst 3, 1), (500, .iadd, 1)] (List.forall_mem_cons.mpr ⟨dL_law_496, List.forall_mem_cons.mpr ⟨dL_law_497, List.forall_mem_cons.mpr ⟨dL_law_499, List.forall_mem_cons.mpr ⟨dL_law_500, fun _ h => absurd h List.not_mem_nil⟩⟩⟩⟩) rfl ?_).1
        rw [show nI 1 + nI 3 = nI 4 from nI_add _ _]
        refine lsld C dL_law_501 (Nat.le_of_ble_eq_true rfl) (by decide) (by decide) e4 ?_
        show lG p l e s m below meth c D cT b (502, [(4, .int (nI 1)), (3, .ref 34), (2, .ref 18), (1, .ref 0), (0, .ref 1000)], [.int (nI k), .int (nI i), .int (nI j), .ref 18, .int (0 ^^^ (nI k &&& nI 255))], _, 40, 20000)
        refine lcl C dL_law_502 rfl tn_X6_poke rfl (p_poke_ok _ _ _ _ _ _ _ _ _ _ _ _ _ _ _ _ _ _ _ _ _ _ _ _ _ _ _ _ _ _ _ _ _ _ _ _ _ _ _ _ _ hn h8 j i k hj hi9 hk9) (Nat.le_of_ble_eq_true rfl) (Nat.le_of_ble_eq_true rfl) (Or.inl rfl) ?_
        show lG p l e s m below meth c D cT b (505, [(4, .int (nI 1)), (3, .ref 34), (2, .ref 18), (1, .ref 0), (0, .ref 1000)], [.int (0 ^^^ nI k), .int (0 ^^^ (nI k &&& nI 255))], _, 40, 20000)
        refine lcmp (t := 622) C dL_law_505 (by decide) (by decide) (by decide) true (cnd_eq (by rw [and255 hk9])) ?_
        exact w_end C (Nat.le_of_ble_eq_true rfl)
set_option maxRecDepth 100000 in
set_option maxHeartbeats 4000000 in
theorem w_told {p : Program} {l : Launch} {e : Env} {s : State} {m : MethodId} {below : List Frame} {meth : Method} {c : Code} {D : va_G} {cT : Nat → ClassId} {b : Nat} {xs : Nat → Int32} (C : lC p s m meth c D cT b 5 xs) {n : Nat} (hn : n ≤ 60) (h8 : 8 ≤ n) (v2 : Int32) (e2 : xs 2 = v2) : lG p l e s m below meth c D cT b (597, [(4, .int (nI 1)), (3, .ref 34), (2, .ref 18), (1, .ref 0), (0, .ref 1000)], [], WF n, 40, 20000) := by
  by_cases hk : v2.toInt < 0 ∨ 9 < v2.toInt
  · skip
    refine (lgs C (pc' := 598) (L' := [(4, .int (nI 1)), (3, .ref 34), (2, .ref 18), (1, .ref 0), (0, .ref 1000)]) (S' := [.ref 0]) (by decide) (by decide) [(597, .aload_n 1, 1)] (List.forall_mem_cons.mpr ⟨dL_law_597, fun _ h => absurd h List.not_mem_nil⟩) rfl ?_).1
    refine (lgs C (pc' := 603) (L' := [(4, .int (nI 1)), (3, .ref 34), (2, .ref 18), (1, .ref 0), (0, .ref 1000)]) (S' := [.int (nI 1 + nI 1), .ref 1000, .ref 0]) (by decide) (by decide) [(598, .aload_n 0, 1), (599, .iload 4, 2), (601, .iconst 1, 1), (602, .iadd, 1)] (List.forall_mem_cons.mpr ⟨dL_law_598, List.forall_mem_cons.mpr ⟨dL_law_599, List.forall_mem_cons.mpr ⟨dL_law_601, List.forall_mem_cons.mpr ⟨dL_law_602, fun _ h => absurd h List.not_mem_nil⟩⟩⟩⟩) rfl ?_).1
    rw [show nI 1 + nI 1 = nI 2 from nI_add _ _]
    refine lsld C dL_law_603 (Nat.le_of_ble_eq_true rfl) (by decide) (by decide) e2 ?_
    show lG p l e s m below meth c D cT b (604, [(4, .int (nI 1)), (3, .ref 34), (2, .ref 18), (1, .ref 0), (0, .ref 1000)], [.int v2, .ref 0], _, 40, 20000)
    refine lcl C dL_law_604 rfl tn_X5_told rfl (q_told_bad _ _ _ _ _ _ _ _ _ _ _ _ _ _ _ hn h8 v2 hk) (Nat.le_of_ble_eq_true rfl) (Nat.le_of_ble_eq_true rfl) (Or.inl rfl) ?_
    show lG p l e s m below meth c D cT b (607, [(4, .int (nI 1)), (3, .ref 34), (2, .ref 18), (1, .ref 0), (0, .ref 1000)], [.int (-nI 2)], _, 40, 20000)
    refine (lgs C (pc' := 608) (L' := [(4, .int (nI 1)), (3, .ref 34), (2, .ref 18), (1, .ref 0), (0, .ref 1000)]) (S' := [.ref 18, .int (-nI 2)]) (by decide) (by decide) [(607, .aload_n 2, 1)] (List.forall_mem_cons.mpr ⟨dL_law_607, fun _ h => absurd h List.not_mem_nil⟩) rfl ?_).1
    refine (lgs C (pc' := 613) (L' := [(4, .int (nI 1)), (3, .ref 34), (2, .ref 18), (1, .ref 0), (0, .ref 1000)]) (S' := [.int (nI 1 + nI 1), .ref 1000, .ref 18, .int (-nI 2)]) (by decide) (by decide) [(608, .aload_n 0, 1), (609, .iload 4, 2), (611, .iconst 1, 1), (612, .iadd, 1)] (List.forall_mem_cons.mpr ⟨dL_law_608, List.forall_mem_cons.mpr ⟨dL_law_609, List.forall_mem_cons.mpr ⟨dL_law_611, List.forall_mem_cons.mpr ⟨dL_law_612, fun _ h => absurd h List.not_mem_nil⟩⟩⟩⟩) rfl ?_).1
    rw [show nI 1 + nI 1 = nI 2 from nI_add _ _]
    refine lsld C dL_law_613 (Nat.le_of_ble_eq_true rfl) (by decide) (by decide) e2 ?_
    show lG p l e s m below meth c D cT b (614, [(4, .int (nI 1)), (3, .ref 34), (2, .ref 18), (1, .ref 0), (0, .ref 1000)], [.int v2, .ref 18, .int (-nI 2)], _, 40, 20000)
    refine lcl C dL_law_614 rfl tn_X6_told rfl (p_told_bad _ _ _ _ _ _ _ _ _ _ _ _ _ _ _ _ _ _ _ _ _ _ _ _ _ _ _ _ _ _ _ _ _ _ _ _ _ _ _ _ _ hn h8 v2 hk) (Nat.le_of_ble_eq_true rfl) (Nat.le_of_ble_eq_true rfl) (Or.inl rfl) ?_
    show lG p l e s m below meth c D cT b (617, [(4, .int (nI 1)), (3, .ref 34), (2, .ref 18), (1, .ref 0), (0, .ref 1000)], [.int (-nI 2), .int (-nI 2)], _, 40, 20000)
    refine lcmp (t := 622) C dL_law_617 (by decide) (by decide) (by decide) true (cnd_eq (rfl)) ?_
    exact w_end C (Nat.le_of_ble_eq_true rfl)
  · obtain ⟨q, hq, rfl⟩ := toldE hk
    rcases (show q = 0 ∨ q = 1 ∨ q = 2 ∨ q = 3 ∨ q = 4 ∨ q = 5 ∨ q = 6 ∨ q = 7 ∨ q = 8 ∨ q = 9 by omega) with rfl | rfl | rfl | rfl | rfl | rfl | rfl | rfl | rfl | rfl
    · skip
      refine (lgs C (pc' := 598) (L' := [(4, .int (nI 1)), (3, .ref 34), (2, .ref 18), (1, .ref 0), (0, .ref 1000)]) (S' := [.ref 0]) (by decide) (by decide) [(597, .aload_n 1, 1)] (List.forall_mem_cons.mpr ⟨dL_law_597, fun _ h => absurd h List.not_mem_nil⟩) rfl ?_).1
      refine (lgs C (pc' := 603) (L' := [(4, .int (nI 1)), (3, .ref 34), (2, .ref 18), (1, .ref 0), (0, .ref 1000)]) (S' := [.int (nI 1 + nI 1), .ref 1000, .ref 0]) (by decide) (by decide) [(598, .aload_n 0, 1), (599, .iload 4, 2), (601, .iconst 1, 1), (602, .iadd, 1)] (List.forall_mem_cons.mpr ⟨dL_law_598, List.forall_mem_cons.mpr ⟨dL_law_599, List.forall_mem_cons.mpr ⟨dL_law_601, List.forall_mem_cons.mpr ⟨dL_law_602, fun _ h => absurd h List.not_mem_nil⟩⟩⟩⟩) rfl ?_).1
      rw [show nI 1 + nI 1 = nI 2 from nI_add _ _]
      refine lsld C dL_law_603 (Nat.le_of_ble_eq_true rfl) (by decide) (by decide) e2 ?_
      show lG p l e s m below meth c D cT b (604, [(4, .int (nI 1)), (3, .ref 34), (2, .ref 18), (1, .ref 0), (0, .ref 1000)], [.int (nI 0), .ref 0], _, 40, 20000)
      refine lcl C dL_law_604 rfl tn_X5_told rfl (q_told_0 _ _ _ _ _ _ _ _ _ _ _ _ _ _ _ hn h8 (fun _ => rfl)) (Nat.le_of_ble_eq_true rfl) (Nat.le_of_ble_eq_true rfl) (Or.inl rfl) ?_
      show lG p l e s m below meth c D cT b (607, [(4, .int (nI 1)), (3, .ref 34), (2, .ref 18), (1, .ref 0), (0, .ref 1000)], [.int (nI 1)], _, 40, 20000)
      refine (lgs C (pc' := 608) (L' := [(4, .int (nI 1)), (3, .ref 34), (2, .ref 18), (1, .ref 0), (0, .ref 1000)]) (S' := [.ref 18, .int (nI 1)]) (by decide) (by decide) [(607, .aload_n 2, 1)] (List.forall_mem_cons.mpr ⟨dL_law_607, fun _ h => absurd h List.not_mem_nil⟩) rfl ?_).1
      refine (lgs C (pc' := 613) (L' := [(4, .int (nI 1)), (3, .ref 34), (2, .ref 18), (1, .ref 0), (0, .ref 1000)]) (S' := [.int (nI 1 + nI 1), .ref 1000, .ref 18, .int (nI 1)]) (by decide) (by decide) [(608, .aload_n 0, 1), (609, .iload 4, 2), (611, .iconst 1, 1), (612, .iadd, 1)] (List.forall_mem_cons.mpr ⟨dL_law_608, List.forall_mem_cons.mpr ⟨dL_law_609, List.forall_mem_cons.mpr ⟨dL_law_611, List.forall_mem_cons.mpr ⟨dL_law_612, fun _ h => absurd h List.not_mem_nil⟩⟩⟩⟩) rfl ?_).1
      rw [show nI 1 + nI 1 = nI 2 from nI_add _ _]
      refine lsld C dL_law_613 (Nat.le_of_ble_eq_true rfl) (by decide) (by decide) e2 ?_
      show lG p l e s m below meth c D cT b (614, [(4, .int (nI 1)), (3, .ref 34), (2, .ref 18), (1, .ref 0), (0, .ref 1000)], [.int (nI 0), .ref 18, .int (nI 1)], _, 40, 20000)
      refine lcl C dL_law_614 rfl tn_X6_told rfl (p_told_0 _ _ _ _ _ _ _ _ _ _ _ _ _ _ _ _ _ _ _ _ _ _ _ _ _ _ _ _ _ _ _ _ _ _ _ _ _ _ _ _ _ hn h8) (Nat.le_of_ble_eq_true rfl) (Nat.le_of_ble_eq_true rfl) (Or.inl rfl) ?_
      show lG p l e s m below meth c D cT b (617, [(4, .int (nI 1)), (3, .ref 34), (2, .ref 18), (1, .ref 0), (0, .ref 1000)], [.int (nI 1), .int (nI 1)], _, 40, 20000)
      refine lcmp (t := 622) C dL_law_617 (by decide) (by decide) (by decide) true (cnd_eq (rfl)) ?_
      exact w_end C (Nat.le_of_ble_eq_true rfl)
    · skip
      refine (lgs C (pc' := 598) (L' := [(4, .int (nI 1)), (3, .ref 34), (2, .ref 18), (1, .ref 0), (0, .ref 1000)]) (S' := [.ref 0]) (by decide) (by decide) [(597, .aload_n 1, 1)] (List.forall_mem_cons.mpr ⟨dL_law_597, fun _ h => absurd h List.not_mem_nil⟩) rfl ?_).1
      refine (lgs C (pc' := 603) (L' := [(4, .int (nI 1)), (3, .ref 34), (2, .ref 18), (1, .ref 0), (0, .ref 1000)]) (S' := [.int (nI 1 + nI 1), .ref 1000, .ref 0]) (by decide) (by decide) [(598, .aload_n 0, 1), (599, .iload 4, 2), (601, .iconst 1, 1), (602, .iadd, 1)] (List.forall_mem_cons.mpr ⟨dL_law_598, List.forall_mem_cons.mpr ⟨dL_law_599, List.forall_mem_cons.mpr ⟨dL_law_601, List.forall_mem_cons.mpr ⟨dL_law_602, fun _ h => absurd h List.not_mem_nil⟩⟩⟩⟩) rfl ?_).1
      rw [show nI 1 + nI 1 = nI 2 from nI_add _ _]
      refine lsld C dL_law_603 (Nat.le_of_ble_eq_true rfl) (by decide) (by decide) e2 ?_
      show lG p l e s m below meth c D cT b (604, [(4, .int (nI 1)), (3, .ref 34), (2, .ref 18), (1, .ref 0), (0, .ref 1000)], [.int (nI 1), .ref 0], _, 40, 20000)
      refine lcl C dL_law_604 rfl tn_X5_told rfl (q_told_1 _ _ _ _ _ _ _ _ _ _ _ _ _ _ _ hn h8 (fun _ => rfl)) (Nat.le_of_ble_eq_true rfl) (Nat.le_of_ble_eq_true rfl) (Or.inl rfl) ?_
      show lG p l e s m below meth c D cT b (607, [(4, .int (nI 1)), (3, .ref 34), (2, .ref 18), (1, .ref 0), (0, .ref 1000)], [.int (nI 2)], _, 40, 20000)
      refine (lgs C (pc' := 608) (L' := [(4, .int (nI 1)), (3, .ref 34), (2, .ref 18), (1, .ref 0), (0, .ref 1000)]) (S' := [.ref 18, .int (nI 2)]) (by decide) (by decide) [(607, .aload_n 2, 1)] (List.forall_mem_cons.mpr ⟨dL_law_607, fun _ h => absurd h List.not_mem_nil⟩) rfl ?_).1
      refine (lgs C (pc' := 613) (L' := [(4, .int (nI 1)), (3, .ref 34), (2, .ref 18), (1, .ref 0), (0, .ref 1000)]) (S' := [.int (nI 1 + nI 1), .ref 1000, .ref 18, .int (nI 2)]) (by decide) (by decide) [(608, .aload_n 0, 1), (609, .iload 4, 2), (611, .iconst 1, 1), (612, .iadd, 1)] (List.forall_mem_cons.mpr ⟨dL_law_608, List.forall_mem_cons.mpr ⟨dL_law_609, List.forall_mem_cons.mpr ⟨dL_law_611, List.forall_mem_cons.mpr ⟨dL_law_612, fun _ h => absurd h List.not_mem_nil⟩⟩⟩⟩) rfl ?_).1
      rw [show nI 1 + nI 1 = nI 2 from nI_add _ _]
      refine lsld C dL_law_613 (Nat.le_of_ble_eq_true rfl) (by decide) (by decide) e2 ?_
      show lG p l e s m below meth c D cT b (614, [(4, .int (nI 1)), (3, .ref 34), (2, .ref 18), (1, .ref 0), (0, .ref 1000)], [.int (nI 1), .ref 18, .int (nI 2)], _, 40, 20000)
      refine lcl C dL_law_614 rfl tn_X6_told rfl (p_told_1 _ _ _ _ _ _ _ _ _ _ _ _ _ _ _ _ _ _ _ _ _ _ _ _ _ _ _ _ _ _ _ _ _ _ _ _ _ _ _ _ _ hn h8) (Nat.le_of_ble_eq_true rfl) (Nat.le_of_ble_eq_true rfl) (Or.inl rfl) ?_
      show lG p l e s m below meth c D cT b (617, [(4, .int (nI 1)), (3, .ref 34), (2, .ref 18), (1, .ref 0), (0, .ref 1000)], [.int (nI 2), .int (nI 2)], _, 40, 20000)
      refine lcmp (t := 622) C dL_law_617 (by decide) (by decide) (by decide) true (cnd_eq (rfl)) ?_
      exact w_end C (Nat.le_of_ble_eq_true rfl)
    · skip
      refine (lgs C (pc' := 598) (L' := [(4, .int (nI 1)), (3, .ref 34), (2, .ref 18), (1, .ref 0), (0, .ref 1000)]) (S' := [.ref 0]) (by decide) (by decide) [(597, .aload_n 1, 1)] (List.forall_mem_cons.mpr ⟨dL_law_597, fun _ h => absurd h List.not_mem_nil⟩) rfl ?_).1
      refine (lgs C (pc' := 603) (L' := [(4, .int (nI 1)), (3, .ref 34), (2, .ref 18), (1, .ref 0), (0, .ref 1000)]) (S' := [.int (nI 1 + nI 1), .ref 1000, .ref 0]) (by decide) (by decide) [(598, .aload_n 0, 1), (599, .iload 4, 2), (601, .iconst 1, 1), (602, .iadd, 1)] (List.forall_mem_cons.mpr ⟨dL_law_598, List.forall_mem_cons.mpr ⟨dL_law_599, List.forall_mem_cons.mpr ⟨dL_law_601, List.forall_mem_cons.mpr ⟨dL_law_602, fun _ h => absurd h List.not_mem_nil⟩⟩⟩⟩) rfl ?_).1
      rw [show nI 1 + nI 1 = nI 2 from nI_add _ _]
      refine lsld C dL_law_603 (Nat.le_of_ble_eq_true rfl) (by decide) (by decide) e2 ?_
      show lG p l e s m below meth c D cT b (604, [(4, .int (nI 1)), (3, .ref 34), (2, .ref 18), (1, .ref 0), (0, .ref 1000)], [.int (nI 2), .ref 0], _, 40, 20000)
      refine lcl C dL_law_604 rfl tn_X5_told rfl (q_told_2 _ _ _ _ _ _ _ _ _ _ _ _ _ _ _ hn h8 (fun _ => rfl)) (Nat.le_of_ble_eq_true rfl) (Nat.le_of_ble_eq_true rfl) (Or.inl rfl) ?_
      show lG p l e s m below meth c D cT b (607, [(4, .int (nI 1)), (3, .ref 34), (2, .ref 18), (1, .ref 0), (0, .ref 1000)], [.int (nI 0)], _, 40, 20000)
      refine (lgs C (pc' := 608) (L' := [(4, .int (nI 1)), (3, .ref 34), (2, .ref 18), (1, .ref 0), (0, .ref 1000)]) (S' := [.ref 18, .int (nI 0)]) (by decide) (by decide) [(607, .aload_n 2, 1)] (List.forall_mem_cons.mpr ⟨dL_law_607, fun _ h => absurd h List.not_mem_nil⟩) rfl ?_).1
      refine (lgs C (pc' := 613) (L' := [(4, .int (nI 1)), (3, .ref 34), (2, .ref 18), (1, .ref 0), (0, .ref 1000)]) (S' := [.int (nI 1 + nI 1), .ref 1000, .ref 18, .int (nI 0)]) (by decide) (by decide) [(608, .aload_n 0, 1), (609, .iload 4, 2), (611, .iconst 1, 1), (612, .iadd, 1)] (List.forall_mem_cons.mpr ⟨dL_law_608, List.forall_mem_cons.mpr ⟨dL_law_609, List.forall_mem_cons.mpr ⟨dL_law_611, List.forall_mem_cons.mpr ⟨dL_law_612, fun _ h => absurd h List.not_mem_nil⟩⟩⟩⟩) rfl ?_).1
      rw [show nI 1 + nI 1 = nI 2 from nI_add _ _]
      refine lsld C dL_law_613 (Nat.le_of_ble_eq_true rfl) (by decide) (by decide) e2 ?_
      show lG p l e s m below meth c D cT b (614, [(4, .int (nI 1)), (3, .ref 34), (2, .ref 18), (1, .ref 0), (0, .ref 1000)], [.int (nI 2), .ref 18, .int (nI 0)], _, 40, 20000)
      refine lcl C dL_law_614 rfl tn_X6_told rfl (p_told_2 _ _ _ _ _ _ _ _ _ _ _ _ _ _ _ _ _ _ _ _ _ _ _ _ _ _ _ _ _ _ _ _ _ _ _ _ _ _ _ _ _ hn h8) (Nat.le_of_ble_eq_true rfl) (Nat.le_of_ble_eq_true rfl) (Or.inl rfl) ?_
      show lG p l e s m below meth c D cT b (617, [(4, .int (nI 1)), (3, .ref 34), (2, .ref 18), (1, .ref 0), (0, .ref 1000)], [.int (nI 0), .int (nI 0)], _, 40, 20000)
      refine lcmp (t := 622) C dL_law_617 (by decide) (by decide) (by decide) true (cnd_eq (rfl)) ?_
      exact w_end C (Nat.le_of_ble_eq_true rfl)
    · skip
      refine (lgs C (pc' := 598) (L' := [(4, .int (nI 1)), (3, .ref 34), (2, .ref 18), (1, .ref 0), (0, .ref 1000)]) (S' := [.ref 0]) (by decide) (by decide) [(597, .aload_n 1, 1)] (List.forall_mem_cons.mpr ⟨dL_law_597, fun _ h => absurd h List.not_mem_nil⟩) rfl ?_).1
      refine (lgs C (pc' := 603) (L' := [(4, .int (nI 1)), (3, .ref 34), (2, .ref 18), (1, .ref 0), (0, .ref 1000)]) (S' := [.int (nI 1 + nI 1), .ref 1000, .ref 0]) (by decide) (by decide) [(598, .aload_n 0, 1), (599, .iload 4, 2), (601, .iconst 1, 1), (602, .iadd, 1)] (List.forall_mem_cons.mpr ⟨dL_law_598, List.forall_mem_cons.mpr ⟨dL_law_599, List.forall_mem_cons.mpr ⟨dL_law_601, List.forall_mem_cons.mpr ⟨dL_law_602, fun _ h => absurd h List.not_mem_nil⟩⟩⟩⟩) rfl ?_).1
      rw [show nI 1 + nI 1 = nI 2 from nI_add _ _]
      refine lsld C dL_law_603 (Nat.le_of_ble_eq_true rfl) (by decide) (by decide) e2 ?_
      show lG p l e s m below meth c D cT b (604, [(4, .int (nI 1)), (3, .ref 34), (2, .ref 18), (1, .ref 0), (0, .ref 1000)], [.int (nI 3), .ref 0], _, 40, 20000)
      refine lcl C dL_law_604 rfl tn_X5_told rfl (q_told_3 _ _ _ _ _ _ _ _ _ _ _ _ _ _ _ hn h8 (fun _ => rfl)) (Nat.le_of_ble_eq_true rfl) (Nat.le_of_ble_eq_true rfl) (Or.inl rfl) ?_
      show lG p l e s m below meth c D cT b (607, [(4, .int (nI 1)), (3, .ref 34), (2, .ref 18), (1, .ref 0), (0, .ref 1000)], [.int (nI 0)], _, 40, 20000)
      refine (lgs C (pc' := 608) (L' := [(4, .int (nI 1)), (3, .ref 34), (2, .ref 18), (1, .ref 0), (0, .ref 1000)]) (S' := [.ref 18, .int (nI 0)]) (by decide) (by decide) [(607, .aload_n 2, 1)] (List.forall_mem_cons.mpr ⟨dL_law_607, fun _ h => absurd h List.not_mem_nil⟩) rfl ?_).1
      refine (lgs C (pc' := 613) (L' := [(4, .int (nI 1)), (3, .ref 34), (2, .ref 18), (1, .ref 0), (0, .ref 1000)]) (S' := [.int (nI 1 + nI 1), .ref 1000, .ref 18, .int (nI 0)]) (by decide) (by decide) [(608, .aload_n 0, 1), (609, .iload 4, 2), (611, .iconst 1, 1), (612, .iadd, 1)] (List.forall_mem_cons.mpr ⟨dL_law_608, List.forall_mem_cons.mpr ⟨dL_law_609, List.forall_mem_cons.mpr ⟨dL_law_611, List.forall_mem_cons.mpr ⟨dL_law_612, fun _ h => absurd h List.not_mem_nil⟩⟩⟩⟩) rfl ?_).1
      rw [show nI 1 + nI 1 = nI 2 from nI_add _ _]
      refine lsld C dL_law_613 (Nat.le_of_ble_eq_true rfl) (by decide) (by decide) e2 ?_
      show lG p l e s m below meth c D cT b (614, [(4, .int (nI 1)), (3, .ref 34), (2, .ref 18), (1, .ref 0), (0, .ref 1000)], [.int (nI 3), .ref 18, .int (nI 0)], _, 40, 20000)
      refine lcl C dL_law_614 rfl tn_X6_told rfl (p_told_3 _ _ _ _ _ _ _ _ _ _ _ _ _ _ _ _ _ _ _ _ _ _ _ _ _ _ _ _ _ _ _ _ _ _ _ _ _ _ _ _ _ hn h8) (Nat.le_of_ble_eq_true rfl) (Nat.le_of_ble_eq_true rfl) (Or.inl rfl) ?_
      show lG p l e s m below meth c D cT b (617, [(4, .int (nI 1)), (3, .ref 34), (2, .ref 18), (1, .ref 0), (0, .ref 1000)], [.int (nI 0), .int (nI 0)], _, 40, 20000)
      refine lcmp (t := 622) C dL_law_617 (by decide) (by decide) (by decide) true (cnd_eq (rfl)) ?_
      exact w_end C (Nat.le_of_ble_eq_true rfl)
    · skip
      refine (lgs C (pc' := 598) (L' := [(4, .int (nI 1)), (3, .ref 34), (2, .ref 18), (1, .ref 0), (0, .ref 1000)]) (S' := [.ref 0]) (by decide) (by decide) [(597, .aload_n 1, 1)] (List.forall_mem_cons.mpr ⟨dL_law_597, fun _ h => absurd h List.not_mem_nil⟩) rfl ?_).1
      refine (lgs C (pc' := 603) (L' := [(4, .int (nI 1)), (3, .ref 34), (2, .ref 18), (1, .ref 0), (0, .ref 1000)]) (S' := [.int (nI 1 + nI 1), .ref 1000, .ref 0]) (by decide) (by decide) [(598, .aload_n 0, 1), (599, .iload 4, 2), (601, .iconst 1, 1), (602, .iadd, 1)] (List.forall_mem_cons.mpr ⟨dL_law_598, List.forall_mem_cons.mpr ⟨dL_law_599, List.forall_mem_cons.mpr ⟨dL_law_601, List.forall_mem_cons.mpr ⟨dL_law_602, fun _ h => absurd h List.not_mem_nil⟩⟩⟩⟩) rfl ?_).1
      rw [show nI 1 + nI 1 = nI 2 from nI_add _ _]
      refine lsld C dL_law_603 (Nat.le_of_ble_eq_true rfl) (by decide) (by decide) e2 ?_
      show lG p l e s m below meth c D cT b (604, [(4, .int (nI 1)), (3, .ref 34), (2, .ref 18), (1, .ref 0), (0, .ref 1000)], [.int (nI 4), .ref 0], _, 40, 20000)
      refine lcl C dL_law_604 rfl tn_X5_told rfl (q_told_4 _ _ _ _ _ _ _ _ _ _ _ _ _ _ _ hn h8 (fun _ => rfl)) (Nat.le_of_ble_eq_true rfl) (Nat.le_of_ble_eq_true rfl) (Or.inl rfl) ?_
      show lG p l e s m below meth c D cT b (607, [(4, .int (nI 1)), (3, .ref 34), (2, .ref 18), (1, .ref 0), (0, .ref 1000)], [.int (nI 0)], _, 40, 20000)
      refine (lgs C (pc' := 608) (L' := [(4, .int (nI 1)), (3, .ref 34), (2, .ref 18), (1, .ref 0), (0, .ref 1000)]) (S' := [.ref 18, .int (nI 0)]) (by decide) (by decide) [(607, .aload_n 2, 1)] (List.forall_mem_cons.mpr ⟨dL_law_607, fun _ h => absurd h List.not_mem_nil⟩) rfl ?_).1
      refine (lgs C (pc' := 613) (L' := [(4, .int (nI 1)), (3, .ref 34), (2, .ref 18), (1, .ref 0), (0, .ref 1000)]) (S' := [.int (nI 1 + nI 1), .ref 1000, .ref 18, .int (nI 0)]) (by decide) (by decide) [(608, .aload_n 0, 1), (609, .iload 4, 2), (611, .iconst 1, 1), (612, .iadd, 1)] (List.forall_mem_cons.mpr ⟨dL_law_608, List.forall_mem_cons.mpr ⟨dL_law_609, List.forall_mem_cons.mpr ⟨dL_law_611, List.forall_mem_cons.mpr ⟨dL_law_612, fun _ h => absurd h List.not_mem_nil⟩⟩⟩⟩) rfl ?_).1
      rw [show nI 1 + nI 1 = nI 2 from nI_add _ _]
      refine lsld C dL_law_613 (Nat.le_of_ble_eq_true rfl) (by decide) (by decide) e2 ?_
      show lG p l e s m below meth c D cT b (614, [(4, .int (nI 1)), (3, .ref 34), (2, .ref 18), (1, .ref 0), (0, .ref 1000)], [.int (nI 4), .ref 18, .int (nI 0)], _, 40, 20000)
      refine lcl C dL_law_614 rfl tn_X6_told rfl (p_told_4 _ _ _ _ _ _ _ _ _ _ _ _ _ _ _ _ _ _ _ _ _ _ _ _ _ _ _ _ _ _ _ _ _ _ _ _ _ _ _ _ _ hn h8) (Nat.le_of_ble_eq_true rfl) (Nat.le_of_ble_eq_true rfl) (Or.inl rfl) ?_
      show lG p l e s m below meth c D cT b (617, [(4, .int (nI 1)), (3, .ref 34), (2, .ref 18), (1, .ref 0), (0, .ref 1000)], [.int (nI 0), .int (nI 0)], _, 40, 20000)
      refine lcmp (t := 622) C dL_law_617 (by decide) (by decide) (by decide) true (cnd_eq (rfl)) ?_
      exact w_end C (Nat.le_of_ble_eq_true rfl)
    · skip
      refine (lgs C (pc' := 598) (L' := [(4, .int (nI 1)), (3, .ref 34), (2, .ref 18), (1, .ref 0), (0, .ref 1000)]) (S' := [.ref 0]) (by decide) (by decide) [(597, .aload_n 1, 1)] (List.forall_mem_cons.mpr ⟨dL_law_597, fun _ h => absurd h List.not_mem_nil⟩) rfl ?_).1
      refine (lgs C (pc' := 603) (L' := [(4, .int (nI 1)), (3, .ref 34), (2, .ref 18), (1, .ref 0), (0, .ref 1000)]) (S' := [.int (nI 1 + nI 1), .ref 1000, .ref 0]) (by decide) (by decide) [(598, .aload_n 0, 1), (599, .iload 4, 2), (601, .iconst 1, 1), (602, .iadd, 1)] (List.forall_mem_cons.mpr ⟨dL_law_598, List.forall_mem_cons.mpr ⟨dL_law_599, List.forall_mem_cons.mpr ⟨dL_law_601, List.forall_mem_cons.mpr ⟨dL_law_602, fun _ h => absurd h List.not_mem_nil⟩⟩⟩⟩) rfl ?_).1
      rw [show nI 1 + nI 1 = nI 2 from nI_add _ _]
      refine lsld C dL_law_603 (Nat.le_of_ble_eq_true rfl) (by decide) (by decide) e2 ?_
      show lG p l e s m below meth c D cT b (604, [(4, .int (nI 1)), (3, .ref 34), (2, .ref 18), (1, .ref 0), (0, .ref 1000)], [.int (nI 5), .ref 0], _, 40, 20000)
      refine lcl C dL_law_604 rfl tn_X5_told rfl (q_told_5 _ _ _ _ _ _ _ _ _ _ _ _ _ _ _ hn h8 (fun _ => rfl)) (Nat.le_of_ble_eq_true rfl) (Nat.le_of_ble_eq_true rfl) (Or.inl rfl) ?_
      show lG p l e s m below meth c D cT b (607, [(4, .int (nI 1)), (3, .ref 34), (2, .ref 18), (1, .ref 0), (0, .ref 1000)], [.int (nI 0)], _, 40, 20000)
      refine (lgs C (pc' := 608) (L' := [(4, .int (nI 1)), (3, .ref 34), (2, .ref 18), (1, .ref 0), (0, .ref 1000)]) (S' := [.ref 18, .int (nI 0)]) (by decide) (by decide) [(607, .aload_n 2, 1)] (List.forall_mem_cons.mpr ⟨dL_law_607, fun _ h => absurd h List.not_mem_nil⟩) rfl ?_).1
      refine (lgs C (pc' := 613) (L' := [(4, .int (nI 1)), (3, .ref 34), (2, .ref 18), (1, .ref 0), (0, .ref 1000)]) (S' := [.int (nI 1 + nI 1), .ref 1000, .ref 18, .int (nI 0)]) (by decide) (by decide) [(608, .aload_n 0, 1), (609, .iload 4, 2), (611, .iconst 1, 1), (612, .iadd, 1)] (List.forall_mem_cons.mpr ⟨dL_law_608, List.forall_mem_cons.mpr ⟨dL_law_609, List.forall_mem_cons.mpr ⟨dL_law_611, List.forall_mem_cons.mpr ⟨dL_law_612, fun _ h => absurd h List.not_mem_nil⟩⟩⟩⟩) rfl ?_).1
      rw [show nI 1 + nI 1 = nI 2 from nI_add _ _]
      refine lsld C dL_law_613 (Nat.le_of_ble_eq_true rfl) (by decide) (by decide) e2 ?_
      show lG p l e s m below meth c D cT b (614, [(4, .int (nI 1)), (3, .ref 34), (2, .ref 18), (1, .ref 0), (0, .ref 1000)], [.int (nI 5), .ref 18, .int (nI 0)], _, 40, 20000)
      refine lcl C dL_law_614 rfl tn_X6_told rfl (p_told_5 _ _ _ _ _ _ _ _ _ _ _ _ _ _ _ _ _ _ _ _ _ _ _ _ _ _ _ _ _ _ _ _ _ _ _ _ _ _ _ _ _ hn h8) (Nat.le_of_ble_eq_true rfl) (Nat.le_of_ble_eq_true rfl) (Or.inl rfl) ?_
      show lG p l e s m below meth c D cT b (617, [(4, .int (nI 1)), (3, .ref 34), (2, .ref 18), (1, .ref 0), (0, .ref 1000)], [.int (nI 0), .int (nI 0)], _, 40, 20000)
      refine lcmp (t := 622) C dL_law_617 (by decide) (by decide) (by decide) true (cnd_eq (rfl)) ?_
      exact w_end C (Nat.le_of_ble_eq_true rfl)
    · skip
      refine (lgs C (pc' := 598) (L' := [(4, .int (nI 1)), (3, .ref 34), (2, .ref 18), (1, .ref 0), (0, .ref 1000)]) (S' := [.ref 0]) (by decide) (by decide) [(597, .aload_n 1, 1)] (List.forall_mem_cons.mpr ⟨dL_law_597, fun _ h => absurd h List.not_mem_nil⟩) rfl ?_).1
      refine (lgs C (pc' := 603) (L' := [(4, .int (nI 1)), (3, .ref 34), (2, .ref 18), (1, .ref 0), (0, .ref 1000)]) (S' := [.int (nI 1 + nI 1), .ref 1000, .ref 0]) (by decide) (by decide) [(598, .aload_n 0, 1), (599, .iload 4, 2), (601, .iconst 1, 1), (602, .iadd, 1)] (List.forall_mem_cons.mpr ⟨dL_law_598, List.forall_mem_cons.mpr ⟨dL_law_599, List.forall_mem_cons.mpr ⟨dL_law_601, List.forall_mem_cons.mpr ⟨dL_law_602, fun _ h => absurd h List.not_mem_nil⟩⟩⟩⟩) rfl ?_).1
      rw [show nI 1 + nI 1 = nI 2 from nI_add _ _]
      refine lsld C dL_law_603 (Nat.le_of_ble_eq_true rfl) (by decide) (by decide) e2 ?_
      show lG p l e s m below meth c D cT b (604, [(4, .int (nI 1)), (3, .ref 34), (2, .ref 18), (1, .ref 0), (0, .ref 1000)], [.int (nI 6), .ref 0], _, 40, 20000)
      refine lcl C dL_law_604 rfl tn_X5_told rfl (q_told_6 _ _ _ _ _ _ _ _ _ _ _ _ _ _ _ hn h8 (fun _ => rfl)) (Nat.le_of_ble_eq_true rfl) (Nat.le_of_ble_eq_true rfl) (Or.inl rfl) ?_
      show lG p l e s m below meth c D cT b (607, [(4, .int (nI 1)), (3, .ref 34), (2, .ref 18), (1, .ref 0), (0, .ref 1000)], [.int (nI 0)], _, 40, 20000)
      refine (lgs C (pc' := 608) (L' := [(4, .int (nI 1)), (3, .ref 34), (2, .ref 18), (1, .ref 0), (0, .ref 1000)]) (S' := [.ref 18, .int (nI 0)]) (by decide) (by decide) [(607, .aload_n 2, 1)] (List.forall_mem_cons.mpr ⟨dL_law_607, fun _ h => absurd h List.not_mem_nil⟩) rfl ?_).1
      refine (lgs C (pc' := 613) (L' := [(4, .int (nI 1)), (3, .ref 34), (2, .ref 18), (1, .ref 0), (0, .ref 1000)]) (S' := [.int (nI 1 + nI 1), .ref 1000, .ref 18, .int (nI 0)]) (by decide) (by decide) [(608, .aload_n 0, 1), (609, .iload 4, 2), (611, .iconst 1, 1), (612, .iadd, 1)] (List.forall_mem_cons.mpr ⟨dL_law_608, List.forall_mem_cons.mpr ⟨dL_law_609, List.forall_mem_cons.mpr ⟨dL_law_611, List.forall_mem_cons.mpr ⟨dL_law_612, fun _ h => absurd h List.not_mem_nil⟩⟩⟩⟩) rfl ?_).1
      rw [show nI 1 + nI 1 = nI 2 from nI_add _ _]
      refine lsld C dL_law_613 (Nat.le_of_ble_eq_true rfl) (by decide) (by decide) e2 ?_
      show lG p l e s m below meth c D cT b (614, [(4, .int (nI 1)), (3, .ref 34), (2, .ref 18), (1, .ref 0), (0, .ref 1000)], [.int (nI 6), .ref 18, .int (nI 0)], _, 40, 20000)
      refine lcl C dL_law_614 rfl tn_X6_told rfl (p_told_6 _ _ _ _ _ _ _ _ _ _ _ _ _ _ _ _ _ _ _ _ _ _ _ _ _ _ _ _ _ _ _ _ _ _ _ _ _ _ _ _ _ hn h8) (Nat.le_of_ble_eq_true rfl) (Nat.le_of_ble_eq_true rfl) (Or.inl rfl) ?_
      show lG p l e s m below meth c D cT b (617, [(4, .int (nI 1)), (3, .ref 34), (2, .ref 18), (1, .ref 0), (0, .ref 1000)], [.int (nI 0), .int (nI 0)], _, 40, 20000)
      refine lcmp (t := 622) C dL_law_617 (by decide) (by decide) (by decide) true (cnd_eq (rfl)) ?_
      exact w_end C (Nat.le_of_ble_eq_true rfl)
    · skip
      refine (lgs C (pc' := 598) (L' := [(4, .int (nI 1)), (3, .ref 34), (2, .ref 18), (1, .ref 0), (0, .ref 1000)]) (S' := [.ref 0]) (by decide) (by decide) [(597, .aload_n 1, 1)] (List.forall_mem_cons.mpr ⟨dL_law_597, fun _ h => absurd h List.not_mem_nil⟩) rfl ?_).1
      refine (lgs C (pc' := 603) (L' := [(4, .int (nI 1)), (3, .ref 34), (2, .ref 18), (1, .ref 0), (0, .ref 1000)]) (S' := [.int (nI 1 + nI 1), .ref 1000, .ref 0]) (by decide) (by decide) [(598, .aload_n 0, 1), (599, .iload 4, 2), (601, .iconst 1, 1), (602, .iadd, 1)] (List.forall_mem_cons.mpr ⟨dL_law_598, List.forall_mem_cons.mpr ⟨dL_law_599, List.forall_mem_cons.mpr ⟨dL_law_601, List.forall_mem_cons.mpr ⟨dL_law_602, fun _ h => absurd h List.not_mem_nil⟩⟩⟩⟩) rfl ?_).1
      rw [show nI 1 + nI 1 = nI 2 from nI_add _ _]
      refine lsld C dL_law_603 (Nat.le_of_ble_eq_true rfl) (by decide) (by decide) e2 ?_
      show lG p l e s m below meth c D cT b (604, [(4, .int (nI 1)), (3, .ref 34), (2, .ref 18), (1, .ref 0), (0, .ref 1000)], [.int (nI 7), .ref 0], _, 40, 20000)
      refine lcl C dL_law_604 rfl tn_X5_told rfl (q_told_7 _ _ _ _ _ _ _ _ _ _ _ _ _ _ _ hn h8 (fun _ => rfl)) (Nat.le_of_ble_eq_true rfl) (Nat.le_of_ble_eq_true rfl) (Or.inl rfl) ?_
      show lG p l e s m below meth c D cT b (607, [(4, .int (nI 1)), (3, .ref 34), (2, .ref 18), (1, .ref 0), (0, .ref 1000)], [.int (-nI 1)], _, 40, 20000)
      refine (lgs C (pc' := 608) (L' := [(4, .int (nI 1)), (3, .ref 34), (2, .ref 18), (1, .ref 0), (0, .ref 1000)]) (S' := [.ref 18, .int (-nI 1)]) (by decide) (by decide) [(607, .aload_n 2, 1)] (List.forall_mem_cons.mpr ⟨dL_law_607, fun _ h => absurd h List.not_mem_nil⟩) rfl ?_).1
      refine (lgs C (pc' := 613) (L' := [(4, .int (nI 1)), (3, .ref 34), (2, .ref 18), (1, .ref 0), (0, .ref 1000)]) (S' := [.int (nI 1 + nI 1), .ref 1000, .ref 18, .int (-nI 1)]) (by decide) (by decide) [(608, .aload_n 0, 1), (609, .iload 4, 2), (611, .iconst 1, 1), (612, .iadd, 1)] (List.forall_mem_cons.mpr ⟨dL_law_608, List.forall_mem_cons.mpr ⟨dL_law_609, List.forall_mem_cons.mpr ⟨dL_law_611, List.forall_mem_cons.mpr ⟨dL_law_612, fun _ h => absurd h List.not_mem_nil⟩⟩⟩⟩) rfl ?_).1
      rw [show nI 1 + nI 1 = nI 2 from nI_add _ _]
      refine lsld C dL_law_613 (Nat.le_of_ble_eq_true rfl) (by decide) (by decide) e2 ?_
      show lG p l e s m below meth c D cT b (614, [(4, .int (nI 1)), (3, .ref 34), (2, .ref 18), (1, .ref 0), (0, .ref 1000)], [.int (nI 7), .ref 18, .int (-nI 1)], _, 40, 20000)
      refine lcl C dL_law_614 rfl tn_X6_told rfl (p_told_7 _ _ _ _ _ _ _ _ _ _ _ _ _ _ _ _ _ _ _ _ _ _ _ _ _ _ _ _ _ _ _ _ _ _ _ _ _ _ _ _ _ hn h8) (Nat.le_of_ble_eq_true rfl) (Nat.le_of_ble_eq_true rfl) (Or.inl rfl) ?_
      show lG p l e s m below meth c D cT b (617, [(4, .int (nI 1)), (3, .ref 34), (2, .ref 18), (1, .ref 0), (0, .ref 1000)], [.int (-nI 1), .int (-nI 1)], _, 40, 20000)
      refine lcmp (t := 622) C dL_law_617 (by decide) (by decide) (by decide) true (cnd_eq (rfl)) ?_
      exact w_end C (Nat.le_of_ble_eq_true rfl)
    · skip
      refine (lgs C (pc' := 598) (L' := [(4, .int (nI 1)), (3, .ref 34), (2, .ref 18), (1, .ref 0), (0, .ref 1000)]) (S' := [.ref 0]) (by decide) (by decide) [(597, .aload_n 1, 1)] (List.forall_mem_cons.mpr ⟨dL_law_597, fun _ h => absurd h List.not_mem_nil⟩) rfl ?_).1
      refine (lgs C (pc' := 603) (L' := [(4, .int (nI 1)), (3, .ref 34), (2, .ref 18), (1, .ref 0), (0, .ref 1000)]) (S' := [.int (nI 1 + nI 1), .ref 1000, .ref 0]) (by decide) (by decide) [(598, .aload_n 0, 1), (599, .iload 4, 2), (601, .iconst 1, 1), (602, .iadd, 1)] (List.forall_mem_cons.mpr ⟨dL_law_598, List.forall_mem_cons.mpr ⟨dL_law_599, List.forall_mem_cons.mpr ⟨dL_law_601, List.forall_mem_cons.mpr ⟨dL_law_602, fun _ h => absurd h List.not_mem_nil⟩⟩⟩⟩) rfl ?_).1
      rw [show nI 1 + nI 1 = nI 2 from nI_add _ _]
      refine lsld C dL_law_603 (Nat.le_of_ble_eq_true rfl) (by decide) (by decide) e2 ?_
      show lG p l e s m below meth c D cT b (604, [(4, .int (nI 1)), (3, .ref 34), (2, .ref 18), (1, .ref 0), (0, .ref 1000)], [.int (nI 8), .ref 0], _, 40, 20000)
      refine lcl C dL_law_604 rfl tn_X5_told rfl (q_told_8 _ _ _ _ _ _ _ _ _ _ _ _ _ _ _ hn h8 (fun _ => rfl)) (Nat.le_of_ble_eq_true rfl) (Nat.le_of_ble_eq_true rfl) (Or.inl rfl) ?_
      show lG p l e s m below meth c D cT b (607, [(4, .int (nI 1)), (3, .ref 34), (2, .ref 18), (1, .ref 0), (0, .ref 1000)], [.int (nI 0)], _, 40, 20000)
      refine (lgs C (pc' := 608) (L' := [(4, .int (nI 1)), (3, .ref 34), (2, .ref 18), (1, .ref 0), (0, .ref 1000)]) (S' := [.ref 18, .int (nI 0)]) (by decide) (by decide) [(607, .aload_n 2, 1)] (List.forall_mem_cons.mpr ⟨dL_law_607, fun _ h => absurd h List.not_mem_nil⟩) rfl ?_).1
      refine (lgs C (pc' := 613) (L' := [(4, .int (nI 1)), (3, .ref 34), (2, .ref 18), (1, .ref 0), (0, .ref 1000)]) (S' := [.int (nI 1 + nI 1), .ref 1000, .ref 18, .int (nI 0)]) (by decide) (by decide) [(608, .aload_n 0, 1), (609, .iload 4, 2), (611, .iconst 1, 1), (612, .iadd, 1)] (List.forall_mem_cons.mpr ⟨dL_law_608, List.forall_mem_cons.mpr ⟨dL_law_609, List.forall_mem_cons.mpr ⟨dL_law_611, List.forall_mem_cons.mpr ⟨dL_law_612, fun _ h => absurd h List.not_mem_nil⟩⟩⟩⟩) rfl ?_).1
      rw [show nI 1 + nI 1 = nI 2 from nI_add _ _]
      refine lsld C dL_law_613 (Nat.le_of_ble_eq_true rfl) (by decide) (by decide) e2 ?_
      show lG p l e s m below meth c D cT b (614, [(4, .int (nI 1)), (3, .ref 34), (2, .ref 18), (1, .ref 0), (0, .ref 1000)], [.int (nI 8), .ref 18, .int (nI 0)], _, 40, 20000)
      refine lcl C dL_law_614 rfl tn_X6_told rfl (p_told_8 _ _ _ _ _ _ _ _ _ _ _ _ _ _ _ _ _ _ _ _ _ _ _ _ _ _ _ _ _ _ _ _ _ _ _ _ _ _ _ _ _ hn h8 (fun _ => rfl) (fun _ => rfl)) (Nat.le_of_ble_eq_true rfl) (Nat.le_of_ble_eq_true rfl) (Or.inl rfl) ?_
      show lG p l e s m below meth c D cT b (617, [(4, .int (nI 1)), (3, .ref 34), (2, .ref 18), (1, .ref 0), (0, .ref 1000)], [.int (nI 0), .int (nI 0)], _, 40, 20000)
      refine lcmp (t := 622) C dL_law_617 (by decide) (by decide) (by decide) true (cnd_eq (rfl)) ?_
      exact w_end C (Nat.le_of_ble_eq_true rfl)
    · skip
      refine (lgs C (pc' := 598) (L' := [(4, .int (nI 1)), (3, .ref 34), (2, .ref 18), (1, .ref 0), (0, .ref 1000)]) (S' := [.ref 0]) (by decide) (by decide) [(597, .aload_n 1, 1)] (List.forall_mem_cons.mpr ⟨dL_law_597, fun _ h => absurd h List.not_mem_nil⟩) rfl ?_).1
      refine (lgs C (pc' := 603) (L' := [(4, .int (nI 1)), (3, .ref 34), (2, .ref 18), (1, .ref 0), (0, .ref 1000)]) (S' := [.int (nI 1 + nI 1), .ref 1000, .ref 0]) (by decide) (by decide) [(598, .aload_n 0, 1), (599, .iload 4, 2), (601, .iconst 1, 1), (602, .iadd, 1)] (List.forall_mem_cons.mpr ⟨dL_law_598, List.forall_mem_cons.mpr ⟨dL_law_599, List.forall_mem_cons.mpr ⟨dL_law_601, List.forall_mem_cons.mpr ⟨dL_law_602, fun _ h => absurd h List.not_mem_nil⟩⟩⟩⟩) rfl ?_).1
      rw [show nI 1 + nI 1 = nI 2 from nI_add _ _]
      refine lsld C dL_law_603 (Nat.le_of_ble_eq_true rfl) (by decide) (by decide) e2 ?_
      show lG p l e s m below meth c D cT b (604, [(4, .int (nI 1)), (3, .ref 34), (2, .ref 18), (1, .ref 0), (0, .ref 1000)], [.int (nI 9), .ref 0], _, 40, 20000)
      refine lcl C dL_law_604 rfl tn_X5_told rfl (q_told_9 _ _ _ _ _ _ _ _ _ _ _ _ _ _ _ hn h8 (fun _ => rfl)) (Nat.le_of_ble_eq_true rfl) (Nat.le_of_ble_eq_true rfl) (Or.inl rfl) ?_
      show lG p l e s m below meth c D cT b (607, [(4, .int (nI 1)), (3, .ref 34), (2, .ref 18), (1, .ref 0), (0, .ref 1000)], [.int (nI n)], _, 40, 20000)
      refine (lgs C (pc' := 608) (L' := [(4, .int (nI 1)), (3, .ref 34), (2, .ref 18), (1, .ref 0), (0, .ref 1000)]) (S' := [.ref 18, .int (nI n)]) (by decide) (by decide) [(607, .aload_n 2, 1)] (List.forall_mem_cons.mpr ⟨dL_law_607, fun _ h => absurd h List.not_mem_nil⟩) rfl ?_).1
      refine (lgs C (pc' := 613) (L' := [(4, .int (nI 1)), (3, .ref 34), (2, .ref 18), (1, .ref 0), (0, .ref 1000)]) (S' := [.int (nI 1 + nI 1), .ref 1000, .ref 18, .int (nI n)]) (by decide) (by decide) [(608, .aload_n 0, 1), (609, .iload 4, 2), (611, .iconst 1, 1), (612, .iadd, 1)] (List.forall_mem_cons.mpr ⟨dL_law_608, List.forall_mem_cons.mpr ⟨dL_law_609, List.forall_mem_cons.mpr ⟨dL_law_611, List.forall_mem_cons.mpr ⟨dL_law_612, fun _ h => absurd h List.not_mem_nil⟩⟩⟩⟩) rfl ?_).1
      rw [show nI 1 + nI 1 = nI 2 from nI_add _ _]
      refine lsld C dL_law_613 (Nat.le_of_ble_eq_true rfl) (by decide) (by decide) e2 ?_
      show lG p l e s m below meth c D cT b (614, [(4, .int (nI 1)), (3, .ref 34), (2, .ref 18), (1, .ref 0), (0, .ref 1000)], [.int (nI 9), .ref 18, .int (nI n)], _, 40, 20000)
      refine lcl C dL_law_614 rfl tn_X6_told rfl (p_told_9 _ _ _ _ _ _ _ _ _ _ _ _ _ _ _ _ _ _ _ _ _ _ _ _ _ _ _ _ _ _ _ _ _ _ _ _ _ _ _ _ _ hn h8) (Nat.le_of_ble_eq_true rfl) (Nat.le_of_ble_eq_true rfl) (Or.inl rfl) ?_
      show lG p l e s m below meth c D cT b (617, [(4, .int (nI 1)), (3, .ref 34), (2, .ref 18), (1, .ref 0), (0, .ref 1000)], [.int (nI n), .int (nI n)], _, 40, 20000)
      refine lcmp (t := 622) C dL_law_617 (by decide) (by decide) (by decide) true (cnd_eq (rfl)) ?_
      exact w_end C (Nat.le_of_ble_eq_true rfl)
