/-! the JDK's steps, and all steps together -/
section MXV
variable {p : Program} {l : Launch} {e : Env} {R : Room} {s : State} {m : MethodId} {args : Array Value} {below : List Frame} {meth : Method} {c : Code} {Q : State → Prop}
variable {D : va_G} {cl : List vw_C} {cT : Nat → ClassId} {A : Nat → Prop} {nL n0 : Nat} {ad0 : Nat → Nat} {ty : Nat → Nat → FieldType} {GT NW : List Jvm.Cond} {MT : Nat → Option mx_M} {M : mx_M}
theorem mx_newa_ok (F : mx_F p R s m args meth c D cl cT A ty GT NW MT M) {at0 : ArrayType} {st st' : mx_S} (hd : decode (mx_cc M) st.1 = .ok (.newarray at0, 2)) (h : mx_newa at0 st = some st') (hkc : st'.2.2.2.2.1 ≤ R.cells) (hks : st'.2.2.2.2.2 ≤ R.slots)
    (kk : mx_G p l e R s m args below meth c Q D cl cT A nL n0 ad0 st') : mx_G p l e R s m args below meth c Q D cl cT A nL n0 ad0 st := by
  have hJ := F.2.2.2.2.2.2.2.2.2.1
  obtain ⟨j1, j2, j3, j4, j5, j6, j7, j8, j9, j10, j11, j12, j13⟩ := hJ
  unfold mx_newa at h
  split at h
  · next pc L n r w kc ks =>
    cases hal : mx_all (pc, L, .int n :: r, w, kc, ks) with
    | false => rw [hal] at h; cases h
    | true =>
      rw [hal] at h
      simp only [cond_true] at h
      split at h
      · next hc =>
        split at h
        · cases h
          exact mx_newa_ok1 F hd rfl (t := 0) rfl j11 rfl hal hc.1 (by show _ * 4 ≤ _; omega) (fun cA => vp_cell_i cA _ _) hkc hks kk
        · cases h
          exact mx_newa_ok1 F hd rfl (t := 1) rfl j12 rfl hal hc.1 (by show _ * 1 ≤ _; omega) (fun cA => vp_cell_i cA _ _) hkc hks kk
        · cases h
          exact mx_newa_ok1 F hd rfl (t := 2) rfl j13 rfl hal hc.1 (by show _ * 8 ≤ _; omega) (fun cA => vp_cell_l cA _ _) hkc hks kk
        · cases h
      · cases h
  · cases h
theorem mx_cs_v {ad : Nat → Nat} {r : List Value} : ((r.map (mx_v ad)).map fun v => v.category).sum = mx_cs r := by
  unfold mx_cs
  rw [List.map_map]
  congr 1
  apply List.map_congr_left
  intro v _
  exact mx_v_cat ad v
theorem mx_okl_link (hL : mx_okL cl GT NW MT M) {x n : Nat} (hq : mx_fd (mx_lm M) x = some n) : (n = 0 → Jvm.Cond.methodLink (mx_own M) x Lib.objectInit ∈ GT) ∧ (n = 1 → Jvm.Cond.methodLink (mx_own M) x Lib.Math.max.name ∈ GT) ∧ (n = 2 → Jvm.Cond.methodLink (mx_own M) x Lib.Math.min.name ∈ GT) ∧ (n = 3 → Jvm.Cond.methodLink (mx_own M) x arraycopyName ∈ GT) ∧ (4 ≤ n → ∀ M', MT n = some M' → Jvm.Cond.methodLink (mx_own M) x (mx_y M') ∈ GT ∨ ∃ host, Jvm.Cond.methodLinkNest (mx_own M) x (mx_y M') host ∈ NW) := by
  have h := hL.2.2.2.2 _ (mx_fd_mem hq)
  dsimp only at h
  rcases h with h | h | h | h | h
  · exact ⟨fun _ => h.2, fun z => by omega, fun z => by omega, fun z => by omega, fun z => by omega⟩
  · exact ⟨fun z => by omega, fun _ => h.2, fun z => by omega, fun z => by omega, fun z => by omega⟩
  · exact ⟨fun z => by omega, fun z => by omega, fun _ => h.2, fun z => by omega, fun z => by omega⟩
  · exact ⟨fun z => by omega, fun z => by omega, fun z => by omega, fun _ => h.2, fun z => by omega⟩
  · exact ⟨fun z => by omega, fun z => by omega, fun z => by omega, fun z => by omega, fun _ => h.2⟩
theorem mx_oinit_ok (F : mx_F p R s m args meth c D cl cT A ty GT NW MT M) {x : Nat} {st st' : mx_S} (hd : decode (mx_cc M) st.1 = .ok (.invokespecial x, 3)) (hq : mx_fd (mx_lm M) x = some 0) (hrk : 0 < mx_rk M) (h : mx_j0 st = some st')
    (kk : mx_G p l e R s m args below meth c Q D cl cT A (mx_ml M) n0 ad0 st') : mx_G p l e R s m args below meth c Q D cl cT A (mx_ml M) n0 ad0 st := by
  obtain ⟨hx, hb, hml, hown, hts, hnm, hK, hA, hC, hJ, hL, hR, hY⟩ := F
  obtain ⟨j1, j2, j3, j4, j5, j6, j7, j8, j9, j10, j11, j12, j13⟩ := hJ
  have hlk := (mx_okl_link hL hq).1 rfl
  obtain ⟨hR1, hR2⟩ := hR hrk
  unfold mx_j0 at h
  split at h
  · next pc L a r k =>
    cases hcs : Nat.ble (mx_cs r) 8 with
    | false => rw [hcs] at h; cases h
    | true =>
      rw [hcs] at h
      cases h
      have hcs : mx_cs r ≤ 8 := Nat.le_of_ble_eq_true hcs
      intro ad H locs ls h1 h2 h3 h4 h5 h6 h7
      refine W.objInit hx hb hown (hts _ hlk) (hts _ j1) (hts _ j2) rfl (h7.1.trans hml.symm) (a := ad a) (rest := r.map (mx_v ad)) rfl hd hR1 ?_ (kk ad H locs ls h1 h2 h3 h4 h5 h6 h7)
      show 2 * 0 + ((r.map (mx_v ad)).map fun v => v.category).sum + 12 ≤ R.locals
      rw [mx_cs_v]
      omega
  · cases h
theorem mx_mm_inv {f : Int32 → Int32 → Int32} {st st' : mx_S} (h : mx_mm f st = some st') : ∃ pc L y x r k, st = (pc, L, .int y :: .int x :: r, k) ∧ st' = (pc + 3, L, .int (f x y) :: r, k) ∧ mx_cs r ≤ 8 := by
  unfold mx_mm at h
  split at h
  · next pc L y x r k =>
    cases hcs : Nat.ble (mx_cs r) 8 with
    | false => rw [hcs] at h; cases h
    | true =>
      rw [hcs] at h
      cases h
      exact ⟨_, _, _, _, _, _, rfl, rfl, Nat.le_of_ble_eq_true hcs⟩
  · cases h
theorem mx_max_ok (F : mx_F p R s m args meth c D cl cT A ty GT NW MT M) {x : Nat} {st st' : mx_S} (hd : decode (mx_cc M) st.1 = .ok (.invokestatic x, 3)) (hq : mx_fd (mx_lm M) x = some 1) (hrk : 0 < mx_rk M) (h : mx_mm (fun x y => if x < y then y else x) st = some st') (hkc : st.2.2.2.2.1 ≤ R.cells) (hks : st.2.2.2.2.2 ≤ R.slots)
    (kk : mx_G p l e R s m args below meth c Q D cl cT A (mx_ml M) n0 ad0 st') : mx_G p l e R s m args below meth c Q D cl cT A (mx_ml M) n0 ad0 st := by
  obtain ⟨hx, hb, hml, hown, hts, hnm, hK, hA, hC, hJ, hL, hR, hY⟩ := F
  obtain ⟨j1, j2, j3, j4, j5, j6, j7, j8, j9, j10, j11, j12, j13⟩ := hJ
  have hlk := (mx_okl_link hL hq).2.1 rfl
  obtain ⟨hR1, hR2⟩ := hR hrk
  obtain ⟨pc, L, y, z, r, k, rfl, rfl, hcs⟩ := mx_mm_inv h
  intro ad H locs ls h1 h2 h3 h4 h5 h6 h7
  exact va_mmax hx hb (hml.trans h7.1.symm) hown (hts _ hlk) (hts _ j3) (hts _ j5) (hts _ j6) hR1 (by rw [mx_cs_v]; omega) hkc hks hd (kk ad H locs ls h1 h2 h3 h4 h5 h6 h7)
theorem mx_min_ok (F : mx_F p R s m args meth c D cl cT A ty GT NW MT M) {x : Nat} {st st' : mx_S} (hd : decode (mx_cc M) st.1 = .ok (.invokestatic x, 3)) (hq : mx_fd (mx_lm M) x = some 2) (hrk : 0 < mx_rk M) (h : mx_mm (fun x y => if y < x then y else x) st = some st') (hkc : st.2.2.2.2.1 ≤ R.cells) (hks : st.2.2.2.2.2 ≤ R.slots)
    (kk : mx_G p l e R s m args below meth c Q D cl cT A (mx_ml M) n0 ad0 st') : mx_G p l e R s m args below meth c Q D cl cT A (mx_ml M) n0 ad0 st := by
  obtain ⟨hx, hb, hml, hown, hts, hnm, hK, hA, hC, hJ, hL, hR, hY⟩ := F
  obtain ⟨j1, j2, j3, j4, j5, j6, j7, j8, j9, j10, j11, j12, j13⟩ := hJ
  have hlk := (mx_okl_link hL hq).2.2.1 rfl
  obtain ⟨hR1, hR2⟩ := hR hrk
  obtain ⟨pc, L, y, z, r, k, rfl, rfl, hcs⟩ := mx_mm_inv h
  intro ad H locs ls h1 h2 h3 h4 h5 h6 h7
  exact va_mmin hx hb (hml.trans h7.1.symm) hown (hts _ hlk) (hts _ j4) (hts _ j5) (hts _ j7) hR1 (by rw [mx_cs_v]; omega) hkc hks hd (kk ad H locs ls h1 h2 h3 h4 h5 h6 h7)
theorem mx_cp_ok (F : mx_F p R s m args meth c D cl cT A ty GT NW MT M) {x : Nat} {st st' : mx_S} (hd : decode (mx_cc M) st.1 = .ok (.invokestatic x, 3)) (hq : mx_fd (mx_lm M) x = some 3) (hrk : 0 < mx_rk M) (h : mx_cp st = some st')
    (kk : mx_G p l e R s m args below meth c Q D cl cT A (mx_ml M) n0 ad0 st') : mx_G p l e R s m args below meth c Q D cl cT A (mx_ml M) n0 ad0 st := by
  obtain ⟨hx, hb, hml, hown, hts, hnm, hK, hA, hC, hJ, hL, hR, hY⟩ := F
  obtain ⟨j1, j2, j3, j4, j5, j6, j7, j8, j9, j10, j11, j12, j13⟩ := hJ
  have hlk := (mx_okl_link hL hq).2.2.2.1 rfl
  obtain ⟨hR1, hR2⟩ := hR hrk
  unfold mx_cp at h
  split at h
  · next pc L z dp a1 sp a0 r w k =>
    split at h
    · next t0 m0 f t1 m1 g hw0 hw1 =>
      split at h
      · next hc =>
        obtain ⟨rfl, rfl, hcs, g1, g2, g3, g4, g5⟩ := hc
        cases h
        have hcs : mx_cs r ≤ 8 := Nat.le_of_ble_eq_true hcs
        intro ad H locs ls h1 h2 h3 h4 h5 h6 h7
        refine va_copyi hx hb (hml.trans h7.1.symm) hown (hts _ hlk) (hts _ j8) (hts _ j9) (hts _ j10) hK h4 h5 h6 a0 a1 0 0 (mx_w_at hw0) (mx_w_at hw1) rfl rfl rfl g1 g2 g3 g4 g5 (fun _ _ => rfl) hR1 ?_ hd (fun H1 locs1 e1 e2 e3 => ?_)
        · rw [mx_cs_v]
          have : nativeFrameWords "java/lang/System" "arraycopy" 5 ≤ 64 := by decide
          omega
        · have hset : (mx_w cT ad w).set a1 (ad a1, .inl (cT 0, m1, .inl (va_cpy f g sp.toNatClampNeg dp.toNatClampNeg z.toNatClampNeg))) = mx_w cT ad (w.set a1 (.inl (0, m1, .inl (va_cpy f g sp.toNatClampNeg dp.toNatClampNeg z.toNatClampNeg)))) := mx_w_set (c := .inl (0, m1, .inl (va_cpy f g sp.toNatClampNeg dp.toNatClampNeg z.toNatClampNeg)))
          exact kk ad H1 locs1 ls (mx_h1 h1) h2 (by rw [List.length_set]; exact h3) (by rw [← hset]; exact e1) (by rw [← hset]; exact e2) e3 h7
      · cases h
    · cases h
  · cases h
theorem mx_sta_ok (F : mx_F p R s m args meth c D cl cT A ty GT NW MT M) {n i : Nat} {st st' : mx_S} (h : mx_sta n i (mx_ml M) st = some st')
    (row : ∀ (x : Nat) (r : List Value) (H : Heap) (locs : List Loc) (cells slots : Nat) (ls : Array Slot) (lv lv' : List (Nat × Value)), lv_has ls (mx_ml M) lv → i < mx_ml M → (i, Value.ref x) :: lv.filter (fun q => !(q.1 == i) && !(q.1 + 1 == i && q.2.category == 2)) = lv' → (∀ ls' : Array Slot, lv_has ls' (mx_ml M) lv' → W p l e R s m args below meth c H locs cells slots Q (F0 m (st.1 + n) ls' r)) → W p l e R s m args below meth c H locs cells slots Q (F0 m st.1 ls (.ref x :: r)))
    (kk : mx_G p l e R s m args below meth c Q D cl cT A (mx_ml M) n0 ad0 st') : mx_G p l e R s m args below meth c Q D cl cT A (mx_ml M) n0 ad0 st := by
  unfold mx_sta at h
  split at h
  · obtain ⟨hi, h⟩ := mx_bif h
    cases h
    intro ad H locs ls h1 h2 h3 h4 h5 h6 h7
    exact row _ _ H locs _ _ ls _ _ h7 (Nat.le_of_ble_eq_true hi) rfl (fun ls' hl => kk ad H locs ls' h1 h2 h3 h4 h5 h6 (mx_st1_has (v := .ref _) hl))
  · cases h
theorem mx_lald_inv {st st' : mx_S} (h : mx_lald st = some st') : ∃ pc L i a r w n N f, st = (pc, L, .int i :: .ref a :: r, w, n) ∧ w[a]? = some (.inl (2, N, .inr (.inl f))) ∧ vp_in i N ∧ st' = (pc + 1, L, .long (f i.toNatClampNeg) :: r, w, n) := by
  unfold mx_lald at h
  split at h
  · next pc L i a r w n =>
    split at h
    · next t' N f hw =>
      split at h
      · next hc =>
        cases h
        obtain ⟨rfl, hc⟩ := hc
        exact ⟨_, _, _, _, _, _, _, _, _, rfl, hw, hc, rfl⟩
      · cases h
    · cases h
  · cases h
theorem mx_last_inv {st st' : mx_S} (h : mx_last st = some st') : ∃ pc L x i a r w n N f, st = (pc, L, .long x :: .int i :: .ref a :: r, w, n) ∧ w[a]? = some (.inl (2, N, .inr (.inl f))) ∧ vp_in i N ∧ st' = (pc + 1, L, r, w.set a (.inl (2, N, .inr (.inl (vp_updL f i.toNatClampNeg x)))), n) := by
  unfold mx_last at h
  split at h
  · next pc L x i a r w n =>
    split at h
    · next t' N f hw =>
      split at h
      · next hc =>
        cases h
        obtain ⟨rfl, hc⟩ := hc
        exact ⟨_, _, _, _, _, _, _, _, _, _, rfl, hw, hc, rfl⟩
      · cases h
    · cases h
  · cases h
theorem mx_lald_ok (F : mx_F p R s m args meth c D cl cT A ty GT NW MT M) {st st' : mx_S} (hd : decode (mx_cc M) st.1 = .ok (.laload, 1)) (h : mx_lald st = some st')
    (kk : mx_G p l e R s m args below meth c Q D cl cT A nL n0 ad0 st') : mx_G p l e R s m args below meth c Q D cl cT A nL n0 ad0 st := by
  obtain ⟨hx, hb, hml, hown, hts, hnm, hK, hA, hC, hJ, hL, hR, hY⟩ := F
  obtain ⟨pc, L, i, a, r, w, n, N, f, rfl, hw, hi, rfl⟩ := mx_lald_inv h
  intro ad H locs ls h1 h2 h3 h4 h5 h6 h7
  exact va_lald hx hb hK h4 a 2 (mx_w_at hw) rfl hi hd (kk ad H locs ls h1 h2 h3 h4 h5 h6 h7)
theorem mx_last_ok (F : mx_F p R s m args meth c D cl cT A ty GT NW MT M) {st st' : mx_S} (hd : decode (mx_cc M) st.1 = .ok (.lastore, 1)) (h : mx_last st = some st')
    (kk : mx_G p l e R s m args below meth c Q D cl cT A nL n0 ad0 st') : mx_G p l e R s m args below meth c Q D cl cT A nL n0 ad0 st := by
  obtain ⟨hx, hb, hml, hown, hts, hnm, hK, hA, hC, hJ, hL, hR, hY⟩ := F
  obtain ⟨pc, L, x, i, a, r, w, n, N, f, rfl, hw, hi, rfl⟩ := mx_last_inv h
  intro ad H locs ls h1 h2 h3 h4 h5 h6 h7
  refine va_last hx hb hK h4 h5 h6 a 2 (mx_w_at hw) rfl hi hd (fun H1 locs1 g1 g2 g3 => ?_)
  have hset : (mx_w cT ad w).set a (ad a, .inl (cT 2, N, .inr (.inl (vp_updL f i.toNatClampNeg x)))) = mx_w cT ad (w.set a (.inl (2, N, .inr (.inl (vp_updL f i.toNatClampNeg x))))) := mx_w_set (c := .inl (2, N, .inr (.inl (vp_updL f i.toNatClampNeg x))))
  have g1 : va_P D cl (mx_w cT ad (w.set a (.inl (2, N, .inr (.inl (vp_updL f i.toNatClampNeg x)))))) H1 := by rw [← hset]; exact g1
  have g2 : va_D A (mx_w cT ad (w.set a (.inl (2, N, .inr (.inl (vp_updL f i.toNatClampNeg x)))))) := by rw [← hset]; exact g2
  exact kk ad H1 locs1 ls (mx_h1 h1) h2 (by rw [List.length_set]; exact h3) g1 g2 g3 h7
end MXV
