/-! arrays, makings, the JDK's steps, and all of them -/
section MXU
variable {p : Program} {l : Launch} {e : Env} {R : Room} {s : State} {m : MethodId} {args : Array Value} {below : List Frame} {meth : Method} {c : Code} {Q : State → Prop}
variable {D : va_G} {cl : List vw_C} {cT : Nat → ClassId} {A : Nat → Prop} {nL n0 : Nat} {ad0 : Nat → Nat} {ty : Nat → Nat → FieldType} {GT NW : List Jvm.Cond} {MT : Nat → Option mx_M} {M : mx_M}
theorem mx_alen_ok (F : mx_F p R s m args meth c D cl cT A ty GT NW MT M) {st st' : mx_S} (hd : decode (mx_cc M) st.1 = .ok (.arraylength, 1)) (h : mx_alen st = some st')
    (kk : mx_G p l e R s m args below meth c Q D cl cT A nL n0 ad0 st') : mx_G p l e R s m args below meth c Q D cl cT A nL n0 ad0 st := by
  obtain ⟨hx, hb, hml, hown, hts, hnm, hK, hA, hC, hJ, hL, hR, hY⟩ := F
  unfold mx_alen at h
  split at h
  · next pc L a r w n =>
    split at h
    · next t x hw =>
      cases htt : Nat.blt t 3 with
      | false => rw [htt] at h; cases h
      | true =>
        rw [htt] at h
        cases h
        have ht : t < 3 := Nat.le_of_ble_eq_true htt
        have : ∃ ty0, (mx_tys cT)[t]? = some (cT t, ty0) := by
          rcases (show t = 0 ∨ t = 1 ∨ t = 2 by omega) with rfl | rfl | rfl
          · exact ⟨_, rfl⟩
          · exact ⟨_, rfl⟩
          · exact ⟨_, rfl⟩
        obtain ⟨ty0, hty⟩ := this
        intro ad H locs ls h1 h2 h3 h4 h5 h6 h7
        exact va_alen hx hb hK h4 a t (mx_w_at hw) hty rfl hd (kk ad H locs ls h1 h2 h3 h4 h5 h6 h7)
    · cases h
  · cases h
theorem mx_ald_inv {t : Nat} {st st' : mx_S} (h : mx_ald t st = some st') : ∃ pc L i a r w n N f, st = (pc, L, .int i :: .ref a :: r, w, n) ∧ w[a]? = some (.inl (t, N, .inl f)) ∧ vp_in i N ∧ st' = (pc + 1, L, .int (f i.toNatClampNeg) :: r, w, n) := by
  unfold mx_ald at h
  split at h
  · next pc L i a r w n =>
    split at h
    · next t' N f hw =>
      split at h
      · next hc =>
        cases h
        obtain ⟨rfl, hc⟩ := hc
        exact ⟨_, _, _, _, _, _, _, _, _, rfl, hw, hc, rfl⟩
      · cases h
    · cases h
  · cases h
theorem mx_ast_inv {t : Nat} {g : Int32 → Int32} {st st' : mx_S} (h : mx_ast t g st = some st') : ∃ pc L x i a r w n N f, st = (pc, L, .int x :: .int i :: .ref a :: r, w, n) ∧ w[a]? = some (.inl (t, N, .inl f)) ∧ vp_in i N ∧ st' = (pc + 1, L, r, w.set a (.inl (t, N, .inl (upd f i.toNatClampNeg (g x)))), n) := by
  unfold mx_ast at h
  split at h
  · next pc L x i a r w n =>
    split at h
    · next t' N f hw =>
      split at h
      · next hc =>
        cases h
        obtain ⟨rfl, hc⟩ := hc
        exact ⟨_, _, _, _, _, _, _, _, _, _, rfl, hw, hc, rfl⟩
      · cases h
    · cases h
  · cases h
theorem mx_iald_ok (F : mx_F p R s m args meth c D cl cT A ty GT NW MT M) {st st' : mx_S} (hd : decode (mx_cc M) st.1 = .ok (.iaload, 1)) (h : mx_ald 0 st = some st')
    (kk : mx_G p l e R s m args below meth c Q D cl cT A nL n0 ad0 st') : mx_G p l e R s m args below meth c Q D cl cT A nL n0 ad0 st := by
  obtain ⟨hx, hb, hml, hown, hts, hnm, hK, hA, hC, hJ, hL, hR, hY⟩ := F
  obtain ⟨pc, L, i, a, r, w, n, N, f, rfl, hw, hi, rfl⟩ := mx_ald_inv h
  intro ad H locs ls h1 h2 h3 h4 h5 h6 h7
  exact va_iald hx hb hK h4 a 0 (mx_w_at hw) rfl hi hd (kk ad H locs ls h1 h2 h3 h4 h5 h6 h7)
theorem mx_zald_ok (F : mx_F p R s m args meth c D cl cT A ty GT NW MT M) {st st' : mx_S} (hd : decode (mx_cc M) st.1 = .ok (.baload, 1)) (h : mx_ald 1 st = some st')
    (kk : mx_G p l e R s m args below meth c Q D cl cT A nL n0 ad0 st') : mx_G p l e R s m args below meth c Q D cl cT A nL n0 ad0 st := by
  obtain ⟨hx, hb, hml, hown, hts, hnm, hK, hA, hC, hJ, hL, hR, hY⟩ := F
  obtain ⟨pc, L, i, a, r, w, n, N, f, rfl, hw, hi, rfl⟩ := mx_ald_inv h
  intro ad H locs ls h1 h2 h3 h4 h5 h6 h7
  exact va_zald hx hb hK h4 a 1 (mx_w_at hw) rfl hi hd (kk ad H locs ls h1 h2 h3 h4 h5 h6 h7)
theorem mx_iast_ok (F : mx_F p R s m args meth c D cl cT A ty GT NW MT M) {st st' : mx_S} (hd : decode (mx_cc M) st.1 = .ok (.iastore, 1)) (h : mx_ast 0 (fun x => x) st = some st')
    (kk : mx_G p l e R s m args below meth c Q D cl cT A nL n0 ad0 st') : mx_G p l e R s m args below meth c Q D cl cT A nL n0 ad0 st := by
  obtain ⟨hx, hb, hml, hown, hts, hnm, hK, hA, hC, hJ, hL, hR, hY⟩ := F
  obtain ⟨pc, L, x, i, a, r, w, n, N, f, rfl, hw, hi, rfl⟩ := mx_ast_inv h
  intro ad H locs ls h1 h2 h3 h4 h5 h6 h7
  refine va_iast hx hb hK h4 h5 h6 a 0 (mx_w_at hw) rfl hi hd (fun H1 locs1 g1 g2 g3 => ?_)
  have hset : (mx_w cT ad w).set a (ad a, .inl (cT 0, N, .inl (upd f i.toNatClampNeg x))) = mx_w cT ad (w.set a (.inl (0, N, .inl (upd f i.toNatClampNeg x)))) := mx_w_set (c := .inl (0, N, .inl (upd f i.toNatClampNeg x)))
  have g1 : va_P D cl (mx_w cT ad (w.set a (.inl (0, N, .inl (upd f i.toNatClampNeg x))))) H1 := by rw [← hset]; exact g1
  have g2 : va_D A (mx_w cT ad (w.set a (.inl (0, N, .inl (upd f i.toNatClampNeg x))))) := by rw [← hset]; exact g2
  exact kk ad H1 locs1 ls (mx_h1 h1) h2 (by rw [List.length_set]; exact h3) g1 g2 g3 h7
theorem mx_zast_ok (F : mx_F p R s m args meth c D cl cT A ty GT NW MT M) {st st' : mx_S} (hd : decode (mx_cc M) st.1 = .ok (.bastore, 1)) (h : mx_ast 1 (vp_nar .boolean) st = some st')
    (kk : mx_G p l e R s m args below meth c Q D cl cT A nL n0 ad0 st') : mx_G p l e R s m args below meth c Q D cl cT A nL n0 ad0 st := by
  obtain ⟨hx, hb, hml, hown, hts, hnm, hK, hA, hC, hJ, hL, hR, hY⟩ := F
  obtain ⟨pc, L, x, i, a, r, w, n, N, f, rfl, hw, hi, rfl⟩ := mx_ast_inv h
  intro ad H locs ls h1 h2 h3 h4 h5 h6 h7
  refine va_zast hx hb hK h4 h5 h6 a 1 (mx_w_at hw) rfl hi hd (fun H1 locs1 g1 g2 g3 => ?_)
  have hset : (mx_w cT ad w).set a (ad a, .inl (cT 1, N, .inl (upd f i.toNatClampNeg (vp_nar .boolean x)))) = mx_w cT ad (w.set a (.inl (1, N, .inl (upd f i.toNatClampNeg (vp_nar .boolean x))))) := mx_w_set (c := .inl (1, N, .inl (upd f i.toNatClampNeg (vp_nar .boolean x))))
  have g1 : va_P D cl (mx_w cT ad (w.set a (.inl (1, N, .inl (upd f i.toNatClampNeg (vp_nar .boolean x)))))) H1 := by rw [← hset]; exact g1
  have g2 : va_D A (mx_w cT ad (w.set a (.inl (1, N, .inl (upd f i.toNatClampNeg (vp_nar .boolean x)))))) := by rw [← hset]; exact g2
  exact kk ad H1 locs1 ls (mx_h1 h1) h2 (by rw [List.length_set]; exact h3) g1 g2 g3 h7
theorem mx_all_inv {st : mx_S} (h : mx_all st = true) : st.2.2.2.1.length < 1000 ∧ mx_okl st.2.2.2.1.length st.2.1 = true ∧ st.2.2.1.all (mx_okv st.2.2.2.1.length) = true ∧ st.2.2.2.1.all (mx_okc st.2.2.2.1.length) = true := by
  unfold mx_all at h
  obtain ⟨h1, h2⟩ := Bool.and_eq_true_iff.mp h
  obtain ⟨h1, h3⟩ := Bool.and_eq_true_iff.mp h1
  obtain ⟨h0, h1⟩ := Bool.and_eq_true_iff.mp h1
  exact ⟨Nat.le_of_ble_eq_true h0, h1, h3, h2⟩
theorem mx_dflt {n : Nat} {t : FieldType} : mx_okv n (defaultValue t) = true := by cases t <;> rfl
theorem mx_dflt_v {ad : Nat → Nat} {t : FieldType} : mx_v ad (defaultValue t) = defaultValue t := by cases t <;> rfl
theorem mx_newc_ok (F : mx_F p R s m args meth c D cl cT A ty GT NW MT M) {x : Nat} {st st' : mx_S} (hd : decode (mx_cc M) st.1 = .ok (.new x, 3)) (h : mx_newc cl ty (mx_fd (mx_lc M) x) st = some st') (hkc : st'.2.2.2.2.1 ≤ R.cells) (hks : st'.2.2.2.2.2 ≤ R.slots)
    (kk : mx_G p l e R s m args below meth c Q D cl cT A nL n0 ad0 st') : mx_G p l e R s m args below meth c Q D cl cT A nL n0 ad0 st := by
  obtain ⟨hx, hb, hml, hown, hts, hnm, hK, hA, hC, hJ, hL, hR, hY⟩ := F
  unfold mx_newc at h
  split at h
  · next ci hq =>
    split at h
    · next rr hrr =>
      cases hal : mx_all st with
      | false => rw [hal] at h; cases h
      | true =>
        rw [hal] at h
        cases h
        obtain ⟨a0, a1, a2, a3⟩ := mx_all_inv hal
        obtain ⟨rr', e1, e2⟩ := hL.2.1 _ (mx_fd_mem hq)
        have : rr' = rr := Option.some.inj (e1.symm.trans hrr)
        subst this
        obtain ⟨c1, c2, c3, c4, c5, c6⟩ := hC _ _ e1
        intro ad H locs ls h1 h2 h3 h4 h5 h6 h7
        refine va_new (Ts := GT) hx hb hts c1 (ty ci) c2 hown (hts _ e2) (hts _ c4) (hts _ c5) hK h4 h5 h6 hA e1 (fs := ((List.range rr'.2.2).map (fun j => defaultValue (ty ci j)))) ?_ hkc hks hd (fun q H1 g1 g2 g3 => ?_)
        · intro j hj
          simp [vp_V, hj]
        · have hcc : mx_c cT ad (.inr (ci, (List.range rr'.2.2).map (fun j => defaultValue (ty ci j)))) = .inr (ci, (List.range rr'.2.2).map (fun j => defaultValue (ty ci j))) := by
            show Sum.inr (ci, List.map (mx_v ad) ((List.range rr'.2.2).map (fun j => defaultValue (ty ci j)))) = _
            rw [List.map_map]
            congr 2
            apply List.map_congr_left
            intro j _
            exact mx_dflt_v
          have hok : mx_okc st.2.2.2.1.length (.inr (ci, (List.range rr'.2.2).map (fun j => defaultValue (ty ci j)))) = true := by
            show List.all _ _ = true
            rw [List.all_eq_true]
            intro v hv
            obtain ⟨j, -, rfl⟩ := List.mem_map.mp hv
            exact mx_dflt
          rw [← hcc, mx_w_push a0 a3 hok] at g1 g2
          have k0 := kk (mx_ext ad st.2.2.2.1.length q) H1 locs ls (mx_h1p a0 h3 h1) (fun z => absurd z (Nat.succ_ne_zero _)) (by rw [List.length_append]; exact Nat.le_trans h3 (Nat.le_add_right _ _)) g1 g2 g3 (by rw [mx_l_ag a1 (mx_ext_ag a0)]; exact h7)
          have e3 : List.map (mx_v (mx_ext ad st.2.2.2.1.length q)) (Value.ref st.2.2.2.1.length :: st.2.2.1) = .ref q :: st.2.2.1.map (mx_v ad) := by
            rw [List.map_cons, mx_vs_ag a2 (mx_ext_ag a0)]
            show Value.ref (mx_ext ad st.2.2.2.1.length q st.2.2.2.1.length) :: _ = _
            simp [mx_ext]
          rw [e3] at k0
          exact k0
    · cases h
  · cases h
theorem mx_newa_ok1 (F : mx_F p R s m args meth c D cl cT A ty GT NW MT M) {at0 : ArrayType} {pc : Nat} {L : mx_L} {n : Int32} {r : List Value} {w : mx_W} {kc ks t : Nat} {ty0 : FieldType} {a0 : vp_A} (hd : decode (mx_cc M) pc = .ok (.newarray at0, 2)) (hty : newarray.typeOf at0 = ty0) (ht : (mx_tys cT)[t]? = some (cT t, ty0)) (hga : Jvm.Cond.arrayClass ty0 ∈ GT) (hRA : va_RA s (cT t) ty0 = (s.vm.findClass ("[" ++ ty0.toString) = some (cT t)))
    (hal : mx_all (pc, L, .int n :: r, w, kc, ks) = true) (hn : ¬ n < 0) (hby : n.toNatClampNeg * componentBytes ty0 ≤ 536870912) (ha : ∀ cA : ClassId, vp_cell cA a0 = arrV cA n.toNatClampNeg (fun _ => defaultValue ty0)) (hkc : kc + 1 ≤ R.cells) (hks : ks + n.toNatClampNeg ≤ R.slots)
    (kk : mx_G p l e R s m args below meth c Q D cl cT A nL n0 ad0 (pc + 2, L, .ref w.length :: r, w ++ [.inl (t, a0)], kc + 1, ks + n.toNatClampNeg)) : mx_G p l e R s m args below meth c Q D cl cT A nL n0 ad0 (pc, L, .int n :: r, w, kc, ks) := by
  obtain ⟨hx, hb, hml, hown, hts, hnm, hK, hA, hC, hJ, hL, hR, hY⟩ := F
  subst hty
  obtain ⟨aL, a1, a2, a3⟩ := mx_all_inv hal
  have hK2 := (hK.2 t _ ht).2
  rw [hRA] at hK2
  intro ad H locs ls h1 h2 h3 h4 h5 h6 h7
  refine va_newaK hx hb (hts _ hga) rfl hd rfl hn rfl hby hkc hks rfl (fun H1 cA e1 z1 o1 hAr hNm => ?_)
  have hcA : cA = cT t := Option.some.inj (hNm.symm.trans hK2)
  subst hcA
  have hk : ∀ (k : Nat) (x : Nat × va_E), (mx_w cT ad w)[k]? = some x → H1[x.1]? = H[x.1]? := fun k x hx => o1 x.1 ((h4 k x hx).lt)
  have g1 : va_P D cl (mx_w cT ad w ++ [(H.size, .inl (cT t, a0))]) H1 := (h4.kept hk).app (fun k x hx => by
    have hz : k < 1 := (List.getElem?_eq_some_iff.mp hx).1
    rw [show k = 0 by omega] at hx
    cases hx
    show H1[H.size]? = some (vp_cell _ _)
    rw [ha]
    exact e1)
  have g2 : va_D A (mx_w cT ad w ++ [(H.size, .inl (cT t, a0))]) := h5.push h4 rfl (hA _ h6.1)
  have g3 : va_S A s.heap H1 locs := ⟨Nat.le_trans h6.1 (by omega), fun x h1 h2 => (o1 x (Nat.lt_of_lt_of_le h1 h6.1)).trans (h6.2.1 x h1 h2), h6.2.2⟩
  have hpush : mx_w cT ad w ++ [(H.size, .inl (cT t, a0))] = mx_w cT (mx_ext ad w.length H.size) (w ++ [.inl (t, a0)]) := mx_w_push (c := .inl (t, a0)) aL a3 rfl
  rw [hpush] at g1 g2
  have k0 := kk (mx_ext ad w.length H.size) H1 locs ls (mx_h1p aL h3 h1) (fun z => absurd z (Nat.succ_ne_zero _)) (by rw [List.length_append]; exact Nat.le_trans h3 (Nat.le_add_right _ _)) g1 g2 g3 (by rw [mx_l_ag a1 (mx_ext_ag aL)]; exact h7)
  have e3 : List.map (mx_v (mx_ext ad w.length H.size)) (Value.ref w.length :: r) = .ref H.size :: r.map (mx_v ad) := by
    have a4 : r.all (mx_okv w.length) = true := (Bool.and_eq_true_iff.mp (show (mx_okv w.length (.int n) && r.all (mx_okv w.length)) = true from a2)).2
    rw [List.map_cons, mx_vs_ag a4 (mx_ext_ag aL)]
    show Value.ref (mx_ext ad w.length H.size w.length) :: _ = _
    simp [mx_ext]
  rw [e3] at k0
  exact k0
end MXU
