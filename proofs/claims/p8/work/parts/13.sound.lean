/-! one step of the small machine is the machine's -/
section MXT
variable {p : Program} {l : Launch} {e : Env} {R : Room} {s : State} {m : MethodId} {args : Array Value} {below : List Frame} {meth : Method} {c : Code} {Q : State → Prop}
variable {D : va_G} {cl : List vw_C} {cT : Nat → ClassId} {A : Nat → Prop} {nL n0 : Nat} {ad0 : Nat → Nat} {ty : Nat → Nat → FieldType} {GT NW : List Jvm.Cond} {MT : Nat → Option mx_M} {M : mx_M}
/-- what holds of the method's own start -/
abbrev mx_F (p : Program) (R : Room) (s : State) (m : MethodId) (args : Array Value) (meth : Method) (c : Code) (D : va_G) (cl : List vw_C) (cT : Nat → ClassId) (A : Nat → Prop) (ty : Nat → Nat → FieldType) (GT NW : List Jvm.Cond) (MT : Nat → Option mx_M) (M : mx_M) : Prop :=
  p.tables.exec = Jvm.exec ∧ c.code = mx_cc M ∧ c.maxLocals = mx_ml M ∧ s.vm.findClass (mx_own M) = some m.cls ∧ (∀ w ∈ GT, w.before args s = true) ∧ (mx_kd M = 2 → meth.name = (mx_y M).name) ∧ va_K D cl (mx_tys cT) s ∧ (∀ q, s.heap.size ≤ q → A q) ∧ (∀ ci r, cl[ci]? = some r → mx_okC GT ty ci r) ∧ mx_okJ GT ∧ mx_okL cl GT NW MT M ∧ (0 < mx_rk M → 1 ≤ R.frames ∧ 128 ≤ R.locals) ∧ (mx_kd M = 2 → (mx_y M).name = "<init>" ∧ ∃ rr, cl[mx_ci M]? = some rr ∧ rr.1 = mx_own M)
theorem mx_sti_ok (F : mx_F p R s m args meth c D cl cT A ty GT NW MT M) {n i : Nat} {st st' : mx_S} (h : mx_sti n i (mx_ml M) st = some st')
    (row : ∀ (x : Int32) (r : List Value) (H : Heap) (locs : List Loc) (cells slots : Nat) (ls : Array Slot) (lv lv' : List (Nat × Value)), lv_has ls (mx_ml M) lv → i < mx_ml M → (i, Value.int x) :: lv.filter (fun q => !(q.1 == i) && !(q.1 + 1 == i && q.2.category == 2)) = lv' → (∀ ls' : Array Slot, lv_has ls' (mx_ml M) lv' → W p l e R s m args below meth c H locs cells slots Q (F0 m (st.1 + n) ls' r)) → W p l e R s m args below meth c H locs cells slots Q (F0 m st.1 ls (.int x :: r)))
    (kk : mx_G p l e R s m args below meth c Q D cl cT A (mx_ml M) n0 ad0 st') : mx_G p l e R s m args below meth c Q D cl cT A (mx_ml M) n0 ad0 st := by
  unfold mx_sti at h
  split at h
  · obtain ⟨hi, h⟩ := mx_bif h
    cases h
    intro ad H locs ls h1 h2 h3 h4 h5 h6 h7
    exact row _ _ H locs _ _ ls _ _ h7 (Nat.le_of_ble_eq_true hi) rfl (fun ls' hl => kk ad H locs ls' h1 h2 h3 h4 h5 h6 (mx_st1_has (v := .int _) hl))
  · cases h
theorem mx_ldi_ok {n i : Nat} {st st' : mx_S} (h : mx_ldi n i st = some st')
    (row : ∀ (x : Int32) (r : List Value) (H : Heap) (locs : List Loc) (cells slots : Nat) (ls : Array Slot), ls[i]? = some (.val (.int x)) → W p l e R s m args below meth c H locs cells slots Q (F0 m (st.1 + n) ls (.int x :: r)) → W p l e R s m args below meth c H locs cells slots Q (F0 m st.1 ls r))
    (kk : mx_G p l e R s m args below meth c Q D cl cT A nL n0 ad0 st') : mx_G p l e R s m args below meth c Q D cl cT A nL n0 ad0 st := by
  unfold mx_ldi at h
  split at h
  · next x hq =>
    cases h
    intro ad H locs ls h1 h2 h3 h4 h5 h6 h7
    exact row x _ H locs _ _ ls (mx_lvv h7 hq) (kk ad H locs ls h1 h2 h3 h4 h5 h6 h7)
  · cases h
theorem mx_ldl_ok {n i : Nat} {st st' : mx_S} (h : mx_ldl n i st = some st')
    (row : ∀ (x : Int64) (r : List Value) (H : Heap) (locs : List Loc) (cells slots : Nat) (ls : Array Slot), ls[i]? = some (.val (.long x)) → W p l e R s m args below meth c H locs cells slots Q (F0 m (st.1 + n) ls (.long x :: r)) → W p l e R s m args below meth c H locs cells slots Q (F0 m st.1 ls r))
    (kk : mx_G p l e R s m args below meth c Q D cl cT A nL n0 ad0 st') : mx_G p l e R s m args below meth c Q D cl cT A nL n0 ad0 st := by
  unfold mx_ldl at h
  split at h
  · next x hq =>
    cases h
    intro ad H locs ls h1 h2 h3 h4 h5 h6 h7
    exact row x _ H locs _ _ ls (mx_lvv h7 hq) (kk ad H locs ls h1 h2 h3 h4 h5 h6 h7)
  · cases h
theorem mx_lda_ok {n i : Nat} {st st' : mx_S} (h : mx_lda n i st = some st')
    (row : ∀ (x : Nat) (r : List Value) (H : Heap) (locs : List Loc) (cells slots : Nat) (ls : Array Slot), ls[i]? = some (.val (.ref x)) → W p l e R s m args below meth c H locs cells slots Q (F0 m (st.1 + n) ls (.ref x :: r)) → W p l e R s m args below meth c H locs cells slots Q (F0 m st.1 ls r))
    (kk : mx_G p l e R s m args below meth c Q D cl cT A nL n0 ad0 st') : mx_G p l e R s m args below meth c Q D cl cT A nL n0 ad0 st := by
  unfold mx_lda at h
  split at h
  · next x hq =>
    cases h
    intro ad H locs ls h1 h2 h3 h4 h5 h6 h7
    exact row (ad x) _ H locs _ _ ls (mx_lvv h7 hq) (kk ad H locs ls h1 h2 h3 h4 h5 h6 h7)
  · cases h
theorem mx_inc_ok (F : mx_F p R s m args meth c D cl cT A ty GT NW MT M) {i : Nat} {n : Int} {st st' : mx_S} (hd : decode (mx_cc M) st.1 = .ok (.iinc i n, 3)) (h : mx_inc i (mx_ml M) n st = some st')
    (kk : mx_G p l e R s m args below meth c Q D cl cT A (mx_ml M) n0 ad0 st') : mx_G p l e R s m args below meth c Q D cl cT A (mx_ml M) n0 ad0 st := by
  unfold mx_inc at h
  split at h
  · next x hq =>
    obtain ⟨hi, h⟩ := mx_bif h
    cases h
    intro ad H locs ls h1 h2 h3 h4 h5 h6 h7
    obtain ⟨k, hk⟩ := List.getElem?_of_mem (mx_l_mem (ad := ad) hq)
    exact lv_iinc F.1 F.2.1 hd h7 hk (by rw [mx_k_eq]) (Nat.le_of_ble_eq_true hi) rfl (fun ls' hl => kk ad H locs ls' h1 h2 h3 h4 h5 h6 (mx_st1_has (v := .int _) hl))
  · cases h
theorem mx_goto_ok (F : mx_F p R s m args meth c D cl cT A ty GT NW MT M) {off : Int} {st st' : mx_S} (hd : decode (mx_cc M) st.1 = .ok (.goto off, 3)) (h : mx_goto off st = some st')
    (kk : mx_G p l e R s m args below meth c Q D cl cT A nL n0 ad0 st') : mx_G p l e R s m args below meth c Q D cl cT A nL n0 ad0 st := by
  obtain ⟨h0, rfl⟩ := mx_goto_inv h
  intro ad H locs ls h1 h2 h3 h4 h5 h6 h7
  exact lv_goto F.1 F.2.1 hd (mx_to_eq h0) (kk ad H locs ls h1 h2 h3 h4 h5 h6 h7)
theorem mx_dec {q : Prop} [Decidable q] {X : Nat → Prop} {a b : Nat} (h : X (cond (decide q) a b)) : (q → X a) ∧ (¬ q → X b) := by
  by_cases hq : q
  · rw [decide_eq_true hq] at h; exact ⟨fun _ => h, fun k => absurd hq k⟩
  · rw [decide_eq_false hq] at h; exact ⟨fun k => absurd k hq, fun _ => h⟩
theorem mx_if_ok (F : mx_F p R s m args meth c D cl cT A ty GT NW MT M) {cd : Jvm.ClassFile.Cond} {off : Int} {st st' : mx_S} (hd : decode (mx_cc M) st.1 = .ok (.ifCond cd off, 3)) (h : mx_if cd off st = some st')
    (kk : mx_G p l e R s m args below meth c Q D cl cT A nL n0 ad0 st') : mx_G p l e R s m args below meth c Q D cl cT A nL n0 ad0 st := by
  unfold mx_if at h
  split at h
  · obtain ⟨h0, h⟩ := mx_bif h
    have ht := mx_to_eq (of_decide_eq_true h0)
    cases h
    intro ad H locs ls h1 h2 h3 h4 h5 h6 h7
    have k0 := kk ad H locs ls h1 h2 h3 h4 h5 h6 h7
    cases cd with
    | eq => obtain ⟨kt, kf⟩ := mx_dec (X := fun z => W p l e R s m args below meth c H locs _ _ Q (F0 m z ls _)) k0; exact lv_if_eq F.1 F.2.1 hd ht kt kf
    | ne => obtain ⟨kt, kf⟩ := mx_dec (X := fun z => W p l e R s m args below meth c H locs _ _ Q (F0 m z ls _)) k0; exact lv_if_ne F.1 F.2.1 hd ht kt (fun z => kf (fun y => y z))
    | lt => obtain ⟨kt, kf⟩ := mx_dec (X := fun z => W p l e R s m args below meth c H locs _ _ Q (F0 m z ls _)) k0; exact lv_if_lt F.1 F.2.1 hd ht kt kf
    | ge => obtain ⟨kt, kf⟩ := mx_dec (X := fun z => W p l e R s m args below meth c H locs _ _ Q (F0 m z ls _)) k0; exact lv_if_ge F.1 F.2.1 hd ht kt kf
    | gt => obtain ⟨kt, kf⟩ := mx_dec (X := fun z => W p l e R s m args below meth c H locs _ _ Q (F0 m z ls _)) k0; exact lv_if_gt F.1 F.2.1 hd ht kt kf
    | le => obtain ⟨kt, kf⟩ := mx_dec (X := fun z => W p l e R s m args below meth c H locs _ _ Q (F0 m z ls _)) k0; exact lv_if_le F.1 F.2.1 hd ht kt kf
  · cases h
theorem mx_cmp_ok (F : mx_F p R s m args meth c D cl cT A ty GT NW MT M) {cd : Jvm.ClassFile.Cond} {off : Int} {st st' : mx_S} (hd : decode (mx_cc M) st.1 = .ok (.if_icmp cd off, 3)) (h : mx_cmp cd off st = some st')
    (kk : mx_G p l e R s m args below meth c Q D cl cT A nL n0 ad0 st') : mx_G p l e R s m args below meth c Q D cl cT A nL n0 ad0 st := by
  unfold mx_cmp at h
  split at h
  · obtain ⟨h0, h⟩ := mx_bif h
    have ht := mx_to_eq (of_decide_eq_true h0)
    cases h
    intro ad H locs ls h1 h2 h3 h4 h5 h6 h7
    have k0 := kk ad H locs ls h1 h2 h3 h4 h5 h6 h7
    cases cd with
    | eq => obtain ⟨kt, kf⟩ := mx_dec (X := fun z => W p l e R s m args below meth c H locs _ _ Q (F0 m z ls _)) k0; exact lv_icmp_eq F.1 F.2.1 hd ht kt kf
    | ne => obtain ⟨kt, kf⟩ := mx_dec (X := fun z => W p l e R s m args below meth c H locs _ _ Q (F0 m z ls _)) k0; exact lv_icmp_ne F.1 F.2.1 hd ht kt (fun z => kf (fun y => y z))
    | lt => obtain ⟨kt, kf⟩ := mx_dec (X := fun z => W p l e R s m args below meth c H locs _ _ Q (F0 m z ls _)) k0; exact lv_icmp_lt F.1 F.2.1 hd ht kt kf
    | ge => obtain ⟨kt, kf⟩ := mx_dec (X := fun z => W p l e R s m args below meth c H locs _ _ Q (F0 m z ls _)) k0; exact lv_icmp_ge F.1 F.2.1 hd ht kt kf
    | gt => obtain ⟨kt, kf⟩ := mx_dec (X := fun z => W p l e R s m args below meth c H locs _ _ Q (F0 m z ls _)) k0; exact lv_icmp_gt F.1 F.2.1 hd ht kt kf
    | le => obtain ⟨kt, kf⟩ := mx_dec (X := fun z => W p l e R s m args below meth c H locs _ _ Q (F0 m z ls _)) k0; exact lv_icmp_le F.1 F.2.1 hd ht kt kf
  · cases h
theorem mx_tab_ok (F : mx_F p R s m args meth c D cl cT A ty GT NW MT M) {d lo hi : Int} {offs : Array Int} {len : Nat} {st st' : mx_S} (hd : decode (mx_cc M) st.1 = .ok (.tableswitch d lo hi offs, len)) (h : mx_tab d lo hi offs st = some st')
    (kk : mx_G p l e R s m args below meth c Q D cl cT A nL n0 ad0 st') : mx_G p l e R s m args below meth c Q D cl cT A nL n0 ad0 st := by
  unfold mx_tab at h
  split at h
  · split at h
    · next hc =>
      obtain ⟨h0, rfl⟩ := mx_goto_inv h
      intro ad H locs ls h1 h2 h3 h4 h5 h6 h7
      exact lv_tableOut F.1 F.2.1 hd hc (mx_to_eq h0) (kk ad H locs ls h1 h2 h3 h4 h5 h6 h7)
    · next hc =>
      split at h
      · next off ho =>
        obtain ⟨h0, rfl⟩ := mx_goto_inv h
        intro ad H locs ls h1 h2 h3 h4 h5 h6 h7
        exact lv_tableIn F.1 F.2.1 hd (fun z => hc (Or.inl z)) (fun z => hc (Or.inr z)) ho (mx_to_eq h0) (kk ad H locs ls h1 h2 h3 h4 h5 h6 h7)
      · cases h
  · cases h
theorem mx_getf_ok (F : mx_F p R s m args meth c D cl cT A ty GT NW MT M) {x : Nat} {st st' : mx_S} (hd : decode (mx_cc M) st.1 = .ok (.getfield x, 3)) (h : mx_getf (mx_fd (mx_lf M) x) st = some st')
    (kk : mx_G p l e R s m args below meth c Q D cl cT A nL n0 ad0 st') : mx_G p l e R s m args below meth c Q D cl cT A nL n0 ad0 st := by
  obtain ⟨hx, hb, hml, hown, hts, hnm, hK, hA, hC, hJ, hL, hR, hY⟩ := F
  unfold mx_getf at h
  split at h
  · next ci k pc L a r w n hq =>
    split at h
    · next cj fs hw =>
      split at h
      · next v hv =>
        have hci : cj = ci := by
          cases hcc : (cj == ci) with
          | false => rw [hcc] at h; cases h
          | true => simpa using hcc
        subst hci
        rw [show (cj == cj) = true from beq_self_eq_true cj] at h
        cases h
        obtain ⟨rr, e1, e2, e3⟩ := hL.1 _ (mx_fd_mem hq)
        intro ad H locs ls h1 h2 h3 h4 h5 h6 h7
        refine va_get (Ts := GT) hx hb hts (hC _ _ e1).1 hown hK h4 a (fs := fs.map (mx_v ad)) (mx_w_at hw) e1 k e2 (hts _ e3) (fun _ h9 => h9) (v := mx_v ad v) ?_ hd (kk ad H locs ls h1 h2 h3 h4 h5 h6 h7)
        rw [List.getElem?_map, hv]
        rfl
      · cases h
    · cases h
  · cases h
theorem mx_putf_ok (F : mx_F p R s m args meth c D cl cT A ty GT NW MT M) {x : Nat} {st st' : mx_S} (hd : decode (mx_cc M) st.1 = .ok (.putfield x, 3)) (h : mx_putf cl ty M (mx_fd (mx_lf M) x) st = some st')
    (kk : mx_G p l e R s m args below meth c Q D cl cT A nL n0 ad0 st') : mx_G p l e R s m args below meth c Q D cl cT A nL n0 ad0 st := by
  obtain ⟨hx, hb, hml, hown, hts, hnm, hK, hA, hC, hJ, hL, hR, hY⟩ := F
  unfold mx_putf at h
  split at h
  · next ci k pc L v a r w n hq =>
    split at h
    · next cj fs hw =>
      obtain ⟨hci, h⟩ := mx_bif h
      simp only [Bool.and_eq_true, beq_iff_eq] at hci
      obtain ⟨⟨hci, hkl⟩, hft⟩ := hci
      subst hci
      have hkl : k < fs.length := Nat.le_of_ble_eq_true hkl
      split at h
      · next rr hrr =>
        obtain ⟨hfin, h⟩ := mx_bif h
        cases h
        obtain ⟨rr', e1, e2, e3⟩ := hL.1 _ (mx_fd_mem hq)
        have : rr' = rr := Option.some.inj (e1.symm.trans hrr)
        subst this
        obtain ⟨c1, c2, c3, c4, c5, c6⟩ := hC _ _ e1
        intro ad H locs ls h1 h2 h3 h4 h5 h6 h7
        obtain ⟨f1, f2⟩ := mx_fit_ok ad hft
        have hset : (mx_w cT ad w).set a (ad a, .inr (cj, (fs.map (mx_v ad)).set k (mx_v ad v))) = mx_w cT ad (w.set a (.inr (cj, fs.set k v))) := by
          rw [← mx_w_set]
          show _ = (mx_w cT ad w).set a (ad a, .inr (cj, (fs.set k v).map (mx_v ad)))
          rw [List.map_set]
        cases hf : (rr'.2.1 k).2.2.2 with
        | false =>
          refine va_put (Ts := GT) hx hb hts c1 (ty cj) c2 c3 hown hK h4 h5 h6 a (fs := fs.map (mx_v ad)) (mx_w_at hw) e1 k e2 (hts _ e3) (fun _ h9 => h9) hf (c2 k e2) f1 f2 (by rw [List.length_map]; exact hkl) hd (fun H1 locs1 g1 g2 g3 => ?_)
          rw [hset] at g1 g2
          exact kk ad H1 locs1 ls (mx_h1 h1) h2 (by rw [List.length_set]; exact h3) g1 g2 g3 h7
        | true =>
          rw [hf] at hfin
          simp only [Bool.not_true, Bool.false_or, Bool.and_eq_true, beq_iff_eq] at hfin
          obtain ⟨k1, k2⟩ := hfin
          obtain ⟨z2, r3, z4, z5⟩ := hY k1
          have hrr3 : r3 = rr' := by rw [← k2] at z4; exact Option.some.inj (z4.symm.trans e1)
          subst hrr3
          have hdec : (r3.2.1 k).1 = mx_own M := (c6 k e2).trans z5
          refine va_putF (Ts := GT) hx hb hts c1 (ty cj) c2 c3 hown hK h4 h5 h6 a (fs := fs.map (mx_v ad)) (mx_w_at hw) e1 k e2 (hts _ e3) (fun _ h9 => h9) hf ((hnm k1).trans z2) hdec (c2 k e2) f1 f2 (by rw [List.length_map]; exact hkl) hd (fun H1 locs1 g1 g2 g3 => ?_)
          rw [hset] at g1 g2
          exact kk ad H1 locs1 ls (mx_h1 h1) h2 (by rw [List.length_set]; exact h3) g1 g2 g3 h7
      · cases h
    · cases h
  · cases h
end MXT
