/-! a call of the small machine is the machine's; a run is; the contract -/
section MXD
variable {p : Program} {l : Launch} {e : Env} {R : Room} {s : State} {m : MethodId} {args : Array Value} {below : List Frame} {meth : Method} {c : Code} {Q : State → Prop}
variable {D : va_G} {cl : List vw_C} {cT : Nat → ClassId} {A : Nat → Prop} {nL n0 : Nat} {ad0 : Nat → Nat} {ty : Nat → Nat → FieldType} {GT NW : List Jvm.Cond} {MT : Nat → Option mx_M} {M M' : mx_M}
theorem mx_cal_inv {i : Instr} {st : mx_S} {n : Nat} {av rest : List Value} (h : mx_cal MT M i st = some (n, M', av, rest)) :
    ∃ x, mx_fd (mx_lm M) x = some n ∧ MT n = some M' ∧ mx_rk M' < mx_rk M ∧ mx_np M' ≤ st.2.2.1.length ∧ 4 ≤ n ∧ mx_cs rest ≤ 8 ∧
      ((i = .invokestatic x ∧ mx_kd M' = 1 ∧ av = (st.2.2.1.take (mx_np M')).reverse ∧ rest = st.2.2.1.drop (mx_np M')) ∨
       (i = .invokevirtual x ∧ mx_kd M' = 0 ∧ ∃ a fs, st.2.2.1.drop (mx_np M') = .ref a :: rest ∧ av = .ref a :: (st.2.2.1.take (mx_np M')).reverse ∧ st.2.2.2.1[a]? = some (.inr (mx_ci M', fs))) ∨
       (i = .invokespecial x ∧ mx_kd M' = 2 ∧ ∃ a, st.2.2.1.drop (mx_np M') = .ref a :: rest ∧ av = .ref a :: (st.2.2.1.take (mx_np M')).reverse)) := by
  unfold mx_cal at h
  split at h
  · next x =>
    obtain ⟨n', hn, h⟩ := mx_bind h
    obtain ⟨M'', hM, h⟩ := mx_bind h
    cases hv : (mx_kd M'' == 1 && Nat.blt (mx_rk M'') (mx_rk M) && Nat.ble (mx_np M'') st.2.2.1.length && Nat.ble (mx_cs (st.2.2.1.drop (mx_np M''))) 8 && Nat.ble 4 n') with
    | false => rw [hv] at h; cases h
    | true =>
      rw [hv] at h
      cases h
      simp only [Bool.and_eq_true, beq_iff_eq] at hv
      obtain ⟨⟨⟨⟨h1, h2⟩, h3⟩, h4⟩, h5⟩ := hv
      exact ⟨x, hn, hM, Nat.le_of_ble_eq_true h2, Nat.le_of_ble_eq_true h3, Nat.le_of_ble_eq_true h5, Nat.le_of_ble_eq_true h4, Or.inl ⟨rfl, h1, rfl, rfl⟩⟩
  · next x =>
    obtain ⟨n', hn, h⟩ := mx_bind h
    obtain ⟨M'', hM, h⟩ := mx_bind h
    cases hv : (mx_kd M'' == 0 && Nat.blt (mx_rk M'') (mx_rk M) && Nat.ble (mx_np M'') st.2.2.1.length && Nat.ble 4 n') with
    | false => rw [hv] at h; cases h
    | true =>
      rw [hv] at h
      simp only [cond_true] at h
      simp only [Bool.and_eq_true, beq_iff_eq] at hv
      obtain ⟨⟨⟨h1, h2⟩, h3⟩, h5⟩ := hv
      split at h
      · next a rest' hdr =>
        split at h
        · next ci fs hw =>
          cases hc : (Nat.ble (mx_cs rest') 8 && ci == mx_ci M'') with
          | false => rw [hc] at h; cases h
          | true =>
            rw [hc] at h
            cases h
            simp only [Bool.and_eq_true, beq_iff_eq] at hc
            exact ⟨x, hn, hM, Nat.le_of_ble_eq_true h2, Nat.le_of_ble_eq_true h3, Nat.le_of_ble_eq_true h5, Nat.le_of_ble_eq_true hc.1, Or.inr (Or.inl ⟨rfl, h1, a, fs, hdr, rfl, by rw [← hc.2]; exact hw⟩)⟩
        · cases h
      · cases h
  · next x =>
    obtain ⟨n', hn, h⟩ := mx_bind h
    obtain ⟨M'', hM, h⟩ := mx_bind h
    cases hv : (mx_kd M'' == 2 && Nat.blt (mx_rk M'') (mx_rk M) && Nat.ble (mx_np M'') st.2.2.1.length && Nat.ble 4 n') with
    | false => rw [hv] at h; cases h
    | true =>
      rw [hv] at h
      simp only [cond_true] at h
      simp only [Bool.and_eq_true, beq_iff_eq] at hv
      obtain ⟨⟨⟨h1, h2⟩, h3⟩, h5⟩ := hv
      split at h
      · next a rest' hdr =>
        cases hc : Nat.ble (mx_cs rest') 8 with
        | false => rw [hc] at h; cases h
        | true =>
          rw [hc] at h
          cases h
          exact ⟨x, hn, hM, Nat.le_of_ble_eq_true h2, Nat.le_of_ble_eq_true h3, Nat.le_of_ble_eq_true h5, Nat.le_of_ble_eq_true hc, Or.inr (Or.inr ⟨rfl, h1, a, hdr, rfl⟩)⟩
      · cases h
  · cases h
set_option maxHeartbeats 1000000 in
theorem mx_call_ok (F : mx_F p R s m args meth c D cl cT A ty GT NW MT M) (hG : mx_good GT) (hN : mx_nest NW) (hNs : ∀ z ∈ NW, va_Nw z s) (hY : mx_okY cl GT M') {i : Instr} {st : mx_S} {n : Nat} {av rest : List Value} {q : mx_A} (hd : decode (mx_cc M) st.1 = .ok (i, 3)) (h : mx_cal MT M i st = some (n, M', av, rest))
    (hM : ∀ (ad : Nat → Nat) (sz : Nat), Met l (mx_y M') (mx_ws GT M') (mx_rm M' q) (mx_Pc D cl cT NW ad av st.2.2.2.1 sz) (mx_Qc D cl cT ad st.2.2.2.1 sz q) q.2.2.1 q.2.2.2 (va_A (mx_w cT ad st.2.2.2.1) sz))
    (hRf : mx_rk M ≤ R.frames) (hRl : 256 * mx_rk M ≤ R.locals) (hkc : st.2.2.2.2.1 + q.2.2.1 ≤ R.cells) (hks : st.2.2.2.2.2 + q.2.2.2 ≤ R.slots) (hkeep : q.2.2.1 = 0 ∨ (Nat.ble q.2.1.length 1000 && mx_okl st.2.2.2.1.length st.2.1 && rest.all (mx_okv st.2.2.2.1.length)) = true)
    (kk : mx_G p l e R s m args below meth c Q D cl cT A (mx_ml M) n0 ad0 (st.1 + 3, st.2.1, q.1.toList ++ rest, q.2.1, st.2.2.2.2.1 + q.2.2.1, st.2.2.2.2.2 + q.2.2.2)) : mx_G p l e R s m args below meth c Q D cl cT A (mx_ml M) n0 ad0 st := by
  obtain ⟨hx, hb, hml, hown, hts, hnm, hK, hA, hC, hJ, hL, hR, hYM⟩ := F
  obtain ⟨y1, y2, y3, y4, y5, y6, y7, y8, y9, y10, y11⟩ := hY
  obtain ⟨x, hq, hMT, hrk, hlen, h4n, hcs, hcase⟩ := mx_cal_inv h
  have hlink := (mx_okl_link hL hq).2.2.2.2 h4n M' hMT
  have hGI : GoodIn GT (mx_ws GT M') := mx_goodIn hG y3
  have hRoom : (mx_rm M' q).frames + 1 ≤ R.frames ∧ 8 + (mx_ml M' + 11) + (mx_rm M' q).locals ≤ R.locals := by
    refine ⟨?_, ?_⟩
    · show mx_rk M' + 1 ≤ R.frames
      omega
    · show 8 + (mx_ml M' + 11) + 256 * mx_rk M' ≤ R.locals
      omega
  intro ad H locs ls h1 h2 h3 h4 h5 h6 h7
  have hcr : 2 * (F0 m st.1 ls (st.2.2.1.map (mx_v ad))).monitorRoom + ((rest.map (mx_v ad)).map fun v => v.category).sum ≤ 8 := lv_room (by rw [mx_cs_v]; exact hcs)
  have hpre := mx_Pre (A := A) hN hNs hK h4 h5 av
  have S : CallFix p m c (mx_cc M) (mx_ml M) s args GT (mx_own M) := ⟨hx, hb, hml, hown, hts⟩
  have hB : Jvm.Cond.methodLink (mx_own M) x (mx_y M') ∈ GT → CallB R s args (mx_own M) x (mx_y M') (mx_cc M') (mx_ml M') (mx_ret M') (mx_ws GT M') (mx_rm M' q) q.2.2.1 q.2.2.2 (mx_np M') := fun hlk =>
    callB_of (mx_np M') hts hGI rfl rfl rfl (hts _ y4) (hts _ hlk) ⟨y5, y6, y7⟩ hRoom
  have hBN : ∀ host, Jvm.Cond.methodLinkNest (mx_own M) x (mx_y M') host ∈ NW → va_CN R s args (mx_own M) x (mx_y M') host (mx_cc M') (mx_ml M') (mx_ret M') (mx_ws GT M') (mx_rm M' q) q.2.2.1 q.2.2.2 (mx_np M') := fun host hlk =>
    va_cnB (mx_np M') hts hGI rfl rfl rfl (hNs _ hlk) (hts _ y4) ⟨y5, y6, y7⟩ hRoom
  have fin : ∀ (a : Array Value), va_Run p l e R s m args below meth c H locs st.2.2.2.2.1 st.2.2.2.2.2 q.2.2.1 q.2.2.2 (F0 m st.1 ls (st.2.2.1.map (mx_v ad))) (rest.map (mx_v ad)) (mx_Qc D cl cT ad st.2.2.2.1 H.size q a) (va_A (mx_w cT ad st.2.2.2.1) H.size) → W p l e R s m args below meth c H locs st.2.2.2.2.1 st.2.2.2.2.2 Q (F0 m st.1 ls (st.2.2.1.map (mx_v ad))) := by
    intro a hr
    refine mx_after hr h6 (mx_aF hA h5 h6) (fun ad' H1 locs1 g1 g2 g3 g4 g5 g6 => ?_)
    have eL : mx_l ad' st.2.1 = mx_l ad st.2.1 ∧ rest.map (mx_v ad') = rest.map (mx_v ad) := by
      rcases hkeep with hk | hk
      · rw [g2 hk]; exact ⟨rfl, rfl⟩
      · obtain ⟨k1, k2⟩ := Bool.and_eq_true_iff.mp hk
        obtain ⟨k0, k1⟩ := Bool.and_eq_true_iff.mp k1
        have k0 : q.2.1.length ≤ 1000 := Nat.le_of_ble_eq_true k0
        have g9 : ∀ k, k < st.2.2.2.1.length ∨ 1000 ≤ k → ad' k = ad k := fun k hk => g1 k (hk.imp id (fun z => Nat.le_trans k0 z))
        exact ⟨mx_l_ag k1 g9, mx_vs_ag k2 g9⟩
    have k0 := kk ad' H1 locs1 ls (fun k hk => by
      rcases hk with hk | hk
      · exact (g1 k (Or.inl (Nat.lt_of_lt_of_le hk h3))).trans (h1 k (Or.inl hk))
      · exact (g1 k (Or.inr hk)).trans (h1 k (Or.inr (Nat.le_trans g3 hk)))) (fun z => by
      have z1 : st.2.2.2.2.1 + q.2.2.1 = 0 := z
      rw [g2 (by omega)]; exact h2 (by omega)) (Nat.le_trans h3 g3) g4 g5 g6 (by rw [eL.1]; exact h7)
    have e9 : List.map (mx_v ad') (q.1.toList ++ rest) = (q.1.map (mx_v ad')).toList ++ rest.map (mx_v ad) := by
      rw [List.map_append, eL.2]
      congr 1
      cases q.1 <;> rfl
    rw [e9] at k0
    exact k0
  rcases hcase with ⟨rfl, hst, rfl, rfl⟩ | ⟨rfl, hst, a, fs, hdr, rfl, hw⟩ | ⟨rfl, hst, a, hdr, rfl⟩
  · rcases hlink with hlk | ⟨host, hlk⟩
    · exact fin _ (va_runS (As := (st.2.2.1.take (mx_np M')).reverse.map (mx_v ad)) (rest := (st.2.2.1.drop (mx_np M')).map (mx_v ad)) S (hM ad H.size) ⟨hB hlk, hts _ (y9 hst)⟩ hpre rfl (mx_tl hlen) h7.1 mx_td hcr hd ⟨hkc, hks⟩)
    · exact fin _ (va_runSN (As := (st.2.2.1.take (mx_np M')).reverse.map (mx_v ad)) (rest := (st.2.2.1.drop (mx_np M')).map (mx_v ad)) S (hM ad H.size) ⟨hBN host hlk, hts _ (y9 hst), trivial⟩ hpre rfl (mx_tl hlen) h7.1 mx_td hcr hd ⟨hkc, hks⟩)
  · have hstk : st.2.2.1.map (mx_v ad) = ((st.2.2.1.take (mx_np M')).reverse.map (mx_v ad)).reverse ++ .ref (ad a) :: rest.map (mx_v ad) := by
      rw [mx_td (n := mx_np M'), hdr]; rfl
    obtain ⟨i1, i2, rr, hrr, hcl⟩ := y10 hst
    have hrecv := va_recv hK h4 hrr (mx_w_at hw)
    rcases hlink with hlk | ⟨host, hlk⟩
    · exact fin _ (va_runV (C := (mx_y M').cls) (As := (st.2.2.1.take (mx_np M')).reverse.map (mx_v ad)) (rest := rest.map (mx_v ad)) S (hM ad H.size) ⟨hB hlk, hts _ i1, hts _ i2⟩ ⟨hpre.1, by rw [← hcl]; exact hrecv, hpre.2⟩ rfl (mx_tl hlen) h7.1 hstk hcr hd ⟨hkc, hks⟩)
    · exact fin _ (va_runVN (C := (mx_y M').cls) (As := (st.2.2.1.take (mx_np M')).reverse.map (mx_v ad)) (rest := rest.map (mx_v ad)) S (hM ad H.size) ⟨hBN host hlk, hts _ i1, hts _ i2⟩ ⟨hpre.1, by rw [← hcl]; exact hrecv, hpre.2⟩ rfl (mx_tl hlen) h7.1 hstk hcr hd ⟨hkc, hks⟩)
  · have hstk : st.2.2.1.map (mx_v ad) = ((st.2.2.1.take (mx_np M')).reverse.map (mx_v ad)).reverse ++ .ref (ad a) :: rest.map (mx_v ad) := by
      rw [mx_td (n := mx_np M'), hdr]; rfl
    obtain ⟨i1, i2, i3, i4⟩ := y11 hst
    rcases hlink with hlk | ⟨host, hlk⟩
    · exact fin _ (va_runI (As := (st.2.2.1.take (mx_np M')).reverse.map (mx_v ad)) (rest := rest.map (mx_v ad)) S (hM ad H.size) ⟨by rw [← i3]; exact hB hlk, i2, hts _ i1⟩ hpre rfl (mx_tl hlen) h7.1 hstk hcr hd ⟨hkc, hks⟩)
    · exact fin _ (va_runIN (As := (st.2.2.1.take (mx_np M')).reverse.map (mx_v ad)) (rest := rest.map (mx_v ad)) S (hM ad H.size) ⟨by rw [← i3]; exact hBN host hlk, i2, hts _ i1⟩ hpre rfl (mx_tl hlen) h7.1 hstk hcr hd ⟨hkc, hks⟩)
end MXD
