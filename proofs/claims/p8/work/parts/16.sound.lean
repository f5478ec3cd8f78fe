/-! every step -/
section MXW
variable {p : Program} {l : Launch} {e : Env} {R : Room} {s : State} {m : MethodId} {args : Array Value} {below : List Frame} {meth : Method} {c : Code} {Q : State → Prop}
variable {D : va_G} {cl : List vw_C} {cT : Nat → ClassId} {A : Nat → Prop} {nL n0 : Nat} {ad0 : Nat → Nat} {ty : Nat → Nat → FieldType} {GT NW : List Jvm.Cond} {MT : Nat → Option mx_M} {M : mx_M}
theorem mx_bind {α β : Type} {o : Option α} {f : α → Option β} {b : β} (h : o.bind f = some b) : ∃ a, o = some a ∧ f a = some b := by
  cases o with
  | none => cases h
  | some a => exact ⟨a, rfl, h⟩
set_option maxHeartbeats 1000000 in
theorem mx_go_ok (F : mx_F p R s m args meth c D cl cT A ty GT NW MT M) {i : Instr} {len : Nat} {st st' : mx_S} (hd : decode (mx_cc M) st.1 = .ok (i, len)) (h : mx_go cl ty M i len st = some st') (hkc0 : st.2.2.2.2.1 ≤ R.cells) (hks0 : st.2.2.2.2.2 ≤ R.slots) (hkc : st'.2.2.2.2.1 ≤ R.cells) (hks : st'.2.2.2.2.2 ≤ R.slots)
    (kk : mx_G p l e R s m args below meth c Q D cl cT A (mx_ml M) n0 ad0 st') : mx_G p l e R s m args below meth c Q D cl cT A (mx_ml M) n0 ad0 st := by
  have F0' := F
  obtain ⟨hx, hb, hml, hown, hts, hnm, hK, hA, hC, hJ, hL, hR, hY⟩ := F0'
  unfold mx_go at h
  cases hlo : mx_lok i len with
  | false => rw [hlo] at h; cases h
  | true =>
    rw [hlo] at h
    simp only [cond_true] at h
    unfold mx_stp at h
    split at h
    · -- iconst
      obtain rfl : len = 1 := by simpa [mx_lok] using hlo
      cases h
      exact mx_pure (fun ad H locs ls hl k => lv_iconst hx hb hd (mx_k_eq _) k) kk
    · obtain rfl : len = 2 := by simpa [mx_lok] using hlo
      obtain ⟨hr, h⟩ := mx_bif h
      simp only [Bool.and_eq_true, decide_eq_true_eq] at hr
      cases h
      exact mx_pure (fun ad H locs ls hl k => lv_bipush hx hb hd (mx_k_8 hr.1 hr.2) k) kk
    · obtain rfl : len = 3 := by simpa [mx_lok] using hlo
      obtain ⟨hr, h⟩ := mx_bif h
      simp only [Bool.and_eq_true, decide_eq_true_eq] at hr
      cases h
      exact mx_pure (fun ad H locs ls hl k => lv_sipush hx hb hd (mx_k_16 hr.1 hr.2) k) kk
    · obtain rfl : len = 2 := by simpa [mx_lok] using hlo
      obtain ⟨v, hv, h⟩ := mx_bind h
      cases h
      exact mx_pure (fun ad H locs ls hl k => lv_ldc hx hb hown (hts _ (hL.2.2.1 _ (mx_fd_mem hv))) hd k) kk
    · obtain rfl : len = 3 := by simpa [mx_lok] using hlo
      obtain ⟨v, hv, h⟩ := mx_bind h
      cases h
      exact mx_pure (fun ad H locs ls hl k => lv_ldcw hx hb hown (hts _ (hL.2.2.1 _ (mx_fd_mem hv))) hd k) kk
    · obtain rfl : len = 3 := by simpa [mx_lok] using hlo
      obtain ⟨v, hv, h⟩ := mx_bind h
      cases h
      exact mx_pure (fun ad H locs ls hl k => lv_ldc2 hx hb hown (hts _ (hL.2.2.2.1 _ (mx_fd_mem hv))) hd k) kk
    · obtain rfl : len = 2 := by simpa [mx_lok] using hlo
      exact mx_ldi_ok h (fun _ _ _ _ _ _ _ hl k => lv_iload hx hb hd hl k) kk
    · obtain rfl : len = 1 := by simpa [mx_lok] using hlo
      exact mx_ldi_ok h (fun _ _ _ _ _ _ _ hl k => lv_iload_n hx hb hd rfl hl k) kk
    · obtain rfl : len = 2 := by simpa [mx_lok] using hlo
      exact mx_ldl_ok h (fun _ _ _ _ _ _ _ hl k => lv_lload hx hb hd hl k) kk
    · obtain rfl : len = 1 := by simpa [mx_lok] using hlo
      exact mx_ldl_ok h (fun _ _ _ _ _ _ _ hl k => lv_lload_n hx hb hd rfl hl k) kk
    · obtain rfl : len = 2 := by simpa [mx_lok] using hlo
      exact mx_lda_ok h (fun _ _ _ _ _ _ _ hl k => lv_aload hx hb hd hl k) kk
    · obtain rfl : len = 1 := by simpa [mx_lok] using hlo
      exact mx_lda_ok h (fun _ _ _ _ _ _ _ hl k => lv_aload_n hx hb hd rfl hl k) kk
    · obtain rfl : len = 2 := by simpa [mx_lok] using hlo
      exact mx_sti_ok F h (fun _ _ _ _ _ _ _ _ _ g1 g2 g3 k => lv_istore hx hb hd g1 g2 g3 k) kk
    · obtain rfl : len = 1 := by simpa [mx_lok] using hlo
      exact mx_sti_ok F h (fun _ _ _ _ _ _ _ _ _ g1 g2 g3 k => lv_istore_n hx hb hd rfl g1 g2 g3 k) kk
    · obtain rfl : len = 3 := by simpa [mx_lok] using hlo
      exact mx_inc_ok F hd h kk
    · obtain rfl : len = 1 := by simpa [mx_lok] using hlo
      obtain ⟨pc, L, y, x, r, k, rfl, rfl⟩ := mx_ii_inv h
      exact mx_pure (fun ad H locs ls hl k => lv_iadd hx hb hd k) kk
    · obtain rfl : len = 1 := by simpa [mx_lok] using hlo
      obtain ⟨pc, L, y, x, r, k, rfl, rfl⟩ := mx_ii_inv h
      exact mx_pure (fun ad H locs ls hl k => lv_isub hx hb hd k) kk
    · obtain rfl : len = 1 := by simpa [mx_lok] using hlo
      obtain ⟨pc, L, y, x, r, k, rfl, rfl⟩ := mx_ii_inv h
      exact mx_pure (fun ad H locs ls hl k => lv_imul hx hb hd k) kk
    · obtain rfl : len = 1 := by simpa [mx_lok] using hlo
      obtain ⟨pc, L, y, x, r, k, rfl, rfl⟩ := mx_ii_inv h
      exact mx_pure (fun ad H locs ls hl k => lv_iand hx hb hd k) kk
    · obtain rfl : len = 1 := by simpa [mx_lok] using hlo
      obtain ⟨pc, L, y, x, r, k, rfl, rfl⟩ := mx_ii_inv h
      exact mx_pure (fun ad H locs ls hl k => lv_ior hx hb hd k) kk
    · obtain rfl : len = 1 := by simpa [mx_lok] using hlo
      obtain ⟨pc, L, y, x, r, k, rfl, rfl⟩ := mx_ii_inv h
      exact mx_pure (fun ad H locs ls hl k => lv_ixor hx hb hd k) kk
    · obtain rfl : len = 1 := by simpa [mx_lok] using hlo
      obtain ⟨pc, L, y, x, r, k, rfl, rfl⟩ := mx_ii_inv h
      exact mx_pure (fun ad H locs ls hl k => lv_ishl hx hb hd k) kk
    · obtain rfl : len = 1 := by simpa [mx_lok] using hlo
      obtain ⟨pc, L, y, x, r, k, rfl, rfl⟩ := mx_ii_inv h
      exact mx_pure (fun ad H locs ls hl k => lv_ishr hx hb hd k) kk
    · obtain rfl : len = 1 := by simpa [mx_lok] using hlo
      obtain ⟨pc, L, y, x, r, k, rfl, rfl⟩ := mx_ii_inv h
      exact mx_pure (fun ad H locs ls hl k => lv_iushr hx hb hd rfl k) kk
    · obtain rfl : len = 1 := by simpa [mx_lok] using hlo
      obtain ⟨pc, L, y, x, r, k, rfl, rfl, hy⟩ := mx_dv_inv h
      exact mx_pure (fun ad H locs ls hl k => lv_idiv hx hb hd hy k) kk
    · obtain rfl : len = 1 := by simpa [mx_lok] using hlo
      obtain ⟨pc, L, y, x, r, k, rfl, rfl, hy⟩ := mx_dv_inv h
      exact mx_pure (fun ad H locs ls hl k => lv_irem hx hb hd hy k) kk
    · obtain rfl : len = 1 := by simpa [mx_lok] using hlo
      obtain ⟨pc, L, y, x, r, k, rfl, rfl⟩ := mx_i2_inv h
      exact mx_pure (fun ad H locs ls hl k => lv_land hx hb hd k) kk
    · obtain rfl : len = 1 := by simpa [mx_lok] using hlo
      obtain ⟨pc, L, y, x, r, k, rfl, rfl⟩ := mx_ls_inv h
      exact mx_pure (fun ad H locs ls hl k => lv_lshr hx hb hd rfl k) kk
    · obtain rfl : len = 1 := by simpa [mx_lok] using hlo
      obtain ⟨pc, L, y, x, r, k, rfl, rfl⟩ := mx_ls_inv h
      exact mx_pure (fun ad H locs ls hl k => lv_lushr hx hb hd rfl k) kk
    · obtain rfl : len = 1 := by simpa [mx_lok] using hlo
      unfold mx_l2i at h
      split at h
      · cases h; exact mx_pure (fun ad H locs ls hl k => lv_l2i hx hb hd rfl k) kk
      · cases h
    · obtain rfl : len = 1 := by simpa [mx_lok] using hlo
      unfold mx_dup at h
      split at h
      · next pc L v r k =>
        cases hv : (v.category == 1) with
        | false => rw [hv] at h; cases h
        | true =>
          rw [hv] at h; cases h
          have hv : v.category = 1 := by simpa using hv
          exact mx_pure (fun ad H locs ls hl k => lv_dup hx hb hd (by rw [mx_v_cat]; exact hv) k) kk
      · cases h
    · obtain rfl : len = 1 := by simpa [mx_lok] using hlo
      unfold mx_dup2 at h
      split at h
      · next pc L v u r k =>
        cases hv : (v.category == 1 && u.category == 1) with
        | false => rw [hv] at h; cases h
        | true =>
          rw [hv] at h; cases h
          simp only [Bool.and_eq_true, beq_iff_eq] at hv
          exact mx_pure (fun ad H locs ls hl k => lv_dup2_11 hx hb hd (by rw [mx_v_cat]; exact hv.1) (by rw [mx_v_cat]; exact hv.2) k) kk
      · cases h
    · obtain rfl : len = 1 := by simpa [mx_lok] using hlo
      unfold mx_pop at h
      split at h
      · next pc L v r k =>
        cases hv : (v.category == 1) with
        | false => rw [hv] at h; cases h
        | true =>
          rw [hv] at h; cases h
          have hv : v.category = 1 := by simpa using hv
          exact mx_pure (fun ad H locs ls hl k => lv_pop hx hb hd (by rw [mx_v_cat]; exact hv) k) kk
      · cases h
    · obtain rfl : len = 3 := by simpa [mx_lok] using hlo
      exact mx_goto_ok F hd h kk
    · obtain rfl : len = 3 := by simpa [mx_lok] using hlo
      exact mx_if_ok F hd h kk
    · obtain rfl : len = 3 := by simpa [mx_lok] using hlo
      exact mx_cmp_ok F hd h kk
    · exact mx_tab_ok F hd h kk
    · obtain rfl : len = 3 := by simpa [mx_lok] using hlo
      exact mx_getf_ok F hd h kk
    · obtain rfl : len = 3 := by simpa [mx_lok] using hlo
      exact mx_putf_ok F hd h kk
    · obtain rfl : len = 1 := by simpa [mx_lok] using hlo
      exact mx_alen_ok F hd h kk
    · obtain rfl : len = 1 := by simpa [mx_lok] using hlo
      exact mx_iald_ok F hd h kk
    · obtain rfl : len = 1 := by simpa [mx_lok] using hlo
      exact mx_iast_ok F hd h kk
    · obtain rfl : len = 1 := by simpa [mx_lok] using hlo
      exact mx_zald_ok F hd h kk
    · obtain rfl : len = 1 := by simpa [mx_lok] using hlo
      exact mx_zast_ok F hd h kk
    · obtain rfl : len = 3 := by simpa [mx_lok] using hlo
      exact mx_newc_ok F hd h hkc hks kk
    · obtain rfl : len = 2 := by simpa [mx_lok] using hlo
      exact mx_newa_ok F hd h hkc hks kk
    · obtain rfl : len = 3 := by simpa [mx_lok] using hlo
      obtain ⟨n, hn, h⟩ := mx_bind h
      cases hv : (n == 0 && Nat.blt 0 (mx_rk M)) with
      | false => rw [hv] at h; cases h
      | true =>
        rw [hv] at h
        obtain ⟨h1, h2⟩ := Bool.and_eq_true_iff.mp hv
        obtain rfl : n = 0 := by simpa using h1
        exact mx_oinit_ok F hd hn (Nat.le_of_ble_eq_true h2) h kk
    · obtain rfl : len = 3 := by simpa [mx_lok] using hlo
      obtain ⟨n, hn, h⟩ := mx_bind h
      cases hv : Nat.blt 0 (mx_rk M) with
      | false => rw [hv] at h; cases h
      | true =>
        rw [hv] at h
        have h2 : 0 < mx_rk M := Nat.le_of_ble_eq_true hv
        simp only [cond_true] at h
        unfold mx_jdk at h
        split at h
        · exact mx_max_ok F hd hn h2 h hkc0 hks0 kk
        · exact mx_min_ok F hd hn h2 h hkc0 hks0 kk
        · exact mx_cp_ok F hd hn h2 h kk
        · cases h
    · obtain rfl : len = 2 := by simpa [mx_lok] using hlo
      exact mx_sta_ok F h (fun _ _ _ _ _ _ _ _ _ g1 g2 g3 k => lv_astore hx hb hd g1 g2 g3 k) kk
    · obtain rfl : len = 1 := by simpa [mx_lok] using hlo
      exact mx_sta_ok F h (fun _ _ _ _ _ _ _ _ _ g1 g2 g3 k => lv_astore_n hx hb hd rfl g1 g2 g3 k) kk
    · obtain rfl : len = 1 := by simpa [mx_lok] using hlo
      unfold mx_i2l at h
      split at h
      · cases h; exact mx_pure (fun ad H locs ls hl k => lv_i2l hx hb hd rfl k) kk
      · cases h
    · obtain rfl : len = 1 := by simpa [mx_lok] using hlo
      unfold mx_lcmp at h
      split at h
      · cases h; exact mx_pure (fun ad H locs ls hl k => W.lcmp hx hb hd k) kk
      · cases h
    · obtain rfl : len = 1 := by simpa [mx_lok] using hlo
      obtain ⟨pc, L, y, x, r, k, rfl, rfl⟩ := mx_i2_inv h
      exact mx_pure (fun ad H locs ls hl k => lv_lor hx hb hd k) kk
    · obtain rfl : len = 1 := by simpa [mx_lok] using hlo
      obtain ⟨pc, L, y, x, r, k, rfl, rfl⟩ := mx_ls_inv h
      exact mx_pure (fun ad H locs ls hl k => lv_lshl hx hb hd rfl k) kk
    · obtain rfl : len = 1 := by simpa [mx_lok] using hlo
      exact mx_lald_ok F hd h kk
    · obtain rfl : len = 1 := by simpa [mx_lok] using hlo
      exact mx_last_ok F hd h kk
    · cases h
end MXW
