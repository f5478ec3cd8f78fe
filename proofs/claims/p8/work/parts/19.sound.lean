/-! runs, and the contract of a method out of a run -/
theorem mx_kle {st st' : mx_S} (h : st'.2.2.2.2 = st.2.2.2.2) : st.2.2.2.2.1 ≤ st'.2.2.2.2.1 ∧ st.2.2.2.2.2 ≤ st'.2.2.2.2.2 := by
  rw [h]
  exact ⟨Nat.le_refl _, Nat.le_refl _⟩
theorem mx_ldi_k {n i : Nat} {st st' : mx_S} (h : mx_ldi n i st = some st') : st'.2.2.2.2 = st.2.2.2.2 := by
  unfold mx_ldi at h
  split at h
  · cases h; rfl
  · cases h
theorem mx_ldl_k {n i : Nat} {st st' : mx_S} (h : mx_ldl n i st = some st') : st'.2.2.2.2 = st.2.2.2.2 := by
  unfold mx_ldl at h
  split at h
  · cases h; rfl
  · cases h
theorem mx_lda_k {n i : Nat} {st st' : mx_S} (h : mx_lda n i st = some st') : st'.2.2.2.2 = st.2.2.2.2 := by
  unfold mx_lda at h
  split at h
  · cases h; rfl
  · cases h
theorem mx_sti_k {n i ml : Nat} {st st' : mx_S} (h : mx_sti n i ml st = some st') : st'.2.2.2.2 = st.2.2.2.2 := by
  unfold mx_sti at h
  split at h
  · have h := (mx_bif h).2; cases h; rfl
  · cases h
theorem mx_inc_k {i ml : Nat} {n : Int} {st st' : mx_S} (h : mx_inc i ml n st = some st') : st'.2.2.2.2 = st.2.2.2.2 := by
  unfold mx_inc at h
  split at h
  · have h := (mx_bif h).2; cases h; rfl
  · cases h
theorem mx_l2i_k {st st' : mx_S} (h : mx_l2i st = some st') : st'.2.2.2.2 = st.2.2.2.2 := by
  unfold mx_l2i at h
  split at h
  · cases h; rfl
  · cases h
theorem mx_dup_k {st st' : mx_S} (h : mx_dup st = some st') : st'.2.2.2.2 = st.2.2.2.2 := by
  unfold mx_dup at h
  split at h
  · have h := (mx_bif h).2; cases h; rfl
  · cases h
theorem mx_dup2_k {st st' : mx_S} (h : mx_dup2 st = some st') : st'.2.2.2.2 = st.2.2.2.2 := by
  unfold mx_dup2 at h
  split at h
  · have h := (mx_bif h).2; cases h; rfl
  · cases h
theorem mx_pop_k {st st' : mx_S} (h : mx_pop st = some st') : st'.2.2.2.2 = st.2.2.2.2 := by
  unfold mx_pop at h
  split at h
  · have h := (mx_bif h).2; cases h; rfl
  · cases h
theorem mx_if_k {c : Jvm.ClassFile.Cond} {off : Int} {st st' : mx_S} (h : mx_if c off st = some st') : st'.2.2.2.2 = st.2.2.2.2 := by
  unfold mx_if at h
  split at h
  · have h := (mx_bif h).2; cases h; rfl
  · cases h
theorem mx_cmp_k {c : Jvm.ClassFile.Cond} {off : Int} {st st' : mx_S} (h : mx_cmp c off st = some st') : st'.2.2.2.2 = st.2.2.2.2 := by
  unfold mx_cmp at h
  split at h
  · have h := (mx_bif h).2; cases h; rfl
  · cases h
theorem mx_goto_k {off : Int} {st st' : mx_S} (h : mx_goto off st = some st') : st'.2 = st.2 := by
  obtain ⟨-, rfl⟩ := mx_goto_inv h
  rfl
theorem mx_tab_k {d lo hi : Int} {offs : Array Int} {st st' : mx_S} (h : mx_tab d lo hi offs st = some st') : st'.2.2.2.2 = st.2.2.2.2 := by
  unfold mx_tab at h
  split at h
  · split at h
    · rw [mx_goto_k h]
    · split at h
      · rw [mx_goto_k h]
      · cases h
  · cases h
theorem mx_getf_k {q : Option (Nat × Nat)} {st st' : mx_S} (h : mx_getf q st = some st') : st'.2.2.2.2 = st.2.2.2.2 := by
  unfold mx_getf at h
  split at h
  · split at h
    · split at h
      · next ci _ _ _ _ _ _ _ cj _ _ _ _ _ =>
        first
          | (have h := (mx_bif h).2; cases h; rfl)
          | skip
      · cases h
    · cases h
  · cases h
theorem mx_putf_k {cl : List vw_C} {ty : Nat → Nat → FieldType} {M : mx_M} {q : Option (Nat × Nat)} {st st' : mx_S} (h : mx_putf cl ty M q st = some st') : st'.2.2.2.2 = st.2.2.2.2 := by
  unfold mx_putf at h
  split at h
  · split at h
    · have h := (mx_bif h).2
      split at h
      · have h := (mx_bif h).2; cases h; rfl
      · cases h
    · cases h
  · cases h
theorem mx_alen_k {st st' : mx_S} (h : mx_alen st = some st') : st'.2.2.2.2 = st.2.2.2.2 := by
  unfold mx_alen at h
  split at h
  · split at h
    · have h := (mx_bif h).2; cases h; rfl
    · cases h
  · cases h
theorem mx_j0_k {st st' : mx_S} (h : mx_j0 st = some st') : st'.2.2.2.2 = st.2.2.2.2 := by
  unfold mx_j0 at h
  split at h
  · have h := (mx_bif h).2; cases h; rfl
  · cases h
theorem mx_cp_k {st st' : mx_S} (h : mx_cp st = some st') : st'.2.2.2.2 = st.2.2.2.2 := by
  unfold mx_cp at h
  split at h
  · split at h
    · split at h
      · cases h; rfl
      · cases h
    · cases h
  · cases h
theorem mx_sta_k {n i ml : Nat} {st st' : mx_S} (h : mx_sta n i ml st = some st') : st'.2.2.2.2 = st.2.2.2.2 := by
  unfold mx_sta at h
  split at h
  · have h := (mx_bif h).2; cases h; rfl
  · cases h
theorem mx_i2l_k {st st' : mx_S} (h : mx_i2l st = some st') : st'.2.2.2.2 = st.2.2.2.2 := by
  unfold mx_i2l at h
  split at h
  · cases h; rfl
  · cases h
theorem mx_lcmp_k {st st' : mx_S} (h : mx_lcmp st = some st') : st'.2.2.2.2 = st.2.2.2.2 := by
  unfold mx_lcmp at h
  split at h
  · cases h; rfl
  · cases h
set_option maxHeartbeats 1000000 in
/-- what has been made grows -/
theorem mx_go_le {cl : List vw_C} {ty : Nat → Nat → FieldType} {M : mx_M} {i : Instr} {len : Nat} {st st' : mx_S} (h : mx_go cl ty M i len st = some st') : st.2.2.2.2.1 ≤ st'.2.2.2.2.1 ∧ st.2.2.2.2.2 ≤ st'.2.2.2.2.2 := by
  unfold mx_go at h
  cases hlo : mx_lok i len with
  | false => rw [hlo] at h; cases h
  | true =>
    rw [hlo] at h
    simp only [cond_true] at h
    unfold mx_stp at h
    split at h
    case h_45 => -- new
      unfold mx_newc at h
      split at h
      · split at h
        · cases hal : mx_all st with
          | false => rw [hal] at h; cases h
          | true => rw [hal] at h; cases h; exact ⟨Nat.le_add_right _ _, Nat.le_add_right _ _⟩
        · cases h
      · cases h
    case h_46 =>
      unfold mx_newa at h
      split at h
      · next pc L n r w kc ks =>
        cases hal : mx_all (pc, L, .int n :: r, w, kc, ks) with
        | false => rw [hal] at h; cases h
        | true =>
          rw [hal] at h
          simp only [cond_true] at h
          split at h
          · split at h
            · cases h; exact ⟨Nat.le_add_right _ _, Nat.le_add_right _ _⟩
            · cases h; exact ⟨Nat.le_add_right _ _, Nat.le_add_right _ _⟩
            · cases h; exact ⟨Nat.le_add_right _ _, Nat.le_add_right _ _⟩
            · cases h
          · cases h
      · cases h
    case h_1 => cases h; exact mx_kle rfl
    case h_2 => have h := (mx_bif h).2; cases h; exact mx_kle rfl
    case h_3 => have h := (mx_bif h).2; cases h; exact mx_kle rfl
    case h_4 => obtain ⟨v, -, h⟩ := mx_bind h; cases h; exact mx_kle rfl
    case h_5 => obtain ⟨v, -, h⟩ := mx_bind h; cases h; exact mx_kle rfl
    case h_6 => obtain ⟨v, -, h⟩ := mx_bind h; cases h; exact mx_kle rfl
    case h_7 => exact mx_kle (mx_ldi_k h)
    case h_8 => exact mx_kle (mx_ldi_k h)
    case h_9 => exact mx_kle (mx_ldl_k h)
    case h_10 => exact mx_kle (mx_ldl_k h)
    case h_11 => exact mx_kle (mx_lda_k h)
    case h_12 => exact mx_kle (mx_lda_k h)
    case h_13 => exact mx_kle (mx_sti_k h)
    case h_14 => exact mx_kle (mx_sti_k h)
    case h_15 => exact mx_kle (mx_inc_k h)
    case h_25 => obtain ⟨_, _, _, _, _, _, rfl, rfl, -⟩ := mx_dv_inv h; exact mx_kle rfl
    case h_26 => obtain ⟨_, _, _, _, _, _, rfl, rfl, -⟩ := mx_dv_inv h; exact mx_kle rfl
    case h_27 => obtain ⟨_, _, _, _, _, _, rfl, rfl⟩ := mx_i2_inv h; exact mx_kle rfl
    case h_28 => obtain ⟨_, _, _, _, _, _, rfl, rfl⟩ := mx_ls_inv h; exact mx_kle rfl
    case h_29 => obtain ⟨_, _, _, _, _, _, rfl, rfl⟩ := mx_ls_inv h; exact mx_kle rfl
    case h_30 => exact mx_kle (mx_l2i_k h)
    case h_31 => exact mx_kle (mx_dup_k h)
    case h_32 => exact mx_kle (mx_dup2_k h)
    case h_33 => exact mx_kle (mx_pop_k h)
    case h_34 => exact mx_kle (by rw [mx_goto_k h])
    case h_35 => exact mx_kle (mx_if_k h)
    case h_36 => exact mx_kle (mx_cmp_k h)
    case h_37 => exact mx_kle (mx_tab_k h)
    case h_38 => exact mx_kle (mx_getf_k h)
    case h_39 => exact mx_kle (mx_putf_k h)
    case h_40 => exact mx_kle (mx_alen_k h)
    case h_41 => obtain ⟨_, _, _, _, _, _, _, _, _, rfl, -, -, rfl⟩ := mx_ald_inv h; exact mx_kle rfl
    case h_42 => obtain ⟨_, _, _, _, _, _, _, _, _, _, rfl, -, -, rfl⟩ := mx_ast_inv h; exact mx_kle rfl
    case h_43 => obtain ⟨_, _, _, _, _, _, _, _, _, rfl, -, -, rfl⟩ := mx_ald_inv h; exact mx_kle rfl
    case h_44 => obtain ⟨_, _, _, _, _, _, _, _, _, _, rfl, -, -, rfl⟩ := mx_ast_inv h; exact mx_kle rfl
    case h_47 =>
      obtain ⟨n, -, h⟩ := mx_bind h
      exact mx_kle (mx_j0_k (mx_bif h).2)
    case h_48 =>
      obtain ⟨n, -, h⟩ := mx_bind h
      have h := (mx_bif h).2
      unfold mx_jdk at h
      split at h
      · obtain ⟨_, _, _, _, _, _, rfl, rfl, -⟩ := mx_mm_inv h; exact mx_kle rfl
      · obtain ⟨_, _, _, _, _, _, rfl, rfl, -⟩ := mx_mm_inv h; exact mx_kle rfl
      · exact mx_kle (mx_cp_k h)
      · cases h
    case h_49 => exact mx_kle (mx_sta_k h)
    case h_50 => exact mx_kle (mx_sta_k h)
    case h_51 => exact mx_kle (mx_i2l_k h)
    case h_52 => exact mx_kle (mx_lcmp_k h)
    case h_53 => obtain ⟨_, _, _, _, _, _, rfl, rfl⟩ := mx_i2_inv h; exact mx_kle rfl
    case h_54 => obtain ⟨_, _, _, _, _, _, rfl, rfl⟩ := mx_ls_inv h; exact mx_kle rfl
    case h_55 => obtain ⟨_, _, _, _, _, _, _, _, _, rfl, -, -, rfl⟩ := mx_lald_inv h; exact mx_kle rfl
    case h_56 => obtain ⟨_, _, _, _, _, _, _, _, _, _, rfl, -, -, rfl⟩ := mx_last_inv h; exact mx_kle rfl
    case h_57 => cases h
    all_goals (obtain ⟨_, _, _, _, _, _, rfl, rfl⟩ := mx_ii_inv h; exact mx_kle rfl)
