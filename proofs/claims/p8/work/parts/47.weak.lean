/-! a run with fewer locals is a run with more -/
def lk_ks (L : mx_L) : List Nat := L.map (fun q => q.1)
def lk_nr (v : Value) : Bool := match v with
  | .ref _ => false
  | _ => true
def lk_W (L' L : mx_L) : Prop := (lk_ks L').Nodup ∧ (lk_ks L).Nodup ∧ (∀ q ∈ L', q ∈ L) ∧ (∀ q ∈ L, q ∈ L' ∨ lk_nr q.2 = true)
theorem lk_fd {L : mx_L} (h : (lk_ks L).Nodup) {i : Nat} {v : Value} (hm : (i, v) ∈ L) : mx_fd L i = some v := by
  induction L with
  | nil => exact absurd hm List.not_mem_nil
  | cons q L ih =>
    unfold lk_ks at h
    rw [List.map_cons, List.nodup_cons] at h
    unfold mx_fd
    rw [List.find?_cons]
    rcases List.mem_cons.mp hm with rfl | hm
    · simp
    · have hne : q.1 ≠ i := fun e => h.1 (List.mem_map.mpr ⟨(i, v), hm, e.symm⟩)
      have hb : (q.1 == i) = false := by simpa using hne
      rw [hb]
      exact ih h.2 hm
theorem lk_W_fd {L' L : mx_L} (h : lk_W L' L) {i : Nat} {v : Value} (hf : mx_fd L' i = some v) : mx_fd L i = some v := lk_fd h.2.1 (h.2.2.1 _ (mx_fd_mem hf))
theorem lk_st1_mem {L : mx_L} {i : Nat} {v : Value} {q : Nat × Value} : q ∈ mx_st1 L i v ↔ q = (i, v) ∨ (q ∈ L ∧ q.1 ≠ i ∧ (q.1 + 1 == i && q.2.category == 2) = false) := by
  unfold mx_st1
  generalize hF : L.filter (fun q => !(q.1 + 1 == i && q.2.category == 2)) = F
  have hFm : ∀ z : Nat × Value, z ∈ F ↔ z ∈ L ∧ (z.1 + 1 == i && z.2.category == 2) = false := by
    intro z
    rw [← hF, List.mem_filter]
    cases (z.1 + 1 == i && z.2.category == 2) <;> simp
  cases hb : F.any (fun q => q.1 == i) with
  | true =>
    rw [cond_true, List.mem_map]
    constructor
    · rintro ⟨z, hz, rfl⟩
      cases h1 : (z.1 == i) with
      | true => exact Or.inl rfl
      | false =>
        refine Or.inr ⟨((hFm z).mp hz).1, ?_, ((hFm z).mp hz).2⟩
        simpa using h1
    · rintro (rfl | ⟨h1, h2, h3⟩)
      · obtain ⟨z, hz, hzi⟩ := List.any_eq_true.mp hb
        refine ⟨z, hz, ?_⟩
        rw [hzi]
        rfl
      · refine ⟨q, (hFm q).mpr ⟨h1, h3⟩, ?_⟩
        have : (q.1 == i) = false := by simpa using h2
        rw [this]
        rfl
  | false =>
    rw [cond_false, List.mem_cons]
    constructor
    · rintro (rfl | h)
      · exact Or.inl rfl
      · refine Or.inr ⟨((hFm q).mp h).1, ?_, ((hFm q).mp h).2⟩
        rw [List.any_eq_false] at hb
        simpa using hb q h
    · rintro (rfl | ⟨h1, h2, h3⟩)
      · exact Or.inl rfl
      · exact Or.inr ((hFm q).mpr ⟨h1, h3⟩)
theorem lk_st1_nd {L : mx_L} {i : Nat} {v : Value} (h : (lk_ks L).Nodup) : (lk_ks (mx_st1 L i v)).Nodup := by
  have hs : (lk_ks (L.filter (fun q => !(q.1 + 1 == i && q.2.category == 2)))).Nodup := List.Nodup.sublist (List.Sublist.map _ List.filter_sublist) h
  unfold mx_st1
  generalize L.filter (fun q => !(q.1 + 1 == i && q.2.category == 2)) = F at hs
  cases hb : F.any (fun q => q.1 == i) with
  | true =>
    rw [cond_true]
    have e : lk_ks (F.map (fun q => bif q.1 == i then (i, v) else q)) = lk_ks F := by
      unfold lk_ks
      rw [List.map_map]
      apply List.map_congr_left
      intro z _
      show (bif z.1 == i then (i, v) else z).1 = z.1
      cases hz : (z.1 == i) with
      | true => exact (by simpa using hz : z.1 = i).symm
      | false => rfl
    rw [e]
    exact hs
  | false =>
    rw [cond_false]
    unfold lk_ks at hs ⊢
    rw [List.map_cons, List.nodup_cons]
    refine ⟨fun hm => ?_, hs⟩
    obtain ⟨z, hz, e⟩ := List.mem_map.mp hm
    rw [List.any_eq_false] at hb
    exact absurd e (by simpa using hb z hz)
theorem lk_W_st {L' L : mx_L} (h : lk_W L' L) (i : Nat) (v : Value) : lk_W (mx_st1 L' i v) (mx_st1 L i v) := by
  refine ⟨lk_st1_nd h.1, lk_st1_nd h.2.1, fun q hq => ?_, fun q hq => ?_⟩
  · rcases lk_st1_mem.mp hq with e | ⟨h1, h2, h3⟩
    · exact lk_st1_mem.mpr (Or.inl e)
    · exact lk_st1_mem.mpr (Or.inr ⟨h.2.2.1 _ h1, h2, h3⟩)
  · rcases lk_st1_mem.mp hq with e | ⟨h1, h2, h3⟩
    · exact Or.inl (lk_st1_mem.mpr (Or.inl e))
    · rcases h.2.2.2 q h1 with h4 | h4
      · exact Or.inl (lk_st1_mem.mpr (Or.inr ⟨h4, h2, h3⟩))
      · exact Or.inr h4
theorem lk_W_ok {L' L : mx_L} (h : lk_W L' L) {n : Nat} (ho : mx_okl n L' = true) : mx_okl n L = true := by
  unfold mx_okl at *
  rw [List.all_eq_true] at *
  intro q hq
  rcases h.2.2.2 q hq with h1 | h1
  · exact ho q h1
  · obtain ⟨a, v⟩ := q
    cases v with
    | ref x => exact absurd h1 (by simp [lk_nr])
    | _ => rfl
/-- what the step says of more locals -/
def lk_P (G : mx_S → Option mx_S) : Prop := ∀ (pc : Nat) (L' L : mx_L) (S : List Value) (w : mx_W) (k : Nat × Nat) (st' : mx_S), lk_W L' L → G (pc, L', S, w, k) = some st' → ∃ L2, lk_W st'.2.1 L2 ∧ G (pc, L, S, w, k) = some (st'.1, L2, st'.2.2)
/-- a step that does not look at the locals -/
theorem lk_nl {G : mx_S → Option mx_S} (g : Nat → List Value → mx_W → Nat × Nat → Option (Nat × List Value × mx_W × Nat × Nat)) (hG : ∀ pc L S w k, G (pc, L, S, w, k) = (g pc S w k).map (fun q => (q.1, L, q.2.1, q.2.2))) : lk_P G := by
  intro pc L' L S w k st' hW h
  rw [hG] at h ⊢
  cases hg : g pc S w k with
  | none => rw [hg] at h; cases h
  | some q =>
    rw [hg] at h
    cases h
    exact ⟨L, hW, rfl⟩
theorem lk_none : lk_P (fun _ => none) := fun _ _ _ _ _ _ _ _ h => nomatch h
theorem lk_bind {α : Type} {o : Option α} {G : α → mx_S → Option mx_S} (h : ∀ a, lk_P (G a)) : lk_P (fun st => o.bind fun a => G a st) := by
  cases o with
  | none => exact lk_none
  | some a => exact h a
theorem lk_bif {b : Bool} {G : mx_S → Option mx_S} (h : lk_P G) : lk_P (fun st => bif b then G st else none) := by
  cases b with
  | false => exact lk_none
  | true => exact h
theorem lk_nl0 {G : mx_S → Option mx_S} (hG : ∀ pc L S w k, G (pc, L, S, w, k) = (G (pc, [], S, w, k)).map (fun q => (q.1, L, q.2.2))) : lk_P G := by
  intro pc L' L S w k st' hW h
  rw [hG] at h ⊢
  cases hg : G (pc, [], S, w, k) with
  | none => rw [hg] at h; cases h
  | some q =>
    rw [hg] at h
    cases h
    exact ⟨L, hW, rfl⟩
theorem lk_ii (f : Int32 → Int32 → Int32) : lk_P (mx_ii f) := lk_nl0 (fun pc L S w k => by
  rcases S with _ | ⟨v1, _ | ⟨v2, r⟩⟩ <;> (try cases v1) <;> (try cases v2) <;> rfl)
theorem lk_dv (f : Int32 → Int32 → Int32) : lk_P (mx_dv f) := lk_nl0 (fun pc L S w k => by
  rcases S with _ | ⟨v1, _ | ⟨v2, r⟩⟩ <;> (try cases v1) <;> (try cases v2) <;> first | rfl | (simp only [mx_dv]; split <;> rfl))
theorem lk_push (n : Nat) (v : Value) : lk_P (mx_push n v) := lk_nl0 (fun pc L S w k => rfl)
theorem lk_ldi (n i : Nat) : lk_P (mx_ldi n i) := by
  intro pc L' L S w k st' hW h
  unfold mx_ldi at h ⊢
  dsimp only at h ⊢
  cases hf : mx_fd L' i with
  | none => rw [hf] at h; cases h
  | some v =>
    rw [hf] at h
    rw [lk_W_fd hW hf]
    cases v <;> first | (cases h; exact ⟨L, hW, rfl⟩) | cases h
theorem lk_ldl (n i : Nat) : lk_P (mx_ldl n i) := by
  intro pc L' L S w k st' hW h
  unfold mx_ldl at h ⊢
  dsimp only at h ⊢
  cases hf : mx_fd L' i with
  | none => rw [hf] at h; cases h
  | some v =>
    rw [hf] at h
    rw [lk_W_fd hW hf]
    cases v <;> first | (cases h; exact ⟨L, hW, rfl⟩) | cases h
theorem lk_lda (n i : Nat) : lk_P (mx_lda n i) := by
  intro pc L' L S w k st' hW h
  unfold mx_lda at h ⊢
  dsimp only at h ⊢
  cases hf : mx_fd L' i with
  | none => rw [hf] at h; cases h
  | some v =>
    rw [hf] at h
    rw [lk_W_fd hW hf]
    cases v <;> first | (cases h; exact ⟨L, hW, rfl⟩) | cases h
theorem lk_sti (n i ml : Nat) : lk_P (mx_sti n i ml) := by
  intro pc L' L S w k st' hW h
  rcases S with _ | ⟨v1, r⟩
  · cases h
  cases v1 with
  | int x =>
    simp only [mx_sti] at h ⊢
    cases hb : Nat.blt i ml with
    | false => rw [hb] at h; cases h
    | true =>
      rw [hb] at h
      cases h
      exact ⟨_, lk_W_st hW i _, rfl⟩
  | _ => cases h
theorem lk_sta (n i ml : Nat) : lk_P (mx_sta n i ml) := by
  intro pc L' L S w k st' hW h
  rcases S with _ | ⟨v1, r⟩
  · cases h
  cases v1 with
  | ref x =>
    simp only [mx_sta] at h ⊢
    cases hb : Nat.blt i ml with
    | false => rw [hb] at h; cases h
    | true =>
      rw [hb] at h
      cases h
      exact ⟨_, lk_W_st hW i _, rfl⟩
  | _ => cases h
theorem lk_inc (i ml : Nat) (n : Int) : lk_P (mx_inc i ml n) := by
  intro pc L' L S w k st' hW h
  unfold mx_inc at h ⊢
  dsimp only at h ⊢
  cases hf : mx_fd L' i with
  | none => rw [hf] at h; cases h
  | some v =>
    rw [hf] at h
    rw [lk_W_fd hW hf]
    cases v with
    | int x =>
      dsimp only at h ⊢
      cases hb : Nat.blt i ml with
      | false => rw [hb] at h; cases h
      | true =>
        rw [hb] at h
        cases h
        exact ⟨_, lk_W_st hW i _, rfl⟩
    | _ => cases h
theorem lk_i2 (f : Int64 → Int64 → Int64) : lk_P (mx_i2 f) := lk_nl0 (fun pc L S w k => by
  rcases S with _ | ⟨v1, _ | ⟨v2, r⟩⟩ <;> (try cases v1) <;> (try cases v2) <;> rfl)
theorem lk_ls (f : Int64 → Int32 → Int64) : lk_P (mx_ls f) := lk_nl0 (fun pc L S w k => by
  rcases S with _ | ⟨v1, _ | ⟨v2, r⟩⟩ <;> (try cases v1) <;> (try cases v2) <;> rfl)
theorem lk_l2i : lk_P mx_l2i := lk_nl0 (fun pc L S w k => by rcases S with _ | ⟨v1, r⟩ <;> (try cases v1) <;> rfl)
theorem lk_i2l : lk_P mx_i2l := lk_nl0 (fun pc L S w k => by rcases S with _ | ⟨v1, r⟩ <;> (try cases v1) <;> rfl)
theorem lk_dup : lk_P mx_dup := lk_nl0 (fun pc L S w k => by rcases S with _ | ⟨v1, r⟩ <;> (try cases v1) <;> rfl)
theorem lk_pop : lk_P mx_pop := lk_nl0 (fun pc L S w k => by rcases S with _ | ⟨v1, r⟩ <;> (try cases v1) <;> rfl)
theorem lk_dup2 : lk_P mx_dup2 := lk_nl0 (fun pc L S w k => by rcases S with _ | ⟨v1, _ | ⟨v2, r⟩⟩ <;> (try cases v1) <;> (try cases v2) <;> rfl)
theorem lk_lcmp : lk_P mx_lcmp := lk_nl0 (fun pc L S w k => by rcases S with _ | ⟨v1, _ | ⟨v2, r⟩⟩ <;> (try cases v1) <;> (try cases v2) <;> rfl)
theorem lk_goto (off : Int) : lk_P (mx_goto off) := lk_nl0 (fun pc L S w k => by
  unfold mx_goto; dsimp only; cases decide (0 ≤ (pc : Int) + off) <;> rfl)
theorem lk_if (c : Jvm.ClassFile.Cond) (off : Int) : lk_P (mx_if c off) := lk_nl0 (fun pc L S w k => by
  rcases S with _ | ⟨v1, r⟩ <;> (try cases v1) <;> first | rfl | (unfold mx_if; dsimp only; cases decide (0 ≤ (pc : Int) + off) <;> rfl))
theorem lk_cmp (c : Jvm.ClassFile.Cond) (off : Int) : lk_P (mx_cmp c off) := lk_nl0 (fun pc L S w k => by
  rcases S with _ | ⟨v1, _ | ⟨v2, r⟩⟩ <;> (try cases v1) <;> (try cases v2) <;> first | rfl | (unfold mx_cmp; dsimp only; cases decide (0 ≤ (pc : Int) + off) <;> rfl))
theorem lk_tab (d lo hi : Int) (offs : Array Int) : lk_P (mx_tab d lo hi offs) := lk_nl0 (fun pc L S w k => by
  rcases S with _ | ⟨v1, r⟩ <;> (try cases v1) <;> first | rfl | skip
  unfold mx_tab
  dsimp only
  split
  · unfold mx_goto; dsimp only; cases decide (0 ≤ (pc : Int) + d) <;> rfl
  · split
    · rename_i off _
      unfold mx_goto; dsimp only; cases decide (0 ≤ (pc : Int) + off) <;> rfl
    · rfl)
theorem lk_getf (q : Option (Nat × Nat)) : lk_P (mx_getf q) := lk_nl0 (fun pc L S w k => by
  rcases q with _ | ⟨ci, kk⟩
  · rfl
  rcases S with _ | ⟨v1, r⟩ <;> (try cases v1) <;> first | rfl | skip
  unfold mx_getf
  dsimp only
  split
  · split
    · rename_i cj _ _ _ _ _
      cases cj == ci <;> rfl
    · rfl
  · rfl)
theorem lk_alen : lk_P mx_alen := lk_nl0 (fun pc L S w k => by
  rcases S with _ | ⟨v1, r⟩ <;> (try cases v1) <;> first | rfl | skip
  unfold mx_alen
  dsimp only
  split
  · rename_i t _ _
    cases Nat.blt t 3 <;> rfl
  · rfl)
theorem lk_putf (cl : List vw_C) (ty : Nat → Nat → FieldType) (M : mx_M) (q : Option (Nat × Nat)) : lk_P (mx_putf cl ty M q) := lk_nl0 (fun pc L S w k => by
  rcases q with _ | ⟨ci, kk⟩
  · rfl
  rcases S with _ | ⟨v1, _ | ⟨v2, r⟩⟩ <;> (try cases v2) <;> first | rfl | skip
  unfold mx_putf
  dsimp only
  split
  · rename_i cj fs _
    cases cj == ci && Nat.blt kk fs.length && mx_fit (ty ci kk) v1
    · rfl
    · simp only [cond_true]
      split
      · rename_i rr _
        cases !(rr.2.1 kk).2.2.2 || (mx_kd M == 2 && ci == mx_ci M) <;> rfl
      · rfl
  · rfl)
theorem lk_ald (t : Nat) : lk_P (mx_ald t) := lk_nl0 (fun pc L S w k => by
  rcases S with _ | ⟨v1, _ | ⟨v2, r⟩⟩ <;> (try cases v1) <;> (try cases v2) <;> first | rfl | skip
  unfold mx_ald
  dsimp only
  split
  · split <;> rfl
  · rfl)
theorem lk_lald : lk_P mx_lald := lk_nl0 (fun pc L S w k => by
  rcases S with _ | ⟨v1, _ | ⟨v2, r⟩⟩ <;> (try cases v1) <;> (try cases v2) <;> first | rfl | skip
  unfold mx_lald
  dsimp only
  split
  · split <;> rfl
  · rfl)
theorem lk_ast (t : Nat) (g : Int32 → Int32) : lk_P (mx_ast t g) := lk_nl0 (fun pc L S w k => by
  rcases S with _ | ⟨v1, _ | ⟨v2, _ | ⟨v3, r⟩⟩⟩ <;> (try cases v1) <;> (try cases v2) <;> (try cases v3) <;> first | rfl | skip
  unfold mx_ast
  dsimp only
  split
  · split <;> rfl
  · rfl)
theorem lk_last : lk_P mx_last := lk_nl0 (fun pc L S w k => by
  rcases S with _ | ⟨v1, _ | ⟨v2, _ | ⟨v3, r⟩⟩⟩ <;> (try cases v1) <;> (try cases v2) <;> (try cases v3) <;> first | rfl | skip
  unfold mx_last
  dsimp only
  split
  · split <;> rfl
  · rfl)
theorem lk_j0 : lk_P mx_j0 := lk_nl0 (fun pc L S w k => by
  rcases S with _ | ⟨v1, r⟩ <;> (try cases v1) <;> first | rfl | skip
  unfold mx_j0
  dsimp only
  cases Nat.ble (mx_cs r) 8 <;> rfl)
theorem lk_mm (f : Int32 → Int32 → Int32) : lk_P (mx_mm f) := lk_nl0 (fun pc L S w k => by
  rcases S with _ | ⟨v1, _ | ⟨v2, r⟩⟩ <;> (try cases v1) <;> (try cases v2) <;> first | rfl | skip
  unfold mx_mm
  dsimp only
  cases Nat.ble (mx_cs r) 8 <;> rfl)
theorem lk_cp : lk_P mx_cp := lk_nl0 (fun pc L S w k => by
  rcases S with _ | ⟨v1, S⟩ <;> (try cases v1) <;> first | rfl | skip
  rcases S with _ | ⟨v1, S⟩ <;> (try cases v1) <;> first | rfl | skip
  rcases S with _ | ⟨v1, S⟩ <;> (try cases v1) <;> first | rfl | skip
  rcases S with _ | ⟨v1, S⟩ <;> (try cases v1) <;> first | rfl | skip
  rcases S with _ | ⟨v1, S⟩ <;> (try cases v1) <;> first | rfl | skip
  unfold mx_cp
  dsimp only
  split
  · split <;> rfl
  · rfl)
theorem lk_jdk (n : Nat) : lk_P (mx_jdk n) := by
  unfold mx_jdk
  rcases n with _ | _ | _ | _ | n
  · exact lk_none
  · exact lk_mm _
  · exact lk_mm _
  · exact lk_cp
  · exact lk_none
theorem lk_all {pc : Nat} {L' L : mx_L} {S : List Value} {w : mx_W} {k : Nat × Nat} (hW : lk_W L' L) (h : mx_all (pc, L', S, w, k) = true) : mx_all (pc, L, S, w, k) = true := by
  unfold mx_all at *
  dsimp only at *
  simp only [Bool.and_eq_true] at *
  exact ⟨⟨⟨h.1.1.1, lk_W_ok hW h.1.1.2⟩, h.1.2⟩, h.2⟩
theorem lk_newc (cl : List vw_C) (ty : Nat → Nat → FieldType) (q : Option Nat) : lk_P (mx_newc cl ty q) := by
  intro pc L' L S w k st' hW h
  unfold mx_newc at h ⊢
  rcases q with _ | ci
  · cases h
  dsimp only at h ⊢
  cases hc : cl[ci]? with
  | none => rw [hc] at h; cases h
  | some rr =>
    rw [hc] at h
    dsimp only at h ⊢
    cases ha : mx_all (pc, L', S, w, k) with
    | false => rw [ha] at h; cases h
    | true =>
      rw [ha] at h
      rw [lk_all hW ha]
      cases h
      exact ⟨L, hW, rfl⟩
theorem lk_newa (t : ArrayType) : lk_P (mx_newa t) := by
  intro pc L' L S w k st' hW h
  obtain ⟨kc, ks⟩ := k
  rcases S with _ | ⟨v1, r⟩
  · cases h
  cases v1 with
  | int n =>
    unfold mx_newa at h ⊢
    dsimp only at h ⊢
    cases ha : mx_all (pc, L', .int n :: r, w, kc, ks) with
    | false => rw [ha] at h; cases h
    | true =>
      rw [ha] at h
      rw [lk_all hW ha]
      simp only [cond_true] at h ⊢
      split at h
      · rename_i h1
        rw [if_pos h1]
        cases t <;> first | (cases h; exact ⟨L, hW, rfl⟩) | cases h
      · cases h
  | _ => cases h
theorem lk_stp (cl : List vw_C) (ty : Nat → Nat → FieldType) (M : mx_M) (i : Instr) : lk_P (mx_stp cl ty M i) := by
  cases i <;> first
    | exact lk_push _ _ | exact lk_bif (lk_push _ _) | exact lk_bind (fun _ => lk_push _ _) | exact lk_ldi _ _ | exact lk_ldl _ _ | exact lk_lda _ _ | exact lk_sti _ _ _ | exact lk_sta _ _ _ | exact lk_inc _ _ _
    | exact lk_ii _ | exact lk_dv _ | exact lk_i2 _ | exact lk_ls _ | exact lk_l2i | exact lk_i2l | exact lk_dup | exact lk_dup2 | exact lk_pop | exact lk_goto _ | exact lk_if _ _ | exact lk_cmp _ _ | exact lk_tab _ _ _ _
    | exact lk_getf _ | exact lk_putf _ _ _ _ | exact lk_alen | exact lk_ald _ | exact lk_ast _ _ | exact lk_newc _ _ _ | exact lk_newa _ | exact lk_lcmp | exact lk_lald | exact lk_last
    | exact lk_bind (fun _ => lk_bif lk_j0) | exact lk_bind (fun _ => lk_bif (lk_jdk _)) | exact lk_none
theorem lk_go (cl : List vw_C) (ty : Nat → Nat → FieldType) (M : mx_M) (i : Instr) (len : Nat) : lk_P (mx_go cl ty M i len) := lk_bif (lk_stp cl ty M i)
theorem lk_end {M : mx_M} {i : Instr} {pc : Nat} {L' L : mx_L} {S : List Value} {k : mx_W × Nat × Nat} : mx_end M i (pc, L', S, k) = mx_end M i (pc, L, S, k) := by
  unfold mx_end
  generalize mx_ret M = t
  cases i
  case ireturn =>
    rcases t with _ | t
    · rcases S with _ | ⟨v1, _ | ⟨v2, r⟩⟩ <;> (try cases v1) <;> rfl
    · rcases S with _ | ⟨v1, _ | ⟨v2, r⟩⟩ <;> (try cases v1) <;> cases t <;> rfl
  case return_ =>
    rcases t with _ | t
    · rcases S with _ | ⟨v1, r⟩ <;> rfl
    · cases t <;> rfl
  all_goals rfl
theorem lk_cal {MT : Nat → Option mx_M} {M : mx_M} {i : Instr} {pc : Nat} {L' L : mx_L} {S : List Value} {k : mx_W × Nat × Nat} : mx_cal MT M i (pc, L', S, k) = mx_cal MT M i (pc, L, S, k) := rfl
theorem lk_R {cl : List vw_C} {ty : Nat → Nat → FieldType} {MT : Nat → Option mx_M} : ∀ (f : Nat) (mi : Nat) (pc : Nat) (L' L : mx_L) (S : List Value) (w : mx_W) (k : Nat × Nat) (r : mx_A), lk_W L' L → mx_R cl ty MT f mi (pc, L', S, w, k) r → mx_R cl ty MT f mi (pc, L, S, w, k) r := by
  intro f
  induction f with
  | zero => intro mi pc L' L S w k r _ h; exact h.elim
  | succ f ih =>
    intro mi pc L' L S w k r hW h
    obtain ⟨M, i, len, h1, h2, h3⟩ := h
    refine ⟨M, i, len, h1, h2, ?_⟩
    rcases h3 with h3 | ⟨st', h3, h4⟩ | ⟨h3, n, M', av, rest, q, h4, h8, h5, h6, h7⟩
    · exact Or.inl ⟨h3.1, lk_end.trans h3.2⟩
    · obtain ⟨L2, hW2, h5⟩ := lk_go cl ty M i len pc L' L S w k st' hW h3
      refine Or.inr (Or.inl ⟨_, h5, ?_⟩)
      obtain ⟨pc2, L2', S2, w2, k2⟩ := st'
      exact ih mi pc2 L2' L2 S2 w2 k2 r hW2 h4
    · refine Or.inr (Or.inr ⟨h3, n, M', av, rest, q, h4, h8, h5, ?_, ?_⟩)
      · rcases h6 with h6 | h6
        · exact Or.inl h6
        · refine Or.inr ?_
          simp only [Bool.and_eq_true] at h6 ⊢
          exact ⟨⟨h6.1.1, lk_W_ok hW h6.1.2⟩, h6.2⟩
      · exact ih _ _ _ _ _ _ _ _ hW h7
/-- the locals of these numbers alone -/
def lk_of (ks : List Nat) (L : mx_L) : mx_L := ks.filterMap (fun i => (mx_fd L i).map (fun v => (i, v)))
def lk_ck (ks : List Nat) (L : mx_L) : Bool := decide ks.Nodup && decide (lk_ks L).Nodup && L.all (fun q => ks.contains q.1 || lk_nr q.2)
theorem lk_ok {ks : List Nat} {L : mx_L} (h : lk_ck ks L = true) : lk_W (lk_of ks L) L := by
  unfold lk_ck at h
  simp only [Bool.and_eq_true, decide_eq_true_eq, List.all_eq_true] at h
  obtain ⟨⟨h1, h2⟩, h3⟩ := h
  have hm : ∀ q : Nat × Value, q ∈ lk_of ks L ↔ q.1 ∈ ks ∧ q ∈ L := by
    intro q
    unfold lk_of
    rw [List.mem_filterMap]
    constructor
    · rintro ⟨i, hi, h⟩
      cases hf : mx_fd L i with
      | none => rw [hf] at h; cases h
      | some v =>
        rw [hf] at h
        cases h
        exact ⟨hi, mx_fd_mem hf⟩
    · rintro ⟨hi, h⟩
      refine ⟨q.1, hi, ?_⟩
      rw [lk_fd h2 (show (q.1, q.2) ∈ L from h)]
      rfl
  refine ⟨?_, h2, fun q hq => ((hm q).mp hq).2, fun q hq => ?_⟩
  · have : (lk_ks (lk_of ks L)).Sublist ks := by
      unfold lk_ks lk_of
      clear hm h3 h1
      induction ks with
      | nil => exact List.Sublist.refl _
      | cons i ks ih =>
        rw [List.filterMap_cons]
        cases mx_fd L i with
        | none => exact List.Sublist.cons _ ih
        | some v =>
          rw [Option.map_some, List.map_cons]
          exact List.Sublist.cons_cons _ ih
    exact List.Nodup.sublist this h1
  · have := h3 q hq
    rw [Bool.or_eq_true] at this
    rcases this with h | h
    · exact Or.inl ((hm q).mpr ⟨by simpa using h, hq⟩)
    · exact Or.inr h
/-- only these locals are looked at from here on -/
theorem xwk {mi pc : Nat} {L L' : mx_L} {S : List Value} {w : mx_W} {k : Nat × Nat} {r : mx_A} (ks : List Nat) (h1 : lk_ck ks L = true) (h2 : lk_of ks L = L') (h : X mi (pc, L', S, w, k) r) : X mi (pc, L, S, w, k) r := by
  subst h2
  obtain ⟨f, h⟩ := h
  exact ⟨f, lk_R f mi pc _ _ S w k r (lk_ok h1) h⟩
