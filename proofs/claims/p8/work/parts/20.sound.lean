/-! a run of the small machine gives the method's contract -/
theorem mx_end_k {M : mx_M} {i : Instr} {st : mx_S} {r : mx_A} (h : mx_end M i st = some r) : r.2 = st.2.2.2 := by
  unfold mx_end at h
  split at h
  · cases h; rfl
  · split at h
    · cases h; rfl
    · cases h
  · cases h; rfl
  · cases h
theorem mx_R_le2 {cl : List vw_C} {ty : Nat → Nat → FieldType} {MT : Nat → Option mx_M} : ∀ (f : Nat) (mi : Nat) (st : mx_S) (r : mx_A), mx_R cl ty MT f mi st r → st.2.2.2.2.1 ≤ r.2.2.1 ∧ st.2.2.2.2.2 ≤ r.2.2.2 := by
  intro f
  induction f with
  | zero => intro mi st r h; exact h.elim
  | succ f ih =>
    intro mi st r h
    obtain ⟨M, i, len, h1, h2, h3⟩ := h
    rcases h3 with ⟨-, h3⟩ | ⟨st', h3, h4⟩ | ⟨h3, n, M', av, rest, q, h4, h8, h5, h6, h7⟩
    · rw [mx_end_k h3]; exact ⟨Nat.le_refl _, Nat.le_refl _⟩
    · obtain ⟨a1, a2⟩ := mx_go_le h3
      obtain ⟨b1, b2⟩ := ih _ _ _ h4
      exact ⟨Nat.le_trans a1 b1, Nat.le_trans a2 b2⟩
    · obtain ⟨b1, b2⟩ := ih _ _ _ h7
      exact ⟨Nat.le_trans (Nat.le_add_right _ _) b1, Nat.le_trans (Nat.le_add_right _ _) b2⟩
section MXE
variable {p : Program} {l : Launch} {e : Env} {R : Room} {s : State} {m : MethodId} {args : Array Value} {below : List Frame} {meth : Method} {c : Code}
variable {D : va_G} {cl : List vw_C} {cT : Nat → ClassId} {ad0 : Nat → Nat} {ty : Nat → Nat → FieldType} {GT NW : List Jvm.Cond} {MT : Nat → Option mx_M} {M : mx_M} {w0 : mx_W}
theorem mx_end_ok (F : mx_F p R s m args meth c D cl cT (va_A (mx_w cT ad0 w0) s.heap.size) ty GT NW MT M) (hr : meth.sig.returnType = mx_ret M) (hlocks : meth.locks = false) {i : Instr} {st : mx_S} {r : mx_A} (hd : decode (mx_cc M) st.1 = .ok (i, 1)) (h : mx_end M i st = some r) :
    mx_G p l e R s m args below meth c (MQ below (mx_Qc D cl cT ad0 w0 s.heap.size r) args s r.2.2.1 r.2.2.2 (va_A (mx_w cT ad0 w0) s.heap.size)) D cl cT (va_A (mx_w cT ad0 w0) s.heap.size) (mx_ml M) w0.length ad0 st := by
  obtain ⟨hx, hb, hml, hown, hts, hnm, hK, hA, hC, hJ, hL, hR, hY⟩ := F
  unfold mx_end at h
  split at h
  · next pc L v k hret =>
    cases h
    intro ad H locs ls h1 h2 h3 h4 h5 h6 h7
    exact W.iret hx hb (hr.trans hret) (fun t ht hW => ⟨⟨ad, h1, h2, h3, rfl, by rw [ht]; exact h4, h5⟩, h6.F ht⟩) h6.2.2 hd
  · next pc L v k hret =>
    split at h
    · next hv =>
      cases h
      intro ad H locs ls h1 h2 h3 h4 h5 h6 h7
      exact W.zret hx hb (hr.trans hret) (by rcases hv with rfl | rfl <;> rfl) (fun t ht hW => ⟨⟨ad, h1, h2, h3, rfl, by rw [ht]; exact h4, h5⟩, h6.F ht⟩) h6.2.2 hd
    · cases h
  · next pc L k hret =>
    cases h
    intro ad H locs ls h1 h2 h3 h4 h5 h6 h7
    exact W.vret hx hb (hr.trans hret) (fun t ht hW => ⟨⟨ad, h1, h2, h3, rfl, by rw [ht]; exact h4, h5⟩, h6.F ht⟩) h6.2.2 hd
  · cases h
theorem mx_run_ok (F : mx_F p R s m args meth c D cl cT (va_A (mx_w cT ad0 w0) s.heap.size) ty GT NW MT M) (hG : mx_good GT) (hN : mx_nest NW) (hNs : ∀ z ∈ NW, va_Nw z s) (hYs : ∀ n M', MT n = some M' → mx_okY cl GT M') (hr : meth.sig.returnType = mx_ret M) (hlocks : meth.locks = false) {mi : Nat} (hmi : MT mi = some M) (hRf : mx_rk M ≤ R.frames) (hRl : 256 * mx_rk M ≤ R.locals)
    (ih : ∀ (n : Nat) (M' : mx_M), MT n = some M' → mx_rk M' < mx_rk M → ∀ (f : Nat) (av : List Value) (w : mx_W) (q : mx_A), mx_R cl ty MT f n (0, lv_args 0 av, [], w, 0, 0) q → mx_cs av ≤ mx_ml M' → ∀ (ad : Nat → Nat) (sz : Nat), Met l (mx_y M') (mx_ws GT M') (mx_rm M' q) (mx_Pc D cl cT NW ad av w sz) (mx_Qc D cl cT ad w sz q) q.2.2.1 q.2.2.2 (va_A (mx_w cT ad w) sz)) :
    ∀ (f : Nat) (st : mx_S) (r : mx_A), mx_R cl ty MT f mi st r → r.2.2.1 ≤ R.cells → r.2.2.2 ≤ R.slots →
      mx_G p l e R s m args below meth c (MQ below (mx_Qc D cl cT ad0 w0 s.heap.size r) args s r.2.2.1 r.2.2.2 (va_A (mx_w cT ad0 w0) s.heap.size)) D cl cT (va_A (mx_w cT ad0 w0) s.heap.size) (mx_ml M) w0.length ad0 st := by
  intro f
  induction f with
  | zero => intro st r h; exact h.elim
  | succ f ihf =>
    intro st r h hkc hks
    have hle := mx_R_le2 _ _ _ _ h
    obtain ⟨M1, i, len, h1, h2, h3⟩ := h
    have hM1 : M1 = M := Option.some.inj (h1.symm.trans hmi)
    subst hM1
    rcases h3 with ⟨rfl, h3⟩ | ⟨st', h3, h4⟩ | ⟨rfl, n, M', av, rest, q, h4, h8, h5, h6, h7⟩
    · exact mx_end_ok F hr hlocks h2 h3
    · have hle' := mx_R_le2 _ _ _ _ h4
      exact mx_go_ok F h2 h3 (Nat.le_trans hle.1 hkc) (Nat.le_trans hle.2 hks) (Nat.le_trans hle'.1 hkc) (Nat.le_trans hle'.2 hks) (ihf st' r h4 hkc hks)
    · have hle' := mx_R_le2 _ _ _ _ h7
      obtain ⟨x, c1, c2, c3, -⟩ := mx_cal_inv h4
      exact mx_call_ok F hG hN hNs (hYs _ _ c2) h2 h4 (fun ad sz => ih n M' c2 c3 f av _ q h5 (Nat.le_of_ble_eq_true h8) ad sz) hRf hRl (Nat.le_trans hle'.1 hkc) (Nat.le_trans hle'.2 hks) h6 (ihf _ r h7 hkc hks)
end MXE
/-- what is decided once of the tables -/
def mx_tab_ok0 (cl : List vw_C) (ty : Nat → Nat → FieldType) (GT NW : List Jvm.Cond) (MT : Nat → Option mx_M) : Prop := (∀ ci r, cl[ci]? = some r → mx_okC GT ty ci r) ∧ mx_okJ GT ∧ mx_good GT ∧ mx_nest NW ∧ (∀ n M, MT n = some M → mx_okL cl GT NW MT M ∧ mx_okY cl GT M)
/-- THE CONTRACT OUT OF A RUN -/
theorem mx_sound {cl : List vw_C} {ty : Nat → Nat → FieldType} {GT NW : List Jvm.Cond} {MT : Nat → Option mx_M} (T : mx_tab_ok0 cl ty GT NW MT) (l : Launch) (D : va_G) (cT : Nat → ClassId) : ∀ (k : Nat) (n : Nat) (M : mx_M), MT n = some M → mx_rk M < k → ∀ (f : Nat) (av : List Value) (w : mx_W) (q : mx_A), mx_R cl ty MT f n (0, lv_args 0 av, [], w, 0, 0) q → mx_cs av ≤ mx_ml M → ∀ (ad : Nat → Nat) (sz : Nat),
    Met l (mx_y M) (mx_ws GT M) (mx_rm M q) (mx_Pc D cl cT NW ad av w sz) (mx_Qc D cl cT ad w sz q) q.2.2.1 q.2.2.2 (va_A (mx_w cT ad w) sz) := by
  obtain ⟨t1, t2, t3, t4, t5⟩ := T
  intro k
  induction k with
  | zero => intro n M hM hk; omega
  | succ k ih =>
    intro n M hM hk f av w q hR hav ad sz
    have hY := (t5 n M hM).2
    refine Met.ofW (cc := mx_cc M) (maxL := mx_ml M) (ret := mx_ret M) hY.1 rfl ?_
    intro p e s m args below meth c s₁ B hml hv
    obtain ⟨rfl, hsz, hP, hK, hD0, hNs⟩ := hv
    have hx := B.exec
    have hb := B.bytes
    have hr := B.returns
    have hts0 := atoms_spec (ws := mx_ws GT M) B.pre
    have hts : ∀ z ∈ GT, z.before (av.map (mx_v ad)).toArray s = true := fun z hz => hts0 z (List.mem_cons_of_mem _ hz)
    have hown0 : s.vm.findClass (mx_y M).cls = some m.cls := findClass_of_methodNamed B.named
    have hown : s.vm.findClass (mx_own M) = some m.cls := by rw [hY.2.1]; exact hown0
    have hlocks := B.notSynchronized
    have hnm : meth.name = (mx_y M).name := (name_of_methodNamed B.named B.method).1
    subst hsz
    have hD := hD0.self (sz := s.heap.size)
    have hA : ∀ q : Nat, s.heap.size ≤ q → va_A (mx_w cT ad w) s.heap.size q := fun q h => Or.inr h
    have hl := lv_entry (av.map (mx_v ad)) (n := mx_ml M) (by rw [mx_slen, mx_cs_map]; exact hav)
    rw [lg_entry_eq]
    generalize (lg_sl (av.map (mx_v ad)) ++ List.replicate (mx_ml M - (lg_sl (av.map (mx_v ad))).length) Slot.unset).toArray = ls at hl ⊢
    rw [mx_largs] at hl
    have F : mx_F p (mx_rm M q) s m (av.map (mx_v ad)).toArray meth c D cl cT (va_A (mx_w cT ad w) s.heap.size) ty GT NW MT M := ⟨hx, hb, hml, hown, hts, fun _ => hnm, hK, hA, t1, t2, (t5 n M hM).1, fun h => ⟨h, by show 128 ≤ 256 * mx_rk M; omega⟩, fun h => by
      obtain ⟨-, z2, -, rr, z4, z5⟩ := hY.2.2.2.2.2.2.2.2.2.2 h
      exact ⟨z2, rr, z4, z5.trans hY.2.1.symm⟩⟩
    exact mx_run_ok F t3 t4 hNs (fun n' M' h' => (t5 n' M' h').2) hr hlocks hM (Nat.le_refl _) (Nat.le_refl _) (fun n' M' h1 h2 f' av' w' q' h3 h4 ad' sz' => ih n' M' h1 (by omega) f' av' w' q' h3 h4 ad' sz') f _ q hR (Nat.le_refl _) (Nat.le_refl _) ad s.heap [] ls (fun _ _ => rfl) (fun _ => rfl) (Nat.le_refl _) hP hD va_S.rf hl
