/-! calls, and a method's contract out of its run -/
/-- the words of a method: its code, and all -/
abbrev mx_ws (GT : List Jvm.Cond) (M : mx_M) : List Jvm.Cond := Jvm.Cond.code (mx_y M) (mx_cc M) (mx_ml M) (mx_ret M) :: GT
abbrev mx_rm (M : mx_M) (q : mx_A) : Room := { frames := mx_rk M, cells := q.2.2.1, slots := q.2.2.2, locals := 256 * mx_rk M }
def mx_Pc (D : va_G) (cl : List vw_C) (cT : Nat → ClassId) (NW : List Jvm.Cond) (ad : Nat → Nat) (av : List Value) (w : mx_W) (sz : Nat) : Array Value → State → Prop := va_Pc (av.map (mx_v ad)) (fun U => U.heap.size = sz ∧ va_P D cl (mx_w cT ad w) U.heap ∧ va_K D cl (mx_tys cT) U ∧ va_D (fun _ => True) (mx_w cT ad w) ∧ ∀ z ∈ NW, va_Nw z U)
def mx_Qc (D : va_G) (cl : List vw_C) (cT : Nat → ClassId) (ad : Nat → Nat) (w : mx_W) (sz : Nat) (q : mx_A) : Array Value → State → Outcome → State → Prop := fun _ st oc t =>
  (∃ ad' : Nat → Nat, (∀ k, k < w.length ∨ q.2.1.length ≤ k → ad' k = ad k) ∧ (q.2.2.1 = 0 → ad' = ad) ∧ w.length ≤ q.2.1.length ∧ oc = .returned (q.1.map (mx_v ad')) ∧ va_P D cl (mx_w cT ad' q.2.1) t.heap ∧ va_D (va_A (mx_w cT ad w) sz) (mx_w cT ad' q.2.1)) ∧ va_F (va_A (mx_w cT ad w) sz) st t
def mx_good (GT : List Jvm.Cond) : Prop := ∀ w ∈ GT, (w.onTables && w.keeps) = true ∨ ∃ ty, w = Jvm.Cond.arrayClass ty
def mx_nest (NW : List Jvm.Cond) : Prop := ∀ z ∈ NW, ∃ a i x h, z = Jvm.Cond.methodLinkNest a i x h
theorem mx_NW_warm {NW : List Jvm.Cond} (hN : mx_nest NW) {s U : State} (hW : s.WarmedH U.vm) (h : ∀ z ∈ NW, va_Nw z s) : ∀ z ∈ NW, va_Nw z U := by
  intro z hz
  obtain ⟨a, i, x, hh, rfl⟩ := hN z hz
  exact va_Nw.warmM hW (h _ hz)
theorem mx_Pc_blind {D : va_G} {cl : List vw_C} {cT : Nat → ClassId} {NW : List Jvm.Cond} (hN : mx_nest NW) {ad : Nat → Nat} {av : List Value} {w : mx_W} {sz : Nat} : FrameBlind (mx_Pc D cl cT NW ad av w sz) := by
  intro a U g mk q
  obtain ⟨q0, q1, qP, qK, qD, qN⟩ := q
  refine ⟨q0, q1, qP, va_K.moved (u := U) (U := U.calling g mk a) (Vm.Alike.refl U.vm) qK, qD, fun z hz => ?_⟩
  obtain ⟨a', i, x, hh, rfl⟩ := hN z hz
  exact va_Nw.same rfl rfl (qN _ hz)
theorem mx_largs {ad : Nat → Nat} : ∀ (av : List Value) (i : Nat), lv_args i (av.map (mx_v ad)) = mx_l ad (lv_args i av) := by
  intro av
  induction av with
  | nil => intro i; rfl
  | cons v vs ih =>
    intro i
    show (i, mx_v ad v) :: lv_args (if (mx_v ad v).category = 2 then i + 2 else i + 1) (vs.map (mx_v ad)) = (i, mx_v ad v) :: mx_l ad (lv_args (if v.category = 2 then i + 2 else i + 1) vs)
    rw [mx_v_cat, ih]
theorem mx_slen : ∀ (av : List Value), (lg_sl av).length = mx_cs av := by
  intro av
  induction av with
  | nil => rfl
  | cons v vs ih =>
    unfold lg_sl mx_cs at *
    rw [List.flatMap_cons, List.length_append, ih, List.map_cons, List.sum_cons]
    congr 1
    rcases lv_cat v with h | h
    · rw [if_neg (by omega), h]; rfl
    · rw [if_pos h, h]; rfl
theorem mx_cs_map {ad : Nat → Nat} {r : List Value} : mx_cs (r.map (mx_v ad)) = mx_cs r := mx_cs_v
section MXC
variable {p : Program} {l : Launch} {e : Env} {R : Room} {s : State} {m : MethodId} {args : Array Value} {below : List Frame} {meth : Method} {c : Code} {Q : State → Prop}
variable {D : va_G} {cl : List vw_C} {cT : Nat → ClassId} {A : Nat → Prop} {nL n0 : Nat} {ad0 : Nat → Nat} {ty : Nat → Nat → FieldType} {GT NW : List Jvm.Cond} {MT : Nat → Option mx_M} {M M' : mx_M}
/-- behind a call -/
theorem mx_after {pc : Nat} {ls : Array Slot} {st0 rest : List Value} {H : Heap} {locs : List Loc} {cells slots : Nat} {a : Array Value} {ad : Nat → Nat} {w : mx_W} {q : mx_A}
    (hr : va_Run p l e R s m args below meth c H locs cells slots q.2.2.1 q.2.2.2 (F0 m pc ls st0) rest (mx_Qc D cl cT ad w H.size q a) (va_A (mx_w cT ad w) H.size)) (hS : va_S A s.heap H locs) (hF : ∀ z, va_A (mx_w cT ad w) H.size z → A z)
    (kk : ∀ (ad' : Nat → Nat) (H1 : Heap) (locs1 : List Loc), (∀ k, k < w.length ∨ q.2.1.length ≤ k → ad' k = ad k) → (q.2.2.1 = 0 → ad' = ad) → w.length ≤ q.2.1.length → va_P D cl (mx_w cT ad' q.2.1) H1 → va_D A (mx_w cT ad' q.2.1) → va_S A s.heap H1 locs1 → W p l e R s m args below meth c H1 locs1 (cells + q.2.2.1) (slots + q.2.2.2) Q (F0 m (pc + 3) ls ((q.1.map (mx_v ad')).toList ++ rest))) :
    W p l e R s m args below meth c H locs cells slots Q (F0 m pc ls st0) := by
  intro T hT X
  obtain ⟨v, st₀, t, T', L, h0, X', hL, e1, e2, ⟨⟨ad', g1, g2, g3, hv, g4, g5⟩, hz, hk⟩, st⟩ := hr T hT X
  have hv : v = q.1.map (mx_v ad') := by injection hv
  subst hv
  rw [h0] at hz hk
  obtain ⟨t2, a1, b1⟩ := kk ad' T'.heap (locs ++ L) g1 g2 g3 (by rw [e1]; exact g4) (g5.weaken (fun _ _ _ h => hF _ h))
    ⟨Nat.le_trans hS.1 (by rw [e1]; exact hz), fun z h1 h2 => by rw [e1, hk z (Nat.lt_of_lt_of_le h1 hS.1) (fun y => h2 (hF z y))]; exact hS.2.1 z h1 h2, fun z hq => by
      rcases List.mem_append.mp hq with h | h
      · exact hS.2.2 z h
      · exact hF _ (hL z h)⟩ T' rfl X'
  exact ⟨t2, st t2 a1, b1⟩
theorem mx_goodIn (hG : mx_good GT) (hc : Jvm.Cond.code (mx_y M') (mx_cc M') (mx_ml M') (mx_ret M') ∈ GT) : GoodIn GT (mx_ws GT M') := by
  intro w hw
  rcases List.mem_cons.mp hw with rfl | hw
  · exact ⟨hc, hG _ hc⟩
  · exact ⟨hw, hG _ hw⟩
theorem mx_Pre (hN : mx_nest NW) (hNs : ∀ z ∈ NW, va_Nw z s) (hK : va_K D cl (mx_tys cT) s) {H : Heap} {ad : Nat → Nat} {w : mx_W} (hP : va_P D cl (mx_w cT ad w) H) (hD : va_D A (mx_w cT ad w)) (av : List Value) : PreS s H (mx_Pc D cl cT NW ad av w H.size) (av.map (mx_v ad)) := by
  refine ⟨mx_Pc_blind hN, fun U hU hW => ⟨rfl, by rw [hU], by rw [hU]; exact hP, va_K.moved hW.alike hK, hD.weaken (fun _ _ _ _ => trivial), mx_NW_warm hN hW hNs⟩⟩
theorem mx_aF {H : Heap} {locs : List Loc} {ad : Nat → Nat} {w : mx_W} (hA : ∀ q, s.heap.size ≤ q → A q) (hD : va_D A (mx_w cT ad w)) (hS : va_S A s.heap H locs) : ∀ z, va_A (mx_w cT ad w) H.size z → A z := by
  intro z h
  rcases h with ⟨k, x, h⟩ | h
  · exact hD.2 k _ h
  · exact hA z (Nat.le_trans hS.1 h)
theorem mx_td {S : List Value} {n : Nat} {ad : Nat → Nat} : S.map (mx_v ad) = ((S.take n).reverse.map (mx_v ad)).reverse ++ (S.drop n).map (mx_v ad) := by
  rw [List.map_reverse, List.reverse_reverse, ← List.map_append, List.take_append_drop]
theorem mx_tl {S : List Value} {n : Nat} {ad : Nat → Nat} (h : n ≤ S.length) : ((S.take n).reverse.map (mx_v ad)).length = n := by
  rw [List.length_map, List.length_reverse, List.length_take]
  omega
end MXC
