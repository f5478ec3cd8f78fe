/-! a throw that comes out of a call, taken by the one row of the caller's table -/
section CX
variable {p : Program} {l : Launch} {e : Env} {R : Room} {s : State} {m : MethodId} {args : Array Value} {below : List Frame} {meth : Method} {c : Code} {H : Heap} {locs : List Loc} {cells slots : Nat} {Q : State → Prop} {T : State}
set_option maxHeartbeats 1000000 in
theorem cx_one (X : Stand p l e R s m args below meth c T locs cells slots) {q : Addr} {pc : Nat} {ls : Array Slot} {rest : List Value} {ce : Cell} (hcell : T.heap[q]? = some ce) (hv : ce.vm = .none) {x : ExceptionTableEntry} (ht : c.exceptionTable.toList = [x]) (hx : covers x pc = true) (h0 : x.catchType ≠ 0) {cE : ClassId} (hl : s.vm.ClassLinks e.platform m.cls x.catchType cE) (hk : ∃ k, s.vm.classes[ce.cls]? = some k) (hfit : s.vm.assignable ce.cls cE = true) :
    ∃ vm', s.WarmedH vm' ∧ Steps p.tables e below ((T.setTop (F0 m pc ls rest)).pushFrame (.throwing q)) ((T.setVm vm').setTop (F0 m x.handlerPc ls [.ref q])) := by
  have hlT : T.vm.ClassLinks e.platform m.cls x.catchType cE := X.warmed.classLinks hl
  obtain ⟨dk, _, _, kt, hd, _, _, _, _, hkt, _, hopen⟩ := hl.here
  have hW : s.WarmedH (T.vm.noted m.cls x.catchType (.cls cE)) := X.warmed.noted hd hopen (State.rightAt_cls hl)
  refine ⟨_, hW, ?_⟩
  obtain ⟨g₁, hfr⟩ := X.frames_eq
  have hpush : (T.setTop (F0 m pc ls rest)).pushFrame (.throwing q) = T.setFrames (.throwing q :: .java (F0 m pc ls rest) :: below) := by
    rw [State.pushFrame, State.frames_setTop _ hfr, State.setTop_of_frames _ hfr, State.setFrames_setFrames]
  have hfr' : (T.setVm (T.vm.noted m.cls x.catchType (.cls cE))).frames = .java g₁ :: below := hfr
  have hobj : ∀ k, ce.vm ≠ .statics k := VmData.ne_statics_of (by rw [hv]; rfl)
  have hal : T.vm.Alike (T.vm.noted m.cls x.catchType (.cls cE)) := (Vm.Alike.refl T.vm).noted _ _ _
  obtain ⟨k0, hk0⟩ := hk
  obtain ⟨k1, hk1, -⟩ := hW.alike.2.2 _ _ hk0
  obtain ⟨k2, hk2, -⟩ := hW.alike.2.2 _ _ hkt
  have hfit' : (T.vm.noted m.cls x.catchType (.cls cE)).assignable ce.cls cE = true := by rw [hW.alike.assignable]; exact hfit
  obtain ⟨g, hg⟩ : ∃ g, g = F0 m pc ls rest := ⟨_, rfl⟩
  have hgm : g.method = m := by rw [hg]
  have hgp : g.pc = pc := by rw [hg]
  obtain ⟨S, hS⟩ : ∃ S, S = (T.setTop (F0 m pc ls rest)).pushFrame (.throwing q) := ⟨_, rfl⟩
  have hSv : S.vm = T.vm := by rw [hS]; rfl
  have hSh : S.heap = T.heap := by rw [hS]; rfl
  -- the search in the table
  have hfind : ∀ (Q : Handler → Pre) (E : CtlPost) (dd : Bool) (acts : List Action), wp (findHandler g q) Q E e dd acts S ↔ Q (.found x.handlerPc) dd acts (S.setVm (T.vm.noted m.cls x.catchType (.cls cE))) := by
    intro Q E dd acts
    rw [W.findHandler_eq (s := S) (f := g) (meth := meth) (code := c) (by rw [hSv, hgm]; exact X.method') X.code, ht]
    have hx' := hx
    simp only [covers] at hx'
    obtain ⟨ha, hb⟩ := (resolveClass_links e.toSetting hlT).op (op := VmOp.resolveClass m.cls x.catchType) rfl
    have hc' : S.heap[q]? = some ce := by rw [hSh]; exact hcell
    simp [findHandler.go, hgm, hgp, hSv, hx', h0, ha, hb, hc', hobj, hk1, hk2, hfit', VmOp.dirties, VmOp.acts]
  have hst : ∀ r : List Frame, (stepThrowing e S q (.java g :: r)).Is ((S.setVm (T.vm.noted m.cls x.catchType (.cls cE))).setFrames (.java { g with pc := x.handlerPc, stack := [.ref q] } :: r)) [] := by
    intro r
    simp only [stepThrowing, searchFrame, vmDo]
    generalize hres : Sem.go _ e false [] S = res
    obtain ⟨as, rfl, ha⟩ := Sem.eq_ok_of hres (a := Handler.found x.handlerPc) (s' := S.setVm (T.vm.noted m.cls x.catchType (.cls cE))) (acts' := []) (by simp [hfind])
    exact ⟨rfl, ha⟩
  have hhere : At T g.method c below := by rw [hgm]; exact X.here
  obtain ⟨hgo, hw⟩ := hhere.throwing (g := g) q
  rw [← hg] at hS ⊢
  refine Steps.head hgo hw ?_
  rw [stepThread_throwing (frames_entered X.here.top _), ← hS, (hst _).1]
  have e1 : (S.setVm (T.vm.noted m.cls x.catchType (.cls cE))).setFrames (.java { g with pc := x.handlerPc, stack := [.ref q] } :: below) = (T.setVm (T.vm.noted m.cls x.catchType (.cls cE))).setTop (F0 m x.handlerPc ls [.ref q]) := by
    rw [State.setTop_of_frames _ hfr', hS, hg, hpush, show ∀ (u : State) (v : Vm) (F : List Frame), (u.setFrames F).setVm v = (u.setVm v).setFrames F from fun _ _ _ => rfl, State.setFrames_setFrames]
  rw [hfr, List.tail_cons, e1]
  exact Steps.refl _
/-- the same, in a walk -/
theorem cx_catch {own name : String} {E : String} {ce : Cell} {q : Addr} {pc : Nat} {ls : Array Slot} {rest : List Value} (hown : s.vm.findClass own = some m.cls) {x : ExceptionTableEntry} (ht : c.exceptionTable.toList = [x]) (hx : covers x pc = true) (h0 : x.catchType ≠ 0) (hlink : (Cond.classLink own x.catchType name).before args s = true) (hcast : (Cond.castable E name).before args s = true) (hcell : H[q]? = some ce) (hv : ce.vm = .none) (hcl : s.vm.findClass E = some ce.cls) (kk : W p l e R s m args below meth c H locs cells slots Q (F0 m x.handlerPc ls [.ref q])) : vx_W p l e R s m args below meth c H locs cells slots Q (F0 m pc ls rest) q := by
  intro T hT X
  have hpl : e.platform.magicAccessors = ({} : Platform).magicAccessors := by rw [X.admits.platform]
  obtain ⟨c3, c4, hc3, hc4, hasg⟩ := Cond.castable_spec hcast
  cases Option.some.inj (hc3.symm.trans hcl)
  obtain ⟨c5, hc5, hcl5⟩ := Cond.classLink_spec hown hlink e.platform hpl
  cases Option.some.inj (hc4.symm.trans hc5)
  obtain ⟨k9, h9, -⟩ := Vm.findClass_spec hcl
  obtain ⟨vm', hW, st⟩ := cx_one X (pc := pc) (ls := ls) (rest := rest) (by rw [hT]; exact hcell) hv ht hx h0 hcl5 ⟨k9, h9⟩ hasg
  obtain ⟨t, a1, b1⟩ := kk (T.setVm vm') hT (X.noted hW)
  exact ⟨t, st.trans a1, b1⟩
end CX
