/-- the cells of a PackDisk of n sectors; a: on, next, rows, generation, openKind, openLength, repaired, found, the journal's size, the gaps' size and inverse; f: the arrays in the order of their making -/
def wD (n : Nat) (a0 a1 a2 a3 a4 a5 a6 a7 a8 a9 a10 : Int32) (f0 f1 f2 f3 f4 f5 f6 f7 f8 f9 f10 f11 f12 : Nat → Int32) (rest : mx_W) : mx_W := .inr (4, [.ref 1, .ref 5, .ref 9, .ref 11, .ref 16, .ref 17, .int a0, .int a1, .int a2, .int a3, .int a4, .int a5, .int a6, .int a7]) :: .inr (3, [.int (nI n), .ref 2, .ref 3, .ref 4]) :: .inl (0, 32 * n, .inl f0) :: .inl (1, n, .inl f1) :: .inl (0, n, .inl f2) :: .inr (2, [.ref 6, .ref 7, .ref 8, .int a8]) :: .inl (0, 60, .inl f3) :: .inl (0, 1920, .inl f4) :: .inl (1, 60, .inl f5) :: .inr (0, [.ref 10]) :: .inl (0, 32, .inl f6) :: .inr (1, [.ref 12, .ref 13, .ref 14, .ref 15, .int a9, .int a10]) :: .inl (0, 4, .inl f7) :: .inl (0, 4, .inl f8) :: .inl (0, 4, .inl f9) :: .inl (0, 48, .inl f10) :: .inl (0, 96, .inl f11) :: .inl (0, 4, .inl f12) :: rest
/-- the cells of a PackDiskModel; b: thrown, isOn, next, rows, generation, repaired, found, kind, size, writes, unknowns; g: its arrays -/
def wM (n : Nat) (b0 b1 b2 b3 b4 b5 b6 b7 b8 b9 b10 : Int32) (g0 g1 g2 g3 g4 g5 g6 g7 g8 g9 g10 g11 g12 g13 g14 : Nat → Int32) (rest : mx_W) : mx_W := .inr (5, [.int b0, .int (nI n), .ref 19, .ref 20, .int b1, .int b2, .int b3, .int b4, .int b5, .int b6, .int b7, .int b8, .ref 21, .int b9, .ref 22, .ref 23, .ref 24, .ref 25, .ref 26, .int b10, .ref 27, .ref 28, .ref 29, .ref 30, .ref 31, .ref 32, .ref 33]) :: .inl (0, 1920, .inl g0) :: .inl (1, 60, .inl g1) :: .inl (0, 96, .inl g2) :: .inl (0, 64, .inl g3) :: .inl (0, 2048, .inl g4) :: .inl (1, 64, .inl g5) :: .inl (0, 32, .inl g6) :: .inl (0, 4, .inl g7) :: .inl (0, 4, .inl g8) :: .inl (0, 4, .inl g9) :: .inl (0, 4, .inl g10) :: .inl (0, 24, .inl g11) :: .inl (0, 24, .inl g12) :: .inl (0, 24, .inl g13) :: .inl (0, 24, .inl g14) :: rest

/-- a state: the count of sectors, numbers, arrays -/
abbrev St : Type := Nat × (Nat → Int32) × (Nat → Nat → Int32)
def gN (s : St) : Nat := s.1
def gI (s : St) (k : Nat) : Int32 := s.2.1 k
def gA (s : St) (k : Nat) : Nat → Int32 := s.2.2 k
def sI (s : St) (k : Nat) (v : Int32) : St := (s.1, upd s.2.1 k v, s.2.2)
def sA (s : St) (k : Nat) (f : Nat → Int32) : St := (s.1, s.2.1, fun j => if j = k then f else s.2.2 j)
def bnd {α β : Type} (x : α) (K : α → Option β) : Option β := K x
def ldA {α : Type} (f : Nat → Int32) (n : Nat) (i : Int32) (K : Int32 → Option α) : Option α := if ¬ (i < 0 ∨ n ≤ i.toNatClampNeg) then K (f i.toNatClampNeg) else none
def stA {α : Type} (s : St) (k n : Nat) (i v : Int32) (K : St → Option α) : Option α := if ¬ (i < 0 ∨ n ≤ i.toNatClampNeg) then K (sA s k (upd (gA s k) i.toNatClampNeg v)) else none
def cpA {α : Type} (s : St) (k0 n0 k1 n1 : Nat) (sp dp z : Int32) (K : St → Option α) : Option α := if ¬ sp < 0 ∧ ¬ dp < 0 ∧ ¬ z < 0 ∧ sp.toNatClampNeg + z.toNatClampNeg ≤ n0 ∧ dp.toNatClampNeg + z.toNatClampNeg ≤ n1 then K (sA s k1 (va_cpy (gA s k0) (gA s k1) sp.toNatClampNeg dp.toNatClampNeg z.toNatClampNeg)) else none
def rz {α : Type} (v : Int32) (x : Option α) : Option α := if v = 0 ∨ v = 1 then x else none
def bindP {α β γ : Type} (o : Option (α × β)) (K : α → β → Option γ) : Option γ := o.bind fun q => K q.1 q.2
theorem obind {α β : Type} {o : Option α} {K : α → Option β} {r : β} (h : o.bind K = some r) : ∃ v, o = some v ∧ K v = some r := by
  cases o with
  | none => cases h
  | some v => exact ⟨v, rfl, h⟩
theorem obindP {α β γ : Type} {o : Option (α × β)} {K : α → β → Option γ} {r : γ} (h : bindP o K = some r) : ∃ v t, o = some (v, t) ∧ K v t = some r := by
  cases o with
  | none => cases h
  | some v => exact ⟨v.1, v.2, rfl, h⟩
theorem orz {α : Type} {v : Int32} {x : Option α} {r : α} (h : rz v x = some r) : (v = 0 ∨ v = 1) ∧ x = some r := by
  unfold rz at h
  split at h
  · rename_i hz; exact ⟨hz, h⟩
  · cases h
theorem osw {α : Type} {p : Prop} [Decidable p] {A B : Option α} {r : α} (h : (bif decide p then A else B) = some r) : (p ∧ A = some r) ∨ (¬ p ∧ B = some r) := by
  by_cases hp : p
  · rw [decide_eq_true hp] at h; exact Or.inl ⟨hp, h⟩
  · rw [decide_eq_false hp] at h; exact Or.inr ⟨hp, h⟩
theorem sw_ne {x : Int32} {i : Nat} (hi : i < 64) (h : ¬ x = nI i) : x.toInt ≠ (i : Int) := by
  intro e
  apply h
  apply Int32.toInt_inj.mp
  rw [e]
  have : ∀ j : Fin 64, ((j : Nat) : Int) = (nI (j : Nat)).toInt := by decide
  exact this ⟨i, hi⟩

def wd (s : St) (rest : mx_W) : mx_W := wD (gN s) (gI s 0) (gI s 1) (gI s 2) (gI s 3) (gI s 4) (gI s 5) (gI s 6) (gI s 7) (gI s 8) (gI s 9) (gI s 10) (gA s 0) (gA s 1) (gA s 2) (gA s 3) (gA s 4) (gA s 5) (gA s 6) (gA s 7) (gA s 8) (gA s 9) (gA s 10) (gA s 11) (gA s 12) rest
def wm (s : St) (rest : mx_W) : mx_W := wM (gN s) (gI s 0) (gI s 1) (gI s 2) (gI s 3) (gI s 4) (gI s 5) (gI s 6) (gI s 7) (gI s 8) (gI s 9) (gI s 10) (gA s 0) (gA s 1) (gA s 2) (gA s 3) (gA s 4) (gA s 5) (gA s 6) (gA s 7) (gA s 8) (gA s 9) (gA s 10) (gA s 11) (gA s 12) (gA s 13) (gA s 14) rest
theorem at_2 {s : St} {rest : mx_W} : (wd s rest)[2]? = some (.inl (0, 32 * gN s, .inl (gA s 0))) := rfl
theorem set_2 {s : St} {rest : mx_W} {f : Nat → Int32} : (wd s rest).set 2 (.inl (0, 32 * gN s, .inl f)) = wd (sA s 0 f) rest := rfl
theorem at_3 {s : St} {rest : mx_W} : (wd s rest)[3]? = some (.inl (1, gN s, .inl (gA s 1))) := rfl
theorem set_3 {s : St} {rest : mx_W} {f : Nat → Int32} : (wd s rest).set 3 (.inl (1, gN s, .inl f)) = wd (sA s 1 f) rest := rfl
theorem at_4 {s : St} {rest : mx_W} : (wd s rest)[4]? = some (.inl (0, gN s, .inl (gA s 2))) := rfl
theorem set_4 {s : St} {rest : mx_W} {f : Nat → Int32} : (wd s rest).set 4 (.inl (0, gN s, .inl f)) = wd (sA s 2 f) rest := rfl
theorem at_6 {s : St} {rest : mx_W} : (wd s rest)[6]? = some (.inl (0, 60, .inl (gA s 3))) := rfl
theorem set_6 {s : St} {rest : mx_W} {f : Nat → Int32} : (wd s rest).set 6 (.inl (0, 60, .inl f)) = wd (sA s 3 f) rest := rfl
theorem at_7 {s : St} {rest : mx_W} : (wd s rest)[7]? = some (.inl (0, 1920, .inl (gA s 4))) := rfl
theorem set_7 {s : St} {rest : mx_W} {f : Nat → Int32} : (wd s rest).set 7 (.inl (0, 1920, .inl f)) = wd (sA s 4 f) rest := rfl
theorem at_8 {s : St} {rest : mx_W} : (wd s rest)[8]? = some (.inl (1, 60, .inl (gA s 5))) := rfl
theorem set_8 {s : St} {rest : mx_W} {f : Nat → Int32} : (wd s rest).set 8 (.inl (1, 60, .inl f)) = wd (sA s 5 f) rest := rfl
theorem at_10 {s : St} {rest : mx_W} : (wd s rest)[10]? = some (.inl (0, 32, .inl (gA s 6))) := rfl
theorem set_10 {s : St} {rest : mx_W} {f : Nat → Int32} : (wd s rest).set 10 (.inl (0, 32, .inl f)) = wd (sA s 6 f) rest := rfl
theorem at_12 {s : St} {rest : mx_W} : (wd s rest)[12]? = some (.inl (0, 4, .inl (gA s 7))) := rfl
theorem set_12 {s : St} {rest : mx_W} {f : Nat → Int32} : (wd s rest).set 12 (.inl (0, 4, .inl f)) = wd (sA s 7 f) rest := rfl
theorem at_13 {s : St} {rest : mx_W} : (wd s rest)[13]? = some (.inl (0, 4, .inl (gA s 8))) := rfl
theorem set_13 {s : St} {rest : mx_W} {f : Nat → Int32} : (wd s rest).set 13 (.inl (0, 4, .inl f)) = wd (sA s 8 f) rest := rfl
theorem at_14 {s : St} {rest : mx_W} : (wd s rest)[14]? = some (.inl (0, 4, .inl (gA s 9))) := rfl
theorem set_14 {s : St} {rest : mx_W} {f : Nat → Int32} : (wd s rest).set 14 (.inl (0, 4, .inl f)) = wd (sA s 9 f) rest := rfl
theorem at_15 {s : St} {rest : mx_W} : (wd s rest)[15]? = some (.inl (0, 48, .inl (gA s 10))) := rfl
theorem set_15 {s : St} {rest : mx_W} {f : Nat → Int32} : (wd s rest).set 15 (.inl (0, 48, .inl f)) = wd (sA s 10 f) rest := rfl
theorem at_16 {s : St} {rest : mx_W} : (wd s rest)[16]? = some (.inl (0, 96, .inl (gA s 11))) := rfl
theorem set_16 {s : St} {rest : mx_W} {f : Nat → Int32} : (wd s rest).set 16 (.inl (0, 96, .inl f)) = wd (sA s 11 f) rest := rfl
theorem at_17 {s : St} {rest : mx_W} : (wd s rest)[17]? = some (.inl (0, 4, .inl (gA s 12))) := rfl
theorem set_17 {s : St} {rest : mx_W} {f : Nat → Int32} : (wd s rest).set 17 (.inl (0, 4, .inl f)) = wd (sA s 12 f) rest := rfl
theorem at_19 {d s : St} {rest : mx_W} : (wd d (wm s rest))[19]? = some (.inl (0, 1920, .inl (gA s 0))) := rfl
theorem set_19 {d s : St} {rest : mx_W} {f : Nat → Int32} : (wd d (wm s rest)).set 19 (.inl (0, 1920, .inl f)) = wd d (wm (sA s 0 f) rest) := rfl
theorem at_20 {d s : St} {rest : mx_W} : (wd d (wm s rest))[20]? = some (.inl (1, 60, .inl (gA s 1))) := rfl
theorem set_20 {d s : St} {rest : mx_W} {f : Nat → Int32} : (wd d (wm s rest)).set 20 (.inl (1, 60, .inl f)) = wd d (wm (sA s 1 f) rest) := rfl
theorem at_21 {d s : St} {rest : mx_W} : (wd d (wm s rest))[21]? = some (.inl (0, 96, .inl (gA s 2))) := rfl
theorem set_21 {d s : St} {rest : mx_W} {f : Nat → Int32} : (wd d (wm s rest)).set 21 (.inl (0, 96, .inl f)) = wd d (wm (sA s 2 f) rest) := rfl
theorem at_22 {d s : St} {rest : mx_W} : (wd d (wm s rest))[22]? = some (.inl (0, 64, .inl (gA s 3))) := rfl
theorem set_22 {d s : St} {rest : mx_W} {f : Nat → Int32} : (wd d (wm s rest)).set 22 (.inl (0, 64, .inl f)) = wd d (wm (sA s 3 f) rest) := rfl
theorem at_23 {d s : St} {rest : mx_W} : (wd d (wm s rest))[23]? = some (.inl (0, 2048, .inl (gA s 4))) := rfl
theorem set_23 {d s : St} {rest : mx_W} {f : Nat → Int32} : (wd d (wm s rest)).set 23 (.inl (0, 2048, .inl f)) = wd d (wm (sA s 4 f) rest) := rfl
theorem at_24 {d s : St} {rest : mx_W} : (wd d (wm s rest))[24]? = some (.inl (1, 64, .inl (gA s 5))) := rfl
theorem set_24 {d s : St} {rest : mx_W} {f : Nat → Int32} : (wd d (wm s rest)).set 24 (.inl (1, 64, .inl f)) = wd d (wm (sA s 5 f) rest) := rfl
theorem at_25 {d s : St} {rest : mx_W} : (wd d (wm s rest))[25]? = some (.inl (0, 32, .inl (gA s 6))) := rfl
theorem set_25 {d s : St} {rest : mx_W} {f : Nat → Int32} : (wd d (wm s rest)).set 25 (.inl (0, 32, .inl f)) = wd d (wm (sA s 6 f) rest) := rfl
theorem at_26 {d s : St} {rest : mx_W} : (wd d (wm s rest))[26]? = some (.inl (0, 4, .inl (gA s 7))) := rfl
theorem set_26 {d s : St} {rest : mx_W} {f : Nat → Int32} : (wd d (wm s rest)).set 26 (.inl (0, 4, .inl f)) = wd d (wm (sA s 7 f) rest) := rfl
theorem at_27 {d s : St} {rest : mx_W} : (wd d (wm s rest))[27]? = some (.inl (0, 4, .inl (gA s 8))) := rfl
theorem set_27 {d s : St} {rest : mx_W} {f : Nat → Int32} : (wd d (wm s rest)).set 27 (.inl (0, 4, .inl f)) = wd d (wm (sA s 8 f) rest) := rfl
theorem at_28 {d s : St} {rest : mx_W} : (wd d (wm s rest))[28]? = some (.inl (0, 4, .inl (gA s 9))) := rfl
theorem set_28 {d s : St} {rest : mx_W} {f : Nat → Int32} : (wd d (wm s rest)).set 28 (.inl (0, 4, .inl f)) = wd d (wm (sA s 9 f) rest) := rfl
theorem at_29 {d s : St} {rest : mx_W} : (wd d (wm s rest))[29]? = some (.inl (0, 4, .inl (gA s 10))) := rfl
theorem set_29 {d s : St} {rest : mx_W} {f : Nat → Int32} : (wd d (wm s rest)).set 29 (.inl (0, 4, .inl f)) = wd d (wm (sA s 10 f) rest) := rfl
theorem at_30 {d s : St} {rest : mx_W} : (wd d (wm s rest))[30]? = some (.inl (0, 24, .inl (gA s 11))) := rfl
theorem set_30 {d s : St} {rest : mx_W} {f : Nat → Int32} : (wd d (wm s rest)).set 30 (.inl (0, 24, .inl f)) = wd d (wm (sA s 11 f) rest) := rfl
theorem at_31 {d s : St} {rest : mx_W} : (wd d (wm s rest))[31]? = some (.inl (0, 24, .inl (gA s 12))) := rfl
theorem set_31 {d s : St} {rest : mx_W} {f : Nat → Int32} : (wd d (wm s rest)).set 31 (.inl (0, 24, .inl f)) = wd d (wm (sA s 12 f) rest) := rfl
theorem at_32 {d s : St} {rest : mx_W} : (wd d (wm s rest))[32]? = some (.inl (0, 24, .inl (gA s 13))) := rfl
theorem set_32 {d s : St} {rest : mx_W} {f : Nat → Int32} : (wd d (wm s rest)).set 32 (.inl (0, 24, .inl f)) = wd d (wm (sA s 13 f) rest) := rfl
theorem at_33 {d s : St} {rest : mx_W} : (wd d (wm s rest))[33]? = some (.inl (0, 24, .inl (gA s 14))) := rfl
theorem set_33 {d s : St} {rest : mx_W} {f : Nat → Int32} : (wd d (wm s rest)).set 33 (.inl (0, 24, .inl f)) = wd d (wm (sA s 14 f) rest) := rfl
section XF
variable {mi : Nat} {M : mx_M} {r : mx_A} {pc : Nat} {L : mx_L} {S : List Value} {w : mx_W} {k : Nat × Nat} {t : Nat} {off : Int} {x y : Int32}
theorem xifF {α : Type} {A B : Option α} {q : α} {c : Jvm.ClassFile.Cond} (h1 : tb_MT mi = some M) (h2 : decode (mx_cc M) pc = .ok (.ifCond c off, 3)) (ht : (pc : Int) + off = (t : Int)) (h : (bif mx_cnd c x 0 then A else B) = some q) (kt : A = some q → X mi (t, L, S, w, k) r) (kf : B = some q → X mi (pc + 3, L, S, w, k) r) : X mi (pc, L, .int x :: S, w, k) r :=
  xif h1 h2 ht (fun hc => kt (by rw [hc] at h; exact h)) (fun hc => kf (by rw [hc] at h; exact h))
theorem xcmpF {α : Type} {A B : Option α} {q : α} {c : Jvm.ClassFile.Cond} (h1 : tb_MT mi = some M) (h2 : decode (mx_cc M) pc = .ok (.if_icmp c off, 3)) (ht : (pc : Int) + off = (t : Int)) (h : (bif mx_cnd c x y then A else B) = some q) (kt : A = some q → X mi (t, L, S, w, k) r) (kf : B = some q → X mi (pc + 3, L, S, w, k) r) : X mi (pc, L, .int y :: .int x :: S, w, k) r :=
  xcmp h1 h2 ht (fun hc => kt (by rw [hc] at h; exact h)) (fun hc => kf (by rw [hc] at h; exact h))
theorem xifT {c : Jvm.ClassFile.Cond} (h1 : tb_MT mi = some M) (h2 : decode (mx_cc M) pc = .ok (.ifCond c off, 3)) (ht : (pc : Int) + off = (t : Int)) (hc : mx_cnd c x 0 = true) (kt : X mi (t, L, S, w, k) r) : X mi (pc, L, .int x :: S, w, k) r :=
  xif h1 h2 ht (fun _ => kt) (fun h => by rw [hc] at h; cases h)
theorem xifN {c : Jvm.ClassFile.Cond} (h1 : tb_MT mi = some M) (h2 : decode (mx_cc M) pc = .ok (.ifCond c off, 3)) (ht : (pc : Int) + off = (t : Int)) (hc : mx_cnd c x 0 = false) (kf : X mi (pc + 3, L, S, w, k) r) : X mi (pc, L, .int x :: S, w, k) r :=
  xif h1 h2 ht (fun h => by rw [hc] at h; cases h) (fun _ => kf)
theorem xcmpT {c : Jvm.ClassFile.Cond} (h1 : tb_MT mi = some M) (h2 : decode (mx_cc M) pc = .ok (.if_icmp c off, 3)) (ht : (pc : Int) + off = (t : Int)) (hc : mx_cnd c x y = true) (kt : X mi (t, L, S, w, k) r) : X mi (pc, L, .int y :: .int x :: S, w, k) r :=
  xcmp h1 h2 ht (fun _ => kt) (fun h => by rw [hc] at h; cases h)
theorem xcmpN {c : Jvm.ClassFile.Cond} (h1 : tb_MT mi = some M) (h2 : decode (mx_cc M) pc = .ok (.if_icmp c off, 3)) (ht : (pc : Int) + off = (t : Int)) (hc : mx_cnd c x y = false) (kf : X mi (pc + 3, L, S, w, k) r) : X mi (pc, L, .int y :: .int x :: S, w, k) r :=
  xcmp h1 h2 ht (fun h => by rw [hc] at h; cases h) (fun _ => kf)
theorem xldF {α : Type} {K : Int32 → Option α} {q : α} {a n : Nat} {f : Nat → Int32} (h1 : tb_MT mi = some M) (h2 : decode (mx_cc M) pc = .ok (.iaload, 1)) (hw : w[a]? = some (.inl (0, n, .inl f))) (h : ldA f n x K = some q) (kk : ∀ v, K v = some q → X mi (pc + 1, L, .int v :: S, w, k) r) : X mi (pc, L, .int x :: .ref a :: S, w, k) r := by
  unfold ldA at h
  split at h
  · rename_i hi; exact xald h1 h2 hw hi (kk _ h)
  · cases h
theorem xzldF {α : Type} {K : Int32 → Option α} {q : α} {a n : Nat} {f : Nat → Int32} (h1 : tb_MT mi = some M) (h2 : decode (mx_cc M) pc = .ok (.baload, 1)) (hw : w[a]? = some (.inl (1, n, .inl f))) (h : ldA f n x K = some q) (kk : ∀ v, K v = some q → X mi (pc + 1, L, .int v :: S, w, k) r) : X mi (pc, L, .int x :: .ref a :: S, w, k) r := by
  unfold ldA at h
  split at h
  · rename_i hi; exact xzld h1 h2 hw hi (kk _ h)
  · cases h
theorem xstF {α : Type} {W : St → mx_W} {K : St → Option α} {q : α} {s : St} {v : Int32} {a n j : Nat} (h1 : tb_MT mi = some M) (h2 : decode (mx_cc M) pc = .ok (.iastore, 1)) (hw : (W s)[a]? = some (.inl (0, n, .inl (gA s j)))) (hs : ∀ f, (W s).set a (.inl (0, n, .inl f)) = W (sA s j f)) (h : stA s j n x v K = some q) (kk : ∀ s1, K s1 = some q → X mi (pc + 1, L, S, W s1, k) r) : X mi (pc, L, .int v :: .int x :: .ref a :: S, W s, k) r := by
  unfold stA at h
  split at h
  · rename_i hi; exact xast h1 h2 hw hi (hs _) (kk _ h)
  · cases h
theorem xzstF {α : Type} {W : St → mx_W} {K : St → Option α} {q : α} {s : St} {v : Int32} {a n j : Nat} (h1 : tb_MT mi = some M) (h2 : decode (mx_cc M) pc = .ok (.bastore, 1)) (hw : (W s)[a]? = some (.inl (1, n, .inl (gA s j)))) (hs : ∀ f, (W s).set a (.inl (1, n, .inl f)) = W (sA s j f)) (h : stA s j n x (vp_nar .boolean v) K = some q) (kk : ∀ s1, K s1 = some q → X mi (pc + 1, L, S, W s1, k) r) : X mi (pc, L, .int v :: .int x :: .ref a :: S, W s, k) r := by
  unfold stA at h
  split at h
  · rename_i hi; exact xzst h1 h2 hw hi (hs _) (kk _ h)
  · cases h
theorem xcpF {α : Type} {W : St → mx_W} {K : St → Option α} {q : α} {s : St} {sp dp z : Int32} {a0 n0 j0 a1 n1 j1 l : Nat} (h1 : tb_MT mi = some M) (h2 : decode (mx_cc M) pc = .ok (.invokestatic l, 3)) (h3 : mx_fd (mx_lm M) l = some 3) (hw0 : (W s)[a0]? = some (.inl (0, n0, .inl (gA s j0)))) (hw1 : (W s)[a1]? = some (.inl (0, n1, .inl (gA s j1)))) (hs : ∀ f, (W s).set a1 (.inl (0, n1, .inl f)) = W (sA s j1 f)) (h4 : (Nat.blt 0 (mx_rk M) && Nat.ble (mx_cs S) 8) = true) (h : cpA s j0 n0 j1 n1 sp dp z K = some q) (kk : ∀ s1, K s1 = some q → X mi (pc + 3, L, S, W s1, k) r) : X mi (pc, L, .int z :: .int dp :: .ref a1 :: .int sp :: .ref a0 :: S, W s, k) r := by
  unfold cpA at h
  split at h
  · rename_i hi
    rw [Bool.and_eq_true] at h4
    refine mx_X.go h1 h2 ?_ (kk _ h)
    show ((mx_fd (mx_lm M) l).bind fun n => bif Nat.blt 0 (mx_rk M) then mx_jdk n _ else none) = _
    rw [h3]
    show (bif Nat.blt 0 (mx_rk M) then mx_jdk 3 _ else none) = _
    rw [h4.1]
    show (match (W s)[a0]?, (W s)[a1]? with
    | some (.inl (t0, n0, .inl f)), some (.inl (t1, n1, .inl g)) => if t0 = 0 ∧ t1 = 0 ∧ Nat.ble (mx_cs S) 8 = true ∧ ¬ sp < 0 ∧ ¬ dp < 0 ∧ ¬ z < 0 ∧ sp.toNatClampNeg + z.toNatClampNeg ≤ n0 ∧ dp.toNatClampNeg + z.toNatClampNeg ≤ n1 then some (pc + 3, L, S, (W s).set a1 (.inl (0, n1, .inl (va_cpy f g sp.toNatClampNeg dp.toNatClampNeg z.toNatClampNeg))), k) else none
    | _, _ => none) = _
    rw [hw0, hw1, ← hs]
    exact if_pos ⟨rfl, rfl, h4.2, hi⟩
  · cases h
theorem xdivF (h1 : tb_MT mi = some M) (h2 : decode (mx_cc M) pc = .ok (.idiv, 1)) (hy : ¬ y = 0) (kk : X mi (pc + 1, L, .int (x / y) :: S, w, k) r) : X mi (pc, L, .int y :: .int x :: S, w, k) r :=
  mx_X.go h1 h2 (show (if y = 0 then none else some _) = _ from if_neg hy) kk
theorem xremF (h1 : tb_MT mi = some M) (h2 : decode (mx_cc M) pc = .ok (.irem, 1)) (hy : ¬ y = 0) (kk : X mi (pc + 1, L, .int (x - x / y * y) :: S, w, k) r) : X mi (pc, L, .int y :: .int x :: S, w, k) r :=
  mx_X.go h1 h2 (show (if y = 0 then none else some _) = _ from if_neg hy) kk
theorem xput_a0 {α : Type} {K : St → Option α} {q : α} {s : St} {rest : mx_W} {v : Int32} {l : Nat} (h1 : tb_MT mi = some M) (h2 : decode (mx_cc M) pc = .ok (.putfield l, 3)) (h3 : mx_fd (mx_lf M) l = some (4, 6)) (hz : (v == 0 || v == 1) = true) (h : bnd (sI s 0 v) K = some q) (kk : ∀ s1, K s1 = some q → X mi (pc + 3, L, S, wd s1 rest, k) r) : X mi (pc, L, .int v :: .ref 0 :: S, wd s rest, k) r := by
  refine mx_X.go h1 h2 ?_ (kk (sI s 0 v) h)
  show mx_putf tb_cl tb_ty M (mx_fd (mx_lf M) l) _ = _
  rw [h3]
  show (bif (true && true && (v == 0 || v == 1)) then _ else none) = _
  rw [hz]
  rfl
theorem xput_a1 {α : Type} {K : St → Option α} {q : α} {s : St} {rest : mx_W} {v : Int32} {l : Nat} (h1 : tb_MT mi = some M) (h2 : decode (mx_cc M) pc = .ok (.putfield l, 3)) (h3 : mx_fd (mx_lf M) l = some (4, 7)) (h : bnd (sI s 1 v) K = some q) (kk : ∀ s1, K s1 = some q → X mi (pc + 3, L, S, wd s1 rest, k) r) : X mi (pc, L, .int v :: .ref 0 :: S, wd s rest, k) r := by
  refine mx_X.go h1 h2 ?_ (kk (sI s 1 v) h)
  show mx_putf tb_cl tb_ty M (mx_fd (mx_lf M) l) _ = _
  rw [h3]
  rfl
theorem xput_a2 {α : Type} {K : St → Option α} {q : α} {s : St} {rest : mx_W} {v : Int32} {l : Nat} (h1 : tb_MT mi = some M) (h2 : decode (mx_cc M) pc = .ok (.putfield l, 3)) (h3 : mx_fd (mx_lf M) l = some (4, 8)) (h : bnd (sI s 2 v) K = some q) (kk : ∀ s1, K s1 = some q → X mi (pc + 3, L, S, wd s1 rest, k) r) : X mi (pc, L, .int v :: .ref 0 :: S, wd s rest, k) r := by
  refine mx_X.go h1 h2 ?_ (kk (sI s 2 v) h)
  show mx_putf tb_cl tb_ty M (mx_fd (mx_lf M) l) _ = _
  rw [h3]
  rfl
theorem xput_a3 {α : Type} {K : St → Option α} {q : α} {s : St} {rest : mx_W} {v : Int32} {l : Nat} (h1 : tb_MT mi = some M) (h2 : decode (mx_cc M) pc = .ok (.putfield l, 3)) (h3 : mx_fd (mx_lf M) l = some (4, 9)) (h : bnd (sI s 3 v) K = some q) (kk : ∀ s1, K s1 = some q → X mi (pc + 3, L, S, wd s1 rest, k) r) : X mi (pc, L, .int v :: .ref 0 :: S, wd s rest, k) r := by
  refine mx_X.go h1 h2 ?_ (kk (sI s 3 v) h)
  show mx_putf tb_cl tb_ty M (mx_fd (mx_lf M) l) _ = _
  rw [h3]
  rfl
theorem xput_a4 {α : Type} {K : St → Option α} {q : α} {s : St} {rest : mx_W} {v : Int32} {l : Nat} (h1 : tb_MT mi = some M) (h2 : decode (mx_cc M) pc = .ok (.putfield l, 3)) (h3 : mx_fd (mx_lf M) l = some (4, 10)) (h : bnd (sI s 4 v) K = some q) (kk : ∀ s1, K s1 = some q → X mi (pc + 3, L, S, wd s1 rest, k) r) : X mi (pc, L, .int v :: .ref 0 :: S, wd s rest, k) r := by
  refine mx_X.go h1 h2 ?_ (kk (sI s 4 v) h)
  show mx_putf tb_cl tb_ty M (mx_fd (mx_lf M) l) _ = _
  rw [h3]
  rfl
theorem xput_a5 {α : Type} {K : St → Option α} {q : α} {s : St} {rest : mx_W} {v : Int32} {l : Nat} (h1 : tb_MT mi = some M) (h2 : decode (mx_cc M) pc = .ok (.putfield l, 3)) (h3 : mx_fd (mx_lf M) l = some (4, 11)) (h : bnd (sI s 5 v) K = some q) (kk : ∀ s1, K s1 = some q → X mi (pc + 3, L, S, wd s1 rest, k) r) : X mi (pc, L, .int v :: .ref 0 :: S, wd s rest, k) r := by
  refine mx_X.go h1 h2 ?_ (kk (sI s 5 v) h)
  show mx_putf tb_cl tb_ty M (mx_fd (mx_lf M) l) _ = _
  rw [h3]
  rfl
theorem xput_a6 {α : Type} {K : St → Option α} {q : α} {s : St} {rest : mx_W} {v : Int32} {l : Nat} (h1 : tb_MT mi = some M) (h2 : decode (mx_cc M) pc = .ok (.putfield l, 3)) (h3 : mx_fd (mx_lf M) l = some (4, 12)) (h : bnd (sI s 6 v) K = some q) (kk : ∀ s1, K s1 = some q → X mi (pc + 3, L, S, wd s1 rest, k) r) : X mi (pc, L, .int v :: .ref 0 :: S, wd s rest, k) r := by
  refine mx_X.go h1 h2 ?_ (kk (sI s 6 v) h)
  show mx_putf tb_cl tb_ty M (mx_fd (mx_lf M) l) _ = _
  rw [h3]
  rfl
theorem xput_a7 {α : Type} {K : St → Option α} {q : α} {s : St} {rest : mx_W} {v : Int32} {l : Nat} (h1 : tb_MT mi = some M) (h2 : decode (mx_cc M) pc = .ok (.putfield l, 3)) (h3 : mx_fd (mx_lf M) l = some (4, 13)) (h : bnd (sI s 7 v) K = some q) (kk : ∀ s1, K s1 = some q → X mi (pc + 3, L, S, wd s1 rest, k) r) : X mi (pc, L, .int v :: .ref 0 :: S, wd s rest, k) r := by
  refine mx_X.go h1 h2 ?_ (kk (sI s 7 v) h)
  show mx_putf tb_cl tb_ty M (mx_fd (mx_lf M) l) _ = _
  rw [h3]
  rfl
theorem xput_a8 {α : Type} {K : St → Option α} {q : α} {s : St} {rest : mx_W} {v : Int32} {l : Nat} (h1 : tb_MT mi = some M) (h2 : decode (mx_cc M) pc = .ok (.putfield l, 3)) (h3 : mx_fd (mx_lf M) l = some (2, 3)) (h : bnd (sI s 8 v) K = some q) (kk : ∀ s1, K s1 = some q → X mi (pc + 3, L, S, wd s1 rest, k) r) : X mi (pc, L, .int v :: .ref 5 :: S, wd s rest, k) r := by
  refine mx_X.go h1 h2 ?_ (kk (sI s 8 v) h)
  show mx_putf tb_cl tb_ty M (mx_fd (mx_lf M) l) _ = _
  rw [h3]
  rfl
theorem xput_a9 {α : Type} {K : St → Option α} {q : α} {s : St} {rest : mx_W} {v : Int32} {l : Nat} (h1 : tb_MT mi = some M) (h2 : decode (mx_cc M) pc = .ok (.putfield l, 3)) (h3 : mx_fd (mx_lf M) l = some (1, 4)) (h : bnd (sI s 9 v) K = some q) (kk : ∀ s1, K s1 = some q → X mi (pc + 3, L, S, wd s1 rest, k) r) : X mi (pc, L, .int v :: .ref 11 :: S, wd s rest, k) r := by
  refine mx_X.go h1 h2 ?_ (kk (sI s 9 v) h)
  show mx_putf tb_cl tb_ty M (mx_fd (mx_lf M) l) _ = _
  rw [h3]
  rfl
theorem xput_a10 {α : Type} {K : St → Option α} {q : α} {s : St} {rest : mx_W} {v : Int32} {l : Nat} (h1 : tb_MT mi = some M) (h2 : decode (mx_cc M) pc = .ok (.putfield l, 3)) (h3 : mx_fd (mx_lf M) l = some (1, 5)) (h : bnd (sI s 10 v) K = some q) (kk : ∀ s1, K s1 = some q → X mi (pc + 3, L, S, wd s1 rest, k) r) : X mi (pc, L, .int v :: .ref 11 :: S, wd s rest, k) r := by
  refine mx_X.go h1 h2 ?_ (kk (sI s 10 v) h)
  show mx_putf tb_cl tb_ty M (mx_fd (mx_lf M) l) _ = _
  rw [h3]
  rfl
theorem xput_b0 {α : Type} {K : St → Option α} {q : α} {d s : St} {rest : mx_W} {v : Int32} {l : Nat} (h1 : tb_MT mi = some M) (h2 : decode (mx_cc M) pc = .ok (.putfield l, 3)) (h3 : mx_fd (mx_lf M) l = some (5, 0)) (h : bnd (sI s 0 v) K = some q) (kk : ∀ s1, K s1 = some q → X mi (pc + 3, L, S, wd d (wm s1 rest), k) r) : X mi (pc, L, .int v :: .ref 18 :: S, wd d (wm s rest), k) r := by
  refine mx_X.go h1 h2 ?_ (kk (sI s 0 v) h)
  show mx_putf tb_cl tb_ty M (mx_fd (mx_lf M) l) _ = _
  rw [h3]
  rfl
theorem xput_b1 {α : Type} {K : St → Option α} {q : α} {d s : St} {rest : mx_W} {v : Int32} {l : Nat} (h1 : tb_MT mi = some M) (h2 : decode (mx_cc M) pc = .ok (.putfield l, 3)) (h3 : mx_fd (mx_lf M) l = some (5, 4)) (hz : (v == 0 || v == 1) = true) (h : bnd (sI s 1 v) K = some q) (kk : ∀ s1, K s1 = some q → X mi (pc + 3, L, S, wd d (wm s1 rest), k) r) : X mi (pc, L, .int v :: .ref 18 :: S, wd d (wm s rest), k) r := by
  refine mx_X.go h1 h2 ?_ (kk (sI s 1 v) h)
  show mx_putf tb_cl tb_ty M (mx_fd (mx_lf M) l) _ = _
  rw [h3]
  show (bif (true && true && (v == 0 || v == 1)) then _ else none) = _
  rw [hz]
  rfl
theorem xput_b2 {α : Type} {K : St → Option α} {q : α} {d s : St} {rest : mx_W} {v : Int32} {l : Nat} (h1 : tb_MT mi = some M) (h2 : decode (mx_cc M) pc = .ok (.putfield l, 3)) (h3 : mx_fd (mx_lf M) l = some (5, 5)) (h : bnd (sI s 2 v) K = some q) (kk : ∀ s1, K s1 = some q → X mi (pc + 3, L, S, wd d (wm s1 rest), k) r) : X mi (pc, L, .int v :: .ref 18 :: S, wd d (wm s rest), k) r := by
  refine mx_X.go h1 h2 ?_ (kk (sI s 2 v) h)
  show mx_putf tb_cl tb_ty M (mx_fd (mx_lf M) l) _ = _
  rw [h3]
  rfl
theorem xput_b3 {α : Type} {K : St → Option α} {q : α} {d s : St} {rest : mx_W} {v : Int32} {l : Nat} (h1 : tb_MT mi = some M) (h2 : decode (mx_cc M) pc = .ok (.putfield l, 3)) (h3 : mx_fd (mx_lf M) l = some (5, 6)) (h : bnd (sI s 3 v) K = some q) (kk : ∀ s1, K s1 = some q → X mi (pc + 3, L, S, wd d (wm s1 rest), k) r) : X mi (pc, L, .int v :: .ref 18 :: S, wd d (wm s rest), k) r := by
  refine mx_X.go h1 h2 ?_ (kk (sI s 3 v) h)
  show mx_putf tb_cl tb_ty M (mx_fd (mx_lf M) l) _ = _
  rw [h3]
  rfl
theorem xput_b4 {α : Type} {K : St → Option α} {q : α} {d s : St} {rest : mx_W} {v : Int32} {l : Nat} (h1 : tb_MT mi = some M) (h2 : decode (mx_cc M) pc = .ok (.putfield l, 3)) (h3 : mx_fd (mx_lf M) l = some (5, 7)) (h : bnd (sI s 4 v) K = some q) (kk : ∀ s1, K s1 = some q → X mi (pc + 3, L, S, wd d (wm s1 rest), k) r) : X mi (pc, L, .int v :: .ref 18 :: S, wd d (wm s rest), k) r := by
  refine mx_X.go h1 h2 ?_ (kk (sI s 4 v) h)
  show mx_putf tb_cl tb_ty M (mx_fd (mx_lf M) l) _ = _
  rw [h3]
  rfl
theorem xput_b5 {α : Type} {K : St → Option α} {q : α} {d s : St} {rest : mx_W} {v : Int32} {l : Nat} (h1 : tb_MT mi = some M) (h2 : decode (mx_cc M) pc = .ok (.putfield l, 3)) (h3 : mx_fd (mx_lf M) l = some (5, 8)) (h : bnd (sI s 5 v) K = some q) (kk : ∀ s1, K s1 = some q → X mi (pc + 3, L, S, wd d (wm s1 rest), k) r) : X mi (pc, L, .int v :: .ref 18 :: S, wd d (wm s rest), k) r := by
  refine mx_X.go h1 h2 ?_ (kk (sI s 5 v) h)
  show mx_putf tb_cl tb_ty M (mx_fd (mx_lf M) l) _ = _
  rw [h3]
  rfl
theorem xput_b6 {α : Type} {K : St → Option α} {q : α} {d s : St} {rest : mx_W} {v : Int32} {l : Nat} (h1 : tb_MT mi = some M) (h2 : decode (mx_cc M) pc = .ok (.putfield l, 3)) (h3 : mx_fd (mx_lf M) l = some (5, 9)) (h : bnd (sI s 6 v) K = some q) (kk : ∀ s1, K s1 = some q → X mi (pc + 3, L, S, wd d (wm s1 rest), k) r) : X mi (pc, L, .int v :: .ref 18 :: S, wd d (wm s rest), k) r := by
  refine mx_X.go h1 h2 ?_ (kk (sI s 6 v) h)
  show mx_putf tb_cl tb_ty M (mx_fd (mx_lf M) l) _ = _
  rw [h3]
  rfl
theorem xput_b7 {α : Type} {K : St → Option α} {q : α} {d s : St} {rest : mx_W} {v : Int32} {l : Nat} (h1 : tb_MT mi = some M) (h2 : decode (mx_cc M) pc = .ok (.putfield l, 3)) (h3 : mx_fd (mx_lf M) l = some (5, 10)) (h : bnd (sI s 7 v) K = some q) (kk : ∀ s1, K s1 = some q → X mi (pc + 3, L, S, wd d (wm s1 rest), k) r) : X mi (pc, L, .int v :: .ref 18 :: S, wd d (wm s rest), k) r := by
  refine mx_X.go h1 h2 ?_ (kk (sI s 7 v) h)
  show mx_putf tb_cl tb_ty M (mx_fd (mx_lf M) l) _ = _
  rw [h3]
  rfl
theorem xput_b8 {α : Type} {K : St → Option α} {q : α} {d s : St} {rest : mx_W} {v : Int32} {l : Nat} (h1 : tb_MT mi = some M) (h2 : decode (mx_cc M) pc = .ok (.putfield l, 3)) (h3 : mx_fd (mx_lf M) l = some (5, 11)) (h : bnd (sI s 8 v) K = some q) (kk : ∀ s1, K s1 = some q → X mi (pc + 3, L, S, wd d (wm s1 rest), k) r) : X mi (pc, L, .int v :: .ref 18 :: S, wd d (wm s rest), k) r := by
  refine mx_X.go h1 h2 ?_ (kk (sI s 8 v) h)
  show mx_putf tb_cl tb_ty M (mx_fd (mx_lf M) l) _ = _
  rw [h3]
  rfl
theorem xput_b9 {α : Type} {K : St → Option α} {q : α} {d s : St} {rest : mx_W} {v : Int32} {l : Nat} (h1 : tb_MT mi = some M) (h2 : decode (mx_cc M) pc = .ok (.putfield l, 3)) (h3 : mx_fd (mx_lf M) l = some (5, 13)) (h : bnd (sI s 9 v) K = some q) (kk : ∀ s1, K s1 = some q → X mi (pc + 3, L, S, wd d (wm s1 rest), k) r) : X mi (pc, L, .int v :: .ref 18 :: S, wd d (wm s rest), k) r := by
  refine mx_X.go h1 h2 ?_ (kk (sI s 9 v) h)
  show mx_putf tb_cl tb_ty M (mx_fd (mx_lf M) l) _ = _
  rw [h3]
  rfl
theorem xput_b10 {α : Type} {K : St → Option α} {q : α} {d s : St} {rest : mx_W} {v : Int32} {l : Nat} (h1 : tb_MT mi = some M) (h2 : decode (mx_cc M) pc = .ok (.putfield l, 3)) (h3 : mx_fd (mx_lf M) l = some (5, 19)) (h : bnd (sI s 10 v) K = some q) (kk : ∀ s1, K s1 = some q → X mi (pc + 3, L, S, wd d (wm s1 rest), k) r) : X mi (pc, L, .int v :: .ref 18 :: S, wd d (wm s rest), k) r := by
  refine mx_X.go h1 h2 ?_ (kk (sI s 10 v) h)
  show mx_putf tb_cl tb_ty M (mx_fd (mx_lf M) l) _ = _
  rw [h3]
  rfl
end XF
