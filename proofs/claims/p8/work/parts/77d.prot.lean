/-! symbols and protect -/
def tq (w k v : Nat) : Nat := if w = 1 then tp k v else v
/-- a symbol's byte over the blocks' bytes v -/
def xs_ (w : Nat) (v : Nat → Nat) : Nat → Nat
  | 0 => 0
  | k + 1 => xs_ w v k ^^^ tq w k (v k)
def hor (w : Nat) (v : Nat → Nat) : Nat → Nat → Nat
  | 0, acc => acc
  | k + 1, acc => hor w v k ((if w = 1 then tw acc else acc) ^^^ v k)
theorem tq_lt {w k v : Nat} (h : v < 256) : tq w k v < 256 := by
  unfold tq
  by_cases q : w = 1
  · rw [if_pos q]; exact tp_lt h
  · rw [if_neg q]; exact h
theorem xs_lt {w : Nat} {v : Nat → Nat} (hv : ∀ q, v q < 256) : ∀ k, xs_ w v k < 256 := by
  intro k
  induction k with
  | zero => exact (by decide : 0 < 256)
  | succ k ih => exact xor_b ih (tq_lt (hv k))
theorem hor_xs {w : Nat} {v : Nat → Nat} (hv : ∀ q, v q < 256) : ∀ k acc, acc < 256 → hor w v k acc = xs_ w v k ^^^ tq w k acc := by
  intro k
  induction k with
  | zero =>
    intro acc h
    show acc = 0 ^^^ tq w 0 acc
    rw [Nat.zero_xor]
    unfold tq tp
    by_cases q : w = 1
    · rw [if_pos q]
    · rw [if_neg q]
  | succ k ih =>
    intro acc h
    show hor w v k ((if w = 1 then tw acc else acc) ^^^ v k) = (xs_ w v k ^^^ tq w k (v k)) ^^^ tq w (k + 1) acc
    by_cases q : w = 1
    · rw [if_pos q, ih _ (xor_b (tw_lt h) (hv k))]
      unfold tq
      rw [if_pos q, if_pos q, if_pos q, tp_xor (tw_lt h) (hv k), Nat.xor_assoc, show tp (k + 1) acc = tp k (tw acc) from rfl, Nat.xor_comm (tp k (v k))]
    · rw [if_neg q, ih _ (xor_b h (hv k))]
      unfold tq
      rw [if_neg q, if_neg q, if_neg q, Nat.xor_assoc, Nat.xor_comm (v k)]
theorem hor_0 {w : Nat} {v : Nat → Nat} (hv : ∀ q, v q < 256) (k : Nat) : hor w v k 0 = xs_ w v k := by
  rw [hor_xs hv k 0 (by decide)]
  have : tq w k 0 = 0 := by
    unfold tq
    rw [tp_0]
    by_cases q : w = 1
    · rw [if_pos q]
    · rw [if_neg q]
  rw [this, Nat.xor_zero]
/-- byte i of block k of the row in sector j, 0 if the block is not there -/
def sbv (c l : Nat → Nat) (x j i k : Nat) : Nat := if bk c l x (c (32 * j + (4 + k))) = true then c (32 * c (32 * j + (4 + k)) + (4 + i)) else 0
theorem sbv_lt {c l : Nat → Nat} (hc : ∀ i, c i < 256) (x j i k : Nat) : sbv c l x j i k < 256 := by
  unfold sbv
  by_cases q : bk c l x (c (32 * j + (4 + k))) = true
  · rw [if_pos q]; exact hc _
  · rw [if_neg q]; decide
section PR
variable {d m : St} {n x p N : Nat} {c l : Nat → Nat}
theorem a_sb (h : CV d n c l x) (hN : 100 ≤ N) {j w i : Nat} (hj : j < n) (hw : w ≤ 1) (hi : i < 24) : F_X5_symbolByte N d (nI j) (nI w) (nI i) = some (nI (xs_ w (sbv c l x j i) (nbk (c (32 * j + 3))))) := by
  have hn := h.n60
  have hB := nbk_le (c (32 * j + 3))
  have hv := sbv_lt (l := l) h.b x j i
  have key : ∀ k acc f, k ≤ 4 → acc < 256 → k < f → F_X5_symbolByte_12 N f d (nI j) (nI w) (nI i) (nI acc) (pI k) = some (nI (hor w (sbv c l x j i) k acc)) := by
    intro k
    induction k with
    | zero =>
      intro acc f h1 h2 h3
      obtain ⟨f, rfl⟩ : ∃ q, f = q + 1 := ⟨f - 1, by omega⟩
      rw [F_X5_symbolByte_12.eq_2]
      unfold pI
      simp (disch := omega) only [c_lt, c_ge, c_gt, c_le, c_eq, c_ne, c_lt0, c_ge0, c_le0, c_gt0, c_eq0, c_ne0, c_eqm, c_nem, c_m0, c_meq, c_mne, c_mlt, nI_add, pk_mul, Bool.cond_decide, cond_true, cond_false, ldA_n, stA_n, cpA_n, bnd_s, bindP_s, Option.bind_some, gN_sI, gN_sA, gI_sA, gA_sI, gI_eq, gA_eq, gI_ne, gA_ne, sA_sA, sI_sI, if_pos, if_neg, ite_true, ite_false, eq_self, not_true_eq_false, not_false_eq_true, Nat.add_zero, NF_ap]
      rfl
    | succ k ih =>
      intro acc f h1 h2 h3
      obtain ⟨f, rfl⟩ : ∃ q, f = q + 1 := ⟨f - 1, by omega⟩
      have w2 := h.b (32 * j + (4 + k))
      have htw := tw_lt h2
      have goal : ∀ b, b < 256 → (bif mx_cnd .ne (nI w) (nI 1) then F_X5_symbolByte_12 N f d (nI j) (nI w) (nI i) (nI acc ^^^ nI b) (pI k) else ((F_X1_twice (nI acc)).bind fun v9 => F_X5_symbolByte_12 N f d (nI j) (nI w) (nI i) (v9 ^^^ nI b) (pI k))) = some (nI (hor w (sbv c l x j i) k ((if w = 1 then tw acc else acc) ^^^ b))) := by
        intro b hb
        rw [a_tw h2, Option.bind_some, nI_xor (by omega) (by omega), nI_xor (by omega) (by omega)]
        by_cases q : w = 1
        · rw [if_pos q]
          simp (disch := omega) only [c_lt, c_ge, c_gt, c_le, c_eq, c_ne, c_lt0, c_ge0, c_le0, c_gt0, c_eq0, c_ne0, c_eqm, c_nem, c_m0, c_meq, c_mne, c_mlt, nI_add, pk_mul, Bool.cond_decide, cond_true, cond_false, ldA_n, stA_n, cpA_n, bnd_s, bindP_s, Option.bind_some, gN_sI, gN_sA, gI_sA, gA_sI, gI_eq, gA_eq, gI_ne, gA_ne, sA_sA, sI_sI, if_pos, if_neg, ite_true, ite_false, eq_self, not_true_eq_false, not_false_eq_true, Nat.add_zero, NF_ap]
          exact ih _ f (by omega) (xor_b htw hb) (by omega)
        · rw [if_neg q]
          simp (disch := omega) only [c_lt, c_ge, c_gt, c_le, c_eq, c_ne, c_lt0, c_ge0, c_le0, c_gt0, c_eq0, c_ne0, c_eqm, c_nem, c_m0, c_meq, c_mne, c_mlt, nI_add, pk_mul, Bool.cond_decide, cond_true, cond_false, ldA_n, stA_n, cpA_n, bnd_s, bindP_s, Option.bind_some, gN_sI, gN_sA, gI_sA, gA_sI, gI_eq, gA_eq, gI_ne, gA_ne, sA_sA, sI_sI, if_pos, if_neg, ite_true, ite_false, eq_self, not_true_eq_false, not_false_eq_true, Nat.add_zero, NF_ap]
          exact ih _ f (by omega) (xor_b h2 hb) (by omega)
      rw [F_X5_symbolByte_12.eq_2, show pI (k + 1) = nI k from rfl, pI_m, c_lt0 (by omega), cond_false, a_content h.w hj (by omega), Option.bind_some, a_isBlock h (by omega), Option.bind_some]
      show _ = some (nI (hor w (sbv c l x j i) k ((if w = 1 then tw acc else acc) ^^^ sbv c l x j i k)))
      cases hq : bk c l x (c (32 * j + (4 + k))) with
      | true =>
        have hb := of_decide_eq_true hq
        rw [Bool.toNat_true, c_eq0 (by decide), show decide (1 = 0) = false from rfl, cond_false, a_content h.w (by omega) hi, Option.bind_some, show sbv c l x j i k = c (32 * c (32 * j + (4 + k)) + (4 + i)) from if_pos hq]
        exact goal _ (h.b _)
      | false =>
        rw [Bool.toNat_false, c_eq0 (by decide), show decide (0 = 0) = true from rfl, cond_true, show sbv c l x j i k = 0 from if_neg (by rw [hq]; decide)]
        exact goal 0 (by decide)
  unfold F_X5_symbolByte
  rw [a_bor h.w hj, Option.bind_some, pI_s]
  have := key (nbk (c (32 * j + 3))) 0 N hB (by decide) (by omega)
  rw [hor_0 hv] at this
  exact this
theorem b_wt {w k : Nat} (hw : w ≤ 1) (hk : k < 4) : F_X6_weight (nI w) (nI k) = some (nI (if w = 1 then 2 ^ k else 1)) := by
  unfold F_X6_weight
  have : k = 0 ∨ k = 1 ∨ k = 2 ∨ k = 3 := by omega
  have hw2 : w = 0 ∨ w = 1 := by omega
  rcases hw2 with rfl | rfl
  · simp (disch := omega) only [c_lt, c_ge, c_gt, c_le, c_eq, c_ne, c_lt0, c_ge0, c_le0, c_gt0, c_eq0, c_ne0, c_eqm, c_nem, c_m0, c_meq, c_mne, c_mlt, nI_add, pk_mul, Bool.cond_decide, cond_true, cond_false, ldA_n, stA_n, cpA_n, bnd_s, bindP_s, Option.bind_some, gN_sI, gN_sA, gI_sA, gA_sI, gI_eq, gA_eq, gI_ne, gA_ne, sA_sA, sI_sI, if_pos, if_neg, ite_true, ite_false, eq_self, not_true_eq_false, not_false_eq_true, Nat.add_zero, NF_ap]
  · rcases this with rfl | rfl | rfl | rfl <;> rfl
theorem pr_wt {w k v : Nat} (hk : k < 4) (hv : v < 256) : pr v (if w = 1 then 2 ^ k else 1) = tq w k v := by
  unfold tq
  by_cases q : w = 1
  · rw [if_pos q, if_pos q]; exact g_p2 ⟨k, hk⟩ ⟨v, hv⟩
  · rw [if_neg q, if_neg q]; exact g_p2 ⟨0, by decide⟩ ⟨v, hv⟩
theorem b_pw (hN : 100 ≤ N) {w k v : Nat} (hk : k < 4) (hv : v < 256) : F_X6_product N (nI v) (nI (if w = 1 then 2 ^ k else 1)) = some (nI (tq w k v)) := by
  have h2 : (if w = 1 then 2 ^ k else 1) < 256 := by
    have : k = 0 ∨ k = 1 ∨ k = 2 ∨ k = 3 := by omega
    by_cases q : w = 1
    · rw [if_pos q]; rcases this with rfl | rfl | rfl | rfl <;> decide
    · rw [if_neg q]; decide
  rw [b_pr hN hv h2, pr_wt hk hv]
def pcF (w : Nat) (v : Nat → Nat → Nat) (k i : Nat) : Nat → Nat := fun q => if q < i then xs_ w (v q) (k + 1) else xs_ w (v q) k
theorem pcF_s (w : Nat) (v : Nat → Nat → Nat) (k i : Nat) : uN (pcF w v k i) i (xs_ w (v i) (k + 1)) = pcF w v k (i + 1) := by
  funext q
  unfold uN pcF
  by_cases h : q = i
  · rw [if_pos h, if_pos (by omega), h]
  · rw [if_neg h]
    by_cases h1 : q < i
    · rw [if_pos h1, if_pos (by omega)]
    · rw [if_neg h1, if_neg (by omega)]
/-- a symbol is written on both sides -/
theorem u_sym (hc : CV d n c l x) (hm : MV m n c l x) (jj : JJ d m n x) (hN : 100 ≤ N) (hx : x < n) {r j w : Nat} (hr : r < 60) (hj : j < n) (hw : w ≤ 1) (h96 : c (32 * j + 3) ≤ 96) (hb : ∀ k, k < nbk (c (32 * j + 3)) → bk c l x (c (32 * j + (4 + k))) = true) : ∃ d' m' c' l', F_X5_writeSymbol N d (nI r) (nI j) (nI w) = some (nI x, d') ∧ (∀ (K : St → Int32 → Int32 → Int32 → Int32 → Int32 → Option (Int32 × St)) (y : Int32), ((F_X6_begin N m (nI 4) (nI r) (nI w) (nI 0)).bind fun s1 => F_X6_protect_112 N K N s1 (nI r) y (nI j) (nI w) (nI 0)) = K m' (nI r) y (nI j) (nI x) (nI (w + 1))) ∧ CV d' n c' l' (x + 1) ∧ MV m' n c' l' (x + 1) ∧ JJ d' m' n (x + 1) ∧ (∀ k, k ≠ 1 → k ≠ 8 → gI d' k = gI d k) ∧ (∀ k, k ≠ 2 → k ≠ 9 → gI m' k = gI m k) ∧ (∀ k, 7 ≤ k → gA d' k = gA d k) ∧ (∀ k, k = 2 ∨ 7 ≤ k → gA m' k = gA m k) ∧ (∀ q, q < 32 * x → c' q = c q) ∧ (∀ q, q < x → l' q = l q) := by
  have hn := hc.n60
  have hB := nbk_le (c (32 * j + 3))
  have hmc := hm.1.2.2.2.1
  have hbat := b_bat hm.1 hj
  rw [← nbk_96 h96] at hbat
  obtain ⟨B, hBe⟩ : ∃ B, B = nbk (c (32 * j + 3)) := ⟨_, rfl⟩
  rw [← hBe] at hB hb hbat
  obtain ⟨V, hV⟩ : ∃ V : Nat → Nat → Nat, V = fun i k => sbv c l x j i k := ⟨_, rfl⟩
  have hV8 : ∀ i k, V i k < 256 := by intro i k; rw [hV]; exact sbv_lt hc.b x j i k
  have hx8 : ∀ q, xs_ w (V q) B < 256 := fun q => xs_lt (hV8 q) B
  obtain ⟨d1, hd1⟩ : ∃ q, q = sA d 6 (dF (gA d 6) 4 r w 0 (fun q => xs_ w (V q) B)) := ⟨_, rfl⟩
  obtain ⟨m1, hm1⟩ : ∃ q, q = sA m 6 (dF (gA m 6) 4 r w 0 (fun q => xs_ w (V q) B)) := ⟨_, rfl⟩
  have cd1 : CV d1 n c l x := by rw [hd1]; exact CV_sA hc (by decide) _
  have cm1 : MV m1 n c l x := by rw [hm1]; exact MV_sA hm (by decide) _
  have ad6 : gA d1 6 = dF (gA d 6) 4 r w 0 (fun q => xs_ w (V q) B) := by rw [hd1]; exact gA_eq
  have am6 : gA m1 6 = dF (gA m 6) 4 r w 0 (fun q => xs_ w (V q) B) := by rw [hm1]; exact gA_eq
  have id1 : gI d1 = gI d := by rw [hd1]; rfl
  have im1 : gI m1 = gI m := by rw [hm1]; rfl
  have xd1 : ∀ k, k ≠ 6 → gA d1 k = gA d k := by intro k hk; rw [hd1]; exact gA_ne hk
  have xm1 : ∀ k, k ≠ 6 → gA m1 k = gA m k := by intro k hk; rw [hm1]; exact gA_ne hk
  have jj1 : JJ d1 m1 n x := JJ_g jj (Nat.le_refl x) (by rw [id1]) (by rw [im1]) (xd1 3 (by decide)) (xd1 4 (by decide)) (xd1 5 (by decide)) (xm1 3 (by decide)) (xm1 4 (by decide)) (xm1 5 (by decide))
  obtain ⟨d2, m2, c2, l2, w1, w2, w3, w4, w5, w6, w7, w8, w9, w10, w11⟩ := u_wr cd1 cm1 jj1 hN hx ad6 am6 (by decide) (by omega) (by omega) (by decide) (fun i _ => hx8 i)
  have k1 : ∀ a i f, i + a = 24 → a < f → F_X5_writeSymbol_14 N f (sA d 6 (dF (gA d 6) 4 r w 0 (ct (fun q => xs_ w (V q) B) 0 i))) (nI j) (nI w) (nI i) = some (nI x, d2) := by
    intro a
    induction a with
    | zero =>
      intro i f e1 e2
      obtain ⟨f, rfl⟩ : ∃ q, f = q + 1 := ⟨f - 1, by omega⟩
      obtain rfl : i = 24 := by omega
      rw [F_X5_writeSymbol_14.eq_2, dF_cg (h := ct (fun q => xs_ w (V q) B) 0 24) (h' := fun q => xs_ w (V q) B) (fun i hi => by unfold ct; rw [if_pos hi, Nat.zero_add]), ← hd1]
      simp (disch := omega) only [c_lt, c_ge, c_gt, c_le, c_eq, c_ne, c_lt0, c_ge0, c_le0, c_gt0, c_eq0, c_ne0, c_eqm, c_nem, c_m0, c_meq, c_mne, c_mlt, nI_add, pk_mul, Bool.cond_decide, cond_true, cond_false, ldA_n, stA_n, cpA_n, bnd_s, bindP_s, Option.bind_some, gN_sI, gN_sA, gI_sA, gA_sI, gI_eq, gA_eq, gI_ne, gA_ne, sA_sA, sI_sI, if_pos, if_neg, ite_true, ite_false, eq_self, not_true_eq_false, not_false_eq_true, Nat.add_zero, NF_ap, w1]
    | succ a ih =>
      intro i f e1 e2
      obtain ⟨f, rfl⟩ : ∃ q, f = q + 1 := ⟨f - 1, by omega⟩
      have hs := ct_s (fun q => xs_ w (V q) B) 0 i
      rw [Nat.zero_add, hV] at hs
      rw [F_X5_writeSymbol_14.eq_2, a_sb (CV_sA hc (by decide) _) hN hj hw (by omega), ← hBe]
      rw [hV] at ih ⊢
      simp (disch := omega) only [c_lt, c_ge, c_gt, c_le, c_eq, c_ne, c_lt0, c_ge0, c_le0, c_gt0, c_eq0, c_ne0, c_eqm, c_nem, c_m0, c_meq, c_mne, c_mlt, nI_add, pk_mul, Bool.cond_decide, cond_true, cond_false, ldA_n, stA_n, cpA_n, bnd_s, bindP_s, Option.bind_some, gN_sI, gN_sA, gI_sA, gA_sI, gI_eq, gA_eq, gI_ne, gA_ne, sA_sA, sI_sI, if_pos, if_neg, ite_true, ite_false, eq_self, not_true_eq_false, not_false_eq_true, Nat.add_zero, NF_ap]
      rw [a_setC (by omega) (xs_lt (fun k => sbv_lt hc.b x j i k) B), Option.bind_some, hs]
      exact ih (i + 1) f (by omega) (by omega)
  -- the reference: byte by byte of a block
  have k2 : ∀ (K : St → Int32 → Int32 → Int32 → Int32 → Int32 → Option (Int32 × St)) (y : Int32) (k : Nat), k < B → ∀ a i f, i + a = 24 → a < f → F_X6_protect_139 N K f (sA m 6 (dF (gA m 6) 4 r w 0 (pcF w V k i))) (nI r) y (nI j) (nI w) (nI k) (nI (32 * c (32 * j + (4 + k)) + 4)) (nI i) = K (sA m 6 (dF (gA m 6) 4 r w 0 (pcF w V (k + 1) 0))) (nI r) y (nI j) (nI w) (nI (k + 1)) := by
    intro K y k hk a
    have hbk := of_decide_eq_true (hb k hk)
    have hck := hc.b (32 * j + (4 + k))
    induction a with
    | zero =>
      intro i f e1 e2
      obtain ⟨f, rfl⟩ : ∃ q, f = q + 1 := ⟨f - 1, by omega⟩
      obtain rfl : i = 24 := by omega
      rw [F_X6_protect_139.eq_2, dF_cg (h := pcF w V k 24) (h' := pcF w V (k + 1) 0) (fun i hi => by unfold pcF; rw [if_pos hi, if_neg (by omega)])]
      simp (disch := omega) only [c_lt, c_ge, c_gt, c_le, c_eq, c_ne, c_lt0, c_ge0, c_le0, c_gt0, c_eq0, c_ne0, c_eqm, c_nem, c_m0, c_meq, c_mne, c_mlt, nI_add, pk_mul, Bool.cond_decide, cond_true, cond_false, ldA_n, stA_n, cpA_n, bnd_s, bindP_s, Option.bind_some, gN_sI, gN_sA, gI_sA, gA_sI, gI_eq, gA_eq, gI_ne, gA_ne, sA_sA, sI_sI, if_pos, if_neg, ite_true, ite_false, eq_self, not_true_eq_false, not_false_eq_true, Nat.add_zero, NF_ap]
    | succ a ih =>
      intro i f e1 e2
      obtain ⟨f, rfl⟩ : ∃ q, f = q + 1 := ⟨f - 1, by omega⟩
      have hcb := hc.b (32 * c (32 * j + (4 + k)) + 4 + i)
      have hVk : V i k = c (32 * c (32 * j + (4 + k)) + 4 + i) := by
        rw [hV, Nat.add_assoc]
        exact if_pos (hb k hk)
      have hpc : pcF w V k i i = xs_ w (V i) k := if_neg (by omega)
      have hxk := xs_lt (w := w) (hV8 i) k
      have htq := tq_lt (w := w) (k := k) hcb
      rw [F_X6_protect_139.eq_2]
      simp (disch := omega) only [c_lt, c_ge, c_gt, c_le, c_eq, c_ne, c_lt0, c_ge0, c_le0, c_gt0, c_eq0, c_ne0, c_eqm, c_nem, c_m0, c_meq, c_mne, c_mlt, nI_add, pk_mul, Bool.cond_decide, cond_true, cond_false, ldA_n, stA_n, cpA_n, bnd_s, bindP_s, Option.bind_some, gN_sI, gN_sA, gI_sA, gA_sI, gI_eq, gA_eq, gI_ne, gA_ne, sA_sA, sI_sI, if_pos, if_neg, ite_true, ite_false, eq_self, not_true_eq_false, not_false_eq_true, Nat.add_zero, NF_ap, hmc]
      rw [dF_lo (by omega), dN_c (by omega), hpc, b_wt hw (by omega), Option.bind_some, b_pw hN (by omega) hcb, Option.bind_some, nI_xor (by omega) (by omega), dF_set (by omega), ← hVk, show xs_ w (V i) k ^^^ tq w k (V i k) = xs_ w (V i) (k + 1) from rfl, pcF_s]
      exact ih (i + 1) f (by omega) (by omega)
  have k3 : ∀ (K : St → Int32 → Int32 → Int32 → Int32 → Int32 → Option (Int32 × St)) (y : Int32) (a k f : Nat), k + a = B → a < f → F_X6_protect_112 N K f (sA m 6 (dF (gA m 6) 4 r w 0 (pcF w V k 0))) (nI r) y (nI j) (nI w) (nI k) = K m2 (nI r) y (nI j) (nI x) (nI (w + 1)) := by
    intro K y a
    induction a with
    | zero =>
      intro k f e1 e2
      obtain ⟨f, rfl⟩ : ∃ q, f = q + 1 := ⟨f - 1, by omega⟩
      obtain rfl : k = B := by omega
      have hbat' := b_bat (CW_sA hm.1 (k := 6) (by decide) (dF (gA m 6) 4 r w 0 (pcF w V k 0))) hj
      rw [← nbk_96 h96, ← hBe] at hbat'
      rw [F_X6_protect_112.eq_2, hbat', dF_cg (h := pcF w V k 0) (h' := fun q => xs_ w (V q) k) (fun i hi => by unfold pcF; rw [if_neg (by omega)]), ← hm1]
      simp (disch := omega) only [c_lt, c_ge, c_gt, c_le, c_eq, c_ne, c_lt0, c_ge0, c_le0, c_gt0, c_eq0, c_ne0, c_eqm, c_nem, c_m0, c_meq, c_mne, c_mlt, nI_add, pk_mul, Bool.cond_decide, cond_true, cond_false, ldA_n, stA_n, cpA_n, bnd_s, bindP_s, Option.bind_some, gN_sI, gN_sA, gI_sA, gA_sI, gI_eq, gA_eq, gI_ne, gA_ne, sA_sA, sI_sI, if_pos, if_neg, ite_true, ite_false, eq_self, not_true_eq_false, not_false_eq_true, Nat.add_zero, NF_ap, w2]
    | succ a ih =>
      intro k f e1 e2
      obtain ⟨f, rfl⟩ : ∃ q, f = q + 1 := ⟨f - 1, by omega⟩
      have hcw := CW_sA hm.1 (k := 6) (by decide) (dF (gA m 6) 4 r w 0 (pcF w V k 0))
      have hbat' := b_bat hcw hj
      rw [← nbk_96 h96, ← hBe] at hbat'
      rw [F_X6_protect_112.eq_2, hbat', b_blk hcw hj (by omega)]
      simp (disch := omega) only [c_lt, c_ge, c_gt, c_le, c_eq, c_ne, c_lt0, c_ge0, c_le0, c_gt0, c_eq0, c_ne0, c_eqm, c_nem, c_m0, c_meq, c_mne, c_mlt, nI_add, pk_mul, Bool.cond_decide, cond_true, cond_false, ldA_n, stA_n, cpA_n, bnd_s, bindP_s, Option.bind_some, gN_sI, gN_sA, gI_sA, gA_sI, gI_eq, gA_eq, gI_ne, gA_ne, sA_sA, sI_sI, if_pos, if_neg, ite_true, ite_false, eq_self, not_true_eq_false, not_false_eq_true, Nat.add_zero, NF_ap]
      rw [k2 _ y k (by omega) 24 0 N (by omega) (by omega)]
      exact ih (k + 1) f (by omega) (by omega)
  refine ⟨d2, m2, c2, l2, ?_, ?_, w3, w4, w5, ?_, ?_, ?_, ?_, ?_, ?_⟩
  · unfold F_X5_writeSymbol
    rw [a_begin (by omega), Option.bind_some, ← ct_0 (fun q => xs_ w (V q) B) 0]
    exact k1 24 0 N (by omega) (by omega)
  · intro K y
    rw [b_begin (by omega), Option.bind_some, dF_cg (h := fun _ => 0) (h' := pcF w V 0 0) (fun i hi => by unfold pcF; rw [if_neg (by omega)]; rfl)]
    exact k3 K y B 0 N (by omega) (by omega)
  · intro k h1 h2
    rw [w6 k h1 h2, id1]
  · intro k h1 h2
    rw [w7 k h1 h2, im1]
  · intro k hk
    rw [w8 k hk, xd1 k (by omega)]
  · intro k hk
    rw [w9 k hk, xm1 k (by omega)]
  · intro q hq
    rw [w10]
    exact if_neg (by omega)
  · intro q hq
    rw [w11]
    exact if_neg (by omega)
/-- below x nothing has changed -/
theorem so_lo {c' l' : Nat → Nat} {q : Nat} (h1 : ∀ q, q < 32 * x → c' q = c q) (h2 : ∀ q, q < x → l' q = l q) (hq : q < x) : so c' l' q = so c l q := so_cg (fun i hi => h1 _ (by omega)) (h2 q hq)
theorem cm_0 {j k : Nat} (h : cm c l x j k = 0) : ∀ i, i < k → bk c l x (c (32 * j + (4 + i))) = true := by
  induction k with
  | zero => intro i hi; omega
  | succ k ih =>
    intro i hi
    cases hq : bk c l x (c (32 * j + (4 + k))) with
    | true =>
      rw [cm_y hq] at h
      by_cases q : i = k
      · rw [q]; exact hq
      · exact ih h i (by omega)
    | false =>
      rw [cm_n hq] at h
      omega
theorem u_protect (h : Rel d m n c l x p) (hN : 100 ≤ N) (y z : Int32) : ∃ v d' m', F_X5_protect N d y z = some (v, d') ∧ F_X6_protect N m y z = some (v, m') ∧ RR n d' m' := by
  have h' := Rel_0 h (nI 0)
  obtain ⟨m', hm'⟩ : ∃ q, q = sI m 0 (nI 0) := ⟨_, rfl⟩
  rw [← hm'] at h'
  have h0 := h'
  obtain ⟨hc, hm, hg, hp⟩ := h'
  have h2 := hc.n60
  have hn := hm.1.1
  have hxi := hm.xi
  have hp60 := hg.2.2.1
  have same : ∀ {A B : Option (Int32 × St)} (v : Int32), A = some (v, d) → B = some (v, m') → ∃ v d' m', A = some (v, d') ∧ B = some (v, m') ∧ RR n d' m' := fun v e1 e2 => ⟨v, d, _, e1, e2, ⟨c, l, x, p, h0⟩⟩
  unfold F_X5_protect F_X6_protect
  rw [bnd_s, ← hm']
  rcases sgn y with hy | ⟨r, hr, rfl⟩
  · refine same (-nI 2) ?_ ?_
    · rw [a_isRowN hy]; rfl
    · rw [b_isRowN hy]; rfl
  rw [a_isRow hg hr, b_isRow hg hr]
  by_cases q1 : r < p
  rotate_left
  · refine same (-nI 2) ?_ ?_
    · rw [if_neg q1]; rfl
    · rw [if_neg q1]; rfl
  rw [if_pos q1, Option.bind_some, Option.bind_some, c_eq0 (by decide), show decide (1 = 0) = false from rfl, cond_false, cond_false]
  rcases sgn z with hz | ⟨k, hk, rfl⟩
  · refine same (-nI 2) ?_ ?_
    · rw [c_ltn hz (by decide)]; rfl
    · rw [b_inN hz (by decide)]; rfl
  rw [b_in hk (by decide) (by decide)]
  by_cases q2 : 1 ≤ k ∧ k ≤ 2
  rotate_left
  · refine same (-nI 2) ?_ ?_
    · by_cases q3 : k < 1
      · rw [c_lt hk (by decide), decide_eq_true q3]; rfl
      · rw [c_lt hk (by decide), decide_eq_false q3, c_le hk (by decide), decide_eq_false (show ¬ k ≤ 2 by omega)]; rfl
    · rw [if_neg q2]; rfl
  rw [if_pos q2, Option.bind_some, c_ne0 (by decide), show decide (¬ 1 = 0) = true from rfl, cond_true, c_lt hk (by decide), decide_eq_false (show ¬ k < 1 by omega), cond_false, c_le hk (by decide), decide_eq_true (show k ≤ 2 by omega), cond_true]
  rcases hp with ⟨o1, o2, jj, oo⟩ | ⟨o1, o2, -⟩
  rotate_left
  · refine same (-nI 3) ?_ ?_
    · rw [o1]; rfl
    · rw [o2]; rfl
  rw [o1, o2, c_ne0 (by decide), show decide (¬ 1 = 0) = true from rfl, cond_true, c_eq0 (by decide), show decide (1 = 0) = false from rfl, cond_false, a_findRow hc hN hr, b_secOf hm hN hr, Option.bind_some, Option.bind_some]
  cases hq : lst (isR c l r) (x - 2) with
  | none =>
    refine same (-nI 3) ?_ ?_
    · unfold oI; rw [c_meq, cond_true]
    · unfold oI; rw [c_meq, cond_true]
  | some j =>
    obtain ⟨j1, j2, -, j4⟩ := lst_R hq
    have hj : j < n := by omega
    have hB := nbk_le (c (32 * j + 3))
    have hcl := cm_le c l x j (nbk (c (32 * j + 3)))
    unfold oI
    rw [c_eqm (by omega), cond_false, cond_false, a_cm hc hN hj, b_cm hm hN hj j4, Option.bind_some, Option.bind_some, c_le0 (by omega)]
    by_cases q4 : cm c l x j (nbk (c (32 * j + 3))) = 0
    rotate_left
    · refine same (-nI 3) ?_ ?_
      · rw [decide_eq_false (show ¬ cm c l x j (nbk (c (32 * j + 3))) ≤ 0 by omega), cond_false]
      · rw [decide_eq_false (show ¬ cm c l x j (nbk (c (32 * j + 3))) ≤ 0 by omega), cond_false]
    rw [decide_eq_true (show cm c l x j (nbk (c (32 * j + 3))) ≤ 0 by omega), cond_true, cond_true, a_left hc, Option.bind_some, hn, hxi, pk_sub (by omega)]
    have hbk := cm_0 q4
    -- the writes, once there is room
    have fin : (x + k ≤ n) → (∀ x', x' ≤ x + k → OO d m' n x p → OO d m' n x' p) → ∃ v d' m1, (bindP (F_X5_writeSymbol N d (nI r) (nI j) (nI 0)) fun v11 s12 => bif mx_cnd .ne (nI k) (nI 1) then (bindP (F_X5_writeSymbol N s12 (nI r) (nI j) (nI 1)) fun v14 s15 => some (v14, s15)) else (some (v11, s12))) = some (v, d') ∧ F_X6_protect_94 N N m' (nI r) (nI k) (nI j) (-nI 1) (nI 0) = some (v, m1) ∧ RR n d' m1 := by
      intro hroom hoo
      obtain ⟨d1, m1, c1, l1, w1, w2, w3, w4, w5, w6, w7, w8, w9, w10, w11⟩ := u_sym hc hm jj hN (by omega) (r := r) (j := j) (w := 0) (by omega) hj (by omega) j4 hbk
      obtain ⟨M, hM⟩ : ∃ q, N = q + 3 := ⟨N - 3, by omega⟩
      have hge : ∀ (a b : Nat) (A B : Option (Int32 × St)), a < 2 ^ 31 → b < 2 ^ 31 → (bif mx_cnd .ge (nI a) (nI b) then A else B) = if b ≤ a then A else B := fun a b A B ha hb => by rw [c_ge ha hb, Bool.cond_decide]
      have e1 : F_X6_protect_94 N (M + 3) m' (nI r) (nI k) (nI j) (-nI 1) (nI 0) = F_X6_protect_94 N (M + 2) m1 (nI r) (nI k) (nI j) (nI x) (nI 1) := by
        rw [show M + 3 = (M + 2) + 1 from rfl, F_X6_protect_94.eq_2, hge _ _ _ _ (by decide) hk, if_neg (by omega)]
        exact w2 _ _
      have gi : ∀ {d2 m2 : St} {c2 l2 : Nat → Nat} {x2 : Nat}, CV d2 n c2 l2 x2 → MV m2 n c2 l2 x2 → JJ d2 m2 n x2 → x2 ≤ x + k → (∀ k, k ≠ 1 → k ≠ 8 → gI d2 k = gI d k) → (∀ k, k ≠ 2 → k ≠ 9 → gI m2 k = gI m' k) → (∀ k, 7 ≤ k → gA d2 k = gA d k) → (∀ k, k = 2 ∨ 7 ≤ k → gA m2 k = gA m' k) → RR n d2 m2 := by
        intro d2 m2 c2 l2 x2 z1 z2 z3 z4 z5 z6 z7 z8
        refine ⟨c2, l2, x2, p, z1, z2, GG_g hg (z5 2 (by decide) (by decide)) (z5 3 (by decide) (by decide)) (z5 6 (by decide) (by decide)) (z5 7 (by decide) (by decide)) (z6 3 (by decide) (by decide)) (z6 4 (by decide) (by decide)) (z6 5 (by decide) (by decide)) (z6 6 (by decide) (by decide)), Or.inl ⟨by rw [z5 0 (by decide) (by decide)]; exact o1, by rw [z6 1 (by decide) (by decide)]; exact o2, z3, ?_⟩⟩
        rcases hoo x2 z4 oo with ⟨i1, i2⟩ | ⟨i1, i2, kp, len, o, hor⟩
        · exact Or.inl ⟨by rw [z5 5 (by decide) (by decide)]; exact i1, by rw [z6 7 (by decide) (by decide)]; exact i2⟩
        · exact Or.inr ⟨i1, i2, kp, len, o, OR_g hor (z5 4 (by decide) (by decide)) (z5 5 (by decide) (by decide)) (z6 7 (by decide) (by decide)) (z6 8 (by decide) (by decide)) (z7 11 (by decide)) (z8 2 (Or.inl rfl))⟩
      rw [w1, bindP_s]
      by_cases q5 : k = 1
      · refine ⟨nI x, d1, m1, ?_, ?_, gi w3 w4 w5 (by omega) w6 w7 w8 w9⟩
        · rw [c_ne hk (by decide), decide_eq_false (fun z => z q5), cond_false]
        · have e2 := e1
          rw [← hM] at e2
          rw [e2, show M + 2 = (M + 1) + 1 from rfl, F_X6_protect_94.eq_2, hge _ _ _ _ (by decide) hk, if_pos (by omega)]
      · have hcj : ∀ i, i < 32 → c1 (32 * j + i) = c (32 * j + i) := fun i hi => w10 _ (by omega)
        have h96 : c1 (32 * j + 3) ≤ 96 := by rw [hcj 3 (by omega)]; exact j4
        have hbk1 : ∀ k, k < nbk (c1 (32 * j + 3)) → bk c1 l1 (x + 1) (c1 (32 * j + (4 + k))) = true := by
          intro k hk
          rw [hcj 3 (by omega)] at hk
          have := of_decide_eq_true (hbk k hk)
          rw [hcj (4 + k) (by omega)]
          exact decide_eq_true ⟨this.1, by omega, by rw [so_lo w10 w11 this.2.1]; exact this.2.2⟩
        obtain ⟨d2, m2, c2, l2, u1, u2, u3, u4, u5, u6, u7, u8, u9, -, -⟩ := u_sym w3 w4 w5 hN (by omega) (r := r) (j := j) (w := 1) (by omega) hj (by omega) h96 hbk1
        refine ⟨nI (x + 1), d2, m2, ?_, ?_, gi u3 u4 u5 (by omega) (fun k a b => (u6 k a b).trans (w6 k a b)) (fun k a b => (u7 k a b).trans (w7 k a b)) (fun k a => (u8 k a).trans (w8 k a)) (fun k a => (u9 k a).trans (w9 k a))⟩
        · rw [c_ne hk (by decide), decide_eq_true q5, cond_true, u1, bindP_s]
        · have e2 := e1
          rw [← hM] at e2
          rw [e2, show M + 2 = (M + 1) + 1 from rfl, F_X6_protect_94.eq_2, hge _ _ _ _ (by decide) hk, if_neg (by omega), u2, F_X6_protect_94.eq_2, hge _ _ _ _ (by decide) hk, if_pos (by omega)]
    unfold F_X5_isOpen
    rcases oo with ⟨i1, i2⟩ | ⟨hx5, hp5, kp, len, o, hor⟩
    · rw [i1, i2, c_meq, cond_true, Option.bind_some, c_eq0 (by decide), show decide (0 = 0) = true from rfl, cond_true, c_mne, cond_false, nI_add, Nat.add_zero, c_ge (by omega) hk]
      by_cases q6 : k ≤ n - x
      · rw [decide_eq_true q6, cond_true, cond_true]
        exact fin (by omega) (fun x' _ _ => Or.inl ⟨i1, i2⟩)
      · refine same (-nI 4) ?_ ?_
        · rw [decide_eq_false q6, cond_false]
        · rw [decide_eq_false q6, cond_false]
    · have hor0 := hor
      obtain ⟨r1, r2, r3, r4, r5, r6, -⟩ := hor
      rw [r4, r5, c_eqm (by omega), cond_false, Option.bind_some, c_eq0 (by decide), show decide (1 = 0) = false from rfl, cond_false, c_nem (by omega), cond_true, nI_add, c_ge (by omega) (by omega)]
      by_cases q6 : k + 5 ≤ n - x
      · rw [decide_eq_true q6, cond_true, cond_true]
        exact fin (by omega) (fun x' hx' _ => Or.inr ⟨by omega, hp5, kp, len, o, hor0⟩)
      · refine same (-nI 4) ?_ ?_
        · rw [decide_eq_false q6, cond_false]
        · rw [decide_eq_false q6, cond_false]
end PR
