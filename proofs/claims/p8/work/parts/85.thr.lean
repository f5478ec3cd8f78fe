/-! PackDisk.at where it throws: its words -/
def xcls : String := "java/lang/ArrayIndexOutOfBoundsException"
def xnames : List String := ["java/lang/IndexOutOfBoundsException", "java/lang/RuntimeException", "java/lang/Exception"]
/-- words that are not carried by the tables' own rows -/
def xw (w : Jvm.Cond) : Bool := match w with
  | .castable _ _ => true
  | .declares _ => true
  | _ => false
set_option maxRecDepth 100000 in
theorem xa_g : (vx_atS RX5 157 xcls xnames).all (fun w => goodWord w || xw w) = true := by decide +kernel
set_option maxRecDepth 100000 in
theorem xa_cm : Jvm.Cond.castable xcls xcls ∈ vx_atS RX5 157 xcls xnames := by decide +kernel
set_option maxRecDepth 100000 in
theorem xa_in : ∀ w ∈ vx_atS RX5 157 xcls xnames, w ∈ lw_tbl := by decide +kernel
set_option maxRecDepth 100000 in
theorem xa_k : Jvm.Cond.classLink RX5 153 xcls ∈ tb_GT := List.mem_filter.mpr ⟨by decide +kernel, rfl⟩
set_option maxRecDepth 100000 in
theorem xa_i : Jvm.Cond.initialized xcls ∈ tb_GT := List.mem_filter.mpr ⟨by decide +kernel, rfl⟩
set_option maxRecDepth 100000 in
theorem xa_o : ∀ w ∈ Jvm.Cond.classLink RX5 153 xcls :: Jvm.Cond.initialized xcls :: vx_atS RX5 157 xcls xnames, vx_ot w = true := by decide +kernel
set_option maxRecDepth 100000 in
theorem xa_t : Jvm.Cond.stringRef RX5 155 "the row has no such byte" ∈ lw_tbl := by decide +kernel
set_option maxRecDepth 100000 in
theorem xa_u : Jvm.Cond.laysStatic Bundle.tN "UNASSIGNED_STACK" Bundle.steD ∈ lw_tbl ∧ Jvm.Cond.laysStatic Bundle.tN "SUPPRESSED_SENTINEL" Bundle.listD ∈ lw_tbl ∧ Jvm.Cond.initialized Bundle.tN ∈ lw_tbl := by decide +kernel
set_option maxRecDepth 100000 in
theorem xa_l : Jvm.Cond.classLink RL 13 xcls ∈ tb_GT := List.mem_filter.mpr ⟨by decide +kernel, rfl⟩
