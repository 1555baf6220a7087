/-! what the tables say of them -/
set_option maxRecDepth 100000 in
theorem tb_inst : ∀ y, y < 232 → kN y ≠ 1 → lw_tbl[piT.getD y 0]? = some (Cond.instanceMethod (yN y)) := by decide +kernel
set_option maxRecDepth 100000 in
theorem tb_stat : ∀ y, y < 232 → kN y = 1 → lw_tbl[piT.getD y 0]? = some (Cond.static (yN y)) := by decide +kernel
set_option maxRecDepth 100000 in
theorem tb_sel : ∀ y, y < 232 → kN y = 0 → lw_tbl[psT.getD y 0]? = some (Cond.selects (yN y).cls (yN y) (yN y)) := by decide +kernel
set_option maxRecDepth 100000 in
theorem tb_init : ∀ y, y < 232 → lw_tbl[pnT.getD y 0]? = some (Cond.initialized (yN y).cls) := by decide +kernel
set_option maxRecDepth 100000 in
theorem tb_plain : ∀ y, y < 232 → oN y ≠ 13 → plainName (yN y).cls = true ∧ (yN y).cls ≠ "java/lang/invoke/MethodHandle" ∧ (yN y).cls ≠ "java/lang/invoke/VarHandle" ∧ (parseMethodDescriptor (yN y).desc).map (fun d => d.parameters.length) = some (aN y) := by decide +kernel
set_option maxRecDepth 100000 in
theorem tb_own : ∀ y, y < 233 → (yN y).cls = oC (oN y) ∧ xN y ≤ 13 ∧ (kN y = 2 → (yN y).name = "<init>" ∧ tN y = none) := by decide +kernel
set_option maxRecDepth 100000 in
theorem tb_field : ∀ q ∈ fL, lw_tbl[q.2.2.2.2]? = some (Cond.fieldLink (oC q.1) q.2.1 (TN q.2.2.1 q.2.2.2.1).1 (TN q.2.2.1 q.2.2.2.1).2.1 (TN q.2.2.1 q.2.2.2.1).2.2.1) ∧ q.2.2.2.1 < NN q.2.2.1 ∧ q.2.2.1 < 12 := by decide +kernel
set_option maxRecDepth 100000 in
theorem tb_meth : ∀ q ∈ mL, lw_tbl[q.2.2.2.1]? = some (if q.2.2.2.2 = 0 then Cond.methodLink (oC q.1) q.2.1 (yN q.2.2.1) else Cond.methodLinkNest (oC q.1) q.2.1 (yN q.2.2.1) "ChinRow") ∧ q.2.2.1 < 232 ∧ oN q.2.2.1 ≠ 13 ∧ (q.2.2.2.2 = 0 ∨ kN q.2.2.1 ≠ 0) := by decide +kernel
set_option maxRecDepth 100000 in
theorem tb_spec : ∀ q ∈ hL, lw_tbl[q.2.2.2]? = some (Cond.methodLink (oC q.1) q.2.1 (if q.2.2.1 = 900 then arraycopyName else if q.2.2.1 = 901 then objectInit else if q.2.2.1 = 902 then Lib.Math.max.name else if q.2.2.1 = 903 then Lib.Math.min.name else Lib.Math.abs.name)) := by decide +kernel
set_option maxRecDepth 100000 in
theorem tb_class : ∀ q ∈ cL, lw_tbl[q.2.2.2]? = some (Cond.classLink (oC q.1) q.2.1 (oC q.2.2.1)) ∧ q.2.2.1 < 12 := by decide +kernel
set_option maxRecDepth 100000 in
theorem tb_int : ∀ q ∈ nL, lw_tbl[q.2.2.2]? = some (Cond.constant (oC q.1) q.2.1 q.2.2.1) := by decide +kernel
set_option maxRecDepth 100000 in
theorem tb_long : ∀ q ∈ lL, lw_tbl[q.2.2.2]? = some (Cond.constantLong (oC q.1) q.2.1 q.2.2.1) := by decide +kernel
def qT : List Nat := [392, 185, 237, 154, 386, 231, 366, 148, 341, 131, 123, 1044]
def eT : List Nat := [115, 109, 111, 108, 114, 110, 113, 107, 112, 106, 105, 116]
set_option maxRecDepth 100000 in
theorem tb_obj : ∀ c, c < 12 → vwCl[c]? = some (oC c, TN c, NN c) := by
  intro c hc
  match c, hc with
  | 0, _ => exact congrArg some (by rfl)
  | 1, _ => exact congrArg some (by rfl)
  | 2, _ => exact congrArg some (by rfl)
  | 3, _ => exact congrArg some (by rfl)
  | 4, _ => exact congrArg some (by rfl)
  | 5, _ => exact congrArg some (by rfl)
  | 6, _ => exact congrArg some (by rfl)
  | 7, _ => exact congrArg some (by rfl)
  | 8, _ => exact congrArg some (by rfl)
  | 9, _ => exact congrArg some (by rfl)
  | 10, _ => exact congrArg some (by rfl)
  | 11, _ => exact congrArg some (by rfl)
  | c + 12, hc => exact absurd hc (by omega)
set_option maxRecDepth 100000 in
theorem tb_make : ∀ c, c < 12 → lw_tbl[qT.getD c 0]? = some (Cond.instantiable (oC c) (NN c)) ∧ lw_tbl[eT.getD c 0]? = some (Cond.initialized (oC c)) := by decide +kernel
set_option maxRecDepth 100000 in
theorem tb_lay : ∀ c, c < 12 → ∀ w ∈ u_ws (oC c) (TN c) (NN c), w ∈ lw_tbl := by decide +kernel
set_option maxRecDepth 100000 in
theorem tb_ty : ∀ c, c < 12 → ∀ k, k < NN c → parseFieldDescriptor (TN c k).2.2.1 = some (tyN c k) := by decide +kernel
set_option maxRecDepth 100000 in
theorem tb_nm : ∀ c, c < 12 → ∀ a, a < NN c → ∀ b, b < NN c → a ≠ b → (TN c a).2.1 ≠ (TN c b).2.1 := by decide +kernel
set_option maxRecDepth 100000 in
theorem tb_decl : ∀ c, c < 12 → ∀ k, k < NN c → (TN c k).1 = oC c := by decide +kernel
theorem tb_in {k : Nat} {w : Cond} (h : lw_tbl[k]? = some w) : w ∈ lw_tbl := List.mem_of_getElem? h
