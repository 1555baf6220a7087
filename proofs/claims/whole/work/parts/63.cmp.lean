/-! FRACTIONS COMPARED -/
theorem cmp_ge {a b : Nat} (ha : a < 9223372036854775808) (hb : b < 9223372036854775808) : (nI 0 ≤ lg_cmp (lN a) (lN b)) = (b ≤ a) := by
  apply propext
  unfold lg_cmp
  by_cases h2 : b < a
  · rw [if_pos ((pk_lLT hb ha).mpr h2)]
    exact ⟨fun _ => by omega, fun _ => by decide⟩
  · rw [if_neg (fun q => h2 ((pk_lLT hb ha).mp q))]
    by_cases h : a = b
    · rw [if_pos (congrArg lN h)]
      exact ⟨fun _ => by omega, fun _ => by decide⟩
    · rw [if_neg (fun q => h ((pk_lEQ ha hb).mp q))]
      exact ⟨fun q => absurd q (by decide), fun q => by omega⟩
theorem cmp_lt {a b : Nat} (ha : a < 9223372036854775808) (hb : b < 9223372036854775808) : (lg_cmp (lN a) (lN b) < nI 0) = (a < b) := by
  have h := cmp_ge ha hb
  apply propext
  rw [← Int32.not_le, h]
  omega
def cmI (a b : Nat) : Int32 := if a < b then -nI 1 else if a = b then nI 0 else nI 1
section T1
variable {d : Nat} {μ : PM} {Q : Option Value → PM → Prop}
theorem c226 {a b : Nat} {v1 v3 : Option Value} (ha : a < 9223372036854775808) (hb : b < 9223372036854775808) : R d 226 0 [some (.long (lN a)), v1, some (.long (lN b)), v3] [] μ Q = Q (some (.int (cmI a b))) μ := by
  unfold cmI
  by_cases h : a < b
  · simp (disch := first | assumption | omega) only [r226_0, r226_1, r226_2, r226_3, r226_6, r226_7, r226_10, r226_11, r226_12, j226_13, r226_16, r226_17, r226_20, r226_21, rI_wI, rL_wL, rR_wR, rI_wL, rI_wR, rL_wI, rL_wR, rR_wI, rR_wL, va_rf_some, va_rf_none, Option.toList_some, Option.toList_none, List.nil_append, List.cons_append, true_and, and_true, false_and, and_false, and_self, if_true, if_false, not_true_eq_false, not_false_eq_true, or_false, false_or, or_true, true_or, or_self, ite_true, ite_false, Option.some.injEq, reduceCtorEq, Nat.reduceMod, Nat.reduceDiv, Nat.reduceLeDiff, Nat.reduceEqDiff, Nat.reduceAdd, Nat.reduceMul, Nat.reduceSub, Nat.reduceLT, sw_nil, sw_int, sw_long, sw_ref, li, lo, nI_m1, ng_eq, nn_eq, en_eq, ng_le, ng_lt, Int32.neg_neg, nI_add, pk_mul, nI_clampO, nI_ltO, nI_leO, nI_eqO, nI_subO, nle_t, nle_f, nlt_t, nlt_f, neq_f, cmp_ge, cmp_0, lN_eqO]
  · by_cases h2 : a = b
    · subst h2
      simp (disch := first | assumption | omega) only [r226_0, r226_1, r226_2, r226_3, r226_6, r226_7, r226_10, r226_11, r226_12, j226_13, r226_16, r226_17, r226_20, r226_21, rI_wI, rL_wL, rR_wR, rI_wL, rI_wR, rL_wI, rL_wR, rR_wI, rR_wL, va_rf_some, va_rf_none, Option.toList_some, Option.toList_none, List.nil_append, List.cons_append, true_and, and_true, false_and, and_false, and_self, if_true, if_false, not_true_eq_false, not_false_eq_true, or_false, false_or, or_true, true_or, or_self, ite_true, ite_false, Option.some.injEq, reduceCtorEq, Nat.reduceMod, Nat.reduceDiv, Nat.reduceLeDiff, Nat.reduceEqDiff, Nat.reduceAdd, Nat.reduceMul, Nat.reduceSub, Nat.reduceLT, sw_nil, sw_int, sw_long, sw_ref, li, lo, nI_m1, ng_eq, nn_eq, en_eq, ng_le, ng_lt, Int32.neg_neg, nI_add, pk_mul, nI_clampO, nI_ltO, nI_leO, nI_eqO, nI_subO, nle_t, nle_f, nlt_t, nlt_f, neq_f, cmp_ge, cmp_0, lN_eqO, Nat.lt_irrefl, Nat.le_refl]
    · simp (disch := first | assumption | omega) only [r226_0, r226_1, r226_2, r226_3, r226_6, r226_7, r226_10, r226_11, r226_12, j226_13, r226_16, r226_17, r226_20, r226_21, rI_wI, rL_wL, rR_wR, rI_wL, rI_wR, rL_wI, rL_wR, rR_wI, rR_wL, va_rf_some, va_rf_none, Option.toList_some, Option.toList_none, List.nil_append, List.cons_append, true_and, and_true, false_and, and_false, and_self, if_true, if_false, not_true_eq_false, not_false_eq_true, or_false, false_or, or_true, true_or, or_self, ite_true, ite_false, Option.some.injEq, reduceCtorEq, Nat.reduceMod, Nat.reduceDiv, Nat.reduceLeDiff, Nat.reduceEqDiff, Nat.reduceAdd, Nat.reduceMul, Nat.reduceSub, Nat.reduceLT, sw_nil, sw_int, sw_long, sw_ref, li, lo, nI_m1, ng_eq, nn_eq, en_eq, ng_le, ng_lt, Int32.neg_neg, nI_add, pk_mul, nI_clampO, nI_ltO, nI_leO, nI_eqO, nI_subO, nle_t, nle_f, nlt_t, nlt_f, neq_f, cmp_ge, cmp_0, lN_eqO]
theorem c4 {F a b p q : Nat} {v2 v4 : Option Value} (hF : F % 100 = 0) (ha : rL μ F 0 = lN a) (hb : rL μ F 1 = lN b) (h1 : a * q < 9223372036854775808) (h2 : p * b < 9223372036854775808) : R (d + 1) 4 0 [some (.ref F), some (.long (lN p)), v2, some (.long (lN q)), v4] [] μ Q = Q (some (.int (cmI (a * q) (p * b)))) μ := by
  simp (disch := first | assumption | omega) only [r4_0, r4_1, r4_4, r4_5, r4_6, r4_7, r4_8, r4_11, r4_12, r4_15, rI_wI, rL_wL, rR_wR, rI_wL, rI_wR, rL_wI, rL_wR, rR_wI, rR_wL, va_rf_some, va_rf_none, Option.toList_some, Option.toList_none, List.nil_append, List.cons_append, true_and, and_true, false_and, and_false, and_self, if_true, if_false, not_true_eq_false, not_false_eq_true, or_false, false_or, or_true, true_or, or_self, ite_true, ite_false, Option.some.injEq, reduceCtorEq, Nat.reduceMod, Nat.reduceDiv, Nat.reduceLeDiff, Nat.reduceEqDiff, Nat.reduceAdd, Nat.reduceMul, Nat.reduceSub, Nat.reduceLT, sw_nil, sw_int, sw_long, sw_ref, li, lo, nI_m1, ng_eq, nn_eq, en_eq, ng_le, ng_lt, Int32.neg_neg, nI_add, pk_mul, nI_clampO, nI_ltO, nI_leO, nI_eqO, nI_subO, nle_t, nle_f, nlt_t, nlt_f, neq_f, hF, ha, hb, lN_mul, c226]
end T1
