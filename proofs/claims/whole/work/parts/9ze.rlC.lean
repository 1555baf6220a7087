/-! A PERSON AND A FRUIT: THE REFERENCE -/
section T1
variable {d : Nat} {μ : PM} {T : List Tok} {S : SS} {c0 : Nat}
theorem m157_a (hF : FX μ) (hC : MC μ) (h : RX μ T) {v1 v2 : Option Value} {x : Int32} : ∀ (r k : Nat), k + r = 6 → (∀ w, k ≤ w → w < 6 → (hdT T).2.1 ≠ 17 + w) → ∀ Q, R (d + 1) 157 58 [some (.ref 110000011), v1, v2, some (.int x), some (.int (nI k))] [] μ Q = R (d + 1) 157 90 [some (.ref 110000011), v1, v2, some (.int x), some (.int (nI 6))] [] μ Q := by
  intro r
  induction r with
  | zero =>
    intro k hk _ Q
    have e : k = 6 := by omega
    subst e
    rw [r157_58]
    simp (disch := first | assumption | omega) only [r157_0, r157_1, r157_4, r157_6, r157_7, r157_8, r157_9, r157_11, r157_14, r157_15, r157_16, r157_19, r157_20, r157_22, r157_23, r157_24, r157_25, r157_26, r157_27, r157_28, r157_31, r157_32, r157_33, r157_34, r157_35, r157_36, j157_39, r157_42, r157_43, r157_46, r157_47, r157_48, r157_49, r157_50, r157_53, r157_54, r157_55, r157_56, r157_60, r157_62, r157_65, r157_66, r157_68, r157_70, r157_71, r157_74, r157_77, r157_79, r157_82, r157_83, r157_84, r157_87, r157_91, r157_94, r157_95, r157_96, r157_99, r157_100, r157_101, r157_101i, r157_102, r157_105, r157_106, r157_107, r157_110, r157_111, r157_114, r157_115, r157_116, r157_117, r157_118, r157_121, r157_122, r157_123, r157_124, r157_125, r157_126, r157_127, r157_129, r157_132, r157_133, r157_134, r157_137, r157_138, r157_139, r157_140, r157_141, r157_142, r157_143, r157_145, r157_148, r157_149, r157_150, r157_153, r157_155, r157_156, r157_157, r157_158, r157_159, r157_160, rI_wI, rL_wL, rR_wR, rI_wL, rI_wR, rL_wI, rL_wR, rR_wI, rR_wL, va_rf_some, va_rf_none, Option.toList_some, Option.toList_none, List.nil_append, List.cons_append, true_and, and_true, false_and, and_false, and_self, if_true, if_false, not_true_eq_false, not_false_eq_true, or_false, false_or, or_true, true_or, or_self, ite_true, ite_false, Option.some.injEq, reduceCtorEq, Nat.reduceMod, Nat.reduceDiv, Nat.reduceLeDiff, Nat.reduceEqDiff, Nat.reduceAdd, Nat.reduceMul, Nat.reduceSub, Nat.reduceLT, sw_nil, sw_int, sw_long, sw_ref, li, lo, nI_m1, ng_eq, nn_eq, en_eq, ng_le, ng_lt, Int32.neg_neg, nI_add, pk_mul, nI_clampO, nI_ltO, nI_leO, nI_eqO, nI_subO, nle_t, nle_f, nlt_t, nlt_f, neq_f]
  | succ r ih =>
    intro k hk hw Q
    have z := ih (k + 1) (by omega) (fun w h1 h2 => hw w (by omega) h2) Q
    have k1 := c142 (d := d) hF hC h (w := 17 + k) (by omega)
    rw [if_neg (hw k (Nat.le_refl k) (by omega))] at k1
    rw [r157_58]
    simp (disch := first | assumption | omega) only [r157_0, r157_1, r157_4, r157_6, r157_7, r157_8, r157_9, r157_11, r157_14, r157_15, r157_16, r157_19, r157_20, r157_22, r157_23, r157_24, r157_25, r157_26, r157_27, r157_28, r157_31, r157_32, r157_33, r157_34, r157_35, r157_36, j157_39, r157_42, r157_43, r157_46, r157_47, r157_48, r157_49, r157_50, r157_53, r157_54, r157_55, r157_56, r157_60, r157_62, r157_65, r157_66, r157_68, r157_70, r157_71, r157_74, r157_77, r157_79, r157_82, r157_83, r157_84, r157_87, r157_91, r157_94, r157_95, r157_96, r157_99, r157_100, r157_101, r157_101i, r157_102, r157_105, r157_106, r157_107, r157_110, r157_111, r157_114, r157_115, r157_116, r157_117, r157_118, r157_121, r157_122, r157_123, r157_124, r157_125, r157_126, r157_127, r157_129, r157_132, r157_133, r157_134, r157_137, r157_138, r157_139, r157_140, r157_141, r157_142, r157_143, r157_145, r157_148, r157_149, r157_150, r157_153, r157_155, r157_156, r157_157, r157_158, r157_159, r157_160, rI_wI, rL_wL, rR_wR, rI_wL, rI_wR, rL_wI, rL_wR, rR_wI, rR_wL, va_rf_some, va_rf_none, Option.toList_some, Option.toList_none, List.nil_append, List.cons_append, true_and, and_true, false_and, and_false, and_self, if_true, if_false, not_true_eq_false, not_false_eq_true, or_false, false_or, or_true, true_or, or_self, ite_true, ite_false, Option.some.injEq, reduceCtorEq, Nat.reduceMod, Nat.reduceDiv, Nat.reduceLeDiff, Nat.reduceEqDiff, Nat.reduceAdd, Nat.reduceMul, Nat.reduceSub, Nat.reduceLT, sw_nil, sw_int, sw_long, sw_ref, li, lo, nI_m1, ng_eq, nn_eq, en_eq, ng_le, ng_lt, Int32.neg_neg, nI_add, pk_mul, nI_clampO, nI_ltO, nI_leO, nI_eqO, nI_subO, nle_t, nle_f, nlt_t, nlt_f, neq_f, k1, z]
theorem m157_b (hF : FX μ) (hC : MC μ) (h : RX μ T) {v1 v2 : Option Value} {w : Nat} (hw : w < 6) (hd : (hdT T).2.1 = 17 + w) : ∀ (r k : Nat) (x : Int32), k + r = 6 → k ≤ w → ∀ Q, R (d + 1) 157 58 [some (.ref 110000011), v1, v2, some (.int x), some (.int (nI k))] [] μ Q = R (d + 1) 157 90 [some (.ref 110000011), v1, v2, some (.int (nI w)), some (.int (nI 6))] [] μ Q := by
  intro r
  induction r with
  | zero => intro k x hk hkw Q; omega
  | succ r ih =>
    intro k x hk hkw Q
    have k1 := c142 (d := d) hF hC h (w := 17 + k) (by omega)
    by_cases e : k = w
    · subst e
      rw [if_pos hd] at k1
      have z := m157_a (d := d) hF hC h (v1 := v1) (v2 := v2) (x := nI k) r (k + 1) (by omega) (fun w h1 h2 => by omega) Q
      rw [r157_58]
      simp (disch := first | assumption | omega) only [r157_0, r157_1, r157_4, r157_6, r157_7, r157_8, r157_9, r157_11, r157_14, r157_15, r157_16, r157_19, r157_20, r157_22, r157_23, r157_24, r157_25, r157_26, r157_27, r157_28, r157_31, r157_32, r157_33, r157_34, r157_35, r157_36, j157_39, r157_42, r157_43, r157_46, r157_47, r157_48, r157_49, r157_50, r157_53, r157_54, r157_55, r157_56, r157_60, r157_62, r157_65, r157_66, r157_68, r157_70, r157_71, r157_74, r157_77, r157_79, r157_82, r157_83, r157_84, r157_87, r157_91, r157_94, r157_95, r157_96, r157_99, r157_100, r157_101, r157_101i, r157_102, r157_105, r157_106, r157_107, r157_110, r157_111, r157_114, r157_115, r157_116, r157_117, r157_118, r157_121, r157_122, r157_123, r157_124, r157_125, r157_126, r157_127, r157_129, r157_132, r157_133, r157_134, r157_137, r157_138, r157_139, r157_140, r157_141, r157_142, r157_143, r157_145, r157_148, r157_149, r157_150, r157_153, r157_155, r157_156, r157_157, r157_158, r157_159, r157_160, rI_wI, rL_wL, rR_wR, rI_wL, rI_wR, rL_wI, rL_wR, rR_wI, rR_wL, va_rf_some, va_rf_none, Option.toList_some, Option.toList_none, List.nil_append, List.cons_append, true_and, and_true, false_and, and_false, and_self, if_true, if_false, not_true_eq_false, not_false_eq_true, or_false, false_or, or_true, true_or, or_self, ite_true, ite_false, Option.some.injEq, reduceCtorEq, Nat.reduceMod, Nat.reduceDiv, Nat.reduceLeDiff, Nat.reduceEqDiff, Nat.reduceAdd, Nat.reduceMul, Nat.reduceSub, Nat.reduceLT, sw_nil, sw_int, sw_long, sw_ref, li, lo, nI_m1, ng_eq, nn_eq, en_eq, ng_le, ng_lt, Int32.neg_neg, nI_add, pk_mul, nI_clampO, nI_ltO, nI_leO, nI_eqO, nI_subO, nle_t, nle_f, nlt_t, nlt_f, neq_f, k1, z]
    · rw [if_neg (by omega)] at k1
      have z := ih (k + 1) x (by omega) (by omega) Q
      rw [r157_58]
      simp (disch := first | assumption | omega) only [r157_0, r157_1, r157_4, r157_6, r157_7, r157_8, r157_9, r157_11, r157_14, r157_15, r157_16, r157_19, r157_20, r157_22, r157_23, r157_24, r157_25, r157_26, r157_27, r157_28, r157_31, r157_32, r157_33, r157_34, r157_35, r157_36, j157_39, r157_42, r157_43, r157_46, r157_47, r157_48, r157_49, r157_50, r157_53, r157_54, r157_55, r157_56, r157_60, r157_62, r157_65, r157_66, r157_68, r157_70, r157_71, r157_74, r157_77, r157_79, r157_82, r157_83, r157_84, r157_87, r157_91, r157_94, r157_95, r157_96, r157_99, r157_100, r157_101, r157_101i, r157_102, r157_105, r157_106, r157_107, r157_110, r157_111, r157_114, r157_115, r157_116, r157_117, r157_118, r157_121, r157_122, r157_123, r157_124, r157_125, r157_126, r157_127, r157_129, r157_132, r157_133, r157_134, r157_137, r157_138, r157_139, r157_140, r157_141, r157_142, r157_143, r157_145, r157_148, r157_149, r157_150, r157_153, r157_155, r157_156, r157_157, r157_158, r157_159, r157_160, rI_wI, rL_wL, rR_wR, rI_wL, rI_wR, rL_wI, rL_wR, rR_wI, rR_wL, va_rf_some, va_rf_none, Option.toList_some, Option.toList_none, List.nil_append, List.cons_append, true_and, and_true, false_and, and_false, and_self, if_true, if_false, not_true_eq_false, not_false_eq_true, or_false, false_or, or_true, true_or, or_self, ite_true, ite_false, Option.some.injEq, reduceCtorEq, Nat.reduceMod, Nat.reduceDiv, Nat.reduceLeDiff, Nat.reduceEqDiff, Nat.reduceAdd, Nat.reduceMul, Nat.reduceSub, Nat.reduceLT, sw_nil, sw_int, sw_long, sw_ref, li, lo, nI_m1, ng_eq, nn_eq, en_eq, ng_le, ng_lt, Int32.neg_neg, nI_add, pk_mul, nI_clampO, nI_ltO, nI_leO, nI_eqO, nI_subO, nle_t, nle_f, nlt_t, nlt_f, neq_f, k1, z]
theorem m157_f {f : Nat} (h8 : rI μ 110000011 8 = nI f) (hf : 1 ≤ f) (hf2 : f < 100000) {v1 v2 : Option Value} {x : Int32} : ∀ (r k : Nat), k + r = 6 → ∀ Q, R (d + 1) 157 58 [some (.ref 110000011), v1, v2, some (.int x), some (.int (nI k))] [] μ Q = R (d + 1) 157 90 [some (.ref 110000011), v1, v2, some (.int x), some (.int (nI 6))] [] μ Q := by
  intro r
  induction r with
  | zero =>
    intro k hk Q
    have e : k = 6 := by omega
    subst e
    rw [r157_58]
    simp (disch := first | assumption | omega) only [r157_0, r157_1, r157_4, r157_6, r157_7, r157_8, r157_9, r157_11, r157_14, r157_15, r157_16, r157_19, r157_20, r157_22, r157_23, r157_24, r157_25, r157_26, r157_27, r157_28, r157_31, r157_32, r157_33, r157_34, r157_35, r157_36, j157_39, r157_42, r157_43, r157_46, r157_47, r157_48, r157_49, r157_50, r157_53, r157_54, r157_55, r157_56, r157_60, r157_62, r157_65, r157_66, r157_68, r157_70, r157_71, r157_74, r157_77, r157_79, r157_82, r157_83, r157_84, r157_87, r157_91, r157_94, r157_95, r157_96, r157_99, r157_100, r157_101, r157_101i, r157_102, r157_105, r157_106, r157_107, r157_110, r157_111, r157_114, r157_115, r157_116, r157_117, r157_118, r157_121, r157_122, r157_123, r157_124, r157_125, r157_126, r157_127, r157_129, r157_132, r157_133, r157_134, r157_137, r157_138, r157_139, r157_140, r157_141, r157_142, r157_143, r157_145, r157_148, r157_149, r157_150, r157_153, r157_155, r157_156, r157_157, r157_158, r157_159, r157_160, rI_wI, rL_wL, rR_wR, rI_wL, rI_wR, rL_wI, rL_wR, rR_wI, rR_wL, va_rf_some, va_rf_none, Option.toList_some, Option.toList_none, List.nil_append, List.cons_append, true_and, and_true, false_and, and_false, and_self, if_true, if_false, not_true_eq_false, not_false_eq_true, or_false, false_or, or_true, true_or, or_self, ite_true, ite_false, Option.some.injEq, reduceCtorEq, Nat.reduceMod, Nat.reduceDiv, Nat.reduceLeDiff, Nat.reduceEqDiff, Nat.reduceAdd, Nat.reduceMul, Nat.reduceSub, Nat.reduceLT, sw_nil, sw_int, sw_long, sw_ref, li, lo, nI_m1, ng_eq, nn_eq, en_eq, ng_le, ng_lt, Int32.neg_neg, nI_add, pk_mul, nI_clampO, nI_ltO, nI_leO, nI_eqO, nI_subO, nle_t, nle_f, nlt_t, nlt_f, neq_f]
  | succ r ih =>
    intro k hk Q
    have z := ih (k + 1) (by omega) Q
    have k1 := c142f (d := d) h8 hf hf2 (x := nI (17 + k))
    rw [r157_58]
    simp (disch := first | assumption | omega) only [r157_0, r157_1, r157_4, r157_6, r157_7, r157_8, r157_9, r157_11, r157_14, r157_15, r157_16, r157_19, r157_20, r157_22, r157_23, r157_24, r157_25, r157_26, r157_27, r157_28, r157_31, r157_32, r157_33, r157_34, r157_35, r157_36, j157_39, r157_42, r157_43, r157_46, r157_47, r157_48, r157_49, r157_50, r157_53, r157_54, r157_55, r157_56, r157_60, r157_62, r157_65, r157_66, r157_68, r157_70, r157_71, r157_74, r157_77, r157_79, r157_82, r157_83, r157_84, r157_87, r157_91, r157_94, r157_95, r157_96, r157_99, r157_100, r157_101, r157_101i, r157_102, r157_105, r157_106, r157_107, r157_110, r157_111, r157_114, r157_115, r157_116, r157_117, r157_118, r157_121, r157_122, r157_123, r157_124, r157_125, r157_126, r157_127, r157_129, r157_132, r157_133, r157_134, r157_137, r157_138, r157_139, r157_140, r157_141, r157_142, r157_143, r157_145, r157_148, r157_149, r157_150, r157_153, r157_155, r157_156, r157_157, r157_158, r157_159, r157_160, rI_wI, rL_wL, rR_wR, rI_wL, rI_wR, rL_wI, rL_wR, rR_wI, rR_wL, va_rf_some, va_rf_none, Option.toList_some, Option.toList_none, List.nil_append, List.cons_append, true_and, and_true, false_and, and_false, and_self, if_true, if_false, not_true_eq_false, not_false_eq_true, or_false, false_or, or_true, true_or, or_self, ite_true, ite_false, Option.some.injEq, reduceCtorEq, Nat.reduceMod, Nat.reduceDiv, Nat.reduceLeDiff, Nat.reduceEqDiff, Nat.reduceAdd, Nat.reduceMul, Nat.reduceSub, Nat.reduceLT, sw_nil, sw_int, sw_long, sw_ref, li, lo, nI_m1, ng_eq, nn_eq, en_eq, ng_le, ng_lt, Int32.neg_neg, nI_add, pk_mul, nI_clampO, nI_ltO, nI_leO, nI_eqO, nI_subO, nle_t, nle_f, nlt_t, nlt_f, neq_f, k1, z]
theorem SI_W (hS : SI S) : ∀ p, p ∈ S.2.2.1 → p.2 ≤ 100 := fun p hp => by
  have := hS.2.2.2.2.1 p hp
  have := hS.1.1.1
  omega
theorem m157f (hF : FX μ) (hC : MC μ) (h : RX μ T) (hZ : MZ μ S c0) (hS : SI S) (h7 : 7 ≤ S.1 0) : RM (wI μ 110000011 8 (nI (flT 5 T))) (.error (flT 5 T)) ∧ ∀ Q, R (d + 1) 157 0 [some (.ref 110000011), none, none, none, none] [] μ Q = Q none (wI μ 110000011 8 (nI (flT 5 T))) := by
  obtain ⟨l1, l2⟩ := m140 (d := d) hF hC h (k := 5) (by omega) (by omega)
  have e7 : S.1 0 = 7 := by have := hS.1.1.1; omega
  have p0 : rI μ 116018820 94 = nI 7 := by rw [← e7]; exact hZ.1 0 (by omega) (by omega)
  refine ⟨l1, fun Q => ?_⟩
  simp (disch := first | assumption | omega) only [r157_0, r157_1, r157_4, r157_6, r157_7, r157_8, r157_9, r157_11, r157_14, r157_15, r157_16, r157_19, r157_20, r157_22, r157_23, r157_24, r157_25, r157_26, r157_27, r157_28, r157_31, r157_32, r157_33, r157_34, r157_35, r157_36, j157_39, r157_42, r157_43, r157_46, r157_47, r157_48, r157_49, r157_50, r157_53, r157_54, r157_55, r157_56, r157_58, r157_60, r157_62, r157_65, r157_66, r157_68, r157_70, r157_71, r157_74, r157_77, r157_79, r157_82, r157_83, r157_84, r157_87, r157_90, r157_91, r157_94, r157_95, r157_96, r157_99, r157_100, r157_101, r157_101i, r157_102, r157_105, r157_106, r157_107, r157_110, r157_111, r157_114, r157_115, r157_116, r157_117, r157_118, r157_121, r157_122, r157_123, r157_124, r157_125, r157_126, r157_127, r157_129, r157_132, r157_133, r157_134, r157_137, r157_138, r157_139, r157_140, r157_141, r157_142, r157_143, r157_145, r157_148, r157_149, r157_150, r157_153, r157_155, r157_156, r157_157, r157_158, r157_159, r157_160, rI_wI, rL_wL, rR_wR, rI_wL, rI_wR, rL_wI, rL_wR, rR_wI, rR_wL, va_rf_some, va_rf_none, Option.toList_some, Option.toList_none, List.nil_append, List.cons_append, true_and, and_true, false_and, and_false, and_self, if_true, if_false, not_true_eq_false, not_false_eq_true, or_false, false_or, or_true, true_or, or_self, ite_true, ite_false, Option.some.injEq, reduceCtorEq, Nat.reduceMod, Nat.reduceDiv, Nat.reduceLeDiff, Nat.reduceEqDiff, Nat.reduceAdd, Nat.reduceMul, Nat.reduceSub, Nat.reduceLT, sw_nil, sw_int, sw_long, sw_ref, li, lo, nI_m1, ng_eq, nn_eq, en_eq, ng_le, ng_lt, Int32.neg_neg, nI_add, pk_mul, nI_clampO, nI_ltO, nI_leO, nI_eqO, nI_subO, nle_t, nle_f, nlt_t, nlt_f, neq_f, fx_2000010_0, fx_2000010_1, fx_2000010_4, fx_2000010_5, fx_2000010_6, fx_2000010_8, fx_2000010_10, fx_2000010_11, fx_2000010_12, fx_2000010_13, fx_2000010_14, fx_2000010_15, fx_2000010_16, fx_2000010_17, fx_2000010_18, fx_3000009_0, fx_5000007_0, fx_5000007_1, fx_5000007_2, fx_5000007_3, fx_7000001_0, fx_11000005_1, fx_11000005_2, fx_11000005_3, fx_11000005_4, fx_11000005_5, fx_11000005_6, fx_11000005_10, fx_11000005_11, fx_11000005_12, fx_20000002_0, fx_20000002_2, fx_20000002_3, fx_20000002_4, fx_25000005_1, fx_25000005_2, fx_25000005_3, fx_25000005_4, fx_25000005_5, fx_25000005_6, fx_25000005_10, fx_25000005_11, fx_25000005_12, fx_34000002_0, fx_34000002_2, fx_34000002_3, fx_34000002_4, fx_39000008_0, fx_41000006_0, fx_42002024_0, fx_42002024_1, fx_42002024_2, fx_42002024_3, fx_42002024_4, fx_42002024_5, fx_42002024_6, fx_42002024_7, fx_42002024_8, fx_42002024_9, fx_42002024_10, fx_42002024_11, fx_42002024_12, fx_42002024_13, fx_42002024_14, fx_42002024_15, fx_42002024_16, fx_42002024_17, fx_42002024_18, fx_42002024_19, fx_43000008_0, fx_45000008_0, fx_47000008_0, fx_49000008_0, fx_51000008_0, fx_53000008_0, fx_55000008_0, fx_57000008_0, fx_59000008_0, fx_61000008_0, fx_63000008_0, fx_65000008_0, fx_67000008_0, fx_69000008_0, fx_71000008_0, fx_73000008_0, fx_75000008_0, fx_77000008_0, fx_79000008_0, fx_81000008_0, fx_83000424_0, fx_83000424_1, fx_83000424_2, fx_83000424_3, fx_85000004_0, fx_85000004_1, fx_85000004_2, fx_85000004_3, fx_85000004_4, fx_85000004_5, fx_85000004_6, fx_85000004_10, fx_102000008_0, fx_104000008_0, fx_106000008_0, fx_108000008_0, fx_110000011_1, fx_110000011_4, fx_110000011_5, fx_110000011_6, fx_110000011_9, fx_110000011_10, fx_110000011_11, fx_110000011_12, fx_110000011_14, fx_110000011_15, fx_110000011_20, fx_110000011_21, fx_110000011_22, fx_110000011_23, fx_110000011_25, fx_110000011_26, fx_110000011_31, fx_110000011_32, fx_110000011_37, fx_110000011_38, fx_110000011_39, fx_110000011_40, p0, l2]
theorem m157 (h : RM μ (.ok T)) (hZ : MZ μ S c0) (hS : SI S) (h7 : S.1 0 < 7) {wm : Nat} (hw : wm ≤ 1) (hd : (hdT T).2.1 = wm) : ∃ ν, GQ μ ν ∧ RM ν (snx (lnP S wm T.tail)) ∧ (∀ p, lnP S wm T.tail = .ok p → MZ ν p.1 c0) ∧ ∀ Q, R (d + 4) 157 0 [some (.ref 110000011), none, none, none, none] [] μ Q = Q none ν := by
  obtain ⟨hF, hC, -, ho⟩ := h
  have hX := ho T rfl
  have p0 : rI μ 116018820 94 = nI (S.1 0) := hZ.1 0 (by omega) (by omega)
  have k42 : ∀ Q, R (d + 3) 142 0 [some (.ref 110000011), some (.int (nI 1))] [] μ Q = Q (some (.int (nI wm))) μ := by
    intro Q
    rw [c142 (d := d + 3) hF hC hX (w := 1) (by omega) Q]
    by_cases e : wm = 1
    · rw [if_pos (by omega), e]
    · rw [if_neg (by omega), show wm = 0 by omega]
  have r1 := RM_p (RM_o hF hC hX) (102 + 4 * S.1 0 + 1) (nI wm)
  obtain ⟨hF1, hC1, -, ho1⟩ := r1
  have hX1 := ho1 T rfl
  have hN1 : NMr (wI μ 116018820 (102 + 4 * S.1 0 + 1) (nI wm)) S.2.2.1 := NMr_o (by rw [rI_wI, if_neg (by omega)]) (fun _ => rfl) (fun j => by rw [rI_wI, if_neg (by omega)]) hZ.2.2.1
  obtain ⟨ν2, a1, a2, a3, a4⟩ := m156 (d := d + 2) hF1 hC1 hX1 (by omega) hS.2.2.1 hN1 (by rw [hS.2.2.2.1]; have := hS.1.1.2.1; omega) (SI_W hS) (n := S.1 0)
  have a4 : ∀ Q, R (d + 3) 156 0 [some (.ref 110000011), some (.int (nI (S.1 0)))] [] (wI μ 116018820 (102 + 4 * S.1 0 + 1) (nI wm)) Q = Q none ν2 := a4
  have G2 : GQ μ ν2 := GQ_tr (GQ_p μ _ (by omega)) (GQ_N a1)
  have st : ∀ Q, R (d + 4) 157 0 [some (.ref 110000011), none, none, none, none] [] μ Q = R (d + 4) 157 58 [some (.ref 110000011), some (.int (nI (S.1 0))), some (.int (nI (102 + 4 * S.1 0))), some (.int (-nI 1)), some (.int (nI 0))] [] ν2 Q := by
    intro Q
    have w01 : wm = 0 ∨ wm = 1 := by omega
    rcases w01 with rfl | rfl <;> simp (disch := first | assumption | omega) only [r157_0, r157_1, r157_4, r157_6, r157_7, r157_8, r157_9, r157_11, r157_14, r157_15, r157_16, r157_19, r157_20, r157_22, r157_23, r157_24, r157_25, r157_26, r157_27, r157_28, r157_31, r157_32, r157_33, r157_34, r157_35, r157_36, j157_39, r157_42, r157_43, r157_46, r157_47, r157_48, r157_49, r157_50, r157_53, r157_54, r157_55, r157_56, r157_60, r157_62, r157_65, r157_66, r157_68, r157_70, r157_71, r157_74, r157_77, r157_79, r157_82, r157_83, r157_84, r157_87, r157_90, r157_91, r157_94, r157_95, r157_96, r157_99, r157_100, r157_101, r157_101i, r157_102, r157_105, r157_106, r157_107, r157_110, r157_111, r157_114, r157_115, r157_116, r157_117, r157_118, r157_121, r157_122, r157_123, r157_124, r157_125, r157_126, r157_127, r157_129, r157_132, r157_133, r157_134, r157_137, r157_138, r157_139, r157_140, r157_141, r157_142, r157_143, r157_145, r157_148, r157_149, r157_150, r157_153, r157_155, r157_156, r157_157, r157_158, r157_159, r157_160, rI_wI, rL_wL, rR_wR, rI_wL, rI_wR, rL_wI, rL_wR, rR_wI, rR_wL, va_rf_some, va_rf_none, Option.toList_some, Option.toList_none, List.nil_append, List.cons_append, true_and, and_true, false_and, and_false, and_self, if_true, if_false, not_true_eq_false, not_false_eq_true, or_false, false_or, or_true, true_or, or_self, ite_true, ite_false, Option.some.injEq, reduceCtorEq, Nat.reduceMod, Nat.reduceDiv, Nat.reduceLeDiff, Nat.reduceEqDiff, Nat.reduceAdd, Nat.reduceMul, Nat.reduceSub, Nat.reduceLT, sw_nil, sw_int, sw_long, sw_ref, li, lo, nI_m1, ng_eq, nn_eq, en_eq, ng_le, ng_lt, Int32.neg_neg, nI_add, pk_mul, nI_clampO, nI_ltO, nI_leO, nI_eqO, nI_subO, nle_t, nle_f, nlt_t, nlt_f, neq_f, fx_2000010_0, fx_2000010_1, fx_2000010_4, fx_2000010_5, fx_2000010_6, fx_2000010_8, fx_2000010_10, fx_2000010_11, fx_2000010_12, fx_2000010_13, fx_2000010_14, fx_2000010_15, fx_2000010_16, fx_2000010_17, fx_2000010_18, fx_3000009_0, fx_5000007_0, fx_5000007_1, fx_5000007_2, fx_5000007_3, fx_7000001_0, fx_11000005_1, fx_11000005_2, fx_11000005_3, fx_11000005_4, fx_11000005_5, fx_11000005_6, fx_11000005_10, fx_11000005_11, fx_11000005_12, fx_20000002_0, fx_20000002_2, fx_20000002_3, fx_20000002_4, fx_25000005_1, fx_25000005_2, fx_25000005_3, fx_25000005_4, fx_25000005_5, fx_25000005_6, fx_25000005_10, fx_25000005_11, fx_25000005_12, fx_34000002_0, fx_34000002_2, fx_34000002_3, fx_34000002_4, fx_39000008_0, fx_41000006_0, fx_42002024_0, fx_42002024_1, fx_42002024_2, fx_42002024_3, fx_42002024_4, fx_42002024_5, fx_42002024_6, fx_42002024_7, fx_42002024_8, fx_42002024_9, fx_42002024_10, fx_42002024_11, fx_42002024_12, fx_42002024_13, fx_42002024_14, fx_42002024_15, fx_42002024_16, fx_42002024_17, fx_42002024_18, fx_42002024_19, fx_43000008_0, fx_45000008_0, fx_47000008_0, fx_49000008_0, fx_51000008_0, fx_53000008_0, fx_55000008_0, fx_57000008_0, fx_59000008_0, fx_61000008_0, fx_63000008_0, fx_65000008_0, fx_67000008_0, fx_69000008_0, fx_71000008_0, fx_73000008_0, fx_75000008_0, fx_77000008_0, fx_79000008_0, fx_81000008_0, fx_83000424_0, fx_83000424_1, fx_83000424_2, fx_83000424_3, fx_85000004_0, fx_85000004_1, fx_85000004_2, fx_85000004_3, fx_85000004_4, fx_85000004_5, fx_85000004_6, fx_85000004_10, fx_102000008_0, fx_104000008_0, fx_106000008_0, fx_108000008_0, fx_110000011_1, fx_110000011_4, fx_110000011_5, fx_110000011_6, fx_110000011_9, fx_110000011_10, fx_110000011_11, fx_110000011_12, fx_110000011_14, fx_110000011_15, fx_110000011_20, fx_110000011_21, fx_110000011_22, fx_110000011_23, fx_110000011_25, fx_110000011_26, fx_110000011_31, fx_110000011_32, fx_110000011_37, fx_110000011_38, fx_110000011_39, fx_110000011_40, p0, k42, a4]
  cases hU : tkU S.2.2.1 T.tail with
  | error f =>
    have eL : lnP S wm T.tail = .error f := by unfold lnP; rw [hU]; rfl
    rw [hU] at a2
    obtain ⟨y1, y2, y3⟩ := a2.2.2.1 f rfl
    have z := m157_f (d := d + 3) y1 y2 y3 (v1 := some (.int (nI (S.1 0)))) (v2 := some (.int (nI (102 + 4 * S.1 0)))) (x := -nI 1) 6 0 (by omega)
    have z2 := c140f (d := d + 3) y1 y2 y3 (x := nI 1)
    rw [eL]
    refine ⟨ν2, G2, a2, fun p q => (by cases q), fun Q => ?_⟩
    rw [st Q, z Q]
    simp (disch := first | assumption | omega) only [r157_0, r157_1, r157_4, r157_6, r157_7, r157_8, r157_9, r157_11, r157_14, r157_15, r157_16, r157_19, r157_20, r157_22, r157_23, r157_24, r157_25, r157_26, r157_27, r157_28, r157_31, r157_32, r157_33, r157_34, r157_35, r157_36, j157_39, r157_42, r157_43, r157_46, r157_47, r157_48, r157_49, r157_50, r157_53, r157_54, r157_55, r157_56, r157_58, r157_60, r157_62, r157_65, r157_66, r157_68, r157_70, r157_71, r157_74, r157_77, r157_79, r157_82, r157_83, r157_84, r157_87, r157_90, r157_91, r157_94, r157_95, r157_96, r157_99, r157_100, r157_101, r157_101i, r157_102, r157_105, r157_106, r157_107, r157_110, r157_111, r157_114, r157_115, r157_116, r157_117, r157_118, r157_121, r157_122, r157_123, r157_124, r157_125, r157_126, r157_127, r157_129, r157_132, r157_133, r157_134, r157_137, r157_138, r157_139, r157_140, r157_141, r157_142, r157_143, r157_145, r157_148, r157_149, r157_150, r157_153, r157_155, r157_156, r157_157, r157_158, r157_159, r157_160, rI_wI, rL_wL, rR_wR, rI_wL, rI_wR, rL_wI, rL_wR, rR_wI, rR_wL, va_rf_some, va_rf_none, Option.toList_some, Option.toList_none, List.nil_append, List.cons_append, true_and, and_true, false_and, and_false, and_self, if_true, if_false, not_true_eq_false, not_false_eq_true, or_false, false_or, or_true, true_or, or_self, ite_true, ite_false, Option.some.injEq, reduceCtorEq, Nat.reduceMod, Nat.reduceDiv, Nat.reduceLeDiff, Nat.reduceEqDiff, Nat.reduceAdd, Nat.reduceMul, Nat.reduceSub, Nat.reduceLT, sw_nil, sw_int, sw_long, sw_ref, li, lo, nI_m1, ng_eq, nn_eq, en_eq, ng_le, ng_lt, Int32.neg_neg, nI_add, pk_mul, nI_clampO, nI_ltO, nI_leO, nI_eqO, nI_subO, nle_t, nle_f, nlt_t, nlt_f, neq_f, z2]
  | ok p =>
    obtain ⟨u, T2⟩ := p
    rw [hU] at a2
    have hN2 := a3 u T2 hU
    obtain ⟨hF2, hC2, -, ho2⟩ := a2
    have hX2 := ho2 T2 rfl
    by_cases hk : 17 ≤ (hdT T2).2.1 ∧ (hdT T2).2.1 ≤ 22
    · have hK : tkK T2 = .ok ((hdT T2).2.1 - 17, T2.tail) := by unfold tkK; rw [if_pos hk]
      obtain ⟨k, hkk⟩ : ∃ k, k = (hdT T2).2.1 - 17 := ⟨_, rfl⟩
      rw [← hkk] at hK
      have hk6 : k < 6 := by omega
      have z := m157_b (d := d + 3) hF2 hC2 hX2 (v1 := some (.int (nI (S.1 0)))) (v2 := some (.int (nI (102 + 4 * S.1 0)))) hk6 (by omega) 6 0 (-nI 1) (by omega) (by omega)
      obtain ⟨i, i1, i2, i3⟩ := RX_tl hX2 (by omega)
      have A3 : AQ ν2 (wI ν2 110000011 7 (nI (i + 1))) := AQ_w ν2 _ (Or.inl rfl)
      have r4 : RM (wI (wI ν2 110000011 7 (nI (i + 1))) 116018820 (102 + 4 * S.1 0) (nI k)) (.ok T2.tail) := RM_p (RM_o (AQ_FX A3 hF2) (AQ_MC A3 hC2) i3) _ _
      obtain ⟨ν5, x5, b1, b2, b3, b4⟩ := m150 (d := d) r4 (w := 2) (m := 99) (by omega) (by omega)
      obtain ⟨ν7, x7, c1, c2, c3, c4⟩ := m150 (d := d) (RM_p b2 (102 + 4 * S.1 0 + 2) x5) (w := 3) (m := 9) (by omega) (by omega)
      have eL : snx (lnP S wm T.tail) = snx (bnd (bnd (snx (bnd (bnd (.ok T2.tail) (tkW 2)) (tkN 99))) (tkW 3)) (tkN 9)) := by
        rw [lnP_snx, hU]
        show snx (bnd (bnd (snx (bnd (bnd (snx (tkK T2)) (tkW 2)) (tkN 99))) (tkW 3)) (tkN 9)) = _
        rw [hK]
        rfl
      rw [← eL] at c2
      have rp : ∀ j, rI ν7 116018820 j = if j = 102 + 4 * S.1 0 + 2 then x5 else if j = 102 + 4 * S.1 0 then nI k else if j = 102 + 4 * S.1 0 + 1 then nI wm else rI μ 116018820 j := fun j => by
        rw [c1.1 _ _ (by omega), rI_wI]
        by_cases q1 : j = 102 + 4 * S.1 0 + 2
        · rw [if_pos ⟨rfl, q1.symm⟩, if_pos q1]
        · rw [if_neg (by omega), if_neg q1, b1.1 _ _ (by omega), rI_wI]
          by_cases q2 : j = 102 + 4 * S.1 0
          · rw [if_pos ⟨rfl, q2.symm⟩, if_pos q2]
          · rw [if_neg (by omega), if_neg q2, A3.1 _ _ (by omega), a1.1 _ _ (by omega), rI_wI]
            by_cases q3 : j = 102 + 4 * S.1 0 + 1
            · rw [if_pos ⟨rfl, q3.symm⟩, if_pos q3]
            · rw [if_neg (by omega), if_neg q3]
      have p94 : rI ν7 116018820 94 = nI (S.1 0) := by
        rw [rp, if_neg (by omega), if_neg (by omega), if_neg (by omega)]; exact p0
      have ro : ∀ a j, a ≠ 116018820 → ¬ ((a = 110000011 ∧ (j = 7 ∨ j = 8 ∨ j = 16)) ∨ a = 120001120) → rI ν7 a j = rI μ a j := fun a j q1 q2 => by
        rw [c1.1 _ _ (by omega), rI_wI, if_neg (by omega), b1.1 _ _ (by omega), rI_wI, if_neg (by omega), A3.1 _ _ (by omega), a1.1 _ _ (by omega), rI_wI, if_neg (by omega)]
      have hF7 := c2.1
      have hF5 := b2.1
      refine ⟨wI (wI ν7 116018820 (102 + 4 * S.1 0 + 3) x7) 116018820 94 (nI (S.1 0 + 1)), ?_, RM_p (RM_p c2 _ _) _ _, fun p q => ?_, fun Q => ?_⟩
      · exact GQ_tr (GQ_tr (GQ_tr (GQ_tr (GQ_tr (GQ_tr (GQ_tr G2 (GQ_A A3)) (GQ_p _ _ (by omega))) (GQ_A b1)) (GQ_p _ _ (by omega))) (GQ_A c1)) (GQ_p _ _ (by omega))) (GQ_p _ _ (by omega))
      · obtain ⟨⟨u', T2'⟩, o1, o1'⟩ := bnd_ok q
        rw [hU] at o1
        cases o1
        obtain ⟨⟨k', T3'⟩, o2, o2'⟩ := bnd_ok o1'
        have o2 : tkK T2 = .ok (k', T3') := o2
        rw [hK] at o2
        cases o2
        obtain ⟨T4, o3, o3'⟩ := bnd_ok o2'
        obtain ⟨⟨a, T5⟩, o4, o4'⟩ := bnd_ok o3'
        obtain ⟨T6, o5, o5'⟩ := bnd_ok o4'
        obtain ⟨⟨b, T7⟩, o6, o6'⟩ := bnd_ok o5'
        have o3 : tkW 2 T2.tail = .ok T4 := o3
        have o4 : tkN 99 T4 = .ok (a, T5) := o4
        have o5 : tkW 3 T5 = .ok T6 := o5
        have o6 : tkN 9 T6 = .ok (b, T7) := o6
        have i4 : bnd (bnd (.ok T2.tail) (tkW 2)) (tkN 99) = .ok (a, T5) := by
          show bnd (tkW 2 T2.tail) (tkN 99) = _
          rw [o3]
          exact o4
        have ea : x5 = nI a := b3 a T5 i4
        have eb : x7 = nI b := c3 b T7 (by
          rw [i4]
          show bnd (tkW 3 T5) (tkN 9) = _
          rw [o5]
          exact o6)
        cases o6'
        subst ea eb
        obtain ⟨z1, z2, z3, z4, z5, z6⟩ := hZ
        refine ⟨fun x h1 h2 => ?_, ?_, ?_, ?_, ?_, ?_⟩
        · show _ = nI (adP S.1 wm k a b x)
          unfold adP
          rw [rI_wI]
          by_cases q0 : x = 0
          · rw [if_pos ⟨rfl, by omega⟩, if_pos q0]
          · rw [if_neg (by omega), if_neg q0, rI_wI]
            by_cases q1 : x = 8 + 4 * S.1 0 + 3
            · rw [if_pos ⟨rfl, by omega⟩, if_neg (by omega), if_neg (by omega), if_neg (by omega), if_pos q1]
            · rw [if_neg (by omega), rp]
              by_cases q2 : x = 8 + 4 * S.1 0 + 2
              · rw [if_pos (by omega), if_neg (by omega), if_neg (by omega), if_pos q2]
              · rw [if_neg (by omega)]
                by_cases q3 : x = 8 + 4 * S.1 0
                · rw [if_pos (by omega), if_pos q3]
                · rw [if_neg (by omega), if_neg q3]
                  by_cases q4 : x = 8 + 4 * S.1 0 + 1
                  · rw [if_pos (by omega), if_pos q4]
                  · rw [if_neg (by omega), if_neg q4, if_neg q2, if_neg q1]
                    exact z1 x h1 h2
        · refine MZl_o (fun k hk => ?_) (fun j => ?_) (fun j => ?_) z2
          · rw [rI_wI, if_neg (by omega), rI_wI, if_neg (by omega), rp, if_neg (by omega), if_neg (by omega), if_neg (by omega)]
          · rw [rI_wI, if_neg (by omega), rI_wI, if_neg (by omega), ro _ _ (by omega) (by omega)]
          · rw [rI_wI, if_neg (by omega), rI_wI, if_neg (by omega), ro _ _ (by omega) (by omega)]
        · refine NMr_o (μ := ν2) ?_ (fun j => ?_) (fun j => ?_) hN2
          · rw [rI_wI, if_neg (by omega), rI_wI, if_neg (by omega), c1.1 _ _ (by omega), rI_wI, if_neg (by omega), b1.1 _ _ (by omega), rI_wI, if_neg (by omega), A3.1 _ _ (by omega)]
          · show rL ν7 119001121 j = _
            rw [c1.2.1]
            show rL ν5 119001121 j = _
            rw [b1.2.1]
            rfl
          · rw [rI_wI, if_neg (by omega), rI_wI, if_neg (by omega), c1.1 _ _ (by omega), rI_wI, if_neg (by omega), b1.1 _ _ (by omega), rI_wI, if_neg (by omega), A3.1 _ _ (by omega)]
        · rw [rI_wI, if_neg (by omega), rI_wI, if_neg (by omega), ro _ _ (by omega) (by omega)]; exact z4
        · rw [rI_wI, if_neg (by omega), rI_wI, if_neg (by omega), ro _ _ (by omega) (by omega)]; exact z5
        · rw [rI_wI, if_neg (by omega), rI_wI, if_neg (by omega), ro _ _ (by omega) (by omega)]; exact z6
      · rw [st Q, z Q]
        simp (disch := first | assumption | omega) only [r157_0, r157_1, r157_4, r157_6, r157_7, r157_8, r157_9, r157_11, r157_14, r157_15, r157_16, r157_19, r157_20, r157_22, r157_23, r157_24, r157_25, r157_26, r157_27, r157_28, r157_31, r157_32, r157_33, r157_34, r157_35, r157_36, j157_39, r157_42, r157_43, r157_46, r157_47, r157_48, r157_49, r157_50, r157_53, r157_54, r157_55, r157_56, r157_60, r157_62, r157_65, r157_66, r157_68, r157_70, r157_71, r157_74, r157_77, r157_79, r157_82, r157_83, r157_84, r157_87, r157_90, r157_91, r157_94, r157_95, r157_96, r157_99, r157_100, r157_101, r157_101i, r157_102, r157_105, r157_106, r157_107, r157_110, r157_111, r157_114, r157_115, r157_116, r157_117, r157_118, r157_121, r157_122, r157_123, r157_124, r157_125, r157_126, r157_127, r157_129, r157_132, r157_133, r157_134, r157_137, r157_138, r157_139, r157_140, r157_141, r157_142, r157_143, r157_145, r157_148, r157_149, r157_150, r157_153, r157_155, r157_156, r157_157, r157_158, r157_159, r157_160, rI_wI, rL_wL, rR_wR, rI_wL, rI_wR, rL_wI, rL_wR, rR_wI, rR_wL, va_rf_some, va_rf_none, Option.toList_some, Option.toList_none, List.nil_append, List.cons_append, true_and, and_true, false_and, and_false, and_self, if_true, if_false, not_true_eq_false, not_false_eq_true, or_false, false_or, or_true, true_or, or_self, ite_true, ite_false, Option.some.injEq, reduceCtorEq, Nat.reduceMod, Nat.reduceDiv, Nat.reduceLeDiff, Nat.reduceEqDiff, Nat.reduceAdd, Nat.reduceMul, Nat.reduceSub, Nat.reduceLT, sw_nil, sw_int, sw_long, sw_ref, li, lo, nI_m1, ng_eq, nn_eq, en_eq, ng_le, ng_lt, Int32.neg_neg, nI_add, pk_mul, nI_clampO, nI_ltO, nI_leO, nI_eqO, nI_subO, nle_t, nle_f, nlt_t, nlt_f, neq_f, fx_2000010_0, fx_2000010_1, fx_2000010_4, fx_2000010_5, fx_2000010_6, fx_2000010_8, fx_2000010_10, fx_2000010_11, fx_2000010_12, fx_2000010_13, fx_2000010_14, fx_2000010_15, fx_2000010_16, fx_2000010_17, fx_2000010_18, fx_3000009_0, fx_5000007_0, fx_5000007_1, fx_5000007_2, fx_5000007_3, fx_7000001_0, fx_11000005_1, fx_11000005_2, fx_11000005_3, fx_11000005_4, fx_11000005_5, fx_11000005_6, fx_11000005_10, fx_11000005_11, fx_11000005_12, fx_20000002_0, fx_20000002_2, fx_20000002_3, fx_20000002_4, fx_25000005_1, fx_25000005_2, fx_25000005_3, fx_25000005_4, fx_25000005_5, fx_25000005_6, fx_25000005_10, fx_25000005_11, fx_25000005_12, fx_34000002_0, fx_34000002_2, fx_34000002_3, fx_34000002_4, fx_39000008_0, fx_41000006_0, fx_42002024_0, fx_42002024_1, fx_42002024_2, fx_42002024_3, fx_42002024_4, fx_42002024_5, fx_42002024_6, fx_42002024_7, fx_42002024_8, fx_42002024_9, fx_42002024_10, fx_42002024_11, fx_42002024_12, fx_42002024_13, fx_42002024_14, fx_42002024_15, fx_42002024_16, fx_42002024_17, fx_42002024_18, fx_42002024_19, fx_43000008_0, fx_45000008_0, fx_47000008_0, fx_49000008_0, fx_51000008_0, fx_53000008_0, fx_55000008_0, fx_57000008_0, fx_59000008_0, fx_61000008_0, fx_63000008_0, fx_65000008_0, fx_67000008_0, fx_69000008_0, fx_71000008_0, fx_73000008_0, fx_75000008_0, fx_77000008_0, fx_79000008_0, fx_81000008_0, fx_83000424_0, fx_83000424_1, fx_83000424_2, fx_83000424_3, fx_85000004_0, fx_85000004_1, fx_85000004_2, fx_85000004_3, fx_85000004_4, fx_85000004_5, fx_85000004_6, fx_85000004_10, fx_102000008_0, fx_104000008_0, fx_106000008_0, fx_108000008_0, fx_110000011_1, fx_110000011_4, fx_110000011_5, fx_110000011_6, fx_110000011_9, fx_110000011_10, fx_110000011_11, fx_110000011_12, fx_110000011_14, fx_110000011_15, fx_110000011_20, fx_110000011_21, fx_110000011_22, fx_110000011_23, fx_110000011_25, fx_110000011_26, fx_110000011_31, fx_110000011_32, fx_110000011_37, fx_110000011_38, fx_110000011_39, fx_110000011_40, i2, b4, c4, p94]
    · have hK : tkK T2 = .error (flT 1 T2) := by unfold tkK; rw [if_neg hk]
      have eL : lnP S wm T.tail = .error (flT 1 T2) := by
        unfold lnP
        rw [hU]
        show bnd (tkK T2) _ = _
        rw [hK]
        rfl
      have z := m157_a (d := d + 3) hF2 hC2 hX2 (v1 := some (.int (nI (S.1 0)))) (v2 := some (.int (nI (102 + 4 * S.1 0)))) (x := -nI 1) 6 0 (by omega) (fun w h1 h2 => by omega)
      obtain ⟨l1, l2⟩ := m140 (d := d + 3) hF2 hC2 hX2 (k := 1) (by omega) (by omega)
      rw [eL]
      refine ⟨_, GQ_tr G2 (GQ_A (AQ_w ν2 _ (Or.inr rfl))), l1, fun p q => (by cases q), fun Q => ?_⟩
      rw [st Q, z Q]
      simp (disch := first | assumption | omega) only [r157_0, r157_1, r157_4, r157_6, r157_7, r157_8, r157_9, r157_11, r157_14, r157_15, r157_16, r157_19, r157_20, r157_22, r157_23, r157_24, r157_25, r157_26, r157_27, r157_28, r157_31, r157_32, r157_33, r157_34, r157_35, r157_36, j157_39, r157_42, r157_43, r157_46, r157_47, r157_48, r157_49, r157_50, r157_53, r157_54, r157_55, r157_56, r157_60, r157_62, r157_65, r157_66, r157_68, r157_70, r157_71, r157_74, r157_77, r157_79, r157_82, r157_83, r157_84, r157_87, r157_90, r157_91, r157_94, r157_95, r157_96, r157_99, r157_100, r157_101, r157_101i, r157_102, r157_105, r157_106, r157_107, r157_110, r157_111, r157_114, r157_115, r157_116, r157_117, r157_118, r157_121, r157_122, r157_123, r157_124, r157_125, r157_126, r157_127, r157_129, r157_132, r157_133, r157_134, r157_137, r157_138, r157_139, r157_140, r157_141, r157_142, r157_143, r157_145, r157_148, r157_149, r157_150, r157_153, r157_155, r157_156, r157_157, r157_158, r157_159, r157_160, rI_wI, rL_wL, rR_wR, rI_wL, rI_wR, rL_wI, rL_wR, rR_wI, rR_wL, va_rf_some, va_rf_none, Option.toList_some, Option.toList_none, List.nil_append, List.cons_append, true_and, and_true, false_and, and_false, and_self, if_true, if_false, not_true_eq_false, not_false_eq_true, or_false, false_or, or_true, true_or, or_self, ite_true, ite_false, Option.some.injEq, reduceCtorEq, Nat.reduceMod, Nat.reduceDiv, Nat.reduceLeDiff, Nat.reduceEqDiff, Nat.reduceAdd, Nat.reduceMul, Nat.reduceSub, Nat.reduceLT, sw_nil, sw_int, sw_long, sw_ref, li, lo, nI_m1, ng_eq, nn_eq, en_eq, ng_le, ng_lt, Int32.neg_neg, nI_add, pk_mul, nI_clampO, nI_ltO, nI_leO, nI_eqO, nI_subO, nle_t, nle_f, nlt_t, nlt_f, neq_f, l2]
theorem m158f (hF : FX μ) (hC : MC μ) (h : RX μ T) (hZ : MZ μ S c0) (hS : SI S) (h7 : 4 ≤ S.1 1) : RM (wI μ 110000011 8 (nI (flT 5 T))) (.error (flT 5 T)) ∧ ∀ Q, R (d + 1) 158 0 [some (.ref 110000011), none] [] μ Q = Q none (wI μ 110000011 8 (nI (flT 5 T))) := by
  obtain ⟨l1, l2⟩ := m140 (d := d) hF hC h (k := 5) (by omega) (by omega)
  have e7 : S.1 1 = 4 := by have := hS.1.1.2.1; omega
  have p0 : rI μ 116018820 95 = nI 4 := by rw [← e7]; exact hZ.1 1 (by omega) (by omega)
  refine ⟨l1, fun Q => ?_⟩
  simp (disch := first | assumption | omega) only [r158_0, r158_1, r158_4, r158_6, r158_7, r158_8, r158_9, r158_10, r158_13, r158_14, r158_15, r158_18, r158_19, r158_20, r158_22, r158_25, r158_26, r158_29, r158_32, r158_33, r158_34, r158_35, r158_36, r158_37, r158_38, r158_39, r158_41, r158_44, r158_45, r158_46, r158_49, r158_52, r158_53, r158_54, r158_55, r158_56, r158_57, r158_58, r158_59, r158_61, r158_62, r158_64, r158_67, r158_68, r158_69, r158_72, r158_74, r158_75, r158_76, r158_77, r158_78, r158_79, rI_wI, rL_wL, rR_wR, rI_wL, rI_wR, rL_wI, rL_wR, rR_wI, rR_wL, va_rf_some, va_rf_none, Option.toList_some, Option.toList_none, List.nil_append, List.cons_append, true_and, and_true, false_and, and_false, and_self, if_true, if_false, not_true_eq_false, not_false_eq_true, or_false, false_or, or_true, true_or, or_self, ite_true, ite_false, Option.some.injEq, reduceCtorEq, Nat.reduceMod, Nat.reduceDiv, Nat.reduceLeDiff, Nat.reduceEqDiff, Nat.reduceAdd, Nat.reduceMul, Nat.reduceSub, Nat.reduceLT, sw_nil, sw_int, sw_long, sw_ref, li, lo, nI_m1, ng_eq, nn_eq, en_eq, ng_le, ng_lt, Int32.neg_neg, nI_add, pk_mul, nI_clampO, nI_ltO, nI_leO, nI_eqO, nI_subO, nle_t, nle_f, nlt_t, nlt_f, neq_f, fx_2000010_0, fx_2000010_1, fx_2000010_4, fx_2000010_5, fx_2000010_6, fx_2000010_8, fx_2000010_10, fx_2000010_11, fx_2000010_12, fx_2000010_13, fx_2000010_14, fx_2000010_15, fx_2000010_16, fx_2000010_17, fx_2000010_18, fx_3000009_0, fx_5000007_0, fx_5000007_1, fx_5000007_2, fx_5000007_3, fx_7000001_0, fx_11000005_1, fx_11000005_2, fx_11000005_3, fx_11000005_4, fx_11000005_5, fx_11000005_6, fx_11000005_10, fx_11000005_11, fx_11000005_12, fx_20000002_0, fx_20000002_2, fx_20000002_3, fx_20000002_4, fx_25000005_1, fx_25000005_2, fx_25000005_3, fx_25000005_4, fx_25000005_5, fx_25000005_6, fx_25000005_10, fx_25000005_11, fx_25000005_12, fx_34000002_0, fx_34000002_2, fx_34000002_3, fx_34000002_4, fx_39000008_0, fx_41000006_0, fx_42002024_0, fx_42002024_1, fx_42002024_2, fx_42002024_3, fx_42002024_4, fx_42002024_5, fx_42002024_6, fx_42002024_7, fx_42002024_8, fx_42002024_9, fx_42002024_10, fx_42002024_11, fx_42002024_12, fx_42002024_13, fx_42002024_14, fx_42002024_15, fx_42002024_16, fx_42002024_17, fx_42002024_18, fx_42002024_19, fx_43000008_0, fx_45000008_0, fx_47000008_0, fx_49000008_0, fx_51000008_0, fx_53000008_0, fx_55000008_0, fx_57000008_0, fx_59000008_0, fx_61000008_0, fx_63000008_0, fx_65000008_0, fx_67000008_0, fx_69000008_0, fx_71000008_0, fx_73000008_0, fx_75000008_0, fx_77000008_0, fx_79000008_0, fx_81000008_0, fx_83000424_0, fx_83000424_1, fx_83000424_2, fx_83000424_3, fx_85000004_0, fx_85000004_1, fx_85000004_2, fx_85000004_3, fx_85000004_4, fx_85000004_5, fx_85000004_6, fx_85000004_10, fx_102000008_0, fx_104000008_0, fx_106000008_0, fx_108000008_0, fx_110000011_1, fx_110000011_4, fx_110000011_5, fx_110000011_6, fx_110000011_9, fx_110000011_10, fx_110000011_11, fx_110000011_12, fx_110000011_14, fx_110000011_15, fx_110000011_20, fx_110000011_21, fx_110000011_22, fx_110000011_23, fx_110000011_25, fx_110000011_26, fx_110000011_31, fx_110000011_32, fx_110000011_37, fx_110000011_38, fx_110000011_39, fx_110000011_40, p0, l2]
theorem m158 (h : RM μ (.ok T)) (hZ : MZ μ S c0) (hS : SI S) (h7 : S.1 1 < 4) (hd : (hdT T).2.1 ≠ 30) : ∃ ν, GQ μ ν ∧ RM ν (snx (lnF S T.tail)) ∧ (∀ p, lnF S T.tail = .ok p → MZ ν p.1 c0) ∧ ∀ Q, R (d + 4) 158 0 [some (.ref 110000011), none] [] μ Q = Q none ν := by
  obtain ⟨hF, hC, -, ho⟩ := h
  have hX := ho T rfl
  have p0 : rI μ 116018820 95 = nI (S.1 1) := hZ.1 1 (by omega) (by omega)
  obtain ⟨ν2, a1, a2, a3, a4⟩ := m156 (d := d + 2) hF hC hX hd hS.2.2.1 hZ.2.2.1 (by rw [hS.2.2.2.1]; have := hS.1.1.1; omega) (SI_W hS) (n := 100)
  have a4 : ∀ Q, R (d + 3) 156 0 [some (.ref 110000011), some (.int (nI 100))] [] μ Q = Q none ν2 := a4
  obtain ⟨ν5, x5, b1, b2, b3, b4⟩ := m150 (d := d) a2 (w := 5) (m := 9) (by omega) (by omega)
  obtain ⟨ν7, x7, c1, c2, c3, c4⟩ := m150 (d := d) (RM_p b2 (130 + 2 * S.1 1) x5) (w := 6) (m := 9) (by omega) (by omega)
  rw [← lnF_snx] at c2
  have hF2 := a2.1
  have hF5 := b2.1
  have hF7 := c2.1
  have rp : ∀ j, rI ν7 116018820 j = if j = 130 + 2 * S.1 1 then x5 else rI μ 116018820 j := fun j => by
    rw [c1.1 _ _ (by omega), rI_wI]
    by_cases q1 : j = 130 + 2 * S.1 1
    · rw [if_pos ⟨rfl, q1.symm⟩, if_pos q1]
    · rw [if_neg (by omega), if_neg q1, b1.1 _ _ (by omega), a1.1 _ _ (by omega)]
  have p95 : rI ν7 116018820 95 = nI (S.1 1) := by
    rw [rp, if_neg (by omega)]; exact p0
  have ro : ∀ a j, a ≠ 116018820 → ¬ ((a = 110000011 ∧ (j = 7 ∨ j = 8 ∨ j = 16)) ∨ a = 120001120) → rI ν7 a j = rI μ a j := fun a j q1 q2 => by
    rw [c1.1 _ _ (by omega), rI_wI, if_neg (by omega), b1.1 _ _ (by omega), a1.1 _ _ (by omega)]
  refine ⟨wI (wI ν7 116018820 (130 + 2 * S.1 1 + 1) x7) 116018820 95 (nI (S.1 1 + 1)), ?_, RM_p (RM_p c2 _ _) _ _, fun p q => ?_, fun Q => ?_⟩
  · exact GQ_tr (GQ_tr (GQ_tr (GQ_tr (GQ_tr (GQ_N a1) (GQ_A b1)) (GQ_p _ _ (by omega))) (GQ_A c1)) (GQ_p _ _ (by omega))) (GQ_p _ _ (by omega))
  · obtain ⟨⟨u, T2⟩, o1, o1'⟩ := bnd_ok q
    obtain ⟨T4, o3, o3'⟩ := bnd_ok o1'
    obtain ⟨⟨a, T5⟩, o4, o4'⟩ := bnd_ok o3'
    obtain ⟨T6, o5, o5'⟩ := bnd_ok o4'
    obtain ⟨⟨b, T7⟩, o6, o6'⟩ := bnd_ok o5'
    have o3 : tkW 5 T2 = .ok T4 := o3
    have o4 : tkN 9 T4 = .ok (a, T5) := o4
    have o5 : tkW 6 T5 = .ok T6 := o5
    have o6 : tkN 9 T6 = .ok (b, T7) := o6
    have hN2 := a3 u T2 o1
    have i4 : bnd (bnd (snx (tkU S.2.2.1 T.tail)) (tkW 5)) (tkN 9) = .ok (a, T5) := by
      rw [o1]
      show bnd (tkW 5 T2) (tkN 9) = _
      rw [o3]
      exact o4
    have ea : x5 = nI a := b3 a T5 i4
    have eb : x7 = nI b := c3 b T7 (by
      rw [i4]
      show bnd (tkW 6 T5) (tkN 9) = _
      rw [o5]
      exact o6)
    cases o6'
    subst ea eb
    obtain ⟨z1, z2, z3, z4, z5, z6⟩ := hZ
    refine ⟨fun x h1 h2 => ?_, ?_, ?_, ?_, ?_, ?_⟩
    · show _ = nI (adF S.1 a b x)
      unfold adF
      rw [rI_wI]
      by_cases q0 : x = 1
      · rw [if_pos ⟨rfl, by omega⟩, if_pos q0]
      · rw [if_neg (by omega), if_neg q0, rI_wI]
        by_cases q1 : x = 36 + 2 * S.1 1 + 1
        · rw [if_pos ⟨rfl, by omega⟩, if_neg (by omega), if_pos q1]
        · rw [if_neg (by omega), rp]
          by_cases q3 : x = 36 + 2 * S.1 1
          · rw [if_pos (by omega), if_pos q3]
          · rw [if_neg (by omega), if_neg q3, if_neg q1]
            exact z1 x h1 h2
    · refine MZl_o (fun k hk => ?_) (fun j => ?_) (fun j => ?_) z2
      · rw [rI_wI, if_neg (by omega), rI_wI, if_neg (by omega), rp, if_neg (by omega)]
      · rw [rI_wI, if_neg (by omega), rI_wI, if_neg (by omega), ro _ _ (by omega) (by omega)]
      · rw [rI_wI, if_neg (by omega), rI_wI, if_neg (by omega), ro _ _ (by omega) (by omega)]
    · refine NMr_o (μ := ν2) ?_ (fun j => ?_) (fun j => ?_) hN2
      · rw [rI_wI, if_neg (by omega), rI_wI, if_neg (by omega), c1.1 _ _ (by omega), rI_wI, if_neg (by omega), b1.1 _ _ (by omega)]
      · show rL ν7 119001121 j = _
        rw [c1.2.1]
        show rL ν5 119001121 j = _
        rw [b1.2.1]
      · rw [rI_wI, if_neg (by omega), rI_wI, if_neg (by omega), c1.1 _ _ (by omega), rI_wI, if_neg (by omega), b1.1 _ _ (by omega)]
    · rw [rI_wI, if_neg (by omega), rI_wI, if_neg (by omega), ro _ _ (by omega) (by omega)]; exact z4
    · rw [rI_wI, if_neg (by omega), rI_wI, if_neg (by omega), ro _ _ (by omega) (by omega)]; exact z5
    · rw [rI_wI, if_neg (by omega), rI_wI, if_neg (by omega), ro _ _ (by omega) (by omega)]; exact z6
  · simp (disch := first | assumption | omega) only [r158_0, r158_1, r158_4, r158_6, r158_7, r158_8, r158_9, r158_10, r158_13, r158_14, r158_15, r158_18, r158_19, r158_20, r158_22, r158_25, r158_26, r158_29, r158_32, r158_33, r158_34, r158_35, r158_36, r158_37, r158_38, r158_39, r158_41, r158_44, r158_45, r158_46, r158_49, r158_52, r158_53, r158_54, r158_55, r158_56, r158_57, r158_58, r158_59, r158_61, r158_62, r158_64, r158_67, r158_68, r158_69, r158_72, r158_74, r158_75, r158_76, r158_77, r158_78, r158_79, rI_wI, rL_wL, rR_wR, rI_wL, rI_wR, rL_wI, rL_wR, rR_wI, rR_wL, va_rf_some, va_rf_none, Option.toList_some, Option.toList_none, List.nil_append, List.cons_append, true_and, and_true, false_and, and_false, and_self, if_true, if_false, not_true_eq_false, not_false_eq_true, or_false, false_or, or_true, true_or, or_self, ite_true, ite_false, Option.some.injEq, reduceCtorEq, Nat.reduceMod, Nat.reduceDiv, Nat.reduceLeDiff, Nat.reduceEqDiff, Nat.reduceAdd, Nat.reduceMul, Nat.reduceSub, Nat.reduceLT, sw_nil, sw_int, sw_long, sw_ref, li, lo, nI_m1, ng_eq, nn_eq, en_eq, ng_le, ng_lt, Int32.neg_neg, nI_add, pk_mul, nI_clampO, nI_ltO, nI_leO, nI_eqO, nI_subO, nle_t, nle_f, nlt_t, nlt_f, neq_f, fx_2000010_0, fx_2000010_1, fx_2000010_4, fx_2000010_5, fx_2000010_6, fx_2000010_8, fx_2000010_10, fx_2000010_11, fx_2000010_12, fx_2000010_13, fx_2000010_14, fx_2000010_15, fx_2000010_16, fx_2000010_17, fx_2000010_18, fx_3000009_0, fx_5000007_0, fx_5000007_1, fx_5000007_2, fx_5000007_3, fx_7000001_0, fx_11000005_1, fx_11000005_2, fx_11000005_3, fx_11000005_4, fx_11000005_5, fx_11000005_6, fx_11000005_10, fx_11000005_11, fx_11000005_12, fx_20000002_0, fx_20000002_2, fx_20000002_3, fx_20000002_4, fx_25000005_1, fx_25000005_2, fx_25000005_3, fx_25000005_4, fx_25000005_5, fx_25000005_6, fx_25000005_10, fx_25000005_11, fx_25000005_12, fx_34000002_0, fx_34000002_2, fx_34000002_3, fx_34000002_4, fx_39000008_0, fx_41000006_0, fx_42002024_0, fx_42002024_1, fx_42002024_2, fx_42002024_3, fx_42002024_4, fx_42002024_5, fx_42002024_6, fx_42002024_7, fx_42002024_8, fx_42002024_9, fx_42002024_10, fx_42002024_11, fx_42002024_12, fx_42002024_13, fx_42002024_14, fx_42002024_15, fx_42002024_16, fx_42002024_17, fx_42002024_18, fx_42002024_19, fx_43000008_0, fx_45000008_0, fx_47000008_0, fx_49000008_0, fx_51000008_0, fx_53000008_0, fx_55000008_0, fx_57000008_0, fx_59000008_0, fx_61000008_0, fx_63000008_0, fx_65000008_0, fx_67000008_0, fx_69000008_0, fx_71000008_0, fx_73000008_0, fx_75000008_0, fx_77000008_0, fx_79000008_0, fx_81000008_0, fx_83000424_0, fx_83000424_1, fx_83000424_2, fx_83000424_3, fx_85000004_0, fx_85000004_1, fx_85000004_2, fx_85000004_3, fx_85000004_4, fx_85000004_5, fx_85000004_6, fx_85000004_10, fx_102000008_0, fx_104000008_0, fx_106000008_0, fx_108000008_0, fx_110000011_1, fx_110000011_4, fx_110000011_5, fx_110000011_6, fx_110000011_9, fx_110000011_10, fx_110000011_11, fx_110000011_12, fx_110000011_14, fx_110000011_15, fx_110000011_20, fx_110000011_21, fx_110000011_22, fx_110000011_23, fx_110000011_25, fx_110000011_26, fx_110000011_31, fx_110000011_32, fx_110000011_37, fx_110000011_38, fx_110000011_39, fx_110000011_40, p0, a4, b4, c4, p95]
end T1
