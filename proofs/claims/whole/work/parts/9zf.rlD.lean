/-! TWO, FALL, PICK: THE REFERENCE -/
section T1
variable {d : Nat} {μ : PM} {T : List Tok} {S : SS} {c0 : Nat} {nm : Nms}
theorem m159 (hF : FX μ) (hC : MC μ) (h : RX μ T) (hG : NG nm) (hN : NMr μ nm) (hl : nm.length ≤ 11) (hW : ∀ p, p ∈ nm → p.2 ≤ 100) : (∀ w, fdP nm T = .ok w → ∀ Q, R (d + 1) 159 0 [some (.ref 110000011), none] [] μ Q = Q (some (.int (nI w))) μ) ∧ ∀ f, fdP nm T = .error f → ∃ ν x, AQ μ ν ∧ RM ν (.error f) ∧ ∀ Q, R (d + 1) 159 0 [some (.ref 110000011), none] [] μ Q = Q (some (.int x)) ν := by
  have k51 := m151 (d := d) hF hC h
  unfold fdP
  rcases Classical.em (isNm (hdT T).2.1) with e | e
  · rw [pN_t e, if_pos rfl]
    rw [pN_t e] at k51
    have k52 := m152 (d := d) hF h e.2 hG hN hl
    obtain ⟨l1, l2⟩ := m140 (d := d) hF hC h (k := 2) (by omega) (by omega)
    cases z : fnm nm (hdT T).2.2.1 with
    | none =>
      rw [z] at k52
      have k52' : ∀ Q, R d 152 0 [some (.ref 110000011), none] [] μ Q = Q (some (.int (-nI 1))) μ := k52
      refine ⟨fun w q => (by cases q), fun f q => ?_⟩
      cases q
      refine ⟨_, -nI 1, AQ_w μ _ (Or.inr rfl), l1, fun Q => ?_⟩
      simp (disch := first | assumption | omega) only [r159_0, r159_1, r159_4, r159_7, r159_8, r159_9, r159_12, r159_13, r159_14, r159_15, r159_18, r159_19, r159_20, r159_23, r159_24, r159_26, r159_29, r159_30, r159_31, r159_34, r159_35, rI_wI, rL_wL, rR_wR, rI_wL, rI_wR, rL_wI, rL_wR, rR_wI, rR_wL, va_rf_some, va_rf_none, Option.toList_some, Option.toList_none, List.nil_append, List.cons_append, true_and, and_true, false_and, and_false, and_self, if_true, if_false, not_true_eq_false, not_false_eq_true, or_false, false_or, or_true, true_or, or_self, ite_true, ite_false, Option.some.injEq, reduceCtorEq, Nat.reduceMod, Nat.reduceDiv, Nat.reduceLeDiff, Nat.reduceEqDiff, Nat.reduceAdd, Nat.reduceMul, Nat.reduceSub, Nat.reduceLT, sw_nil, sw_int, sw_long, sw_ref, li, lo, nI_m1, ng_eq, nn_eq, en_eq, ng_le, ng_lt, Int32.neg_neg, nI_add, pk_mul, nI_clampO, nI_ltO, nI_leO, nI_eqO, nI_subO, nle_t, nle_f, nlt_t, nlt_f, neq_f, k51, k52', l2]
    | some w =>
      rw [z] at k52
      have k52' : ∀ Q, R d 152 0 [some (.ref 110000011), none] [] μ Q = Q (some (.int (nI w))) μ := k52
      have hw100 : w ≤ 100 := hW _ (fnm_mem z)
      by_cases hw : w < 7
      · simp only [if_pos hw]
        refine ⟨fun w' q Q => ?_, fun f q => (by cases q)⟩
        cases q
        simp (disch := first | assumption | omega) only [r159_0, r159_1, r159_4, r159_7, r159_8, r159_9, r159_12, r159_13, r159_14, r159_15, r159_18, r159_19, r159_20, r159_23, r159_24, r159_26, r159_29, r159_30, r159_31, r159_34, r159_35, rI_wI, rL_wL, rR_wR, rI_wL, rI_wR, rL_wI, rL_wR, rR_wI, rR_wL, va_rf_some, va_rf_none, Option.toList_some, Option.toList_none, List.nil_append, List.cons_append, true_and, and_true, false_and, and_false, and_self, if_true, if_false, not_true_eq_false, not_false_eq_true, or_false, false_or, or_true, true_or, or_self, ite_true, ite_false, Option.some.injEq, reduceCtorEq, Nat.reduceMod, Nat.reduceDiv, Nat.reduceLeDiff, Nat.reduceEqDiff, Nat.reduceAdd, Nat.reduceMul, Nat.reduceSub, Nat.reduceLT, sw_nil, sw_int, sw_long, sw_ref, li, lo, nI_m1, ng_eq, nn_eq, en_eq, ng_le, ng_lt, Int32.neg_neg, nI_add, pk_mul, nI_clampO, nI_ltO, nI_leO, nI_eqO, nI_subO, nle_t, nle_f, nlt_t, nlt_f, neq_f, k51, k52']
      · simp only [if_neg hw]
        refine ⟨fun w q => (by cases q), fun f q => ?_⟩
        cases q
        refine ⟨_, nI w, AQ_w μ _ (Or.inr rfl), l1, fun Q => ?_⟩
        simp (disch := first | assumption | omega) only [r159_0, r159_1, r159_4, r159_7, r159_8, r159_9, r159_12, r159_13, r159_14, r159_15, r159_18, r159_19, r159_20, r159_23, r159_24, r159_26, r159_29, r159_30, r159_31, r159_34, r159_35, rI_wI, rL_wL, rR_wR, rI_wL, rI_wR, rL_wI, rL_wR, rR_wI, rR_wL, va_rf_some, va_rf_none, Option.toList_some, Option.toList_none, List.nil_append, List.cons_append, true_and, and_true, false_and, and_false, and_self, if_true, if_false, not_true_eq_false, not_false_eq_true, or_false, false_or, or_true, true_or, or_self, ite_true, ite_false, Option.some.injEq, reduceCtorEq, Nat.reduceMod, Nat.reduceDiv, Nat.reduceLeDiff, Nat.reduceEqDiff, Nat.reduceAdd, Nat.reduceMul, Nat.reduceSub, Nat.reduceLT, sw_nil, sw_int, sw_long, sw_ref, li, lo, nI_m1, ng_eq, nn_eq, en_eq, ng_le, ng_lt, Int32.neg_neg, nI_add, pk_mul, nI_clampO, nI_ltO, nI_leO, nI_eqO, nI_subO, nle_t, nle_f, nlt_t, nlt_f, neq_f, k51, k52', l2]
  · rw [pN_f e, if_neg (by omega)]
    rw [pN_f e] at k51
    obtain ⟨l1, l2⟩ := m140 (d := d) hF hC h (k := 1) (by omega) (by omega)
    refine ⟨fun w q => (by cases q), fun f q => ?_⟩
    cases q
    refine ⟨_, -nI 1, AQ_w μ _ (Or.inr rfl), l1, fun Q => ?_⟩
    simp (disch := first | assumption | omega) only [r159_0, r159_1, r159_4, r159_7, r159_8, r159_9, r159_12, r159_13, r159_14, r159_15, r159_18, r159_19, r159_20, r159_23, r159_24, r159_26, r159_29, r159_30, r159_31, r159_34, r159_35, rI_wI, rL_wL, rR_wR, rI_wL, rI_wR, rL_wI, rL_wR, rR_wI, rR_wL, va_rf_some, va_rf_none, Option.toList_some, Option.toList_none, List.nil_append, List.cons_append, true_and, and_true, false_and, and_false, and_self, if_true, if_false, not_true_eq_false, not_false_eq_true, or_false, false_or, or_true, true_or, or_self, ite_true, ite_false, Option.some.injEq, reduceCtorEq, Nat.reduceMod, Nat.reduceDiv, Nat.reduceLeDiff, Nat.reduceEqDiff, Nat.reduceAdd, Nat.reduceMul, Nat.reduceSub, Nat.reduceLT, sw_nil, sw_int, sw_long, sw_ref, li, lo, nI_m1, ng_eq, nn_eq, en_eq, ng_le, ng_lt, Int32.neg_neg, nI_add, pk_mul, nI_clampO, nI_ltO, nI_leO, nI_eqO, nI_subO, nle_t, nle_f, nlt_t, nlt_f, neq_f, k51, l2]
theorem m160 (h : RM μ (.ok T)) (hZ : MZ μ S c0) (hS : SI S) {q : Nat} (hq : q = 1 ∨ q = 2) (hd : (hdT T).2.1 = q + 9) : ∃ ν, GQ μ ν ∧ RM ν (snx (ln2 S q T.tail)) ∧ (∀ p, ln2 S q T.tail = .ok p → MZ ν p.1 c0) ∧ ∀ Q, R (d + 2) 160 0 [some (.ref 110000011), none, none, none] [] μ Q = Q none ν := by
  obtain ⟨hF, hC, -, ho⟩ := h
  have hX := ho T rfl
  have hl : S.2.2.1.length ≤ 11 := by rw [hS.2.2.2.1]; have := hS.1.1.1; have := hS.1.1.2.1; omega
  have k42 : ∀ Q, R (d + 1) 142 0 [some (.ref 110000011), some (.int (nI 10))] [] μ Q = Q (some (.int (nI (2 - q)))) μ := by
    intro Q
    rw [c142 (d := d + 1) hF hC hX (w := 10) (by omega) Q]
    rcases hq with rfl | rfl
    · rw [if_pos (by omega)]
    · rw [if_neg (by omega)]
  obtain ⟨i, i1, i2, i3⟩ := RX_tl hX (by omega)
  have A1 : AQ μ (wI μ 110000011 7 (nI (i + 1))) := AQ_w μ _ (Or.inl rfl)
  have hF1 : FX (wI μ 110000011 7 (nI (i + 1))) := hF
  have hC1 := AQ_MC A1 hC
  have Z1 := MZ_A A1 hZ
  have r7 : rI (wI μ 110000011 7 (nI (i + 1))) 110000011 7 = nI (i + 1) := by rw [rI_wI, if_pos ⟨rfl, rfl⟩]
  have h8 := hX.2
  obtain ⟨b1, b2⟩ := m159 (d := d) hF1 hC1 i3 hS.2.2.1 Z1.2.2.1 hl (SI_W hS)
  have st : ∀ Q, R (d + 2) 160 0 [some (.ref 110000011), none, none, none] [] μ Q = R (d + 2) 160 25 [some (.ref 110000011), some (.int (nI q)), none, none] [] (wI μ 110000011 7 (nI (i + 1))) Q := by
    intro Q
    rcases hq with rfl | rfl <;> simp (disch := first | assumption | omega) only [r160_0, r160_1, r160_3, j160_6, r160_9, r160_10, r160_13, r160_14, r160_15, r160_16, r160_16i, r160_17, r160_20, r160_21, r160_22, r160_26, r160_29, r160_30, r160_31, r160_31i, r160_32, r160_35, r160_36, j160_39, r160_42, r160_43, r160_46, r160_47, r160_48, r160_51, r160_52, r160_55, r160_58, r160_59, r160_62, r160_63, r160_66, r160_67, r160_68, r160_71, r160_74, r160_75, r160_76, r160_79, r160_80, r160_83, r160_86, r160_88, r160_89, r160_90, r160_91, r160_92, r160_93, r160_94, r160_97, r160_98, r160_99, r160_102, r160_103, r160_106, r160_109, r160_110, r160_113, r160_116, r160_118, r160_119, r160_120, r160_121, r160_122, r160_123, r160_124, r160_125, r160_126, r160_129, r160_132, r160_134, r160_135, r160_136, r160_137, r160_138, r160_139, r160_140, r160_141, r160_142, r160_142i, r160_143, r160_146, r160_147, r160_148, r160_151, rI_wI, rL_wL, rR_wR, rI_wL, rI_wR, rL_wI, rL_wR, rR_wI, rR_wL, va_rf_some, va_rf_none, Option.toList_some, Option.toList_none, List.nil_append, List.cons_append, true_and, and_true, false_and, and_false, and_self, if_true, if_false, not_true_eq_false, not_false_eq_true, or_false, false_or, or_true, true_or, or_self, ite_true, ite_false, Option.some.injEq, reduceCtorEq, Nat.reduceMod, Nat.reduceDiv, Nat.reduceLeDiff, Nat.reduceEqDiff, Nat.reduceAdd, Nat.reduceMul, Nat.reduceSub, Nat.reduceLT, sw_nil, sw_int, sw_long, sw_ref, li, lo, nI_m1, ng_eq, nn_eq, en_eq, ng_le, ng_lt, Int32.neg_neg, nI_add, pk_mul, nI_clampO, nI_ltO, nI_leO, nI_eqO, nI_subO, nle_t, nle_f, nlt_t, nlt_f, neq_f, k42, i2]
  cases h1 : fdP S.2.2.1 T.tail with
  | error f =>
    obtain ⟨ν2, x2, k1, k2, k3⟩ := b2 f h1
    obtain ⟨y1, y2, y3⟩ := k2.2.2.1 f rfl
    rw [ln2_e1 h1]
    have A3 := AQ_w ν2 (rI ν2 110000011 7 + nI 0) (j := 7) (Or.inl rfl)
    have h8' : rI (wI ν2 110000011 7 (rI ν2 110000011 7 + nI 0)) 110000011 8 = nI f := by rw [rI_wI, if_neg (by omega)]; exact y1
    refine ⟨wI ν2 110000011 7 (rI ν2 110000011 7 + nI 0), GQ_A (AQ_tr A1 (AQ_tr k1 A3)), RM_e k2.1 (AQ_MC A3 k2.2.1) h8' y2 y3, fun p q => (by cases q), fun Q => ?_⟩
    rw [st Q]
    simp (disch := first | assumption | omega) only [r160_0, r160_1, r160_3, j160_6, r160_9, r160_10, r160_13, r160_14, r160_15, r160_16, r160_16i, r160_17, r160_20, r160_21, r160_22, r160_25, r160_26, r160_29, r160_30, r160_31, r160_31i, r160_32, r160_35, r160_36, j160_39, r160_42, r160_43, r160_46, r160_47, r160_48, r160_51, r160_52, r160_55, r160_58, r160_59, r160_62, r160_63, r160_66, r160_67, r160_68, r160_71, r160_74, r160_75, r160_76, r160_79, r160_80, r160_83, r160_86, r160_88, r160_89, r160_90, r160_91, r160_92, r160_93, r160_94, r160_97, r160_98, r160_99, r160_102, r160_103, r160_106, r160_109, r160_110, r160_113, r160_116, r160_118, r160_119, r160_120, r160_121, r160_122, r160_123, r160_124, r160_125, r160_126, r160_129, r160_132, r160_134, r160_135, r160_136, r160_137, r160_138, r160_139, r160_140, r160_141, r160_142, r160_142i, r160_143, r160_146, r160_147, r160_148, r160_151, rI_wI, rL_wL, rR_wR, rI_wL, rI_wR, rL_wI, rL_wR, rR_wI, rR_wL, va_rf_some, va_rf_none, Option.toList_some, Option.toList_none, List.nil_append, List.cons_append, true_and, and_true, false_and, and_false, and_self, if_true, if_false, not_true_eq_false, not_false_eq_true, or_false, false_or, or_true, true_or, or_self, ite_true, ite_false, Option.some.injEq, reduceCtorEq, Nat.reduceMod, Nat.reduceDiv, Nat.reduceLeDiff, Nat.reduceEqDiff, Nat.reduceAdd, Nat.reduceMul, Nat.reduceSub, Nat.reduceLT, sw_nil, sw_int, sw_long, sw_ref, li, lo, nI_m1, ng_eq, nn_eq, en_eq, ng_le, ng_lt, Int32.neg_neg, nI_add, pk_mul, nI_clampO, nI_ltO, nI_leO, nI_eqO, nI_subO, nle_t, nle_f, nlt_t, nlt_f, neq_f, k3, y1]
  | ok a =>
    have k3 := b1 a h1
    have a7 := (fdP_ok h1).2.2
    have ap := fdP_lt hS h1
    obtain ⟨i', j1, j2, j3⟩ := RX_tl i3 (by have := (fdP_ok h1).1.2; omega)
    have ei : i' = i + 1 := by
      have := j2.symm.trans r7
      rw [nI_eqO (by omega) (by omega)] at this
      exact this
    subst ei
    have A2 : AQ μ (wI (wI μ 110000011 7 (nI (i + 1))) 110000011 7 (nI (i + 1 + 1))) := AQ_tr A1 (AQ_w _ _ (Or.inl rfl))
    have hF2 : FX (wI (wI μ 110000011 7 (nI (i + 1))) 110000011 7 (nI (i + 1 + 1))) := hF
    have hC2 := AQ_MC A2 hC
    have Z2 := MZ_A A2 hZ
    obtain ⟨f1, f2⟩ := m159 (d := d) hF2 hC2 j3 hS.2.2.1 Z2.2.2.1 hl (SI_W hS)
    cases h2 : fdP S.2.2.1 T.tail.tail with
    | error f =>
      obtain ⟨ν3, x3, l1, l2, l3⟩ := f2 f h2
      obtain ⟨y1, y2, y3⟩ := l2.2.2.1 f rfl
      rw [ln2_e2 h1 h2]
      refine ⟨ν3, GQ_A (AQ_tr A2 l1), l2, fun p q => (by cases q), fun Q => ?_⟩
      rw [st Q]
      simp (disch := first | assumption | omega) only [r160_0, r160_1, r160_3, j160_6, r160_9, r160_10, r160_13, r160_14, r160_15, r160_16, r160_16i, r160_17, r160_20, r160_21, r160_22, r160_25, r160_26, r160_29, r160_30, r160_31, r160_31i, r160_32, r160_35, r160_36, j160_39, r160_42, r160_43, r160_46, r160_47, r160_48, r160_51, r160_52, r160_55, r160_58, r160_59, r160_62, r160_63, r160_66, r160_67, r160_68, r160_71, r160_74, r160_75, r160_76, r160_79, r160_80, r160_83, r160_86, r160_88, r160_89, r160_90, r160_91, r160_92, r160_93, r160_94, r160_97, r160_98, r160_99, r160_102, r160_103, r160_106, r160_109, r160_110, r160_113, r160_116, r160_118, r160_119, r160_120, r160_121, r160_122, r160_123, r160_124, r160_125, r160_126, r160_129, r160_132, r160_134, r160_135, r160_136, r160_137, r160_138, r160_139, r160_140, r160_141, r160_142, r160_142i, r160_143, r160_146, r160_147, r160_148, r160_151, rI_wI, rL_wL, rR_wR, rI_wL, rI_wR, rL_wI, rL_wR, rR_wI, rR_wL, va_rf_some, va_rf_none, Option.toList_some, Option.toList_none, List.nil_append, List.cons_append, true_and, and_true, false_and, and_false, and_self, if_true, if_false, not_true_eq_false, not_false_eq_true, or_false, false_or, or_true, true_or, or_self, ite_true, ite_false, Option.some.injEq, reduceCtorEq, Nat.reduceMod, Nat.reduceDiv, Nat.reduceLeDiff, Nat.reduceEqDiff, Nat.reduceAdd, Nat.reduceMul, Nat.reduceSub, Nat.reduceLT, sw_nil, sw_int, sw_long, sw_ref, li, lo, nI_m1, ng_eq, nn_eq, en_eq, ng_le, ng_lt, Int32.neg_neg, nI_add, pk_mul, nI_clampO, nI_ltO, nI_leO, nI_eqO, nI_subO, nle_t, nle_f, nlt_t, nlt_f, neq_f, k3, h8, l3, y1]
    | ok b =>
      have l3 := f1 b h2
      have b7 := (fdP_ok h2).2.2
      have bp := fdP_lt hS h2
      obtain ⟨m1, m2⟩ := m140 (d := d + 1) hF2 hC2 j3 (k := 3) (by omega) (by omega)
      obtain ⟨g1, g2⟩ := flT_1 (GT_h (RX_GT j3)) (k := 3) (by omega) (by omega)
      have hp : rI μ 116018820 (138 + 7 * a + b) = nI (tw S.1 a b) := by
        have := hZ.1 (44 + 7 * a + b) (by omega) (by omega)
        rw [show 94 + (44 + 7 * a + b) = 138 + 7 * a + b by omega] at this
        exact this
      have hp2 : tw S.1 a b ≤ 2 := (hS.1.2.2.2.1 a b a7 b7).1
      by_cases hab : a = b
      · rw [ln2_e3 h1 h2 (Or.inl hab)]
        subst hab
        refine ⟨_, GQ_A (AQ_tr A2 (AQ_w _ _ (Or.inr rfl))), m1, fun p q => (by cases q), fun Q => ?_⟩
        rw [st Q]
        simp (disch := first | assumption | omega) only [r160_0, r160_1, r160_3, j160_6, r160_9, r160_10, r160_13, r160_14, r160_15, r160_16, r160_16i, r160_17, r160_20, r160_21, r160_22, r160_25, r160_26, r160_29, r160_30, r160_31, r160_31i, r160_32, r160_35, r160_36, j160_39, r160_42, r160_43, r160_46, r160_47, r160_48, r160_51, r160_52, r160_55, r160_58, r160_59, r160_62, r160_63, r160_66, r160_67, r160_68, r160_71, r160_74, r160_75, r160_76, r160_79, r160_80, r160_83, r160_86, r160_88, r160_89, r160_90, r160_91, r160_92, r160_93, r160_94, r160_97, r160_98, r160_99, r160_102, r160_103, r160_106, r160_109, r160_110, r160_113, r160_116, r160_118, r160_119, r160_120, r160_121, r160_122, r160_123, r160_124, r160_125, r160_126, r160_129, r160_132, r160_134, r160_135, r160_136, r160_137, r160_138, r160_139, r160_140, r160_141, r160_142, r160_142i, r160_143, r160_146, r160_147, r160_148, r160_151, rI_wI, rL_wL, rR_wR, rI_wL, rI_wR, rL_wI, rL_wR, rR_wI, rR_wL, va_rf_some, va_rf_none, Option.toList_some, Option.toList_none, List.nil_append, List.cons_append, true_and, and_true, false_and, and_false, and_self, if_true, if_false, not_true_eq_false, not_false_eq_true, or_false, false_or, or_true, true_or, or_self, ite_true, ite_false, Option.some.injEq, reduceCtorEq, Nat.reduceMod, Nat.reduceDiv, Nat.reduceLeDiff, Nat.reduceEqDiff, Nat.reduceAdd, Nat.reduceMul, Nat.reduceSub, Nat.reduceLT, sw_nil, sw_int, sw_long, sw_ref, li, lo, nI_m1, ng_eq, nn_eq, en_eq, ng_le, ng_lt, Int32.neg_neg, nI_add, pk_mul, nI_clampO, nI_ltO, nI_leO, nI_eqO, nI_subO, nle_t, nle_f, nlt_t, nlt_f, neq_f, k3, h8, l3, m2]
      · by_cases hz : tw S.1 a b = 0
        · rw [ln2_o h1 h2 hab hz]
          rw [hz] at hp
          obtain ⟨i', u1, u2, u3⟩ := RX_tl j3 (by have := (fdP_ok h2).1.2; omega)
          have ei : i' = i + 1 + 1 := by
            rw [rI_wI, if_pos ⟨rfl, rfl⟩, nI_eqO (by omega) (by omega)] at u2
            exact u2.symm
          subst ei
          refine ⟨wI (wI (wI (wI (wI μ 110000011 7 (nI (i + 1))) 110000011 7 (nI (i + 1 + 1))) 116018820 (138 + 7 * a + b) (nI q)) 116018820 (138 + 7 * b + a) (nI q)) 110000011 7 (nI (i + 1 + 1 + 1)), GQ_tr (GQ_tr (GQ_tr (GQ_A A2) (GQ_p _ _ (by omega))) (GQ_p _ _ (by omega))) (GQ_m _ _ (by omega)), ?_, fun p e => ?_, fun Q => ?_⟩
          · have A5 : AQ (wI (wI (wI (wI μ 110000011 7 (nI (i + 1))) 110000011 7 (nI (i + 1 + 1))) 116018820 (138 + 7 * a + b) (nI q)) 116018820 (138 + 7 * b + a) (nI q)) (wI (wI (wI (wI (wI μ 110000011 7 (nI (i + 1))) 110000011 7 (nI (i + 1 + 1))) 116018820 (138 + 7 * a + b) (nI q)) 116018820 (138 + 7 * b + a) (nI q)) 110000011 7 (nI (i + 1 + 1 + 1))) := AQ_w _ _ (Or.inl rfl)
            have r4 := RM_p (RM_p (RM_o hF2 hC2 j3) (138 + 7 * a + b) (nI q)) (138 + 7 * b + a) (nI q)
            refine RM_o hF (AQ_MC A5 r4.2.1) (RX_o u3 ?_ ?_ (fun j => ⟨?_, ?_, rfl⟩))
            · rw [rI_wI, if_pos ⟨rfl, rfl⟩, rI_wI, if_pos ⟨rfl, rfl⟩]
            · repeat rw [rI_wI, if_neg (by omega)]
            · repeat rw [rI_wI, if_neg (by omega)]
            · repeat rw [rI_wI, if_neg (by omega)]
          · cases e
            obtain ⟨z1, z2, z3, z4, z5, z6⟩ := Z2
            have ro : ∀ x j, x ≠ 116018820 → ¬ (x = 110000011 ∧ j = 7) → rI (wI (wI (wI (wI (wI μ 110000011 7 (nI (i + 1))) 110000011 7 (nI (i + 1 + 1))) 116018820 (138 + 7 * a + b) (nI q)) 116018820 (138 + 7 * b + a) (nI q)) 110000011 7 (nI (i + 1 + 1 + 1))) x j = rI (wI (wI μ 110000011 7 (nI (i + 1))) 110000011 7 (nI (i + 1 + 1))) x j := fun x j q1 q2 => by
              rw [rI_wI, if_neg (by omega), rI_wI, if_neg (by omega), rI_wI, if_neg (by omega)]
            have rp : ∀ j, rI (wI (wI (wI (wI (wI μ 110000011 7 (nI (i + 1))) 110000011 7 (nI (i + 1 + 1))) 116018820 (138 + 7 * a + b) (nI q)) 116018820 (138 + 7 * b + a) (nI q)) 110000011 7 (nI (i + 1 + 1 + 1))) 116018820 j = if j = 138 + 7 * a + b ∨ j = 138 + 7 * b + a then nI q else rI (wI (wI μ 110000011 7 (nI (i + 1))) 110000011 7 (nI (i + 1 + 1))) 116018820 j := fun j => by
              rw [rI_wI, if_neg (by omega), rI_wI]
              by_cases q1 : j = 138 + 7 * b + a
              · rw [if_pos ⟨rfl, q1.symm⟩, if_pos (Or.inr q1)]
              · rw [if_neg (by omega), rI_wI]
                by_cases q2 : j = 138 + 7 * a + b
                · rw [if_pos ⟨rfl, q2.symm⟩, if_pos (Or.inl q2)]
                · rw [if_neg (by omega), if_neg (by omega)]
            refine ⟨fun x q1 q2 => ?_, MZl_o (fun k hk => ?_) (fun j => ro _ _ (by omega) (by omega)) (fun j => ro _ _ (by omega) (by omega)) z2, NMr_o (ro _ _ (by omega) (by omega)) (fun _ => rfl) (fun j => ro _ _ (by omega) (by omega)) z3, (ro _ _ (by omega) (by omega)).trans z4, (ro _ _ (by omega) (by omega)).trans z5, (ro _ _ (by omega) (by omega)).trans z6⟩
            · show _ = nI (adT S.1 a b q x)
              unfold adT
              rw [rp]
              by_cases w : x = 44 + 7 * a + b ∨ x = 44 + 7 * b + a
              · rw [if_pos (by omega), if_pos w]
              · rw [if_neg (by omega), if_neg w]
                exact z1 x q1 q2
            · rw [rp, if_neg (by omega)]
          · rw [st Q]
            simp (disch := first | assumption | omega) only [r160_0, r160_1, r160_3, j160_6, r160_9, r160_10, r160_13, r160_14, r160_15, r160_16, r160_16i, r160_17, r160_20, r160_21, r160_22, r160_25, r160_26, r160_29, r160_30, r160_31, r160_31i, r160_32, r160_35, r160_36, j160_39, r160_42, r160_43, r160_46, r160_47, r160_48, r160_51, r160_52, r160_55, r160_58, r160_59, r160_62, r160_63, r160_66, r160_67, r160_68, r160_71, r160_74, r160_75, r160_76, r160_79, r160_80, r160_83, r160_86, r160_88, r160_89, r160_90, r160_91, r160_92, r160_93, r160_94, r160_97, r160_98, r160_99, r160_102, r160_103, r160_106, r160_109, r160_110, r160_113, r160_116, r160_118, r160_119, r160_120, r160_121, r160_122, r160_123, r160_124, r160_125, r160_126, r160_129, r160_132, r160_134, r160_135, r160_136, r160_137, r160_138, r160_139, r160_140, r160_141, r160_142, r160_142i, r160_143, r160_146, r160_147, r160_148, r160_151, rI_wI, rL_wL, rR_wR, rI_wL, rI_wR, rL_wI, rL_wR, rR_wI, rR_wL, va_rf_some, va_rf_none, Option.toList_some, Option.toList_none, List.nil_append, List.cons_append, true_and, and_true, false_and, and_false, and_self, if_true, if_false, not_true_eq_false, not_false_eq_true, or_false, false_or, or_true, true_or, or_self, ite_true, ite_false, Option.some.injEq, reduceCtorEq, Nat.reduceMod, Nat.reduceDiv, Nat.reduceLeDiff, Nat.reduceEqDiff, Nat.reduceAdd, Nat.reduceMul, Nat.reduceSub, Nat.reduceLT, sw_nil, sw_int, sw_long, sw_ref, li, lo, nI_m1, ng_eq, nn_eq, en_eq, ng_le, ng_lt, Int32.neg_neg, nI_add, pk_mul, nI_clampO, nI_ltO, nI_leO, nI_eqO, nI_subO, nle_t, nle_f, nlt_t, nlt_f, neq_f, fx_2000010_0, fx_2000010_1, fx_2000010_4, fx_2000010_5, fx_2000010_6, fx_2000010_8, fx_2000010_10, fx_2000010_11, fx_2000010_12, fx_2000010_13, fx_2000010_14, fx_2000010_15, fx_2000010_16, fx_2000010_17, fx_2000010_18, fx_3000009_0, fx_5000007_0, fx_5000007_1, fx_5000007_2, fx_5000007_3, fx_7000001_0, fx_11000005_1, fx_11000005_2, fx_11000005_3, fx_11000005_4, fx_11000005_5, fx_11000005_6, fx_11000005_10, fx_11000005_11, fx_11000005_12, fx_20000002_0, fx_20000002_2, fx_20000002_3, fx_20000002_4, fx_25000005_1, fx_25000005_2, fx_25000005_3, fx_25000005_4, fx_25000005_5, fx_25000005_6, fx_25000005_10, fx_25000005_11, fx_25000005_12, fx_34000002_0, fx_34000002_2, fx_34000002_3, fx_34000002_4, fx_39000008_0, fx_41000006_0, fx_42002024_0, fx_42002024_1, fx_42002024_2, fx_42002024_3, fx_42002024_4, fx_42002024_5, fx_42002024_6, fx_42002024_7, fx_42002024_8, fx_42002024_9, fx_42002024_10, fx_42002024_11, fx_42002024_12, fx_42002024_13, fx_42002024_14, fx_42002024_15, fx_42002024_16, fx_42002024_17, fx_42002024_18, fx_42002024_19, fx_43000008_0, fx_45000008_0, fx_47000008_0, fx_49000008_0, fx_51000008_0, fx_53000008_0, fx_55000008_0, fx_57000008_0, fx_59000008_0, fx_61000008_0, fx_63000008_0, fx_65000008_0, fx_67000008_0, fx_69000008_0, fx_71000008_0, fx_73000008_0, fx_75000008_0, fx_77000008_0, fx_79000008_0, fx_81000008_0, fx_83000424_0, fx_83000424_1, fx_83000424_2, fx_83000424_3, fx_85000004_0, fx_85000004_1, fx_85000004_2, fx_85000004_3, fx_85000004_4, fx_85000004_5, fx_85000004_6, fx_85000004_10, fx_102000008_0, fx_104000008_0, fx_106000008_0, fx_108000008_0, fx_110000011_1, fx_110000011_4, fx_110000011_5, fx_110000011_6, fx_110000011_9, fx_110000011_10, fx_110000011_11, fx_110000011_12, fx_110000011_14, fx_110000011_15, fx_110000011_20, fx_110000011_21, fx_110000011_22, fx_110000011_23, fx_110000011_25, fx_110000011_26, fx_110000011_31, fx_110000011_32, fx_110000011_37, fx_110000011_38, fx_110000011_39, fx_110000011_40, k3, h8, l3, hp]
        · rw [ln2_e3 h1 h2 (Or.inr hz)]
          refine ⟨_, GQ_A (AQ_tr A2 (AQ_w _ _ (Or.inr rfl))), m1, fun p q => (by cases q), fun Q => ?_⟩
          rw [st Q]
          simp (disch := first | assumption | omega) only [r160_0, r160_1, r160_3, j160_6, r160_9, r160_10, r160_13, r160_14, r160_15, r160_16, r160_16i, r160_17, r160_20, r160_21, r160_22, r160_25, r160_26, r160_29, r160_30, r160_31, r160_31i, r160_32, r160_35, r160_36, j160_39, r160_42, r160_43, r160_46, r160_47, r160_48, r160_51, r160_52, r160_55, r160_58, r160_59, r160_62, r160_63, r160_66, r160_67, r160_68, r160_71, r160_74, r160_75, r160_76, r160_79, r160_80, r160_83, r160_86, r160_88, r160_89, r160_90, r160_91, r160_92, r160_93, r160_94, r160_97, r160_98, r160_99, r160_102, r160_103, r160_106, r160_109, r160_110, r160_113, r160_116, r160_118, r160_119, r160_120, r160_121, r160_122, r160_123, r160_124, r160_125, r160_126, r160_129, r160_132, r160_134, r160_135, r160_136, r160_137, r160_138, r160_139, r160_140, r160_141, r160_142, r160_142i, r160_143, r160_146, r160_147, r160_148, r160_151, rI_wI, rL_wL, rR_wR, rI_wL, rI_wR, rL_wI, rL_wR, rR_wI, rR_wL, va_rf_some, va_rf_none, Option.toList_some, Option.toList_none, List.nil_append, List.cons_append, true_and, and_true, false_and, and_false, and_self, if_true, if_false, not_true_eq_false, not_false_eq_true, or_false, false_or, or_true, true_or, or_self, ite_true, ite_false, Option.some.injEq, reduceCtorEq, Nat.reduceMod, Nat.reduceDiv, Nat.reduceLeDiff, Nat.reduceEqDiff, Nat.reduceAdd, Nat.reduceMul, Nat.reduceSub, Nat.reduceLT, sw_nil, sw_int, sw_long, sw_ref, li, lo, nI_m1, ng_eq, nn_eq, en_eq, ng_le, ng_lt, Int32.neg_neg, nI_add, pk_mul, nI_clampO, nI_ltO, nI_leO, nI_eqO, nI_subO, nle_t, nle_f, nlt_t, nlt_f, neq_f, fx_2000010_0, fx_2000010_1, fx_2000010_4, fx_2000010_5, fx_2000010_6, fx_2000010_8, fx_2000010_10, fx_2000010_11, fx_2000010_12, fx_2000010_13, fx_2000010_14, fx_2000010_15, fx_2000010_16, fx_2000010_17, fx_2000010_18, fx_3000009_0, fx_5000007_0, fx_5000007_1, fx_5000007_2, fx_5000007_3, fx_7000001_0, fx_11000005_1, fx_11000005_2, fx_11000005_3, fx_11000005_4, fx_11000005_5, fx_11000005_6, fx_11000005_10, fx_11000005_11, fx_11000005_12, fx_20000002_0, fx_20000002_2, fx_20000002_3, fx_20000002_4, fx_25000005_1, fx_25000005_2, fx_25000005_3, fx_25000005_4, fx_25000005_5, fx_25000005_6, fx_25000005_10, fx_25000005_11, fx_25000005_12, fx_34000002_0, fx_34000002_2, fx_34000002_3, fx_34000002_4, fx_39000008_0, fx_41000006_0, fx_42002024_0, fx_42002024_1, fx_42002024_2, fx_42002024_3, fx_42002024_4, fx_42002024_5, fx_42002024_6, fx_42002024_7, fx_42002024_8, fx_42002024_9, fx_42002024_10, fx_42002024_11, fx_42002024_12, fx_42002024_13, fx_42002024_14, fx_42002024_15, fx_42002024_16, fx_42002024_17, fx_42002024_18, fx_42002024_19, fx_43000008_0, fx_45000008_0, fx_47000008_0, fx_49000008_0, fx_51000008_0, fx_53000008_0, fx_55000008_0, fx_57000008_0, fx_59000008_0, fx_61000008_0, fx_63000008_0, fx_65000008_0, fx_67000008_0, fx_69000008_0, fx_71000008_0, fx_73000008_0, fx_75000008_0, fx_77000008_0, fx_79000008_0, fx_81000008_0, fx_83000424_0, fx_83000424_1, fx_83000424_2, fx_83000424_3, fx_85000004_0, fx_85000004_1, fx_85000004_2, fx_85000004_3, fx_85000004_4, fx_85000004_5, fx_85000004_6, fx_85000004_10, fx_102000008_0, fx_104000008_0, fx_106000008_0, fx_108000008_0, fx_110000011_1, fx_110000011_4, fx_110000011_5, fx_110000011_6, fx_110000011_9, fx_110000011_10, fx_110000011_11, fx_110000011_12, fx_110000011_14, fx_110000011_15, fx_110000011_20, fx_110000011_21, fx_110000011_22, fx_110000011_23, fx_110000011_25, fx_110000011_26, fx_110000011_31, fx_110000011_32, fx_110000011_37, fx_110000011_38, fx_110000011_39, fx_110000011_40, k3, h8, l3, hp, m2]
theorem RM_m {r : Except Nat (List Tok)} (h : RM μ r) {j : Nat} (hj : j ≠ 7 ∧ j ≠ 8) (x : Int32) : RM (wI μ 110000011 j x) r := by
  obtain ⟨h1, h2, h3, h4⟩ := h
  refine ⟨h1, ⟨h2.1, fun k hk => by rw [rI_wI, if_neg (by omega)]; exact h2.2 k hk⟩, fun f e => by rw [rI_wI, if_neg (by omega)]; exact h3 f e, fun T e => RX_o (h4 T e) (by rw [rI_wI, if_neg (by omega)]) (by rw [rI_wI, if_neg (by omega)]) (fun j => ⟨by rw [rI_wI, if_neg (by omega)], by rw [rI_wI, if_neg (by omega)], rfl⟩)⟩
theorem m161f (h : RM μ (.ok T)) (hZ : MZ μ S c0) (hb : bt S.2.2.2 12 = 1) : RM (wI μ 110000011 8 (nI (flT 3 T))) (.error (flT 3 T)) ∧ ∀ Q, R (d + 1) 161 0 [some (.ref 110000011)] [] μ Q = Q none (wI μ 110000011 8 (nI (flT 3 T))) := by
  obtain ⟨hF, hC, -, ho⟩ := h
  obtain ⟨l1, l2⟩ := m140 (d := d) hF hC (ho T rfl) (k := 3) (by omega) (by omega)
  have p := hZ.2.2.2.2.1
  rw [hb] at p
  refine ⟨l1, fun Q => ?_⟩
  simp (disch := first | assumption | omega) only [r161_0, r161_1, r161_4, r161_7, r161_8, r161_9, r161_12, r161_13, r161_14, r161_15, r161_18, r161_19, r161_19i, r161_20, r161_23, r161_24, r161_25, r161_28, r161_29, r161_31, r161_34, r161_37, r161_38, r161_40, r161_43, r161_46, r161_47, r161_48, r161_51, r161_52, r161_53, r161_56, r161_58, r161_59, r161_61, j161_64, r161_67, r161_68, r161_71, r161_72, r161_73, r161_74, r161_74i, r161_75, r161_78, r161_79, r161_80, r161_83, rI_wI, rL_wL, rR_wR, rI_wL, rI_wR, rL_wI, rL_wR, rR_wI, rR_wL, va_rf_some, va_rf_none, Option.toList_some, Option.toList_none, List.nil_append, List.cons_append, true_and, and_true, false_and, and_false, and_self, if_true, if_false, not_true_eq_false, not_false_eq_true, or_false, false_or, or_true, true_or, or_self, ite_true, ite_false, Option.some.injEq, reduceCtorEq, Nat.reduceMod, Nat.reduceDiv, Nat.reduceLeDiff, Nat.reduceEqDiff, Nat.reduceAdd, Nat.reduceMul, Nat.reduceSub, Nat.reduceLT, sw_nil, sw_int, sw_long, sw_ref, li, lo, nI_m1, ng_eq, nn_eq, en_eq, ng_le, ng_lt, Int32.neg_neg, nI_add, pk_mul, nI_clampO, nI_ltO, nI_leO, nI_eqO, nI_subO, nle_t, nle_f, nlt_t, nlt_f, neq_f, p, l2]
theorem m162f (h : RM μ (.ok T)) (hZ : MZ μ S c0) (hb : bt S.2.2.2 15 = 1) : RM (wI μ 110000011 8 (nI (flT 3 T))) (.error (flT 3 T)) ∧ ∀ Q, R (d + 1) 162 0 [some (.ref 110000011)] [] μ Q = Q none (wI μ 110000011 8 (nI (flT 3 T))) := by
  obtain ⟨hF, hC, -, ho⟩ := h
  obtain ⟨l1, l2⟩ := m140 (d := d) hF hC (ho T rfl) (k := 3) (by omega) (by omega)
  have p := hZ.2.2.2.1
  rw [hb] at p
  refine ⟨l1, fun Q => ?_⟩
  simp (disch := first | assumption | omega) only [r162_0, r162_1, r162_4, r162_7, r162_8, r162_9, r162_12, r162_13, r162_14, r162_15, r162_18, r162_19, r162_19i, r162_20, r162_23, r162_24, r162_25, r162_28, r162_29, r162_32, r162_34, r162_35, r162_36, r162_38, r162_41, r162_42, rI_wI, rL_wL, rR_wR, rI_wL, rI_wR, rL_wI, rL_wR, rR_wI, rR_wL, va_rf_some, va_rf_none, Option.toList_some, Option.toList_none, List.nil_append, List.cons_append, true_and, and_true, false_and, and_false, and_self, if_true, if_false, not_true_eq_false, not_false_eq_true, or_false, false_or, or_true, true_or, or_self, ite_true, ite_false, Option.some.injEq, reduceCtorEq, Nat.reduceMod, Nat.reduceDiv, Nat.reduceLeDiff, Nat.reduceEqDiff, Nat.reduceAdd, Nat.reduceMul, Nat.reduceSub, Nat.reduceLT, sw_nil, sw_int, sw_long, sw_ref, li, lo, nI_m1, ng_eq, nn_eq, en_eq, ng_le, ng_lt, Int32.neg_neg, nI_add, pk_mul, nI_clampO, nI_ltO, nI_leO, nI_eqO, nI_subO, nle_t, nle_f, nlt_t, nlt_f, neq_f, p, l2]
theorem MZ_u {ν : PM} {k v t : Nat} (hk : 2 ≤ k ∧ k ≤ 4) (hZ : MZ μ S c0) (hp : ∀ j, rI ν 116018820 j = if j = 94 + k then nI v else rI μ 116018820 j) (ho : ∀ a j, a ≠ 116018820 → ¬ (a = 110000011 ∧ (j = 7 ∨ j = 8 ∨ j = 17 ∨ j = 18)) → rI ν a j = rI μ a j) (hl : ∀ a j, rL ν a j = rL μ a j) (h17 : rI ν 110000011 17 = nI (bt (S.2.2.2 ||| 2 ^ t) 15)) (h18 : rI ν 110000011 18 = nI (bt (S.2.2.2 ||| 2 ^ t) 12)) : MZ ν (up S.1 k v, S.2.1, S.2.2.1, S.2.2.2 ||| 2 ^ t) c0 := by
  obtain ⟨z1, z2, z3, z4, z5, z6⟩ := hZ
  refine ⟨fun x q1 q2 => ?_, MZl_o (fun k hk => ?_) (fun j => ho _ _ (by omega) (by omega)) (fun j => ho _ _ (by omega) (by omega)) z2, NMr_o (ho _ _ (by omega) (by omega)) (fun _ => hl _ _) (fun j => ho _ _ (by omega) (by omega)) z3, h17, h18, (ho _ _ (by omega) (by omega)).trans z6⟩
  · show _ = nI (up S.1 k v x)
    unfold up
    rw [hp]
    by_cases w : x = k
    · rw [if_pos (by omega), if_pos w]
    · rw [if_neg (by omega), if_neg w]
      exact z1 x q1 q2
  · rw [hp, if_neg (by omega)]
theorem m161 (h : RM μ (.ok T)) (hZ : MZ μ S c0) (hS : SI S) (hb : bt S.2.2.2 12 = 0) (hd : (hdT T).2.1 ≠ 30) : ∃ ν, GQ μ ν ∧ RM ν (snx (ln1 (S.1, S.2.1, S.2.2.1, S.2.2.2 ||| 2 ^ 12) 12 T.tail)) ∧ (∀ p, ln1 (S.1, S.2.1, S.2.2.1, S.2.2.2 ||| 2 ^ 12) 12 T.tail = .ok p → MZ ν p.1 c0) ∧ ∀ Q, R (d + 1) 161 0 [some (.ref 110000011)] [] μ Q = Q none ν := by
  obtain ⟨hF, hC, -, ho⟩ := h
  have hX := ho T rfl
  obtain ⟨i, i1, i2, i3⟩ := RX_tl hX hd
  have p18 := hZ.2.2.2.2.1
  rw [hb] at p18
  have p17 := hZ.2.2.2.1
  have A1 : AQ μ (wI μ 110000011 7 (nI (i + 1))) := AQ_w μ _ (Or.inl rfl)
  obtain ⟨hF2, hC2, -, ho2⟩ : RM (wI (wI μ 110000011 18 (nI 1)) 110000011 7 (nI (i + 1))) (.ok T.tail) := by
    have r1 := RM_m (RM_o (AQ_FX A1 hF) (AQ_MC A1 hC) i3) (j := 18) (by omega) (nI 1)
    refine ⟨hF, ⟨hC.1, fun k hk => by rw [rI_wI, if_neg (by omega), rI_wI, if_neg (by omega)]; exact hC.2 k hk⟩, fun f e => (by cases e), fun T' e => ?_⟩
    refine RX_o (r1.2.2.2 T' e) ?_ ?_ (fun j => ⟨?_, ?_, rfl⟩)
    · rw [rI_wI, if_pos ⟨rfl, rfl⟩, rI_wI, if_neg (by omega), rI_wI, if_pos ⟨rfl, rfl⟩]
    · rw [rI_wI, if_neg (by omega), rI_wI, if_neg (by omega), rI_wI, if_neg (by omega), rI_wI, if_neg (by omega)]
    · rw [rI_wI, if_neg (by omega), rI_wI, if_neg (by omega), rI_wI, if_neg (by omega), rI_wI, if_neg (by omega)]
    · rw [rI_wI, if_neg (by omega), rI_wI, if_neg (by omega), rI_wI, if_neg (by omega), rI_wI, if_neg (by omega)]
  have hX2 := ho2 T.tail rfl
  have k13 := c142 (d := d) hF2 hC2 hX2 (w := 13) (by omega)
  have k14 := c142 (d := d) hF2 hC2 hX2 (w := 14) (by omega)
  have G2 : GQ μ (wI (wI μ 110000011 18 (nI 1)) 110000011 7 (nI (i + 1))) := GQ_tr (GQ_m μ _ (by omega)) (GQ_m _ _ (by omega))
  have done : ∀ v, v ≤ 1 → (hdT T.tail).2.1 = 14 - v → ∃ ν, GQ μ ν ∧ RM ν (.ok T.tail.tail) ∧ MZ ν (up S.1 3 v, S.2.1, S.2.2.1, S.2.2.2 ||| 2 ^ 12) c0 ∧ ν = wI (wI (wI (wI μ 110000011 18 (nI 1)) 110000011 7 (nI (i + 1))) 116018820 97 (nI v)) 110000011 7 (nI (i + 1 + 1)) := by
    intro v hv hd2
    obtain ⟨i', u1, u2, u3⟩ := RX_tl hX2 (by omega)
    have ei : i' = i + 1 := by
      rw [rI_wI, if_pos ⟨rfl, rfl⟩, nI_eqO (by omega) (by omega)] at u2
      exact u2.symm
    subst ei
    refine ⟨_, GQ_tr (GQ_tr G2 (GQ_p _ _ (by omega))) (GQ_m _ _ (by omega)), ?_, ?_, rfl⟩
    · have A5 : AQ (wI (wI (wI μ 110000011 18 (nI 1)) 110000011 7 (nI (i + 1))) 116018820 97 (nI v)) (wI (wI (wI (wI μ 110000011 18 (nI 1)) 110000011 7 (nI (i + 1))) 116018820 97 (nI v)) 110000011 7 (nI (i + 1 + 1))) := AQ_w _ _ (Or.inl rfl)
      have r4 := RM_p (RM_o hF2 hC2 hX2) 97 (nI v)
      refine RM_o hF (AQ_MC A5 r4.2.1) (RX_o u3 ?_ ?_ (fun j => ⟨?_, ?_, rfl⟩))
      · rw [rI_wI, if_pos ⟨rfl, rfl⟩, rI_wI, if_pos ⟨rfl, rfl⟩]
      · rw [rI_wI, if_neg (by omega), rI_wI, if_neg (by omega), rI_wI (x := nI (i + 1 + 1)), if_neg (by omega)]
      · rw [rI_wI, if_neg (by omega), rI_wI, if_neg (by omega), rI_wI (x := nI (i + 1 + 1)), if_neg (by omega)]
      · rw [rI_wI, if_neg (by omega), rI_wI, if_neg (by omega), rI_wI (x := nI (i + 1 + 1)), if_neg (by omega)]
    · refine MZ_u (by omega) hZ (fun j => ?_) (fun a j q1 q2 => ?_) (fun _ _ => rfl) ?_ ?_
      · rw [rI_wI, if_neg (by omega), rI_wI]
        by_cases w : j = 94 + 3
        · rw [if_pos ⟨rfl, by omega⟩, if_pos w]
        · rw [if_neg (by omega), if_neg w, rI_wI, if_neg (by omega), rI_wI, if_neg (by omega)]
      · rw [rI_wI, if_neg (by omega), rI_wI, if_neg (by omega), rI_wI, if_neg (by omega), rI_wI, if_neg (by omega)]
      · rw [bt_or, if_neg (by omega), rI_wI, if_neg (by omega), rI_wI, if_neg (by omega), rI_wI, if_neg (by omega), rI_wI, if_neg (by omega)]
        exact p17
      · rw [bt_or, if_pos rfl, rI_wI, if_neg (by omega), rI_wI, if_neg (by omega), rI_wI, if_neg (by omega), rI_wI, if_pos ⟨rfl, rfl⟩]
  rw [ln1_12]
  unfold ln12
  by_cases e13 : (hdT T.tail).2.1 = 13
  · rw [if_pos e13]
    rw [if_pos e13] at k13
    obtain ⟨ν, g1, g2, g3, g4⟩ := done 1 (by omega) (by omega)
    refine ⟨ν, g1, g2, fun p q => by cases q; exact g3, fun Q => ?_⟩
    rw [g4]
    simp (disch := first | assumption | omega) only [r161_0, r161_1, r161_4, r161_7, r161_8, r161_9, r161_12, r161_13, r161_14, r161_15, r161_18, r161_19, r161_19i, r161_20, r161_23, r161_24, r161_25, r161_28, r161_29, r161_31, r161_34, r161_37, r161_38, r161_40, r161_43, r161_46, r161_47, r161_48, r161_51, r161_52, r161_53, r161_56, r161_58, r161_59, r161_61, j161_64, r161_67, r161_68, r161_71, r161_72, r161_73, r161_74, r161_74i, r161_75, r161_78, r161_79, r161_80, r161_83, rI_wI, rL_wL, rR_wR, rI_wL, rI_wR, rL_wI, rL_wR, rR_wI, rR_wL, va_rf_some, va_rf_none, Option.toList_some, Option.toList_none, List.nil_append, List.cons_append, true_and, and_true, false_and, and_false, and_self, if_true, if_false, not_true_eq_false, not_false_eq_true, or_false, false_or, or_true, true_or, or_self, ite_true, ite_false, Option.some.injEq, reduceCtorEq, Nat.reduceMod, Nat.reduceDiv, Nat.reduceLeDiff, Nat.reduceEqDiff, Nat.reduceAdd, Nat.reduceMul, Nat.reduceSub, Nat.reduceLT, sw_nil, sw_int, sw_long, sw_ref, li, lo, nI_m1, ng_eq, nn_eq, en_eq, ng_le, ng_lt, Int32.neg_neg, nI_add, pk_mul, nI_clampO, nI_ltO, nI_leO, nI_eqO, nI_subO, nle_t, nle_f, nlt_t, nlt_f, neq_f, fx_2000010_0, fx_2000010_1, fx_2000010_4, fx_2000010_5, fx_2000010_6, fx_2000010_8, fx_2000010_10, fx_2000010_11, fx_2000010_12, fx_2000010_13, fx_2000010_14, fx_2000010_15, fx_2000010_16, fx_2000010_17, fx_2000010_18, fx_3000009_0, fx_5000007_0, fx_5000007_1, fx_5000007_2, fx_5000007_3, fx_7000001_0, fx_11000005_1, fx_11000005_2, fx_11000005_3, fx_11000005_4, fx_11000005_5, fx_11000005_6, fx_11000005_10, fx_11000005_11, fx_11000005_12, fx_20000002_0, fx_20000002_2, fx_20000002_3, fx_20000002_4, fx_25000005_1, fx_25000005_2, fx_25000005_3, fx_25000005_4, fx_25000005_5, fx_25000005_6, fx_25000005_10, fx_25000005_11, fx_25000005_12, fx_34000002_0, fx_34000002_2, fx_34000002_3, fx_34000002_4, fx_39000008_0, fx_41000006_0, fx_42002024_0, fx_42002024_1, fx_42002024_2, fx_42002024_3, fx_42002024_4, fx_42002024_5, fx_42002024_6, fx_42002024_7, fx_42002024_8, fx_42002024_9, fx_42002024_10, fx_42002024_11, fx_42002024_12, fx_42002024_13, fx_42002024_14, fx_42002024_15, fx_42002024_16, fx_42002024_17, fx_42002024_18, fx_42002024_19, fx_43000008_0, fx_45000008_0, fx_47000008_0, fx_49000008_0, fx_51000008_0, fx_53000008_0, fx_55000008_0, fx_57000008_0, fx_59000008_0, fx_61000008_0, fx_63000008_0, fx_65000008_0, fx_67000008_0, fx_69000008_0, fx_71000008_0, fx_73000008_0, fx_75000008_0, fx_77000008_0, fx_79000008_0, fx_81000008_0, fx_83000424_0, fx_83000424_1, fx_83000424_2, fx_83000424_3, fx_85000004_0, fx_85000004_1, fx_85000004_2, fx_85000004_3, fx_85000004_4, fx_85000004_5, fx_85000004_6, fx_85000004_10, fx_102000008_0, fx_104000008_0, fx_106000008_0, fx_108000008_0, fx_110000011_1, fx_110000011_4, fx_110000011_5, fx_110000011_6, fx_110000011_9, fx_110000011_10, fx_110000011_11, fx_110000011_12, fx_110000011_14, fx_110000011_15, fx_110000011_20, fx_110000011_21, fx_110000011_22, fx_110000011_23, fx_110000011_25, fx_110000011_26, fx_110000011_31, fx_110000011_32, fx_110000011_37, fx_110000011_38, fx_110000011_39, fx_110000011_40, p18, vnb1, i2, k13]
  · rw [if_neg e13]
    rw [if_neg e13] at k13
    by_cases e14 : (hdT T.tail).2.1 = 14
    · rw [if_pos e14]
      rw [if_pos e14] at k14
      obtain ⟨ν, g1, g2, g3, g4⟩ := done 0 (by omega) (by omega)
      refine ⟨ν, g1, g2, fun p q => by cases q; exact g3, fun Q => ?_⟩
      rw [g4]
      simp (disch := first | assumption | omega) only [r161_0, r161_1, r161_4, r161_7, r161_8, r161_9, r161_12, r161_13, r161_14, r161_15, r161_18, r161_19, r161_19i, r161_20, r161_23, r161_24, r161_25, r161_28, r161_29, r161_31, r161_34, r161_37, r161_38, r161_40, r161_43, r161_46, r161_47, r161_48, r161_51, r161_52, r161_53, r161_56, r161_58, r161_59, r161_61, j161_64, r161_67, r161_68, r161_71, r161_72, r161_73, r161_74, r161_74i, r161_75, r161_78, r161_79, r161_80, r161_83, rI_wI, rL_wL, rR_wR, rI_wL, rI_wR, rL_wI, rL_wR, rR_wI, rR_wL, va_rf_some, va_rf_none, Option.toList_some, Option.toList_none, List.nil_append, List.cons_append, true_and, and_true, false_and, and_false, and_self, if_true, if_false, not_true_eq_false, not_false_eq_true, or_false, false_or, or_true, true_or, or_self, ite_true, ite_false, Option.some.injEq, reduceCtorEq, Nat.reduceMod, Nat.reduceDiv, Nat.reduceLeDiff, Nat.reduceEqDiff, Nat.reduceAdd, Nat.reduceMul, Nat.reduceSub, Nat.reduceLT, sw_nil, sw_int, sw_long, sw_ref, li, lo, nI_m1, ng_eq, nn_eq, en_eq, ng_le, ng_lt, Int32.neg_neg, nI_add, pk_mul, nI_clampO, nI_ltO, nI_leO, nI_eqO, nI_subO, nle_t, nle_f, nlt_t, nlt_f, neq_f, fx_2000010_0, fx_2000010_1, fx_2000010_4, fx_2000010_5, fx_2000010_6, fx_2000010_8, fx_2000010_10, fx_2000010_11, fx_2000010_12, fx_2000010_13, fx_2000010_14, fx_2000010_15, fx_2000010_16, fx_2000010_17, fx_2000010_18, fx_3000009_0, fx_5000007_0, fx_5000007_1, fx_5000007_2, fx_5000007_3, fx_7000001_0, fx_11000005_1, fx_11000005_2, fx_11000005_3, fx_11000005_4, fx_11000005_5, fx_11000005_6, fx_11000005_10, fx_11000005_11, fx_11000005_12, fx_20000002_0, fx_20000002_2, fx_20000002_3, fx_20000002_4, fx_25000005_1, fx_25000005_2, fx_25000005_3, fx_25000005_4, fx_25000005_5, fx_25000005_6, fx_25000005_10, fx_25000005_11, fx_25000005_12, fx_34000002_0, fx_34000002_2, fx_34000002_3, fx_34000002_4, fx_39000008_0, fx_41000006_0, fx_42002024_0, fx_42002024_1, fx_42002024_2, fx_42002024_3, fx_42002024_4, fx_42002024_5, fx_42002024_6, fx_42002024_7, fx_42002024_8, fx_42002024_9, fx_42002024_10, fx_42002024_11, fx_42002024_12, fx_42002024_13, fx_42002024_14, fx_42002024_15, fx_42002024_16, fx_42002024_17, fx_42002024_18, fx_42002024_19, fx_43000008_0, fx_45000008_0, fx_47000008_0, fx_49000008_0, fx_51000008_0, fx_53000008_0, fx_55000008_0, fx_57000008_0, fx_59000008_0, fx_61000008_0, fx_63000008_0, fx_65000008_0, fx_67000008_0, fx_69000008_0, fx_71000008_0, fx_73000008_0, fx_75000008_0, fx_77000008_0, fx_79000008_0, fx_81000008_0, fx_83000424_0, fx_83000424_1, fx_83000424_2, fx_83000424_3, fx_85000004_0, fx_85000004_1, fx_85000004_2, fx_85000004_3, fx_85000004_4, fx_85000004_5, fx_85000004_6, fx_85000004_10, fx_102000008_0, fx_104000008_0, fx_106000008_0, fx_108000008_0, fx_110000011_1, fx_110000011_4, fx_110000011_5, fx_110000011_6, fx_110000011_9, fx_110000011_10, fx_110000011_11, fx_110000011_12, fx_110000011_14, fx_110000011_15, fx_110000011_20, fx_110000011_21, fx_110000011_22, fx_110000011_23, fx_110000011_25, fx_110000011_26, fx_110000011_31, fx_110000011_32, fx_110000011_37, fx_110000011_38, fx_110000011_39, fx_110000011_40, p18, vnb1, i2, k13, k14]
    · rw [if_neg e14]
      rw [if_neg e14] at k14
      obtain ⟨l1, l2⟩ := m140 (d := d) hF2 hC2 hX2 (k := 1) (by omega) (by omega)
      refine ⟨_, GQ_tr G2 (GQ_m _ _ (by omega)), l1, fun p q => (by cases q), fun Q => ?_⟩
      simp (disch := first | assumption | omega) only [r161_0, r161_1, r161_4, r161_7, r161_8, r161_9, r161_12, r161_13, r161_14, r161_15, r161_18, r161_19, r161_19i, r161_20, r161_23, r161_24, r161_25, r161_28, r161_29, r161_31, r161_34, r161_37, r161_38, r161_40, r161_43, r161_46, r161_47, r161_48, r161_51, r161_52, r161_53, r161_56, r161_58, r161_59, r161_61, j161_64, r161_67, r161_68, r161_71, r161_72, r161_73, r161_74, r161_74i, r161_75, r161_78, r161_79, r161_80, r161_83, rI_wI, rL_wL, rR_wR, rI_wL, rI_wR, rL_wI, rL_wR, rR_wI, rR_wL, va_rf_some, va_rf_none, Option.toList_some, Option.toList_none, List.nil_append, List.cons_append, true_and, and_true, false_and, and_false, and_self, if_true, if_false, not_true_eq_false, not_false_eq_true, or_false, false_or, or_true, true_or, or_self, ite_true, ite_false, Option.some.injEq, reduceCtorEq, Nat.reduceMod, Nat.reduceDiv, Nat.reduceLeDiff, Nat.reduceEqDiff, Nat.reduceAdd, Nat.reduceMul, Nat.reduceSub, Nat.reduceLT, sw_nil, sw_int, sw_long, sw_ref, li, lo, nI_m1, ng_eq, nn_eq, en_eq, ng_le, ng_lt, Int32.neg_neg, nI_add, pk_mul, nI_clampO, nI_ltO, nI_leO, nI_eqO, nI_subO, nle_t, nle_f, nlt_t, nlt_f, neq_f, fx_2000010_0, fx_2000010_1, fx_2000010_4, fx_2000010_5, fx_2000010_6, fx_2000010_8, fx_2000010_10, fx_2000010_11, fx_2000010_12, fx_2000010_13, fx_2000010_14, fx_2000010_15, fx_2000010_16, fx_2000010_17, fx_2000010_18, fx_3000009_0, fx_5000007_0, fx_5000007_1, fx_5000007_2, fx_5000007_3, fx_7000001_0, fx_11000005_1, fx_11000005_2, fx_11000005_3, fx_11000005_4, fx_11000005_5, fx_11000005_6, fx_11000005_10, fx_11000005_11, fx_11000005_12, fx_20000002_0, fx_20000002_2, fx_20000002_3, fx_20000002_4, fx_25000005_1, fx_25000005_2, fx_25000005_3, fx_25000005_4, fx_25000005_5, fx_25000005_6, fx_25000005_10, fx_25000005_11, fx_25000005_12, fx_34000002_0, fx_34000002_2, fx_34000002_3, fx_34000002_4, fx_39000008_0, fx_41000006_0, fx_42002024_0, fx_42002024_1, fx_42002024_2, fx_42002024_3, fx_42002024_4, fx_42002024_5, fx_42002024_6, fx_42002024_7, fx_42002024_8, fx_42002024_9, fx_42002024_10, fx_42002024_11, fx_42002024_12, fx_42002024_13, fx_42002024_14, fx_42002024_15, fx_42002024_16, fx_42002024_17, fx_42002024_18, fx_42002024_19, fx_43000008_0, fx_45000008_0, fx_47000008_0, fx_49000008_0, fx_51000008_0, fx_53000008_0, fx_55000008_0, fx_57000008_0, fx_59000008_0, fx_61000008_0, fx_63000008_0, fx_65000008_0, fx_67000008_0, fx_69000008_0, fx_71000008_0, fx_73000008_0, fx_75000008_0, fx_77000008_0, fx_79000008_0, fx_81000008_0, fx_83000424_0, fx_83000424_1, fx_83000424_2, fx_83000424_3, fx_85000004_0, fx_85000004_1, fx_85000004_2, fx_85000004_3, fx_85000004_4, fx_85000004_5, fx_85000004_6, fx_85000004_10, fx_102000008_0, fx_104000008_0, fx_106000008_0, fx_108000008_0, fx_110000011_1, fx_110000011_4, fx_110000011_5, fx_110000011_6, fx_110000011_9, fx_110000011_10, fx_110000011_11, fx_110000011_12, fx_110000011_14, fx_110000011_15, fx_110000011_20, fx_110000011_21, fx_110000011_22, fx_110000011_23, fx_110000011_25, fx_110000011_26, fx_110000011_31, fx_110000011_32, fx_110000011_37, fx_110000011_38, fx_110000011_39, fx_110000011_40, p18, vnb1, i2, k13, k14, l2]
theorem m162 (h : RM μ (.ok T)) (hZ : MZ μ S c0) (hS : SI S) (hb : bt S.2.2.2 15 = 0) (hd : (hdT T).2.1 ≠ 30) : ∃ ν, GQ μ ν ∧ RM ν (snx (ln1 (S.1, S.2.1, S.2.2.1, S.2.2.2 ||| 2 ^ 15) 15 T.tail)) ∧ (∀ p, ln1 (S.1, S.2.1, S.2.2.1, S.2.2.2 ||| 2 ^ 15) 15 T.tail = .ok p → MZ ν p.1 c0) ∧ ∀ Q, R (d + 2) 162 0 [some (.ref 110000011)] [] μ Q = Q none ν := by
  obtain ⟨hF, hC, -, ho⟩ := h
  have hX := ho T rfl
  obtain ⟨i, i1, i2, i3⟩ := RX_tl hX hd
  have p18 := hZ.2.2.2.2.1
  have p17 := hZ.2.2.2.1
  rw [hb] at p17
  have A1 : AQ μ (wI μ 110000011 7 (nI (i + 1))) := AQ_w μ _ (Or.inl rfl)
  have r2 : RM (wI (wI μ 110000011 17 (nI 1)) 110000011 7 (nI (i + 1))) (.ok T.tail) := by
    have r1 := RM_m (RM_o (AQ_FX A1 hF) (AQ_MC A1 hC) i3) (j := 17) (by omega) (nI 1)
    refine ⟨hF, ⟨hC.1, fun k hk => by rw [rI_wI, if_neg (by omega), rI_wI, if_neg (by omega)]; exact hC.2 k hk⟩, fun f e => (by cases e), fun T' e => ?_⟩
    refine RX_o (r1.2.2.2 T' e) ?_ ?_ (fun j => ⟨?_, ?_, rfl⟩)
    · rw [rI_wI, if_pos ⟨rfl, rfl⟩, rI_wI, if_neg (by omega), rI_wI, if_pos ⟨rfl, rfl⟩]
    · rw [rI_wI, if_neg (by omega), rI_wI, if_neg (by omega), rI_wI, if_neg (by omega), rI_wI, if_neg (by omega)]
    · rw [rI_wI, if_neg (by omega), rI_wI, if_neg (by omega), rI_wI, if_neg (by omega), rI_wI, if_neg (by omega)]
    · rw [rI_wI, if_neg (by omega), rI_wI, if_neg (by omega), rI_wI, if_neg (by omega), rI_wI, if_neg (by omega)]
  have G2 : GQ μ (wI (wI μ 110000011 17 (nI 1)) 110000011 7 (nI (i + 1))) := GQ_tr (GQ_m μ _ (by omega)) (GQ_m _ _ (by omega))
  obtain ⟨ν3, x, b1, b2, b3, b4⟩ := m149 (d := d) r2 (m := 99) (by omega)
  have hF3 := b2.1
  rw [ln1_15]
  refine ⟨wI ν3 116018820 96 x, GQ_tr (GQ_tr G2 (GQ_A b1)) (GQ_p _ _ (by omega)), ?_, fun p q => ?_, fun Q => ?_⟩
  · rw [snx_bnd]
    exact RM_p b2 _ _
  · obtain ⟨⟨v, T2⟩, o1, o2⟩ := bnd_ok q
    have ex := b3 v T2 o1
    subst ex
    cases o2
    refine MZ_u (by omega) hZ (fun j => ?_) (fun a j q1 q2 => ?_) (fun a j => (b1.2.1 a j)) ?_ ?_
    · rw [rI_wI]
      by_cases w : j = 94 + 2
      · rw [if_pos ⟨rfl, by omega⟩, if_pos w]
      · rw [if_neg (by omega), if_neg w, b1.1 _ _ (by omega), rI_wI, if_neg (by omega), rI_wI, if_neg (by omega)]
    · rw [rI_wI, if_neg (by omega), b1.1 _ _ (by omega), rI_wI, if_neg (by omega), rI_wI, if_neg (by omega)]
    · rw [bt_or, if_pos rfl, rI_wI, if_neg (by omega), b1.1 _ _ (by omega), rI_wI, if_neg (by omega), rI_wI, if_pos ⟨rfl, rfl⟩]
    · rw [bt_or, if_neg (by omega), rI_wI, if_neg (by omega), b1.1 _ _ (by omega), rI_wI, if_neg (by omega), rI_wI, if_neg (by omega)]
      exact p18
  · simp (disch := first | assumption | omega) only [r162_0, r162_1, r162_4, r162_7, r162_8, r162_9, r162_12, r162_13, r162_14, r162_15, r162_18, r162_19, r162_19i, r162_20, r162_23, r162_24, r162_25, r162_28, r162_29, r162_32, r162_34, r162_35, r162_36, r162_38, r162_41, r162_42, rI_wI, rL_wL, rR_wR, rI_wL, rI_wR, rL_wI, rL_wR, rR_wI, rR_wL, va_rf_some, va_rf_none, Option.toList_some, Option.toList_none, List.nil_append, List.cons_append, true_and, and_true, false_and, and_false, and_self, if_true, if_false, not_true_eq_false, not_false_eq_true, or_false, false_or, or_true, true_or, or_self, ite_true, ite_false, Option.some.injEq, reduceCtorEq, Nat.reduceMod, Nat.reduceDiv, Nat.reduceLeDiff, Nat.reduceEqDiff, Nat.reduceAdd, Nat.reduceMul, Nat.reduceSub, Nat.reduceLT, sw_nil, sw_int, sw_long, sw_ref, li, lo, nI_m1, ng_eq, nn_eq, en_eq, ng_le, ng_lt, Int32.neg_neg, nI_add, pk_mul, nI_clampO, nI_ltO, nI_leO, nI_eqO, nI_subO, nle_t, nle_f, nlt_t, nlt_f, neq_f, fx_2000010_0, fx_2000010_1, fx_2000010_4, fx_2000010_5, fx_2000010_6, fx_2000010_8, fx_2000010_10, fx_2000010_11, fx_2000010_12, fx_2000010_13, fx_2000010_14, fx_2000010_15, fx_2000010_16, fx_2000010_17, fx_2000010_18, fx_3000009_0, fx_5000007_0, fx_5000007_1, fx_5000007_2, fx_5000007_3, fx_7000001_0, fx_11000005_1, fx_11000005_2, fx_11000005_3, fx_11000005_4, fx_11000005_5, fx_11000005_6, fx_11000005_10, fx_11000005_11, fx_11000005_12, fx_20000002_0, fx_20000002_2, fx_20000002_3, fx_20000002_4, fx_25000005_1, fx_25000005_2, fx_25000005_3, fx_25000005_4, fx_25000005_5, fx_25000005_6, fx_25000005_10, fx_25000005_11, fx_25000005_12, fx_34000002_0, fx_34000002_2, fx_34000002_3, fx_34000002_4, fx_39000008_0, fx_41000006_0, fx_42002024_0, fx_42002024_1, fx_42002024_2, fx_42002024_3, fx_42002024_4, fx_42002024_5, fx_42002024_6, fx_42002024_7, fx_42002024_8, fx_42002024_9, fx_42002024_10, fx_42002024_11, fx_42002024_12, fx_42002024_13, fx_42002024_14, fx_42002024_15, fx_42002024_16, fx_42002024_17, fx_42002024_18, fx_42002024_19, fx_43000008_0, fx_45000008_0, fx_47000008_0, fx_49000008_0, fx_51000008_0, fx_53000008_0, fx_55000008_0, fx_57000008_0, fx_59000008_0, fx_61000008_0, fx_63000008_0, fx_65000008_0, fx_67000008_0, fx_69000008_0, fx_71000008_0, fx_73000008_0, fx_75000008_0, fx_77000008_0, fx_79000008_0, fx_81000008_0, fx_83000424_0, fx_83000424_1, fx_83000424_2, fx_83000424_3, fx_85000004_0, fx_85000004_1, fx_85000004_2, fx_85000004_3, fx_85000004_4, fx_85000004_5, fx_85000004_6, fx_85000004_10, fx_102000008_0, fx_104000008_0, fx_106000008_0, fx_108000008_0, fx_110000011_1, fx_110000011_4, fx_110000011_5, fx_110000011_6, fx_110000011_9, fx_110000011_10, fx_110000011_11, fx_110000011_12, fx_110000011_14, fx_110000011_15, fx_110000011_20, fx_110000011_21, fx_110000011_22, fx_110000011_23, fx_110000011_25, fx_110000011_26, fx_110000011_31, fx_110000011_32, fx_110000011_37, fx_110000011_38, fx_110000011_39, fx_110000011_40, p17, vnb1, i2, b4]
end T1
