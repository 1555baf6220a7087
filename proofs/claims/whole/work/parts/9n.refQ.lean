/-! THE REFERENCE READS A LAW: A PART, AND ALL OF IT -/
theorem fci_p {t : Nat} (h : t = 23 ∨ t = 40 ∨ t = 29) : fci t = 9 := by rcases h with rfl | rfl | rfl <;> rfl
section T1
variable {d : Nat} {μ : PM} {k c0 : Nat} {T : List Tok} {κ : List Cod}
theorem mac_t {t : Tok} {σ : List Nat} : mac k (t :: T) σ true κ = (if t.2.1 = 23 ∨ t.2.1 = 40 then (if 5 ≤ nst σ then .error (ftk 5 t) else mac k T (t.2.1 :: σ) true κ) else if t.2.1 = 29 then (if 5 ≤ nst σ then .error (ftk 5 t) else mac k T (nots σ).2 false (κ ++ (1, n10 t.2.2.1) :: (nots σ).1)) else if pN (fal k t.2.1) = 1 then (if 5 ≤ nst σ then .error (ftk 5 t) else mac k T (nots σ).2 false (κ ++ (2, fci t.2.1) :: (nots σ).1)) else .error (ftk 1 t)) := by rw [mac]
/-- a part that can't be -/
theorem c169_0 (hk : k < 3) {e : Nat} (he : e ≤ 5) (hS : SX μ k c0 T κ) {σ : List Nat} (hn : nst σ = e) (hb : ¬ ((hdT T).2.1 = 23 ∨ (hdT T).2.1 = 40 ∨ (hdT T).2.1 = 29 ∨ fal k (hdT T).2.1) ∨ e = 5) : ∃ f, FSx (wI μ 110000011 8 (nI f)) k c0 f κ.length ∧ mac k T σ true κ = .error f ∧ ∀ Q, R (d + 3) 169 0 [some (.ref 110000011), some (.int (nI e)), none, none, none] [] μ Q = Q none (wI μ 110000011 8 (nI f)) := by
  have hh := c169_h (d := d + 1) hk hS he
  have s40 := c141 (d := d + 2) hS.1 hS.2.2.2.1 (c := 40) (by omega) (by omega)
  have s23 := c142 (d := d + 2) hS.1 hS.2.1 hS.2.2.2.1 (w := 23) (by omega)
  by_cases hv : (hdT T).2.1 = 23 ∨ (hdT T).2.1 = 40 ∨ (hdT T).2.1 = 29 ∨ fal k (hdT T).2.1
  · have he5 : e = 5 := by rcases hb with q | q; exact absurd hv q; exact q
    subst he5
    have fs := flt_FS hS (e := 5) (by omega) (by omega)
    refine ⟨flT 5 T, fs, ?_, fun Q => ?_⟩
    · cases T with
      | nil => exact hS.2.2.2.1.1.1.elim
      | cons t T' =>
        have hv' : t.2.1 = 23 ∨ t.2.1 = 40 ∨ t.2.1 = 29 ∨ fal k t.2.1 := hv
        rw [mac_t]
        by_cases a : t.2.1 = 23 ∨ t.2.1 = 40
        · rw [if_pos a, if_pos (by omega)]; rfl
        · rw [if_neg a]
          by_cases b : t.2.1 = 29
          · rw [if_pos b, if_pos (by omega)]; rfl
          · rw [if_neg b, pN_t (by rcases hv' with q | q | q | q; exact absurd (Or.inl q) a; exact absurd (Or.inr q) a; exact absurd q b; exact q), if_pos rfl, if_pos (by omega)]; rfl
    · have cw := c140 (d := d + 2) hS.1 hS.2.2.2.1 (k := 5) (by omega)
      have f8 : rI (wI μ 110000011 8 (nI (flT 5 T))) 110000011 8 = nI (flT 5 T) := by rw [rI_wI, if_pos ⟨rfl, rfl⟩]
      have f1 := fs.2.2.2.2.1
      have f2 := fs.2.2.2.2.2.1
      rw [hh]
      by_cases hfc : fci (hdT T).2.1 < (if k = 2 then 2 else 5)
      · rw [if_pos hfc, fI_s]
        have hfb : fci (hdT T).2.1 < 5 := fci_5 (k := k) hfc
        simp (disch := first | assumption | omega) only [r169_0, r169_1, r169_4, r169_7, r169_8, r169_9, r169_12, r169_13, r169_16, r169_17, j169_18, r169_21, r169_22, r169_25, r169_26, r169_27, r169_28, r169_29, r169_30, r169_32, r169_34, r169_35, r169_38, j169_39, r169_42, r169_43, r169_46, r169_47, r169_50, r169_51, r169_52, r169_55, r169_57, r169_58, r169_61, r169_64, r169_66, r169_69, r169_70, r169_71, r169_74, r169_78, r169_81, r169_82, r169_85, r169_86, r169_88, r169_91, r169_94, r169_95, r169_97, r169_100, r169_103, r169_104, r169_105, r169_108, r169_111, r169_112, r169_113, r169_116, r169_117, r169_118, r169_121, r169_122, r169_125, r169_128, r169_129, r169_130, r169_132, r169_135, r169_138, r169_139, r169_140, r169_141, r169_142, r169_145, r169_146, r169_147, r169_148, r169_151, r169_154, r169_155, r169_157, r169_160, r169_163, r169_164, r169_165, r169_166, r169_167, r169_170, r169_171, r169_173, r169_176, r169_179, r169_180, j169_181, r169_184, r169_185, r169_188, r169_189, r169_190, r169_193, r169_194, r169_197, r169_198, r169_201, r169_202, r169_203, r169_206, r169_207, r169_210, r169_211, r169_211i, r169_212, r169_215, r169_216, r169_217, r169_220, r169_77, rI_wI, rL_wL, rR_wR, rI_wL, rI_wR, rL_wI, rL_wR, rR_wI, rR_wL, va_rf_some, va_rf_none, Option.toList_some, Option.toList_none, List.nil_append, List.cons_append, true_and, and_true, false_and, and_false, and_self, if_true, if_false, not_true_eq_false, not_false_eq_true, or_false, false_or, or_true, true_or, or_self, ite_true, ite_false, Option.some.injEq, reduceCtorEq, Nat.reduceMod, Nat.reduceDiv, Nat.reduceLeDiff, Nat.reduceEqDiff, Nat.reduceAdd, Nat.reduceMul, Nat.reduceSub, Nat.reduceLT, sw_nil, sw_int, sw_long, sw_ref, li, lo, nI_m1, ng_eq, nn_eq, en_eq, ng_le, ng_lt, Int32.neg_neg, nI_add, pk_mul, nI_clampO, nI_ltO, nI_leO, nI_eqO, nI_subO, nle_t, nle_f, nlt_t, nlt_f, neq_f, cw]
      · rw [if_neg hfc, fI_z]
        by_cases b29 : (hdT T).2.1 = 29
        · rw [if_pos b29]
          simp (disch := first | assumption | omega) only [r169_0, r169_1, r169_4, r169_7, r169_8, r169_9, r169_12, r169_13, r169_16, r169_17, j169_18, r169_21, r169_22, r169_25, r169_26, r169_27, r169_28, r169_29, r169_30, r169_32, r169_34, r169_35, r169_38, j169_39, r169_42, r169_43, r169_46, r169_47, r169_50, r169_51, r169_52, r169_55, r169_57, r169_58, r169_61, r169_64, r169_66, r169_69, r169_70, r169_71, r169_74, r169_78, r169_81, r169_82, r169_85, r169_86, r169_88, r169_91, r169_94, r169_95, r169_97, r169_100, r169_103, r169_104, r169_105, r169_108, r169_111, r169_112, r169_113, r169_116, r169_117, r169_118, r169_121, r169_122, r169_125, r169_128, r169_129, r169_130, r169_132, r169_135, r169_138, r169_139, r169_140, r169_141, r169_142, r169_145, r169_146, r169_147, r169_148, r169_151, r169_154, r169_155, r169_157, r169_160, r169_163, r169_164, r169_165, r169_166, r169_167, r169_170, r169_171, r169_173, r169_176, r169_179, r169_180, j169_181, r169_184, r169_185, r169_188, r169_189, r169_190, r169_193, r169_194, r169_197, r169_198, r169_201, r169_202, r169_203, r169_206, r169_207, r169_210, r169_211, r169_211i, r169_212, r169_215, r169_216, r169_217, r169_220, r169_77, rI_wI, rL_wL, rR_wR, rI_wL, rI_wR, rL_wI, rL_wR, rR_wI, rR_wL, va_rf_some, va_rf_none, Option.toList_some, Option.toList_none, List.nil_append, List.cons_append, true_and, and_true, false_and, and_false, and_self, if_true, if_false, not_true_eq_false, not_false_eq_true, or_false, false_or, or_true, true_or, or_self, ite_true, ite_false, Option.some.injEq, reduceCtorEq, Nat.reduceMod, Nat.reduceDiv, Nat.reduceLeDiff, Nat.reduceEqDiff, Nat.reduceAdd, Nat.reduceMul, Nat.reduceSub, Nat.reduceLT, sw_nil, sw_int, sw_long, sw_ref, li, lo, nI_m1, ng_eq, nn_eq, en_eq, ng_le, ng_lt, Int32.neg_neg, nI_add, pk_mul, nI_clampO, nI_ltO, nI_leO, nI_eqO, nI_subO, nle_t, nle_f, nlt_t, nlt_f, neq_f, cw]
        · rw [if_neg b29]
          by_cases b40 : (hdT T).2.1 = 40
          · rw [if_pos b40] at s40
            simp (disch := first | assumption | omega) only [r169_0, r169_1, r169_4, r169_7, r169_8, r169_9, r169_12, r169_13, r169_16, r169_17, j169_18, r169_21, r169_22, r169_25, r169_26, r169_27, r169_28, r169_29, r169_30, r169_32, r169_34, r169_35, r169_38, j169_39, r169_42, r169_43, r169_46, r169_47, r169_50, r169_51, r169_52, r169_55, r169_57, r169_58, r169_61, r169_64, r169_66, r169_69, r169_70, r169_71, r169_74, r169_78, r169_81, r169_82, r169_85, r169_86, r169_88, r169_91, r169_94, r169_95, r169_97, r169_100, r169_103, r169_104, r169_105, r169_108, r169_111, r169_112, r169_113, r169_116, r169_117, r169_118, r169_121, r169_122, r169_125, r169_128, r169_129, r169_130, r169_132, r169_135, r169_138, r169_139, r169_140, r169_141, r169_142, r169_145, r169_146, r169_147, r169_148, r169_151, r169_154, r169_155, r169_157, r169_160, r169_163, r169_164, r169_165, r169_166, r169_167, r169_170, r169_171, r169_173, r169_176, r169_179, r169_180, j169_181, r169_184, r169_185, r169_188, r169_189, r169_190, r169_193, r169_194, r169_197, r169_198, r169_201, r169_202, r169_203, r169_206, r169_207, r169_210, r169_211, r169_211i, r169_212, r169_215, r169_216, r169_217, r169_220, r169_77, rI_wI, rL_wL, rR_wR, rI_wL, rI_wR, rL_wI, rL_wR, rR_wI, rR_wL, va_rf_some, va_rf_none, Option.toList_some, Option.toList_none, List.nil_append, List.cons_append, true_and, and_true, false_and, and_false, and_self, if_true, if_false, not_true_eq_false, not_false_eq_true, or_false, false_or, or_true, true_or, or_self, ite_true, ite_false, Option.some.injEq, reduceCtorEq, Nat.reduceMod, Nat.reduceDiv, Nat.reduceLeDiff, Nat.reduceEqDiff, Nat.reduceAdd, Nat.reduceMul, Nat.reduceSub, Nat.reduceLT, sw_nil, sw_int, sw_long, sw_ref, li, lo, nI_m1, ng_eq, nn_eq, en_eq, ng_le, ng_lt, Int32.neg_neg, nI_add, pk_mul, nI_clampO, nI_ltO, nI_leO, nI_eqO, nI_subO, nle_t, nle_f, nlt_t, nlt_f, neq_f, s40, cw]
          · rw [if_neg b40] at s40
            have b23 : (hdT T).2.1 = 23 := by rcases hv with q | q | q | q; exact q; exact absurd q b40; exact absurd q b29; exact absurd q hfc
            rw [if_pos b23] at s23
            simp (disch := first | assumption | omega) only [r169_0, r169_1, r169_4, r169_7, r169_8, r169_9, r169_12, r169_13, r169_16, r169_17, j169_18, r169_21, r169_22, r169_25, r169_26, r169_27, r169_28, r169_29, r169_30, r169_32, r169_34, r169_35, r169_38, j169_39, r169_42, r169_43, r169_46, r169_47, r169_50, r169_51, r169_52, r169_55, r169_57, r169_58, r169_61, r169_64, r169_66, r169_69, r169_70, r169_71, r169_74, r169_78, r169_81, r169_82, r169_85, r169_86, r169_88, r169_91, r169_94, r169_95, r169_97, r169_100, r169_103, r169_104, r169_105, r169_108, r169_111, r169_112, r169_113, r169_116, r169_117, r169_118, r169_121, r169_122, r169_125, r169_128, r169_129, r169_130, r169_132, r169_135, r169_138, r169_139, r169_140, r169_141, r169_142, r169_145, r169_146, r169_147, r169_148, r169_151, r169_154, r169_155, r169_157, r169_160, r169_163, r169_164, r169_165, r169_166, r169_167, r169_170, r169_171, r169_173, r169_176, r169_179, r169_180, j169_181, r169_184, r169_185, r169_188, r169_189, r169_190, r169_193, r169_194, r169_197, r169_198, r169_201, r169_202, r169_203, r169_206, r169_207, r169_210, r169_211, r169_211i, r169_212, r169_215, r169_216, r169_217, r169_220, r169_77, rI_wI, rL_wL, rR_wR, rI_wL, rI_wR, rL_wI, rL_wR, rR_wI, rR_wL, va_rf_some, va_rf_none, Option.toList_some, Option.toList_none, List.nil_append, List.cons_append, true_and, and_true, false_and, and_false, and_self, if_true, if_false, not_true_eq_false, not_false_eq_true, or_false, false_or, or_true, true_or, or_self, ite_true, ite_false, Option.some.injEq, reduceCtorEq, Nat.reduceMod, Nat.reduceDiv, Nat.reduceLeDiff, Nat.reduceEqDiff, Nat.reduceAdd, Nat.reduceMul, Nat.reduceSub, Nat.reduceLT, sw_nil, sw_int, sw_long, sw_ref, li, lo, nI_m1, ng_eq, nn_eq, en_eq, ng_le, ng_lt, Int32.neg_neg, nI_add, pk_mul, nI_clampO, nI_ltO, nI_leO, nI_eqO, nI_subO, nle_t, nle_f, nlt_t, nlt_f, neq_f, s40, s23, cw]
  · have n23 : ¬ (hdT T).2.1 = 23 := fun q => hv (Or.inl q)
    have n40 : ¬ (hdT T).2.1 = 40 := fun q => hv (Or.inr (Or.inl q))
    have n29 : ¬ (hdT T).2.1 = 29 := fun q => hv (Or.inr (Or.inr (Or.inl q)))
    have nfa : ¬ fal k (hdT T).2.1 := fun q => hv (Or.inr (Or.inr (Or.inr q)))
    have fs := flt_FS hS (e := 1) (by omega) (by omega)
    refine ⟨flT 1 T, fs, ?_, fun Q => ?_⟩
    · cases T with
      | nil => exact hS.2.2.2.1.1.1.elim
      | cons t T' =>
        rw [mac_t, if_neg (show ¬ (t.2.1 = 23 ∨ t.2.1 = 40) from fun q => by rcases q with q | q; exact n23 q; exact n40 q), if_neg (show ¬ t.2.1 = 29 from n29), pN_f (show ¬ fal k t.2.1 from nfa), if_neg (by omega)]
        rfl
    · have cw := c140 (d := d + 2) hS.1 hS.2.2.2.1 (k := 1) (by omega)
      have f1 := fs.2.2.2.2.1
      have f2 := fs.2.2.2.2.2.1
      rw [if_neg n40] at s40
      rw [if_neg n23] at s23
      rw [hh, if_neg n29, if_neg (show ¬ fci (hdT T).2.1 < (if k = 2 then 2 else 5) from nfa), fI_z]
      simp (disch := first | assumption | omega) only [r169_0, r169_1, r169_4, r169_7, r169_8, r169_9, r169_12, r169_13, r169_16, r169_17, j169_18, r169_21, r169_22, r169_25, r169_26, r169_27, r169_28, r169_29, r169_30, r169_32, r169_34, r169_35, r169_38, j169_39, r169_42, r169_43, r169_46, r169_47, r169_50, r169_51, r169_52, r169_55, r169_57, r169_58, r169_61, r169_64, r169_66, r169_69, r169_70, r169_71, r169_74, r169_78, r169_81, r169_82, r169_85, r169_86, r169_88, r169_91, r169_94, r169_95, r169_97, r169_100, r169_103, r169_104, r169_105, r169_108, r169_111, r169_112, r169_113, r169_116, r169_117, r169_118, r169_121, r169_122, r169_125, r169_128, r169_129, r169_130, r169_132, r169_135, r169_138, r169_139, r169_140, r169_141, r169_142, r169_145, r169_146, r169_147, r169_148, r169_151, r169_154, r169_155, r169_157, r169_160, r169_163, r169_164, r169_165, r169_166, r169_167, r169_170, r169_171, r169_173, r169_176, r169_179, r169_180, j169_181, r169_184, r169_185, r169_188, r169_189, r169_190, r169_193, r169_194, r169_197, r169_198, r169_201, r169_202, r169_203, r169_206, r169_207, r169_210, r169_211, r169_211i, r169_212, r169_215, r169_216, r169_217, r169_220, r169_77, rI_wI, rL_wL, rR_wR, rI_wL, rI_wR, rL_wI, rL_wR, rR_wI, rR_wL, va_rf_some, va_rf_none, Option.toList_some, Option.toList_none, List.nil_append, List.cons_append, true_and, and_true, false_and, and_false, and_self, if_true, if_false, not_true_eq_false, not_false_eq_true, or_false, false_or, or_true, true_or, or_self, ite_true, ite_false, Option.some.injEq, reduceCtorEq, Nat.reduceMod, Nat.reduceDiv, Nat.reduceLeDiff, Nat.reduceEqDiff, Nat.reduceAdd, Nat.reduceMul, Nat.reduceSub, Nat.reduceLT, sw_nil, sw_int, sw_long, sw_ref, li, lo, nI_m1, ng_eq, nn_eq, en_eq, ng_le, ng_lt, Int32.neg_neg, nI_add, pk_mul, nI_clampO, nI_ltO, nI_leO, nI_eqO, nI_subO, nle_t, nle_f, nlt_t, nlt_f, neq_f, s40, s23, cw]
theorem c143y (hS : SX μ k c0 T κ) {c : Nat} (hc : 32 ≤ c) (hc2 : c < 128) (he : (hdT T).2.1 = c) : ∃ t T', T = t :: T' ∧ t.2.1 = c ∧ ∃ ν, PFr c0 μ ν ∧ SX ν k c0 T' κ ∧ ∀ Q, R (d + 1) 143 0 [some (.ref 110000011), some (.int (nI c))] [] μ Q = Q none ν := by
  have k1 := c141 (d := d) hS.1 hS.2.2.2.1 hc hc2
  rw [if_pos he] at k1
  cases T with
  | nil => exact hS.2.2.2.1.1.1.elim
  | cons t T' =>
    have he' : t.2.1 = c := he
    obtain ⟨i, e1, e2, e3⟩ := at1 hS (by omega)
    refine ⟨t, T', rfl, he', _, PFr_w c0 μ _ (by omega), e3, fun Q => ?_⟩
    simp (disch := first | assumption | omega) only [r143_0, r143_1, r143_2, r143_5, r143_8, r143_9, r143_9i, r143_10, r143_13, r143_14, r143_15, r143_18, r143_21, r143_22, r143_23, r143_26, rI_wI, rL_wL, rR_wR, rI_wL, rI_wR, rL_wI, rL_wR, rR_wI, rR_wL, va_rf_some, va_rf_none, Option.toList_some, Option.toList_none, List.nil_append, List.cons_append, true_and, and_true, false_and, and_false, and_self, if_true, if_false, not_true_eq_false, not_false_eq_true, or_false, false_or, or_true, true_or, or_self, ite_true, ite_false, Option.some.injEq, reduceCtorEq, Nat.reduceMod, Nat.reduceDiv, Nat.reduceLeDiff, Nat.reduceEqDiff, Nat.reduceAdd, Nat.reduceMul, Nat.reduceSub, Nat.reduceLT, sw_nil, sw_int, sw_long, sw_ref, li, lo, nI_m1, ng_eq, nn_eq, en_eq, ng_le, ng_lt, Int32.neg_neg, nI_add, pk_mul, nI_clampO, nI_ltO, nI_leO, nI_eqO, nI_subO, nle_t, nle_f, nlt_t, nlt_f, neq_f, k1, e2]
theorem c143n (hS : SX μ k c0 T κ) {c : Nat} (hc : 32 ≤ c) (hc2 : c < 128) (he : ¬ (hdT T).2.1 = c) : FSx (wI μ 110000011 8 (nI (flT 1 T))) k c0 (flT 1 T) κ.length ∧ ∀ Q, R (d + 1) 143 0 [some (.ref 110000011), some (.int (nI c))] [] μ Q = Q none (wI μ 110000011 8 (nI (flT 1 T))) := by
  have k1 := c141 (d := d) hS.1 hS.2.2.2.1 hc hc2
  rw [if_neg he] at k1
  have cw := c140 (d := d) hS.1 hS.2.2.2.1 (k := 1) (by omega)
  refine ⟨flt_FS hS (by omega) (by omega), fun Q => ?_⟩
  simp (disch := first | assumption | omega) only [r143_0, r143_1, r143_2, r143_5, r143_8, r143_9, r143_9i, r143_10, r143_13, r143_14, r143_15, r143_18, r143_21, r143_22, r143_23, r143_26, rI_wI, rL_wL, rR_wR, rI_wL, rI_wR, rL_wI, rL_wR, rR_wI, rR_wL, va_rf_some, va_rf_none, Option.toList_some, Option.toList_none, List.nil_append, List.cons_append, true_and, and_true, false_and, and_false, and_self, if_true, if_false, not_true_eq_false, not_false_eq_true, or_false, false_or, or_true, true_or, or_self, ite_true, ite_false, Option.some.injEq, reduceCtorEq, Nat.reduceMod, Nat.reduceDiv, Nat.reduceLeDiff, Nat.reduceEqDiff, Nat.reduceAdd, Nat.reduceMul, Nat.reduceSub, Nat.reduceLT, sw_nil, sw_int, sw_long, sw_ref, li, lo, nI_m1, ng_eq, nn_eq, en_eq, ng_le, ng_lt, Int32.neg_neg, nI_add, pk_mul, nI_clampO, nI_ltO, nI_leO, nI_eqO, nI_subO, nle_t, nle_f, nlt_t, nlt_f, neq_f, k1, cw]
theorem c143f {f n : Nat} (hS : FSx μ k c0 f n) {x : Int32} : ∀ Q, R (d + 1) 143 0 [some (.ref 110000011), some (.int x)] [] μ Q = Q none μ := by
  intro Q
  obtain ⟨h1, h2, h3, h4, h5, h6, h7⟩ := hS
  have k1 := c141f (d := d) (x := x) h4 h5 h6
  have k2 := c140f (d := d) (x := nI 1) h4 h5 h6
  simp (disch := first | assumption | omega) only [r143_0, r143_1, r143_2, r143_5, r143_8, r143_9, r143_9i, r143_10, r143_13, r143_14, r143_15, r143_18, r143_21, r143_22, r143_23, r143_26, rI_wI, rL_wL, rR_wR, rI_wL, rI_wR, rL_wI, rL_wR, rR_wI, rR_wL, va_rf_some, va_rf_none, Option.toList_some, Option.toList_none, List.nil_append, List.cons_append, true_and, and_true, false_and, and_false, and_self, if_true, if_false, not_true_eq_false, not_false_eq_true, or_false, false_or, or_true, true_or, or_self, ite_true, ite_false, Option.some.injEq, reduceCtorEq, Nat.reduceMod, Nat.reduceDiv, Nat.reduceLeDiff, Nat.reduceEqDiff, Nat.reduceAdd, Nat.reduceMul, Nat.reduceSub, Nat.reduceLT, sw_nil, sw_int, sw_long, sw_ref, li, lo, nI_m1, ng_eq, nn_eq, en_eq, ng_le, ng_lt, Int32.neg_neg, nI_add, pk_mul, nI_clampO, nI_ltO, nI_leO, nI_eqO, nI_subO, nle_t, nle_f, nlt_t, nlt_f, neq_f, k1, k2]
/-- a part within -/
theorem c169 (hk : k < 3) : ∀ (e' d : Nat), PT d k c0 e' := by
  intro e'
  induction e' with
  | zero =>
    intro d e μ T σ κ he hS hw hn hb
    obtain ⟨f, f1, f2, f3⟩ := c169_0 (d := d) hk (show e ≤ 5 by omega) hS hn (Or.inr (by omega))
    exact ⟨_, ⟨PFr_w c0 μ _ (by omega), Or.inr ⟨f, κ.length, f1, by omega, f2⟩⟩, f3⟩
  | succ e' ih =>
    intro d e μ T σ κ he hS hw hn hb
    by_cases hv : (hdT T).2.1 = 23 ∨ (hdT T).2.1 = 40 ∨ (hdT T).2.1 = 29 ∨ fal k (hdT T).2.1
    · have hh := c169_h (d := d + 5 * e' + 6) hk hS (show e ≤ 5 by omega)
      have s40 := c141 (d := d + 5 * e' + 7) hS.1 hS.2.2.2.1 (c := 40) (by omega) (by omega)
      have s23 := c142 (d := d + 5 * e' + 7) hS.1 hS.2.1 hS.2.2.2.1 (w := 23) (by omega)
      have h8 := hS.2.2.2.1.2
      have he5 : e ≠ 5 := by omega
      rw [show d + 5 * (e' + 1) + 3 = d + 5 * e' + 8 by omega]
      -- to the choice
      have head : ∀ Q, R (d + 5 * e' + 8) 169 0 [some (.ref 110000011), some (.int (nI e)), none, none, none] [] μ Q = R (d + 5 * e' + 8) 169 129 [some (.ref 110000011), some (.int (nI e)), some (.int (nI (if (hdT T).2.1 = 29 then 1 else 0))), some (.int (fI (if fci (hdT T).2.1 < (if k = 2 then 2 else 5) then fci (hdT T).2.1 + 1 else 0))), some (.int (nI (if k = 2 then 2 else 5)))] [] μ Q := by
        intro Q
        rw [hh]
        by_cases hfc : fci (hdT T).2.1 < (if k = 2 then 2 else 5)
        · rw [if_pos hfc, fI_s]
          have hfb : fci (hdT T).2.1 < 5 := fci_5 (k := k) hfc
          simp (disch := first | assumption | omega) only [r169_77, r169_78, r169_111, r169_112, r169_113, r169_121, r169_122, r169_125, rI_wI, rL_wL, rR_wR, rI_wL, rI_wR, rL_wI, rL_wR, rR_wI, rR_wL, va_rf_some, va_rf_none, Option.toList_some, Option.toList_none, List.nil_append, List.cons_append, true_and, and_true, false_and, and_false, and_self, if_true, if_false, not_true_eq_false, not_false_eq_true, or_false, false_or, or_true, true_or, or_self, ite_true, ite_false, Option.some.injEq, reduceCtorEq, Nat.reduceMod, Nat.reduceDiv, Nat.reduceLeDiff, Nat.reduceEqDiff, Nat.reduceAdd, Nat.reduceMul, Nat.reduceSub, Nat.reduceLT, sw_nil, sw_int, sw_long, sw_ref, li, lo, nI_m1, ng_eq, nn_eq, en_eq, ng_le, ng_lt, Int32.neg_neg, nI_add, pk_mul, nI_clampO, nI_ltO, nI_leO, nI_eqO, nI_subO, nle_t, nle_f, nlt_t, nlt_f, neq_f, h8, Nat.le_refl]
        · rw [if_neg hfc, fI_z]
          by_cases b29 : (hdT T).2.1 = 29
          · rw [if_pos b29]
            simp (disch := first | assumption | omega) only [r169_77, r169_78, r169_81, r169_82, r169_111, r169_112, r169_113, r169_121, r169_122, r169_125, rI_wI, rL_wL, rR_wR, rI_wL, rI_wR, rL_wI, rL_wR, rR_wI, rR_wL, va_rf_some, va_rf_none, Option.toList_some, Option.toList_none, List.nil_append, List.cons_append, true_and, and_true, false_and, and_false, and_self, if_true, if_false, not_true_eq_false, not_false_eq_true, or_false, false_or, or_true, true_or, or_self, ite_true, ite_false, Option.some.injEq, reduceCtorEq, Nat.reduceMod, Nat.reduceDiv, Nat.reduceLeDiff, Nat.reduceEqDiff, Nat.reduceAdd, Nat.reduceMul, Nat.reduceSub, Nat.reduceLT, sw_nil, sw_int, sw_long, sw_ref, li, lo, nI_m1, ng_eq, nn_eq, en_eq, ng_le, ng_lt, Int32.neg_neg, nI_add, pk_mul, nI_clampO, nI_ltO, nI_leO, nI_eqO, nI_subO, nle_t, nle_f, nlt_t, nlt_f, neq_f, h8, Nat.le_refl]
          · rw [if_neg b29]
            by_cases b40 : (hdT T).2.1 = 40
            · rw [if_pos b40] at s40
              simp (disch := first | assumption | omega) only [r169_77, r169_78, r169_81, r169_82, r169_85, r169_86, r169_88, r169_91, r169_111, r169_112, r169_113, r169_121, r169_122, r169_125, rI_wI, rL_wL, rR_wR, rI_wL, rI_wR, rL_wI, rL_wR, rR_wI, rR_wL, va_rf_some, va_rf_none, Option.toList_some, Option.toList_none, List.nil_append, List.cons_append, true_and, and_true, false_and, and_false, and_self, if_true, if_false, not_true_eq_false, not_false_eq_true, or_false, false_or, or_true, true_or, or_self, ite_true, ite_false, Option.some.injEq, reduceCtorEq, Nat.reduceMod, Nat.reduceDiv, Nat.reduceLeDiff, Nat.reduceEqDiff, Nat.reduceAdd, Nat.reduceMul, Nat.reduceSub, Nat.reduceLT, sw_nil, sw_int, sw_long, sw_ref, li, lo, nI_m1, ng_eq, nn_eq, en_eq, ng_le, ng_lt, Int32.neg_neg, nI_add, pk_mul, nI_clampO, nI_ltO, nI_leO, nI_eqO, nI_subO, nle_t, nle_f, nlt_t, nlt_f, neq_f, h8, s40, Nat.le_refl]
            · rw [if_neg b40] at s40
              have b23 : (hdT T).2.1 = 23 := by rcases hv with q | q | q | q; exact q; exact absurd q b40; exact absurd q b29; exact absurd q hfc
              rw [if_pos b23] at s23
              simp (disch := first | assumption | omega) only [r169_77, r169_78, r169_81, r169_82, r169_85, r169_86, r169_88, r169_91, r169_94, r169_95, r169_97, r169_100, r169_111, r169_112, r169_113, r169_121, r169_122, r169_125, rI_wI, rL_wL, rR_wR, rI_wL, rI_wR, rL_wI, rL_wR, rR_wI, rR_wL, va_rf_some, va_rf_none, Option.toList_some, Option.toList_none, List.nil_append, List.cons_append, true_and, and_true, false_and, and_false, and_self, if_true, if_false, not_true_eq_false, not_false_eq_true, or_false, false_or, or_true, true_or, or_self, ite_true, ite_false, Option.some.injEq, reduceCtorEq, Nat.reduceMod, Nat.reduceDiv, Nat.reduceLeDiff, Nat.reduceEqDiff, Nat.reduceAdd, Nat.reduceMul, Nat.reduceSub, Nat.reduceLT, sw_nil, sw_int, sw_long, sw_ref, li, lo, nI_m1, ng_eq, nn_eq, en_eq, ng_le, ng_lt, Int32.neg_neg, nI_add, pk_mul, nI_clampO, nI_ltO, nI_leO, nI_eqO, nI_subO, nle_t, nle_f, nlt_t, nlt_f, neq_f, h8, s40, s23, Nat.le_refl]
      by_cases h23 : (hdT T).2.1 = 23
      · obtain ⟨t, T', e1, e2, ν1, p1, p2, p3⟩ := c145y (d := d + 5 * e' + 6) hS (w := 23) (by omega) h23
        subst e1
        have hb' : c0 + κ.length + (T'.length + 1) ≤ 1000 := by simpa using hb
        have wt : wfs (23 :: σ) := ⟨hw, Or.inl (Or.inl rfl)⟩
        have nt : nst (23 :: σ) = 1 + nst σ := rfl
        have hm : mac k (t :: T') σ true κ = mac k T' (23 :: σ) true κ := by
          rw [mac_t, if_pos (Or.inl e2), if_neg (by omega), e2]
        obtain ⟨ν2, ⟨q1, q2⟩, q3⟩ := ih (d + 4) (e + 1) ν1 T' (23 :: σ) κ (by omega) p2 wt (by omega) (by omega)
        have q3' : ∀ Q, R (d + 5 * e' + 7) 169 0 [some (.ref 110000011), some (.int (nI (e + 1))), none, none, none] [] ν1 Q = Q none ν2 := by
          intro Q
          have := q3 Q
          rw [show d + 4 + 5 * e' + 3 = d + 5 * e' + 7 by omega] at this
          exact this
        have hns : nots (23 :: σ) = ((3, 0) :: (nots σ).1, (nots σ).2) := by rw [nots, if_pos rfl]
        rw [hns] at q2
        rcases q2 with ⟨κ', T1, s1, s2, s3, s4⟩ | ⟨f, n, s1, s2, s3⟩
        · have ce := c164 (d := d + 5 * e' + 7) s1.1 s1.2.2.2.2.1 (by omega) (o := nI 3) (a := nI 0)
          have s5 := em_SX s1 (3, 0)
          refine ⟨_, ⟨PFr_tr p1 (PFr_tr q1 (em_PF (n := κ'.length) ν2 (nI 3) (nI 0))), Or.inl ⟨κ' ++ [(3, 0)], T1, s5, by rw [List.length_append]; simp only [List.length_cons, List.length_nil]; omega, by simp only [List.length_cons]; omega, ?_⟩⟩, fun Q => ?_⟩
          · rw [hm, s4, List.append_assoc]
            rfl
          · rw [head]
            simp (disch := first | assumption | omega) only [r169_129, r169_130, r169_132, r169_135, r169_138, r169_139, r169_140, r169_141, r169_142, r169_145, r169_146, r169_147, r169_148, r169_151, r169_220, rI_wI, rL_wL, rR_wR, rI_wL, rI_wR, rL_wI, rL_wR, rR_wI, rR_wL, va_rf_some, va_rf_none, Option.toList_some, Option.toList_none, List.nil_append, List.cons_append, true_and, and_true, false_and, and_false, and_self, if_true, if_false, not_true_eq_false, not_false_eq_true, or_false, false_or, or_true, true_or, or_self, ite_true, ite_false, Option.some.injEq, reduceCtorEq, Nat.reduceMod, Nat.reduceDiv, Nat.reduceLeDiff, Nat.reduceEqDiff, Nat.reduceAdd, Nat.reduceMul, Nat.reduceSub, Nat.reduceLT, sw_nil, sw_int, sw_long, sw_ref, li, lo, nI_m1, ng_eq, nn_eq, en_eq, ng_le, ng_lt, Int32.neg_neg, nI_add, pk_mul, nI_clampO, nI_ltO, nI_leO, nI_eqO, nI_subO, nle_t, nle_f, nlt_t, nlt_f, neq_f, p3, q3', ce]
        · have ce := c164 (d := d + 5 * e' + 7) s1.1 s1.2.2.2.2.2.2 (by omega) (o := nI 3) (a := nI 0)
          have s5 := em_FS s1 (nI 3) (nI 0)
          refine ⟨_, ⟨PFr_tr p1 (PFr_tr q1 (em_PF (n := n) ν2 (nI 3) (nI 0))), Or.inr ⟨f, n + 1, s5, by simp only [List.length_cons]; omega, by rw [hm]; exact s3⟩⟩, fun Q => ?_⟩
          rw [head]
          simp (disch := first | assumption | omega) only [r169_129, r169_130, r169_132, r169_135, r169_138, r169_139, r169_140, r169_141, r169_142, r169_145, r169_146, r169_147, r169_148, r169_151, r169_220, rI_wI, rL_wL, rR_wR, rI_wL, rI_wR, rL_wI, rL_wR, rR_wI, rR_wL, va_rf_some, va_rf_none, Option.toList_some, Option.toList_none, List.nil_append, List.cons_append, true_and, and_true, false_and, and_false, and_self, if_true, if_false, not_true_eq_false, not_false_eq_true, or_false, false_or, or_true, true_or, or_self, ite_true, ite_false, Option.some.injEq, reduceCtorEq, Nat.reduceMod, Nat.reduceDiv, Nat.reduceLeDiff, Nat.reduceEqDiff, Nat.reduceAdd, Nat.reduceMul, Nat.reduceSub, Nat.reduceLT, sw_nil, sw_int, sw_long, sw_ref, li, lo, nI_m1, ng_eq, nn_eq, en_eq, ng_le, ng_lt, Int32.neg_neg, nI_add, pk_mul, nI_clampO, nI_ltO, nI_leO, nI_eqO, nI_subO, nle_t, nle_f, nlt_t, nlt_f, neq_f, p3, q3', ce]
      · obtain ⟨νa, m1, m2, m3⟩ := c145n (d := d + 5 * e' + 6) hS (w := 23) (by omega) h23
        by_cases h40 : (hdT T).2.1 = 40
        · obtain ⟨t, T', e1, e2, ν1, p1, p2, p3⟩ := c144y (d := d + 5 * e' + 6) m2 (c := 40) (by omega) (by omega) h40
          subst e1
          have hb' : c0 + κ.length + (T'.length + 1) ≤ 1000 := by simpa using hb
          have wt : wfs (40 :: σ) := ⟨hw, Or.inl (Or.inr rfl)⟩
          have nt : nst (40 :: σ) = 1 + nst σ := rfl
          have hm : mac k (t :: T') σ true κ = mac k T' (40 :: σ) true κ := by
            rw [mac_t, if_pos (Or.inr e2), if_neg (by omega), e2]
          obtain ⟨ν2, ⟨q1, q2⟩, q3⟩ := c165 (c166 (c167 (c168 (ih d)))) (e + 1) ν1 T' (40 :: σ) κ (by omega) p2 wt (by omega) (by show rk 40 < 1; decide) (by show (40 : Nat) ≠ 23; decide) (by omega)
          have q3' : ∀ Q, R (d + 5 * e' + 7) 165 0 [some (.ref 110000011), some (.int (nI (e + 1))), none] [] ν1 Q = Q none ν2 := q3
          rcases q2 with ⟨π, κ', T1, a1, a2, a3, a4, a5, a6, a7⟩ | ⟨f, n, s1, s2, s3⟩
          · by_cases h41 : (hdT T1).2.1 = 41
            · obtain ⟨t2, T2, g1, g2, ν3, g3, g4, g5⟩ := c143y (d := d + 5 * e' + 6) a1 (c := 41) (by omega) (by omega) h41
              subst g1
              have hlk : (κ' ++ fls π).length = κ'.length + π.length := by rw [List.length_append, fls_len]
              have a4' : κ'.length + π.length + (T2.length + 1) ≤ κ.length + T'.length := by simpa using a4
              have a5' : T2.length + 1 ≤ T'.length := by simpa using a5
              have nπ : 0 < nst (π ++ 40 :: σ) := by
                have := (joi_wf 1 a2 (by omega)).2.1
                rw [joi_app (r := 1) (σ := 40 :: σ) (by show rk 40 < 1; decide) a3] at this
                have h' : nst (40 :: σ) = nst (π ++ 40 :: σ) := this
                omega
              have hm2 : mac k (t2 :: T2) (π ++ 40 :: σ) false κ' = mac k T2 (nots σ).2 false (κ' ++ fls π ++ (nots σ).1) := by
                have ja := joi_app (r := 1) (σ := 40 :: σ) (by show rk 40 < 1; decide) a3
                rw [mac, if_neg (fun q => by have := q.1; omega), if_pos ⟨g2, nπ⟩, ja]
                rfl
              refine ⟨ν3, ⟨PFr_tr m1 (PFr_tr p1 (PFr_tr q1 g3)), Or.inl ⟨κ' ++ fls π, T2, g4, by simp only [List.length_cons]; omega, by simp only [List.length_cons]; omega, by rw [hm, a7, hm2]⟩⟩, fun Q => ?_⟩
              rw [head]
              simp (disch := first | assumption | omega) only [r169_129, r169_130, r169_132, r169_135, r169_154, r169_155, r169_157, r169_160, r169_163, r169_164, r169_165, r169_166, r169_167, r169_170, r169_171, r169_173, r169_176, r169_220, rI_wI, rL_wL, rR_wR, rI_wL, rI_wR, rL_wI, rL_wR, rR_wI, rR_wL, va_rf_some, va_rf_none, Option.toList_some, Option.toList_none, List.nil_append, List.cons_append, true_and, and_true, false_and, and_false, and_self, if_true, if_false, not_true_eq_false, not_false_eq_true, or_false, false_or, or_true, true_or, or_self, ite_true, ite_false, Option.some.injEq, reduceCtorEq, Nat.reduceMod, Nat.reduceDiv, Nat.reduceLeDiff, Nat.reduceEqDiff, Nat.reduceAdd, Nat.reduceMul, Nat.reduceSub, Nat.reduceLT, sw_nil, sw_int, sw_long, sw_ref, li, lo, nI_m1, ng_eq, nn_eq, en_eq, ng_le, ng_lt, Int32.neg_neg, nI_add, pk_mul, nI_clampO, nI_ltO, nI_leO, nI_eqO, nI_subO, nle_t, nle_f, nlt_t, nlt_f, neq_f, m3, p3, q3', g5]
            · obtain ⟨fs, g5⟩ := c143n (d := d + 5 * e' + 6) a1 (c := 41) (by omega) (by omega) h41
              have hlk : (κ' ++ fls π).length = κ'.length + π.length := by rw [List.length_append, fls_len]
              have nπ : nst (π ++ 40 :: σ) ≠ 0 := by
                have := (joi_wf 1 a2 (by omega)).2.1
                rw [joi_app (r := 1) (σ := 40 :: σ) (by show rk 40 < 1; decide) a3] at this
                have h' : nst (40 :: σ) = nst (π ++ 40 :: σ) := this
                omega
              have hm2 : mac k T1 (π ++ 40 :: σ) false κ' = .error (flT 1 T1) := by
                cases T1 with
                | nil => exact a1.2.2.2.1.1.1.elim
                | cons t1 T1 =>
                  have h41' : ¬ t1.2.1 = 41 := h41
                  rw [mac, if_neg (fun q => nπ q.2), if_neg (fun q => h41' q.1)]
                  rcases a6 with z | ⟨z1, z2, z3⟩
                  · rw [if_pos (show rk t1.2.1 = 0 by have z' : rk t1.2.1 < 1 := z; omega)]
                    rfl
                  · have z1' : rk t1.2.1 = 2 := z1
                    rw [if_neg (by omega), if_pos z1', if_pos z3]
                    rfl
              refine ⟨_, ⟨PFr_tr m1 (PFr_tr p1 (PFr_tr q1 (PFr_w c0 ν2 _ (by omega)))), Or.inr ⟨flT 1 T1, (κ' ++ fls π).length, fs, by simp only [List.length_cons]; omega, by rw [hm, a7, hm2]⟩⟩, fun Q => ?_⟩
              rw [head]
              simp (disch := first | assumption | omega) only [r169_129, r169_130, r169_132, r169_135, r169_154, r169_155, r169_157, r169_160, r169_163, r169_164, r169_165, r169_166, r169_167, r169_170, r169_171, r169_173, r169_176, r169_220, rI_wI, rL_wL, rR_wR, rI_wL, rI_wR, rL_wI, rL_wR, rR_wI, rR_wL, va_rf_some, va_rf_none, Option.toList_some, Option.toList_none, List.nil_append, List.cons_append, true_and, and_true, false_and, and_false, and_self, if_true, if_false, not_true_eq_false, not_false_eq_true, or_false, false_or, or_true, true_or, or_self, ite_true, ite_false, Option.some.injEq, reduceCtorEq, Nat.reduceMod, Nat.reduceDiv, Nat.reduceLeDiff, Nat.reduceEqDiff, Nat.reduceAdd, Nat.reduceMul, Nat.reduceSub, Nat.reduceLT, sw_nil, sw_int, sw_long, sw_ref, li, lo, nI_m1, ng_eq, nn_eq, en_eq, ng_le, ng_lt, Int32.neg_neg, nI_add, pk_mul, nI_clampO, nI_ltO, nI_leO, nI_eqO, nI_subO, nle_t, nle_f, nlt_t, nlt_f, neq_f, m3, p3, q3', g5]
          · have g5 := c143f (d := d + 5 * e' + 6) s1 (x := nI 41)
            refine ⟨ν2, ⟨PFr_tr m1 (PFr_tr p1 q1), Or.inr ⟨f, n, s1, by simp only [List.length_cons]; omega, by rw [hm]; exact s3⟩⟩, fun Q => ?_⟩
            rw [head]
            simp (disch := first | assumption | omega) only [r169_129, r169_130, r169_132, r169_135, r169_154, r169_155, r169_157, r169_160, r169_163, r169_164, r169_165, r169_166, r169_167, r169_170, r169_171, r169_173, r169_176, r169_220, rI_wI, rL_wL, rR_wR, rI_wL, rI_wR, rL_wI, rL_wR, rR_wI, rR_wL, va_rf_some, va_rf_none, Option.toList_some, Option.toList_none, List.nil_append, List.cons_append, true_and, and_true, false_and, and_false, and_self, if_true, if_false, not_true_eq_false, not_false_eq_true, or_false, false_or, or_true, true_or, or_self, ite_true, ite_false, Option.some.injEq, reduceCtorEq, Nat.reduceMod, Nat.reduceDiv, Nat.reduceLeDiff, Nat.reduceEqDiff, Nat.reduceAdd, Nat.reduceMul, Nat.reduceSub, Nat.reduceLT, sw_nil, sw_int, sw_long, sw_ref, li, lo, nI_m1, ng_eq, nn_eq, en_eq, ng_le, ng_lt, Int32.neg_neg, nI_add, pk_mul, nI_clampO, nI_ltO, nI_leO, nI_eqO, nI_subO, nle_t, nle_f, nlt_t, nlt_f, neq_f, m3, p3, q3', g5]
        · obtain ⟨νb, o1, o2, o3⟩ := c144n (d := d + 5 * e' + 6) m2 (c := 40) (by omega) (by omega) h40
          cases T with
          | nil => exact hS.2.2.2.1.1.1.elim
          | cons t T' =>
            have hb' : c0 + κ.length + (T'.length + 1) ≤ 1000 := by simpa using hb
            have h23' : ¬ t.2.1 = 23 := h23
            have h40' : ¬ t.2.1 = 40 := h40
            -- the code that is told
            have hcd : ∃ c : Cod, (t.2.1 = 29 ∧ c = (1, n10 t.2.2.1) ∨ t.2.1 ≠ 29 ∧ fal k t.2.1 ∧ c = (2, fci t.2.1)) ∧ mac k (t :: T') σ true κ = mac k T' (nots σ).2 false (κ ++ c :: (nots σ).1) := by
              rw [mac_t, if_neg (fun q => by rcases q with q | q; exact h23' q; exact h40' q)]
              by_cases b29 : t.2.1 = 29
              · exact ⟨(1, n10 t.2.2.1), Or.inl ⟨b29, rfl⟩, by rw [if_pos b29, if_neg (by omega)]⟩
              · have hfa : fal k t.2.1 := by rcases hv with q | q | q | q; exact absurd q h23; exact absurd q h40; exact absurd q b29; exact q
                exact ⟨(2, fci t.2.1), Or.inr ⟨b29, hfa, rfl⟩, by rw [if_neg b29, pN_t hfa, if_pos rfl, if_neg (by omega)]⟩
            obtain ⟨c, hc, hm⟩ := hcd
            have h30 : t.2.1 ≠ 30 := by
              rcases hc with ⟨q, -⟩ | ⟨-, q, -⟩
              · omega
              · rcases fal_l q with z | z | ⟨-, z | z | z⟩ <;> omega
            have ce := c164 (d := d + 5 * e' + 7) o2.1 o2.2.2.2.2.1 (by omega) (o := nI c.1) (a := nI c.2)
            have s5 := em_SX o2 c
            obtain ⟨i, z1, z2, z3⟩ := at1 s5 h30
            refine ⟨_, ⟨PFr_tr m1 (PFr_tr o1 (PFr_tr (em_PF (n := κ.length) νb (nI c.1) (nI c.2)) (PFr_w c0 _ (nI (i + 1)) (j := 7) (by omega)))), Or.inl ⟨κ ++ [c], T', z3, by rw [List.length_append]; simp only [List.length_cons, List.length_nil]; omega, by simp only [List.length_cons]; omega, ?_⟩⟩, fun Q => ?_⟩
            · rw [hm, List.append_assoc]
              rfl
            · rw [head]
              obtain ⟨ok, i', y1, y2, y3⟩ := RT_h o2.2.2.2.1.1
              have hFb := o2.1
              rcases hc with ⟨q1, q2⟩ | ⟨q1, q2, q3⟩
              · subst q2
                have yv := y3.2.2.2.1 q1
                have yv' : rL νb 114100221 i' = lN (n10 t.2.2.1) := yv
                have q1' : (hdT (t :: T')).2.1 = 29 := q1
                rw [if_pos q1', if_neg (by rw [fci_p (Or.inr (Or.inr q1'))]; split <;> omega), fI_z]
                have ce' : ∀ Q, R (d + 5 * e' + 7) 164 0 [some (.ref 110000011), some (.int (nI 1)), some (.int (nI (n10 t.2.2.1)))] [] νb Q = Q none (em νb (c0 + κ.length) (nI 1) (nI (n10 t.2.2.1))) := ce
                simp (disch := first | assumption | omega) only [r169_129, r169_130, r169_132, r169_135, r169_154, r169_155, r169_157, r169_160, r169_179, r169_180, j169_181, r169_189, r169_190, r169_193, r169_194, r169_197, r169_198, r169_201, r169_202, r169_203, r169_207, r169_210, r169_211, r169_212, r169_215, r169_216, r169_217, r169_220, rI_wI, rL_wL, rR_wR, rI_wL, rI_wR, rL_wI, rL_wR, rR_wI, rR_wL, va_rf_some, va_rf_none, Option.toList_some, Option.toList_none, List.nil_append, List.cons_append, true_and, and_true, false_and, and_false, and_self, if_true, if_false, not_true_eq_false, not_false_eq_true, or_false, false_or, or_true, true_or, or_self, ite_true, ite_false, Option.some.injEq, reduceCtorEq, Nat.reduceMod, Nat.reduceDiv, Nat.reduceLeDiff, Nat.reduceEqDiff, Nat.reduceAdd, Nat.reduceMul, Nat.reduceSub, Nat.reduceLT, sw_nil, sw_int, sw_long, sw_ref, li, lo, nI_m1, ng_eq, nn_eq, en_eq, ng_le, ng_lt, Int32.neg_neg, nI_add, pk_mul, nI_clampO, nI_ltO, nI_leO, nI_eqO, nI_subO, nle_t, nle_f, nlt_t, nlt_f, neq_f, fx_2000010_0, fx_2000010_1, fx_2000010_4, fx_2000010_5, fx_2000010_6, fx_2000010_8, fx_2000010_10, fx_2000010_11, fx_2000010_12, fx_2000010_13, fx_2000010_14, fx_2000010_15, fx_2000010_16, fx_2000010_17, fx_2000010_18, fx_3000009_0, fx_5000007_0, fx_5000007_1, fx_5000007_2, fx_5000007_3, fx_7000001_0, fx_11000005_1, fx_11000005_2, fx_11000005_3, fx_11000005_4, fx_11000005_5, fx_11000005_6, fx_11000005_10, fx_11000005_11, fx_11000005_12, fx_20000002_0, fx_20000002_2, fx_20000002_3, fx_20000002_4, fx_25000005_1, fx_25000005_2, fx_25000005_3, fx_25000005_4, fx_25000005_5, fx_25000005_6, fx_25000005_10, fx_25000005_11, fx_25000005_12, fx_34000002_0, fx_34000002_2, fx_34000002_3, fx_34000002_4, fx_39000008_0, fx_41000006_0, fx_42002024_0, fx_42002024_1, fx_42002024_2, fx_42002024_3, fx_42002024_4, fx_42002024_5, fx_42002024_6, fx_42002024_7, fx_42002024_8, fx_42002024_9, fx_42002024_10, fx_42002024_11, fx_42002024_12, fx_42002024_13, fx_42002024_14, fx_42002024_15, fx_42002024_16, fx_42002024_17, fx_42002024_18, fx_42002024_19, fx_43000008_0, fx_45000008_0, fx_47000008_0, fx_49000008_0, fx_51000008_0, fx_53000008_0, fx_55000008_0, fx_57000008_0, fx_59000008_0, fx_61000008_0, fx_63000008_0, fx_65000008_0, fx_67000008_0, fx_69000008_0, fx_71000008_0, fx_73000008_0, fx_75000008_0, fx_77000008_0, fx_79000008_0, fx_81000008_0, fx_83000424_0, fx_83000424_1, fx_83000424_2, fx_83000424_3, fx_85000004_0, fx_85000004_1, fx_85000004_2, fx_85000004_3, fx_85000004_4, fx_85000004_5, fx_85000004_6, fx_85000004_10, fx_102000008_0, fx_104000008_0, fx_106000008_0, fx_108000008_0, fx_110000011_1, fx_110000011_4, fx_110000011_5, fx_110000011_6, fx_110000011_9, fx_110000011_10, fx_110000011_11, fx_110000011_12, fx_110000011_14, fx_110000011_15, fx_110000011_20, fx_110000011_21, fx_110000011_22, fx_110000011_23, fx_110000011_25, fx_110000011_26, fx_110000011_31, fx_110000011_32, fx_110000011_37, fx_110000011_38, fx_110000011_39, fx_110000011_40, m3, o3, y2, yv', lN_i, ce', z2]
              · subst q3
                have q1' : ¬ (hdT (t :: T')).2.1 = 29 := q1
                have q2' : fci (hdT (t :: T')).2.1 < (if k = 2 then 2 else 5) := q2
                have hfb := fci_5 q2
                rw [if_neg q1', if_pos q2', fI_s]
                have ce' : ∀ Q, R (d + 5 * e' + 7) 164 0 [some (.ref 110000011), some (.int (nI 2)), some (.int (nI (fci (hdT (t :: T')).2.1)))] [] νb Q = Q none (em νb (c0 + κ.length) (nI 2) (nI (fci t.2.1))) := ce
                simp (disch := first | assumption | omega) only [r169_129, r169_130, r169_132, r169_135, r169_154, r169_155, r169_157, r169_160, r169_179, r169_180, j169_181, r169_189, r169_190, r169_206, r169_207, r169_210, r169_211, r169_212, r169_215, r169_216, r169_217, r169_220, rI_wI, rL_wL, rR_wR, rI_wL, rI_wR, rL_wI, rL_wR, rR_wI, rR_wL, va_rf_some, va_rf_none, Option.toList_some, Option.toList_none, List.nil_append, List.cons_append, true_and, and_true, false_and, and_false, and_self, if_true, if_false, not_true_eq_false, not_false_eq_true, or_false, false_or, or_true, true_or, or_self, ite_true, ite_false, Option.some.injEq, reduceCtorEq, Nat.reduceMod, Nat.reduceDiv, Nat.reduceLeDiff, Nat.reduceEqDiff, Nat.reduceAdd, Nat.reduceMul, Nat.reduceSub, Nat.reduceLT, sw_nil, sw_int, sw_long, sw_ref, li, lo, nI_m1, ng_eq, nn_eq, en_eq, ng_le, ng_lt, Int32.neg_neg, nI_add, pk_mul, nI_clampO, nI_ltO, nI_leO, nI_eqO, nI_subO, nle_t, nle_f, nlt_t, nlt_f, neq_f, fx_2000010_0, fx_2000010_1, fx_2000010_4, fx_2000010_5, fx_2000010_6, fx_2000010_8, fx_2000010_10, fx_2000010_11, fx_2000010_12, fx_2000010_13, fx_2000010_14, fx_2000010_15, fx_2000010_16, fx_2000010_17, fx_2000010_18, fx_3000009_0, fx_5000007_0, fx_5000007_1, fx_5000007_2, fx_5000007_3, fx_7000001_0, fx_11000005_1, fx_11000005_2, fx_11000005_3, fx_11000005_4, fx_11000005_5, fx_11000005_6, fx_11000005_10, fx_11000005_11, fx_11000005_12, fx_20000002_0, fx_20000002_2, fx_20000002_3, fx_20000002_4, fx_25000005_1, fx_25000005_2, fx_25000005_3, fx_25000005_4, fx_25000005_5, fx_25000005_6, fx_25000005_10, fx_25000005_11, fx_25000005_12, fx_34000002_0, fx_34000002_2, fx_34000002_3, fx_34000002_4, fx_39000008_0, fx_41000006_0, fx_42002024_0, fx_42002024_1, fx_42002024_2, fx_42002024_3, fx_42002024_4, fx_42002024_5, fx_42002024_6, fx_42002024_7, fx_42002024_8, fx_42002024_9, fx_42002024_10, fx_42002024_11, fx_42002024_12, fx_42002024_13, fx_42002024_14, fx_42002024_15, fx_42002024_16, fx_42002024_17, fx_42002024_18, fx_42002024_19, fx_43000008_0, fx_45000008_0, fx_47000008_0, fx_49000008_0, fx_51000008_0, fx_53000008_0, fx_55000008_0, fx_57000008_0, fx_59000008_0, fx_61000008_0, fx_63000008_0, fx_65000008_0, fx_67000008_0, fx_69000008_0, fx_71000008_0, fx_73000008_0, fx_75000008_0, fx_77000008_0, fx_79000008_0, fx_81000008_0, fx_83000424_0, fx_83000424_1, fx_83000424_2, fx_83000424_3, fx_85000004_0, fx_85000004_1, fx_85000004_2, fx_85000004_3, fx_85000004_4, fx_85000004_5, fx_85000004_6, fx_85000004_10, fx_102000008_0, fx_104000008_0, fx_106000008_0, fx_108000008_0, fx_110000011_1, fx_110000011_4, fx_110000011_5, fx_110000011_6, fx_110000011_9, fx_110000011_10, fx_110000011_11, fx_110000011_12, fx_110000011_14, fx_110000011_15, fx_110000011_20, fx_110000011_21, fx_110000011_22, fx_110000011_23, fx_110000011_25, fx_110000011_26, fx_110000011_31, fx_110000011_32, fx_110000011_37, fx_110000011_38, fx_110000011_39, fx_110000011_40, m3, o3, ce', z2]
    · obtain ⟨f, f1, f2, f3⟩ := c169_0 (d := d + 5 * e' + 5) hk (show e ≤ 5 by omega) hS hn (Or.inl hv)
      exact ⟨_, ⟨PFr_w c0 μ _ (by omega), Or.inr ⟨f, κ.length, f1, by omega, f2⟩⟩, fun Q => f3 Q⟩
end T1
