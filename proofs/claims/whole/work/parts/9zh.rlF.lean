/-! A LINE AND ALL LINES: THE REFERENCE -/
section T1
variable {d : Nat} {μ : PM} {T : List Tok} {S : SS} {c0 : Nat}
def LO (μ ν : PM) (S : SS) (T : List Tok) (c0 : Nat) : Prop := GQ μ ν ∧ ((RM ν (snx (lnA S T)) ∧ ∀ p, lnA S T = .ok p → ∃ c1, c1 + p.2.length ≤ c0 + T.length ∧ MZ ν p.1 c1) ∨ ∃ T', RM ν (.ok T') ∧ (hdT T').2.1 ≠ 59 ∧ lnA S T = .error (flT 1 T'))
theorem LO_e {ν : PM} {f : Nat} (h1 : GQ μ ν) (h2 : RM ν (.error f)) (h3 : lnA S T = .error f) : LO μ ν S T c0 := ⟨h1, Or.inl ⟨by rw [h3]; exact h2, fun p q => (by rw [h3] at q; cases q)⟩⟩
theorem LO_o {ν : PM} {r : Except Nat (SS × List Tok)} (hS : SI S) (hG : GT T) (h1 : GQ μ ν) (h3 : lnA S T = r) (h2 : RM ν (snx r)) (h4 : ∀ p, r = .ok p → MZ ν p.1 c0) : LO μ ν S T c0 := by
  refine ⟨h1, Or.inl ⟨by rw [h3]; exact h2, fun p q => ⟨c0, ?_, h4 p (h3.symm.trans q)⟩⟩⟩
  have := (lnA_SI hS hG q).2
  omega
theorem m155t (h : RM μ (.ok T)) (hZ : MZ μ S c0) (hS : SI S) (ht : (hdT T).2.1 = 16) : ∃ ν, LO μ ν S T c0 ∧ ∀ Q, R (d + 1) 155 104 [some (.ref 110000011)] [] μ Q = Q none ν := by
  have hF := h.1
  have hX := h.2.2.2 T rfl
  have hG := RX_GT hX
  have p98 : rI μ 116018820 98 = nI (S.1 4) := hZ.1 4 (by omega) (by omega)
  rw [hS.2.2.2.2.2.2.1] at p98
  have hO : isO 16 := by unfold isO; omega
  rcases bt_01 S.2.2.2 16 with e | e
  · rw [e] at p98
    obtain ⟨i, i1, i2, i3⟩ := RX_tl hX (by omega)
    have eA := (lnA_1 ht hO e).trans ln1_16
    have A1 : AQ (wI μ 116018820 98 (nI 1)) (wI (wI μ 116018820 98 (nI 1)) 110000011 7 (nI (i + 1))) := AQ_w _ _ (Or.inl rfl)
    refine ⟨wI (wI μ 116018820 98 (nI 1)) 110000011 7 (nI (i + 1)), LO_o hS hG (GQ_tr (GQ_p μ _ (by omega)) (GQ_m _ _ (by omega))) eA ?_ (fun p q => ?_), fun Q => ?_⟩
    · refine RM_o hF (AQ_MC A1 (RM_p h 98 (nI 1)).2.1) (RX_o i3 ?_ ?_ (fun j => ⟨?_, ?_, rfl⟩))
      · rw [rI_wI, if_pos ⟨rfl, rfl⟩, rI_wI, if_pos ⟨rfl, rfl⟩]
      · repeat rw [rI_wI, if_neg (by omega)]
      · repeat rw [rI_wI, if_neg (by omega)]
      · repeat rw [rI_wI, if_neg (by omega)]
    · cases q
      refine MZ_u (by omega) hZ (fun j => ?_) (fun a j q1 q2 => ?_) (fun a j => rfl) ?_ ?_
      · rw [rI_wI, if_neg (by omega), rI_wI]
        by_cases w : j = 94 + 4
        · rw [if_pos ⟨rfl, by omega⟩, if_pos w]
        · rw [if_neg (by omega), if_neg w]
      · rw [rI_wI, if_neg (by omega), rI_wI, if_neg (by omega)]
      · rw [bt_or, if_neg (by omega), rI_wI, if_neg (by omega), rI_wI, if_neg (by omega)]; exact hZ.2.2.2.1
      · rw [bt_or, if_neg (by omega), rI_wI, if_neg (by omega), rI_wI, if_neg (by omega)]; exact hZ.2.2.2.2.1
    · simp (disch := first | assumption | omega) only [r155_0, r155_1, r155_2, r155_5, r155_8, r155_9, r155_10, r155_13, r155_16, r155_17, r155_20, r155_23, r155_24, r155_25, r155_28, r155_31, r155_32, r155_35, r155_38, r155_39, r155_41, r155_44, r155_47, r155_48, r155_50, r155_53, r155_56, r155_57, r155_60, r155_63, r155_64, r155_66, r155_69, r155_72, r155_73, r155_76, r155_79, r155_80, r155_82, r155_85, r155_88, r155_89, r155_92, r155_95, r155_96, r155_98, r155_101, r155_104, r155_105, r155_108, r155_110, r155_111, r155_112, r155_115, r155_116, r155_117, r155_120, r155_121, r155_122, r155_125, r155_127, r155_128, r155_129, r155_130, r155_130i, r155_131, r155_134, r155_135, r155_136, r155_139, r155_142, r155_143, r155_146, rI_wI, rL_wL, rR_wR, rI_wL, rI_wR, rL_wI, rL_wR, rR_wI, rR_wL, va_rf_some, va_rf_none, Option.toList_some, Option.toList_none, List.nil_append, List.cons_append, true_and, and_true, false_and, and_false, and_self, if_true, if_false, not_true_eq_false, not_false_eq_true, or_false, false_or, or_true, true_or, or_self, ite_true, ite_false, Option.some.injEq, reduceCtorEq, Nat.reduceMod, Nat.reduceDiv, Nat.reduceLeDiff, Nat.reduceEqDiff, Nat.reduceAdd, Nat.reduceMul, Nat.reduceSub, Nat.reduceLT, sw_nil, sw_int, sw_long, sw_ref, li, lo, nI_m1, ng_eq, nn_eq, en_eq, ng_le, ng_lt, Int32.neg_neg, nI_add, pk_mul, nI_clampO, nI_ltO, nI_leO, nI_eqO, nI_subO, nle_t, nle_f, nlt_t, nlt_f, neq_f, fx_2000010_0, fx_2000010_1, fx_2000010_4, fx_2000010_5, fx_2000010_6, fx_2000010_8, fx_2000010_10, fx_2000010_11, fx_2000010_12, fx_2000010_13, fx_2000010_14, fx_2000010_15, fx_2000010_16, fx_2000010_17, fx_2000010_18, fx_3000009_0, fx_5000007_0, fx_5000007_1, fx_5000007_2, fx_5000007_3, fx_7000001_0, fx_11000005_1, fx_11000005_2, fx_11000005_3, fx_11000005_4, fx_11000005_5, fx_11000005_6, fx_11000005_10, fx_11000005_11, fx_11000005_12, fx_20000002_0, fx_20000002_2, fx_20000002_3, fx_20000002_4, fx_25000005_1, fx_25000005_2, fx_25000005_3, fx_25000005_4, fx_25000005_5, fx_25000005_6, fx_25000005_10, fx_25000005_11, fx_25000005_12, fx_34000002_0, fx_34000002_2, fx_34000002_3, fx_34000002_4, fx_39000008_0, fx_41000006_0, fx_42002024_0, fx_42002024_1, fx_42002024_2, fx_42002024_3, fx_42002024_4, fx_42002024_5, fx_42002024_6, fx_42002024_7, fx_42002024_8, fx_42002024_9, fx_42002024_10, fx_42002024_11, fx_42002024_12, fx_42002024_13, fx_42002024_14, fx_42002024_15, fx_42002024_16, fx_42002024_17, fx_42002024_18, fx_42002024_19, fx_43000008_0, fx_45000008_0, fx_47000008_0, fx_49000008_0, fx_51000008_0, fx_53000008_0, fx_55000008_0, fx_57000008_0, fx_59000008_0, fx_61000008_0, fx_63000008_0, fx_65000008_0, fx_67000008_0, fx_69000008_0, fx_71000008_0, fx_73000008_0, fx_75000008_0, fx_77000008_0, fx_79000008_0, fx_81000008_0, fx_83000424_0, fx_83000424_1, fx_83000424_2, fx_83000424_3, fx_85000004_0, fx_85000004_1, fx_85000004_2, fx_85000004_3, fx_85000004_4, fx_85000004_5, fx_85000004_6, fx_85000004_10, fx_102000008_0, fx_104000008_0, fx_106000008_0, fx_108000008_0, fx_110000011_1, fx_110000011_4, fx_110000011_5, fx_110000011_6, fx_110000011_9, fx_110000011_10, fx_110000011_11, fx_110000011_12, fx_110000011_14, fx_110000011_15, fx_110000011_20, fx_110000011_21, fx_110000011_22, fx_110000011_23, fx_110000011_25, fx_110000011_26, fx_110000011_31, fx_110000011_32, fx_110000011_37, fx_110000011_38, fx_110000011_39, fx_110000011_40, p98, i2]
  · rw [e] at p98
    obtain ⟨l1, l2⟩ := m140 (d := d) hF h.2.1 hX (k := 3) (by omega) (by omega)
    refine ⟨_, LO_e (GQ_m μ _ (by omega)) l1 (lnA_1a ht hO e), fun Q => ?_⟩
    simp (disch := first | assumption | omega) only [r155_0, r155_1, r155_2, r155_5, r155_8, r155_9, r155_10, r155_13, r155_16, r155_17, r155_20, r155_23, r155_24, r155_25, r155_28, r155_31, r155_32, r155_35, r155_38, r155_39, r155_41, r155_44, r155_47, r155_48, r155_50, r155_53, r155_56, r155_57, r155_60, r155_63, r155_64, r155_66, r155_69, r155_72, r155_73, r155_76, r155_79, r155_80, r155_82, r155_85, r155_88, r155_89, r155_92, r155_95, r155_96, r155_98, r155_101, r155_104, r155_105, r155_108, r155_110, r155_111, r155_112, r155_115, r155_116, r155_117, r155_120, r155_121, r155_122, r155_125, r155_127, r155_128, r155_129, r155_130, r155_130i, r155_131, r155_134, r155_135, r155_136, r155_139, r155_142, r155_143, r155_146, rI_wI, rL_wL, rR_wR, rI_wL, rI_wR, rL_wI, rL_wR, rR_wI, rR_wL, va_rf_some, va_rf_none, Option.toList_some, Option.toList_none, List.nil_append, List.cons_append, true_and, and_true, false_and, and_false, and_self, if_true, if_false, not_true_eq_false, not_false_eq_true, or_false, false_or, or_true, true_or, or_self, ite_true, ite_false, Option.some.injEq, reduceCtorEq, Nat.reduceMod, Nat.reduceDiv, Nat.reduceLeDiff, Nat.reduceEqDiff, Nat.reduceAdd, Nat.reduceMul, Nat.reduceSub, Nat.reduceLT, sw_nil, sw_int, sw_long, sw_ref, li, lo, nI_m1, ng_eq, nn_eq, en_eq, ng_le, ng_lt, Int32.neg_neg, nI_add, pk_mul, nI_clampO, nI_ltO, nI_leO, nI_eqO, nI_subO, nle_t, nle_f, nlt_t, nlt_f, neq_f, fx_2000010_0, fx_2000010_1, fx_2000010_4, fx_2000010_5, fx_2000010_6, fx_2000010_8, fx_2000010_10, fx_2000010_11, fx_2000010_12, fx_2000010_13, fx_2000010_14, fx_2000010_15, fx_2000010_16, fx_2000010_17, fx_2000010_18, fx_3000009_0, fx_5000007_0, fx_5000007_1, fx_5000007_2, fx_5000007_3, fx_7000001_0, fx_11000005_1, fx_11000005_2, fx_11000005_3, fx_11000005_4, fx_11000005_5, fx_11000005_6, fx_11000005_10, fx_11000005_11, fx_11000005_12, fx_20000002_0, fx_20000002_2, fx_20000002_3, fx_20000002_4, fx_25000005_1, fx_25000005_2, fx_25000005_3, fx_25000005_4, fx_25000005_5, fx_25000005_6, fx_25000005_10, fx_25000005_11, fx_25000005_12, fx_34000002_0, fx_34000002_2, fx_34000002_3, fx_34000002_4, fx_39000008_0, fx_41000006_0, fx_42002024_0, fx_42002024_1, fx_42002024_2, fx_42002024_3, fx_42002024_4, fx_42002024_5, fx_42002024_6, fx_42002024_7, fx_42002024_8, fx_42002024_9, fx_42002024_10, fx_42002024_11, fx_42002024_12, fx_42002024_13, fx_42002024_14, fx_42002024_15, fx_42002024_16, fx_42002024_17, fx_42002024_18, fx_42002024_19, fx_43000008_0, fx_45000008_0, fx_47000008_0, fx_49000008_0, fx_51000008_0, fx_53000008_0, fx_55000008_0, fx_57000008_0, fx_59000008_0, fx_61000008_0, fx_63000008_0, fx_65000008_0, fx_67000008_0, fx_69000008_0, fx_71000008_0, fx_73000008_0, fx_75000008_0, fx_77000008_0, fx_79000008_0, fx_81000008_0, fx_83000424_0, fx_83000424_1, fx_83000424_2, fx_83000424_3, fx_85000004_0, fx_85000004_1, fx_85000004_2, fx_85000004_3, fx_85000004_4, fx_85000004_5, fx_85000004_6, fx_85000004_10, fx_102000008_0, fx_104000008_0, fx_106000008_0, fx_108000008_0, fx_110000011_1, fx_110000011_4, fx_110000011_5, fx_110000011_6, fx_110000011_9, fx_110000011_10, fx_110000011_11, fx_110000011_12, fx_110000011_14, fx_110000011_15, fx_110000011_20, fx_110000011_21, fx_110000011_22, fx_110000011_23, fx_110000011_25, fx_110000011_26, fx_110000011_31, fx_110000011_32, fx_110000011_37, fx_110000011_38, fx_110000011_39, fx_110000011_40, p98, l2]
theorem m155l (h : RM μ (.ok T)) (hZ : MZ μ S c0) (hS : SI S) (hc : c0 + T.length ≤ 1001) {k : Nat} (hk : k < 3) (ht : (hdT T).2.1 = 7 + k) : ∃ ν, LO μ ν S T c0 ∧ ∀ Q, R (d + 33) 163 0 [some (.ref 110000011), none] [] μ Q = Q none ν := by
  have hO : isO (7 + k) := by unfold isO; omega
  have hs := (hS.2.2.2.2.2.2.2 k hk).1
  have hX := h.2.2.2 T rfl
  rcases bt_01 S.2.2.2 (7 + k) with e | e
  · have eA := lnA_1 ht hO e
    obtain ⟨ν, g1, g2, g3⟩ := m163 (d := d) h hZ hS hk ht hc (hs.mpr e) rfl
    refine ⟨ν, ⟨g1, ?_⟩, g3⟩
    rw [eA]
    exact g2
  · obtain ⟨ν, g1, g2, g3⟩ := m163f (d := d + 32) h hZ hk ht (by omega) (fun q => by have := hs.mp q; omega)
    exact ⟨ν, LO_e g1 g2 (lnA_1a ht hO e), g3⟩
theorem m155 (h : RM μ (.ok T)) (hZ : MZ μ S c0) (hS : SI S) (h30 : (hdT T).2.1 ≠ 30) (hc : c0 + T.length ≤ 1001) : ∃ ν, LO μ ν S T c0 ∧ ∀ Q, R (d + 34) 155 0 [some (.ref 110000011)] [] μ Q = Q none ν := by
  have hF := h.1
  have hX := h.2.2.2 T rfl
  have hG := RX_GT hX
  obtain ⟨t, ht⟩ : ∃ t, (hdT T).2.1 = t := ⟨_, rfl⟩
  have kw : ∀ w, w < 28 → ∀ Q, R (d + 33) 142 0 [some (.ref 110000011), some (.int (nI w))] [] μ Q = Q (some (.int (nI (if t = w then 1 else 0)))) μ := fun w hw => by
    rw [← ht]
    exact c142 hF h.2.1 hX hw
  have k0 := kw 0 (by omega)
  have k1 := kw 1 (by omega)
  have k4 := kw 4 (by omega)
  have k10 := kw 10 (by omega)
  have k11 := kw 11 (by omega)
  have k12 := kw 12 (by omega)
  have k15 := kw 15 (by omega)
  have k16 := kw 16 (by omega)
  rw [ht] at h30
  by_cases e1 : t = 0 ∨ t = 1
  · by_cases e2 : S.1 0 < 7
    · obtain ⟨ν, g1, g2, g3, g4⟩ := m157 (d := d + 29) h hZ hS e2 (wm := t) (by omega) ht
      have g4 : ∀ Q, R (d + 33) 157 0 [some (.ref 110000011), none, none, none, none] [] μ Q = Q none ν := g4
      refine ⟨ν, LO_o hS hG g1 (lnA_P ht e1 e2) g2 g3, fun Q => ?_⟩
      rcases e1 with rfl | rfl <;> simp (disch := first | assumption | omega) only [r155_0, r155_1, r155_2, r155_5, r155_8, r155_9, r155_10, r155_13, r155_16, r155_17, r155_20, r155_23, r155_24, r155_25, r155_28, r155_31, r155_32, r155_35, r155_38, r155_39, r155_41, r155_44, r155_47, r155_48, r155_50, r155_53, r155_56, r155_57, r155_60, r155_63, r155_64, r155_66, r155_69, r155_72, r155_73, r155_76, r155_79, r155_80, r155_82, r155_85, r155_88, r155_89, r155_92, r155_95, r155_96, r155_98, r155_101, r155_104, r155_105, r155_108, r155_110, r155_111, r155_112, r155_115, r155_116, r155_117, r155_120, r155_121, r155_122, r155_125, r155_127, r155_128, r155_129, r155_130, r155_130i, r155_131, r155_134, r155_135, r155_136, r155_139, r155_142, r155_143, r155_146, rI_wI, rL_wL, rR_wR, rI_wL, rI_wR, rL_wI, rL_wR, rR_wI, rR_wL, va_rf_some, va_rf_none, Option.toList_some, Option.toList_none, List.nil_append, List.cons_append, true_and, and_true, false_and, and_false, and_self, if_true, if_false, not_true_eq_false, not_false_eq_true, or_false, false_or, or_true, true_or, or_self, ite_true, ite_false, Option.some.injEq, reduceCtorEq, Nat.reduceMod, Nat.reduceDiv, Nat.reduceLeDiff, Nat.reduceEqDiff, Nat.reduceAdd, Nat.reduceMul, Nat.reduceSub, Nat.reduceLT, sw_nil, sw_int, sw_long, sw_ref, li, lo, nI_m1, ng_eq, nn_eq, en_eq, ng_le, ng_lt, Int32.neg_neg, nI_add, pk_mul, nI_clampO, nI_ltO, nI_leO, nI_eqO, nI_subO, nle_t, nle_f, nlt_t, nlt_f, neq_f, k0, k1, g4]
    · obtain ⟨g1, g2⟩ := m157f (d := d + 32) hF h.2.1 hX hZ hS (by omega)
      refine ⟨_, LO_e (GQ_m μ _ (by omega)) g1 (lnA_P7 ht e1 (by omega)), fun Q => ?_⟩
      rcases e1 with rfl | rfl <;> simp (disch := first | assumption | omega) only [r155_0, r155_1, r155_2, r155_5, r155_8, r155_9, r155_10, r155_13, r155_16, r155_17, r155_20, r155_23, r155_24, r155_25, r155_28, r155_31, r155_32, r155_35, r155_38, r155_39, r155_41, r155_44, r155_47, r155_48, r155_50, r155_53, r155_56, r155_57, r155_60, r155_63, r155_64, r155_66, r155_69, r155_72, r155_73, r155_76, r155_79, r155_80, r155_82, r155_85, r155_88, r155_89, r155_92, r155_95, r155_96, r155_98, r155_101, r155_104, r155_105, r155_108, r155_110, r155_111, r155_112, r155_115, r155_116, r155_117, r155_120, r155_121, r155_122, r155_125, r155_127, r155_128, r155_129, r155_130, r155_130i, r155_131, r155_134, r155_135, r155_136, r155_139, r155_142, r155_143, r155_146, rI_wI, rL_wL, rR_wR, rI_wL, rI_wR, rL_wI, rL_wR, rR_wI, rR_wL, va_rf_some, va_rf_none, Option.toList_some, Option.toList_none, List.nil_append, List.cons_append, true_and, and_true, false_and, and_false, and_self, if_true, if_false, not_true_eq_false, not_false_eq_true, or_false, false_or, or_true, true_or, or_self, ite_true, ite_false, Option.some.injEq, reduceCtorEq, Nat.reduceMod, Nat.reduceDiv, Nat.reduceLeDiff, Nat.reduceEqDiff, Nat.reduceAdd, Nat.reduceMul, Nat.reduceSub, Nat.reduceLT, sw_nil, sw_int, sw_long, sw_ref, li, lo, nI_m1, ng_eq, nn_eq, en_eq, ng_le, ng_lt, Int32.neg_neg, nI_add, pk_mul, nI_clampO, nI_ltO, nI_leO, nI_eqO, nI_subO, nle_t, nle_f, nlt_t, nlt_f, neq_f, k0, k1, g2]
  by_cases e2 : t = 4
  · subst e2
    by_cases e3 : S.1 1 < 4
    · obtain ⟨ν, g1, g2, g3, g4⟩ := m158 (d := d + 29) h hZ hS e3 (by omega)
      have g4 : ∀ Q, R (d + 33) 158 0 [some (.ref 110000011), none] [] μ Q = Q none ν := g4
      refine ⟨ν, LO_o hS hG g1 (lnA_F ht e3) g2 g3, fun Q => ?_⟩
      simp (disch := first | assumption | omega) only [r155_0, r155_1, r155_2, r155_5, r155_8, r155_9, r155_10, r155_13, r155_16, r155_17, r155_20, r155_23, r155_24, r155_25, r155_28, r155_31, r155_32, r155_35, r155_38, r155_39, r155_41, r155_44, r155_47, r155_48, r155_50, r155_53, r155_56, r155_57, r155_60, r155_63, r155_64, r155_66, r155_69, r155_72, r155_73, r155_76, r155_79, r155_80, r155_82, r155_85, r155_88, r155_89, r155_92, r155_95, r155_96, r155_98, r155_101, r155_104, r155_105, r155_108, r155_110, r155_111, r155_112, r155_115, r155_116, r155_117, r155_120, r155_121, r155_122, r155_125, r155_127, r155_128, r155_129, r155_130, r155_130i, r155_131, r155_134, r155_135, r155_136, r155_139, r155_142, r155_143, r155_146, rI_wI, rL_wL, rR_wR, rI_wL, rI_wR, rL_wI, rL_wR, rR_wI, rR_wL, va_rf_some, va_rf_none, Option.toList_some, Option.toList_none, List.nil_append, List.cons_append, true_and, and_true, false_and, and_false, and_self, if_true, if_false, not_true_eq_false, not_false_eq_true, or_false, false_or, or_true, true_or, or_self, ite_true, ite_false, Option.some.injEq, reduceCtorEq, Nat.reduceMod, Nat.reduceDiv, Nat.reduceLeDiff, Nat.reduceEqDiff, Nat.reduceAdd, Nat.reduceMul, Nat.reduceSub, Nat.reduceLT, sw_nil, sw_int, sw_long, sw_ref, li, lo, nI_m1, ng_eq, nn_eq, en_eq, ng_le, ng_lt, Int32.neg_neg, nI_add, pk_mul, nI_clampO, nI_ltO, nI_leO, nI_eqO, nI_subO, nle_t, nle_f, nlt_t, nlt_f, neq_f, k0, k1, k4, g4]
    · obtain ⟨g1, g2⟩ := m158f (d := d + 32) hF h.2.1 hX hZ hS (by omega)
      refine ⟨_, LO_e (GQ_m μ _ (by omega)) g1 (lnA_F4 ht (by omega)), fun Q => ?_⟩
      simp (disch := first | assumption | omega) only [r155_0, r155_1, r155_2, r155_5, r155_8, r155_9, r155_10, r155_13, r155_16, r155_17, r155_20, r155_23, r155_24, r155_25, r155_28, r155_31, r155_32, r155_35, r155_38, r155_39, r155_41, r155_44, r155_47, r155_48, r155_50, r155_53, r155_56, r155_57, r155_60, r155_63, r155_64, r155_66, r155_69, r155_72, r155_73, r155_76, r155_79, r155_80, r155_82, r155_85, r155_88, r155_89, r155_92, r155_95, r155_96, r155_98, r155_101, r155_104, r155_105, r155_108, r155_110, r155_111, r155_112, r155_115, r155_116, r155_117, r155_120, r155_121, r155_122, r155_125, r155_127, r155_128, r155_129, r155_130, r155_130i, r155_131, r155_134, r155_135, r155_136, r155_139, r155_142, r155_143, r155_146, rI_wI, rL_wL, rR_wR, rI_wL, rI_wR, rL_wI, rL_wR, rR_wI, rR_wL, va_rf_some, va_rf_none, Option.toList_some, Option.toList_none, List.nil_append, List.cons_append, true_and, and_true, false_and, and_false, and_self, if_true, if_false, not_true_eq_false, not_false_eq_true, or_false, false_or, or_true, true_or, or_self, ite_true, ite_false, Option.some.injEq, reduceCtorEq, Nat.reduceMod, Nat.reduceDiv, Nat.reduceLeDiff, Nat.reduceEqDiff, Nat.reduceAdd, Nat.reduceMul, Nat.reduceSub, Nat.reduceLT, sw_nil, sw_int, sw_long, sw_ref, li, lo, nI_m1, ng_eq, nn_eq, en_eq, ng_le, ng_lt, Int32.neg_neg, nI_add, pk_mul, nI_clampO, nI_ltO, nI_leO, nI_eqO, nI_subO, nle_t, nle_f, nlt_t, nlt_f, neq_f, k0, k1, k4, g2]
  by_cases e3 : t = 10 ∨ t = 11
  · obtain ⟨ν, g1, g2, g3, g4⟩ := m160 (d := d + 31) h hZ hS (q := t - 9) (by omega) (by omega)
    have g4 : ∀ Q, R (d + 33) 160 0 [some (.ref 110000011), none, none, none] [] μ Q = Q none ν := g4
    refine ⟨ν, LO_o hS hG g1 (lnA_2 ht e3) g2 g3, fun Q => ?_⟩
    rcases e3 with rfl | rfl <;> simp (disch := first | assumption | omega) only [r155_0, r155_1, r155_2, r155_5, r155_8, r155_9, r155_10, r155_13, r155_16, r155_17, r155_20, r155_23, r155_24, r155_25, r155_28, r155_31, r155_32, r155_35, r155_38, r155_39, r155_41, r155_44, r155_47, r155_48, r155_50, r155_53, r155_56, r155_57, r155_60, r155_63, r155_64, r155_66, r155_69, r155_72, r155_73, r155_76, r155_79, r155_80, r155_82, r155_85, r155_88, r155_89, r155_92, r155_95, r155_96, r155_98, r155_101, r155_104, r155_105, r155_108, r155_110, r155_111, r155_112, r155_115, r155_116, r155_117, r155_120, r155_121, r155_122, r155_125, r155_127, r155_128, r155_129, r155_130, r155_130i, r155_131, r155_134, r155_135, r155_136, r155_139, r155_142, r155_143, r155_146, rI_wI, rL_wL, rR_wR, rI_wL, rI_wR, rL_wI, rL_wR, rR_wI, rR_wL, va_rf_some, va_rf_none, Option.toList_some, Option.toList_none, List.nil_append, List.cons_append, true_and, and_true, false_and, and_false, and_self, if_true, if_false, not_true_eq_false, not_false_eq_true, or_false, false_or, or_true, true_or, or_self, ite_true, ite_false, Option.some.injEq, reduceCtorEq, Nat.reduceMod, Nat.reduceDiv, Nat.reduceLeDiff, Nat.reduceEqDiff, Nat.reduceAdd, Nat.reduceMul, Nat.reduceSub, Nat.reduceLT, sw_nil, sw_int, sw_long, sw_ref, li, lo, nI_m1, ng_eq, nn_eq, en_eq, ng_le, ng_lt, Int32.neg_neg, nI_add, pk_mul, nI_clampO, nI_ltO, nI_leO, nI_eqO, nI_subO, nle_t, nle_f, nlt_t, nlt_f, neq_f, k0, k1, k4, k10, k11, g4]
  by_cases e4 : t = 12
  · subst e4
    have hO : isO 12 := by unfold isO; omega
    rcases bt_01 S.2.2.2 12 with e | e
    · obtain ⟨ν, g1, g2, g3, g4⟩ := m161 (d := d + 32) h hZ hS e (by omega)
      have g4 : ∀ Q, R (d + 33) 161 0 [some (.ref 110000011)] [] μ Q = Q none ν := g4
      refine ⟨ν, LO_o hS hG g1 (lnA_1 ht hO e) g2 g3, fun Q => ?_⟩
      simp (disch := first | assumption | omega) only [r155_0, r155_1, r155_2, r155_5, r155_8, r155_9, r155_10, r155_13, r155_16, r155_17, r155_20, r155_23, r155_24, r155_25, r155_28, r155_31, r155_32, r155_35, r155_38, r155_39, r155_41, r155_44, r155_47, r155_48, r155_50, r155_53, r155_56, r155_57, r155_60, r155_63, r155_64, r155_66, r155_69, r155_72, r155_73, r155_76, r155_79, r155_80, r155_82, r155_85, r155_88, r155_89, r155_92, r155_95, r155_96, r155_98, r155_101, r155_104, r155_105, r155_108, r155_110, r155_111, r155_112, r155_115, r155_116, r155_117, r155_120, r155_121, r155_122, r155_125, r155_127, r155_128, r155_129, r155_130, r155_130i, r155_131, r155_134, r155_135, r155_136, r155_139, r155_142, r155_143, r155_146, rI_wI, rL_wL, rR_wR, rI_wL, rI_wR, rL_wI, rL_wR, rR_wI, rR_wL, va_rf_some, va_rf_none, Option.toList_some, Option.toList_none, List.nil_append, List.cons_append, true_and, and_true, false_and, and_false, and_self, if_true, if_false, not_true_eq_false, not_false_eq_true, or_false, false_or, or_true, true_or, or_self, ite_true, ite_false, Option.some.injEq, reduceCtorEq, Nat.reduceMod, Nat.reduceDiv, Nat.reduceLeDiff, Nat.reduceEqDiff, Nat.reduceAdd, Nat.reduceMul, Nat.reduceSub, Nat.reduceLT, sw_nil, sw_int, sw_long, sw_ref, li, lo, nI_m1, ng_eq, nn_eq, en_eq, ng_le, ng_lt, Int32.neg_neg, nI_add, pk_mul, nI_clampO, nI_ltO, nI_leO, nI_eqO, nI_subO, nle_t, nle_f, nlt_t, nlt_f, neq_f, k0, k1, k4, k10, k11, k12, g4]
    · obtain ⟨g1, g2⟩ := m161f (d := d + 32) h hZ e
      refine ⟨_, LO_e (GQ_m μ _ (by omega)) g1 (lnA_1a ht hO e), fun Q => ?_⟩
      simp (disch := first | assumption | omega) only [r155_0, r155_1, r155_2, r155_5, r155_8, r155_9, r155_10, r155_13, r155_16, r155_17, r155_20, r155_23, r155_24, r155_25, r155_28, r155_31, r155_32, r155_35, r155_38, r155_39, r155_41, r155_44, r155_47, r155_48, r155_50, r155_53, r155_56, r155_57, r155_60, r155_63, r155_64, r155_66, r155_69, r155_72, r155_73, r155_76, r155_79, r155_80, r155_82, r155_85, r155_88, r155_89, r155_92, r155_95, r155_96, r155_98, r155_101, r155_104, r155_105, r155_108, r155_110, r155_111, r155_112, r155_115, r155_116, r155_117, r155_120, r155_121, r155_122, r155_125, r155_127, r155_128, r155_129, r155_130, r155_130i, r155_131, r155_134, r155_135, r155_136, r155_139, r155_142, r155_143, r155_146, rI_wI, rL_wL, rR_wR, rI_wL, rI_wR, rL_wI, rL_wR, rR_wI, rR_wL, va_rf_some, va_rf_none, Option.toList_some, Option.toList_none, List.nil_append, List.cons_append, true_and, and_true, false_and, and_false, and_self, if_true, if_false, not_true_eq_false, not_false_eq_true, or_false, false_or, or_true, true_or, or_self, ite_true, ite_false, Option.some.injEq, reduceCtorEq, Nat.reduceMod, Nat.reduceDiv, Nat.reduceLeDiff, Nat.reduceEqDiff, Nat.reduceAdd, Nat.reduceMul, Nat.reduceSub, Nat.reduceLT, sw_nil, sw_int, sw_long, sw_ref, li, lo, nI_m1, ng_eq, nn_eq, en_eq, ng_le, ng_lt, Int32.neg_neg, nI_add, pk_mul, nI_clampO, nI_ltO, nI_leO, nI_eqO, nI_subO, nle_t, nle_f, nlt_t, nlt_f, neq_f, k0, k1, k4, k10, k11, k12, g2]
  by_cases e5 : t = 15
  · subst e5
    have hO : isO 15 := by unfold isO; omega
    rcases bt_01 S.2.2.2 15 with e | e
    · obtain ⟨ν, g1, g2, g3, g4⟩ := m162 (d := d + 31) h hZ hS e (by omega)
      have g4 : ∀ Q, R (d + 33) 162 0 [some (.ref 110000011)] [] μ Q = Q none ν := g4
      refine ⟨ν, LO_o hS hG g1 (lnA_1 ht hO e) g2 g3, fun Q => ?_⟩
      simp (disch := first | assumption | omega) only [r155_0, r155_1, r155_2, r155_5, r155_8, r155_9, r155_10, r155_13, r155_16, r155_17, r155_20, r155_23, r155_24, r155_25, r155_28, r155_31, r155_32, r155_35, r155_38, r155_39, r155_41, r155_44, r155_47, r155_48, r155_50, r155_53, r155_56, r155_57, r155_60, r155_63, r155_64, r155_66, r155_69, r155_72, r155_73, r155_76, r155_79, r155_80, r155_82, r155_85, r155_88, r155_89, r155_92, r155_95, r155_96, r155_98, r155_101, r155_104, r155_105, r155_108, r155_110, r155_111, r155_112, r155_115, r155_116, r155_117, r155_120, r155_121, r155_122, r155_125, r155_127, r155_128, r155_129, r155_130, r155_130i, r155_131, r155_134, r155_135, r155_136, r155_139, r155_142, r155_143, r155_146, rI_wI, rL_wL, rR_wR, rI_wL, rI_wR, rL_wI, rL_wR, rR_wI, rR_wL, va_rf_some, va_rf_none, Option.toList_some, Option.toList_none, List.nil_append, List.cons_append, true_and, and_true, false_and, and_false, and_self, if_true, if_false, not_true_eq_false, not_false_eq_true, or_false, false_or, or_true, true_or, or_self, ite_true, ite_false, Option.some.injEq, reduceCtorEq, Nat.reduceMod, Nat.reduceDiv, Nat.reduceLeDiff, Nat.reduceEqDiff, Nat.reduceAdd, Nat.reduceMul, Nat.reduceSub, Nat.reduceLT, sw_nil, sw_int, sw_long, sw_ref, li, lo, nI_m1, ng_eq, nn_eq, en_eq, ng_le, ng_lt, Int32.neg_neg, nI_add, pk_mul, nI_clampO, nI_ltO, nI_leO, nI_eqO, nI_subO, nle_t, nle_f, nlt_t, nlt_f, neq_f, k0, k1, k4, k10, k11, k12, k15, g4]
    · obtain ⟨g1, g2⟩ := m162f (d := d + 32) h hZ e
      refine ⟨_, LO_e (GQ_m μ _ (by omega)) g1 (lnA_1a ht hO e), fun Q => ?_⟩
      simp (disch := first | assumption | omega) only [r155_0, r155_1, r155_2, r155_5, r155_8, r155_9, r155_10, r155_13, r155_16, r155_17, r155_20, r155_23, r155_24, r155_25, r155_28, r155_31, r155_32, r155_35, r155_38, r155_39, r155_41, r155_44, r155_47, r155_48, r155_50, r155_53, r155_56, r155_57, r155_60, r155_63, r155_64, r155_66, r155_69, r155_72, r155_73, r155_76, r155_79, r155_80, r155_82, r155_85, r155_88, r155_89, r155_92, r155_95, r155_96, r155_98, r155_101, r155_104, r155_105, r155_108, r155_110, r155_111, r155_112, r155_115, r155_116, r155_117, r155_120, r155_121, r155_122, r155_125, r155_127, r155_128, r155_129, r155_130, r155_130i, r155_131, r155_134, r155_135, r155_136, r155_139, r155_142, r155_143, r155_146, rI_wI, rL_wL, rR_wR, rI_wL, rI_wR, rL_wI, rL_wR, rR_wI, rR_wL, va_rf_some, va_rf_none, Option.toList_some, Option.toList_none, List.nil_append, List.cons_append, true_and, and_true, false_and, and_false, and_self, if_true, if_false, not_true_eq_false, not_false_eq_true, or_false, false_or, or_true, true_or, or_self, ite_true, ite_false, Option.some.injEq, reduceCtorEq, Nat.reduceMod, Nat.reduceDiv, Nat.reduceLeDiff, Nat.reduceEqDiff, Nat.reduceAdd, Nat.reduceMul, Nat.reduceSub, Nat.reduceLT, sw_nil, sw_int, sw_long, sw_ref, li, lo, nI_m1, ng_eq, nn_eq, en_eq, ng_le, ng_lt, Int32.neg_neg, nI_add, pk_mul, nI_clampO, nI_ltO, nI_leO, nI_eqO, nI_subO, nle_t, nle_f, nlt_t, nlt_f, neq_f, k0, k1, k4, k10, k11, k12, k15, g2]
  by_cases e6 : t = 16
  · subst e6
    obtain ⟨ν, g1, g2⟩ := m155t (d := d + 33) h hZ hS ht
    refine ⟨ν, g1, fun Q => ?_⟩
    rw [← g2 Q]
    simp (disch := first | assumption | omega) only [r155_0, r155_1, r155_2, r155_5, r155_8, r155_9, r155_10, r155_13, r155_16, r155_17, r155_20, r155_23, r155_24, r155_25, r155_28, r155_31, r155_32, r155_35, r155_38, r155_39, r155_41, r155_44, r155_47, r155_48, r155_50, r155_53, r155_56, r155_57, r155_60, r155_63, r155_64, r155_66, r155_69, r155_72, r155_73, r155_76, r155_79, r155_80, r155_82, r155_85, r155_88, r155_89, r155_92, r155_95, r155_96, r155_98, r155_101, r155_105, r155_108, r155_110, r155_111, r155_112, r155_115, r155_116, r155_117, r155_120, r155_121, r155_122, r155_125, r155_127, r155_128, r155_129, r155_130, r155_130i, r155_131, r155_134, r155_135, r155_136, r155_139, r155_142, r155_143, r155_146, rI_wI, rL_wL, rR_wR, rI_wL, rI_wR, rL_wI, rL_wR, rR_wI, rR_wL, va_rf_some, va_rf_none, Option.toList_some, Option.toList_none, List.nil_append, List.cons_append, true_and, and_true, false_and, and_false, and_self, if_true, if_false, not_true_eq_false, not_false_eq_true, or_false, false_or, or_true, true_or, or_self, ite_true, ite_false, Option.some.injEq, reduceCtorEq, Nat.reduceMod, Nat.reduceDiv, Nat.reduceLeDiff, Nat.reduceEqDiff, Nat.reduceAdd, Nat.reduceMul, Nat.reduceSub, Nat.reduceLT, sw_nil, sw_int, sw_long, sw_ref, li, lo, nI_m1, ng_eq, nn_eq, en_eq, ng_le, ng_lt, Int32.neg_neg, nI_add, pk_mul, nI_clampO, nI_ltO, nI_leO, nI_eqO, nI_subO, nle_t, nle_f, nlt_t, nlt_f, neq_f, k0, k1, k4, k10, k11, k12, k15, k16]
  rw [if_neg (by omega)] at k0 k1 k4 k10 k11 k12 k15 k16
  by_cases e7 : 7 ≤ t ∧ t ≤ 9
  · obtain ⟨ν, g1, g2⟩ := m155l (d := d) h hZ hS hc (k := t - 7) (by omega) (by omega)
    refine ⟨ν, g1, fun Q => ?_⟩
    simp (disch := first | assumption | omega) only [r155_0, r155_1, r155_2, r155_5, r155_8, r155_9, r155_10, r155_13, r155_16, r155_17, r155_20, r155_23, r155_24, r155_25, r155_28, r155_31, r155_32, r155_35, r155_38, r155_39, r155_41, r155_44, r155_47, r155_48, r155_50, r155_53, r155_56, r155_57, r155_60, r155_63, r155_64, r155_66, r155_69, r155_72, r155_73, r155_76, r155_79, r155_80, r155_82, r155_85, r155_88, r155_89, r155_92, r155_95, r155_96, r155_98, r155_101, r155_104, r155_105, r155_108, r155_110, r155_111, r155_112, r155_115, r155_116, r155_117, r155_120, r155_121, r155_122, r155_125, r155_127, r155_128, r155_129, r155_130, r155_130i, r155_131, r155_134, r155_135, r155_136, r155_139, r155_142, r155_143, r155_146, rI_wI, rL_wL, rR_wR, rI_wL, rI_wR, rL_wI, rL_wR, rR_wI, rR_wL, va_rf_some, va_rf_none, Option.toList_some, Option.toList_none, List.nil_append, List.cons_append, true_and, and_true, false_and, and_false, and_self, if_true, if_false, not_true_eq_false, not_false_eq_true, or_false, false_or, or_true, true_or, or_self, ite_true, ite_false, Option.some.injEq, reduceCtorEq, Nat.reduceMod, Nat.reduceDiv, Nat.reduceLeDiff, Nat.reduceEqDiff, Nat.reduceAdd, Nat.reduceMul, Nat.reduceSub, Nat.reduceLT, sw_nil, sw_int, sw_long, sw_ref, li, lo, nI_m1, ng_eq, nn_eq, en_eq, ng_le, ng_lt, Int32.neg_neg, nI_add, pk_mul, nI_clampO, nI_ltO, nI_leO, nI_eqO, nI_subO, nle_t, nle_f, nlt_t, nlt_f, neq_f, k0, k1, k4, k10, k11, k12, k15, k16, g2]
  · obtain ⟨ν, g1, g2, g3⟩ := m163n (d := d + 32) h (fun w hw => by omega)
    have g3 : ∀ Q, R (d + 33) 163 0 [some (.ref 110000011), none] [] μ Q = Q none ν := g3
    refine ⟨ν, LO_e g1 g2 (lnA_0 ht e1 e2 e3 (by unfold isO; omega)), fun Q => ?_⟩
    simp (disch := first | assumption | omega) only [r155_0, r155_1, r155_2, r155_5, r155_8, r155_9, r155_10, r155_13, r155_16, r155_17, r155_20, r155_23, r155_24, r155_25, r155_28, r155_31, r155_32, r155_35, r155_38, r155_39, r155_41, r155_44, r155_47, r155_48, r155_50, r155_53, r155_56, r155_57, r155_60, r155_63, r155_64, r155_66, r155_69, r155_72, r155_73, r155_76, r155_79, r155_80, r155_82, r155_85, r155_88, r155_89, r155_92, r155_95, r155_96, r155_98, r155_101, r155_104, r155_105, r155_108, r155_110, r155_111, r155_112, r155_115, r155_116, r155_117, r155_120, r155_121, r155_122, r155_125, r155_127, r155_128, r155_129, r155_130, r155_130i, r155_131, r155_134, r155_135, r155_136, r155_139, r155_142, r155_143, r155_146, rI_wI, rL_wL, rR_wR, rI_wL, rI_wR, rL_wI, rL_wR, rR_wI, rR_wL, va_rf_some, va_rf_none, Option.toList_some, Option.toList_none, List.nil_append, List.cons_append, true_and, and_true, false_and, and_false, and_self, if_true, if_false, not_true_eq_false, not_false_eq_true, or_false, false_or, or_true, true_or, or_self, ite_true, ite_false, Option.some.injEq, reduceCtorEq, Nat.reduceMod, Nat.reduceDiv, Nat.reduceLeDiff, Nat.reduceEqDiff, Nat.reduceAdd, Nat.reduceMul, Nat.reduceSub, Nat.reduceLT, sw_nil, sw_int, sw_long, sw_ref, li, lo, nI_m1, ng_eq, nn_eq, en_eq, ng_le, ng_lt, Int32.neg_neg, nI_add, pk_mul, nI_clampO, nI_ltO, nI_leO, nI_eqO, nI_subO, nle_t, nle_f, nlt_t, nlt_f, neq_f, k0, k1, k4, k10, k11, k12, k15, k16, g3]
/-- a sign taken -/
theorem m143 {r : Except Nat (List Tok)} (h : RM μ r) {w : Nat} (hw : 32 ≤ w) (hw2 : w < 128) : ∃ ν, AQ μ ν ∧ RM ν (bnd r (tkW w)) ∧ ∀ Q, R (d + 1) 143 0 [some (.ref 110000011), some (.int (nI w))] [] μ Q = Q none ν := by
  have hh := h
  obtain ⟨hF, hC, he, ho⟩ := h
  cases r with
  | error f =>
    obtain ⟨h8, h1, h2⟩ := he f rfl
    have k1 := c141f (d := d) h8 h1 h2 (x := nI w)
    have k2 := c140f (d := d) h8 h1 h2 (x := nI 1)
    refine ⟨μ, AQ_rf μ, hh, fun Q => ?_⟩
    simp (disch := first | assumption | omega) only [r143_0, r143_1, r143_2, r143_5, r143_8, r143_9, r143_9i, r143_10, r143_13, r143_14, r143_15, r143_18, r143_21, r143_22, r143_23, r143_26, rI_wI, rL_wL, rR_wR, rI_wL, rI_wR, rL_wI, rL_wR, rR_wI, rR_wL, va_rf_some, va_rf_none, Option.toList_some, Option.toList_none, List.nil_append, List.cons_append, true_and, and_true, false_and, and_false, and_self, if_true, if_false, not_true_eq_false, not_false_eq_true, or_false, false_or, or_true, true_or, or_self, ite_true, ite_false, Option.some.injEq, reduceCtorEq, Nat.reduceMod, Nat.reduceDiv, Nat.reduceLeDiff, Nat.reduceEqDiff, Nat.reduceAdd, Nat.reduceMul, Nat.reduceSub, Nat.reduceLT, sw_nil, sw_int, sw_long, sw_ref, li, lo, nI_m1, ng_eq, nn_eq, en_eq, ng_le, ng_lt, Int32.neg_neg, nI_add, pk_mul, nI_clampO, nI_ltO, nI_leO, nI_eqO, nI_subO, nle_t, nle_f, nlt_t, nlt_f, neq_f, k1, k2]
  | ok T =>
    have hX := ho T rfl
    have k1 := c141 (d := d) hF hX hw hw2
    show ∃ ν, AQ μ ν ∧ RM ν (tkW w T) ∧ _
    unfold tkW
    by_cases e : (hdT T).2.1 = w
    · rw [if_pos e]
      rw [if_pos e] at k1
      obtain ⟨i, e1, e2, e3⟩ := RX_tl hX (by omega)
      refine ⟨_, AQ_w μ _ (Or.inl rfl), RM_o hF (AQ_MC (AQ_w μ _ (Or.inl rfl)) hC) e3, fun Q => ?_⟩
      simp (disch := first | assumption | omega) only [r143_0, r143_1, r143_2, r143_5, r143_8, r143_9, r143_9i, r143_10, r143_13, r143_14, r143_15, r143_18, r143_21, r143_22, r143_23, r143_26, rI_wI, rL_wL, rR_wR, rI_wL, rI_wR, rL_wI, rL_wR, rR_wI, rR_wL, va_rf_some, va_rf_none, Option.toList_some, Option.toList_none, List.nil_append, List.cons_append, true_and, and_true, false_and, and_false, and_self, if_true, if_false, not_true_eq_false, not_false_eq_true, or_false, false_or, or_true, true_or, or_self, ite_true, ite_false, Option.some.injEq, reduceCtorEq, Nat.reduceMod, Nat.reduceDiv, Nat.reduceLeDiff, Nat.reduceEqDiff, Nat.reduceAdd, Nat.reduceMul, Nat.reduceSub, Nat.reduceLT, sw_nil, sw_int, sw_long, sw_ref, li, lo, nI_m1, ng_eq, nn_eq, en_eq, ng_le, ng_lt, Int32.neg_neg, nI_add, pk_mul, nI_clampO, nI_ltO, nI_leO, nI_eqO, nI_subO, nle_t, nle_f, nlt_t, nlt_f, neq_f, k1, e2]
    · rw [if_neg e]
      rw [if_neg e] at k1
      obtain ⟨l1, l2⟩ := m140 (d := d) hF hC hX (k := 1) (by omega) (by omega)
      refine ⟨_, AQ_w μ _ (Or.inr rfl), l1, fun Q => ?_⟩
      simp (disch := first | assumption | omega) only [r143_0, r143_1, r143_2, r143_5, r143_8, r143_9, r143_9i, r143_10, r143_13, r143_14, r143_15, r143_18, r143_21, r143_22, r143_23, r143_26, rI_wI, rL_wL, rR_wR, rI_wL, rI_wR, rL_wI, rL_wR, rR_wI, rR_wL, va_rf_some, va_rf_none, Option.toList_some, Option.toList_none, List.nil_append, List.cons_append, true_and, and_true, false_and, and_false, and_self, if_true, if_false, not_true_eq_false, not_false_eq_true, or_false, false_or, or_true, true_or, or_self, ite_true, ite_false, Option.some.injEq, reduceCtorEq, Nat.reduceMod, Nat.reduceDiv, Nat.reduceLeDiff, Nat.reduceEqDiff, Nat.reduceAdd, Nat.reduceMul, Nat.reduceSub, Nat.reduceLT, sw_nil, sw_int, sw_long, sw_ref, li, lo, nI_m1, ng_eq, nn_eq, en_eq, ng_le, ng_lt, Int32.neg_neg, nI_add, pk_mul, nI_clampO, nI_ltO, nI_leO, nI_eqO, nI_subO, nle_t, nle_f, nlt_t, nlt_f, neq_f, k1, l2]
/-- all lines -/
theorem m153_l : ∀ (n : Nat) (T : List Tok) (S : SS) (c0 : Nat) (μ : PM), T.length ≤ n → RM μ (.ok T) → MZ μ S c0 → SI S → c0 + T.length ≤ 1001 → ∃ ν, GQ μ ν ∧ (∀ f, lnZ n S T = .error f → 1 ≤ f ∧ f < 100000 ∧ ∀ Q, R (d + 35) 153 35 [some (.ref 110000011), none] [] μ Q = Q (some (.int (nI f))) ν) ∧ (∀ S', lnZ n S T = .ok S' → ∃ c1, c1 ≤ 1001 ∧ MZ ν S' c1 ∧ FX ν ∧ MC ν ∧ ∀ Q, R (d + 35) 153 35 [some (.ref 110000011), none] [] μ Q = R (d + 35) 153 79 [some (.ref 110000011), none] [] ν Q) := by
  intro n
  induction n with
  | zero =>
    intro T S c0 μ hT h
    have := tl_len (RX_GT (h.2.2.2 T rfl))
    omega
  | succ n ih =>
    intro T S c0 μ hT h hZ hS hc
    have hF := h.1
    have hX := h.2.2.2 T rfl
    have hG := RX_GT hX
    have hl := tl_len hG
    have h8 := hX.2
    obtain ⟨ok, i, i1, i2, i3⟩ := RT_h hX.1
    have hs := i3.1
    by_cases h30 : (hdT T).2.1 = 30
    · have eZ : lnZ (n + 1) S T = .ok S := by rw [lnZ, if_pos h30]
      rw [h30] at hs
      have hs : rI μ 112100220 i = nI 0 := hs
      refine ⟨μ, GQ_rf μ, fun f q => (by rw [eZ] at q; cases q), fun S' q => ?_⟩
      rw [eZ] at q
      cases q
      refine ⟨c0, by omega, hZ, hF, h.2.1, fun Q => ?_⟩
      simp (disch := first | assumption | omega) only [r153_0, r153_1, r153_2, r153_5, r153_6, r153_9, r153_10, r153_11, r153_14, r153_15, r153_16, r153_19, r153_20, r153_21, r153_24, r153_25, r153_26, r153_29, r153_30, r153_32, r153_35, r153_36, r153_39, r153_42, r153_43, r153_46, r153_47, r153_50, r153_51, r153_54, r153_55, r153_58, r153_59, r153_61, r153_64, r153_67, r153_68, r153_71, r153_74, r153_75, r153_78, r153_80, r153_81, r153_82, r153_84, r153_87, r153_88, r153_91, r153_92, r153_93, r153_96, r153_98, r153_99, r153_100, r153_101, r153_102, r153_105, r153_108, r153_109, r153_110, r153_111, r153_112, r153_115, r153_118, r153_119, r153_122, r153_123, r153_124, r153_127, r153_130, r153_131, r153_132, r153_133, r153_134, r153_135, r153_138, r153_139, r153_140, r153_143, r153_146, r153_147, r153_148, r153_149, r153_150, r153_153, r153_156, r153_157, r153_160, r153_161, r153_162, r153_163, r153_164, r153_167, r153_168, r153_171, r153_172, r153_173, r153_174, r153_177, r153_180, r153_181, rI_wI, rL_wL, rR_wR, rI_wL, rI_wR, rL_wI, rL_wR, rR_wI, rR_wL, va_rf_some, va_rf_none, Option.toList_some, Option.toList_none, List.nil_append, List.cons_append, true_and, and_true, false_and, and_false, and_self, if_true, if_false, not_true_eq_false, not_false_eq_true, or_false, false_or, or_true, true_or, or_self, ite_true, ite_false, Option.some.injEq, reduceCtorEq, Nat.reduceMod, Nat.reduceDiv, Nat.reduceLeDiff, Nat.reduceEqDiff, Nat.reduceAdd, Nat.reduceMul, Nat.reduceSub, Nat.reduceLT, sw_nil, sw_int, sw_long, sw_ref, li, lo, nI_m1, ng_eq, nn_eq, en_eq, ng_le, ng_lt, Int32.neg_neg, nI_add, pk_mul, nI_clampO, nI_ltO, nI_leO, nI_eqO, nI_subO, nle_t, nle_f, nlt_t, nlt_f, neq_f, fx_2000010_0, fx_2000010_1, fx_2000010_4, fx_2000010_5, fx_2000010_6, fx_2000010_8, fx_2000010_10, fx_2000010_11, fx_2000010_12, fx_2000010_13, fx_2000010_14, fx_2000010_15, fx_2000010_16, fx_2000010_17, fx_2000010_18, fx_3000009_0, fx_5000007_0, fx_5000007_1, fx_5000007_2, fx_5000007_3, fx_7000001_0, fx_11000005_1, fx_11000005_2, fx_11000005_3, fx_11000005_4, fx_11000005_5, fx_11000005_6, fx_11000005_10, fx_11000005_11, fx_11000005_12, fx_20000002_0, fx_20000002_2, fx_20000002_3, fx_20000002_4, fx_25000005_1, fx_25000005_2, fx_25000005_3, fx_25000005_4, fx_25000005_5, fx_25000005_6, fx_25000005_10, fx_25000005_11, fx_25000005_12, fx_34000002_0, fx_34000002_2, fx_34000002_3, fx_34000002_4, fx_39000008_0, fx_41000006_0, fx_42002024_0, fx_42002024_1, fx_42002024_2, fx_42002024_3, fx_42002024_4, fx_42002024_5, fx_42002024_6, fx_42002024_7, fx_42002024_8, fx_42002024_9, fx_42002024_10, fx_42002024_11, fx_42002024_12, fx_42002024_13, fx_42002024_14, fx_42002024_15, fx_42002024_16, fx_42002024_17, fx_42002024_18, fx_42002024_19, fx_43000008_0, fx_45000008_0, fx_47000008_0, fx_49000008_0, fx_51000008_0, fx_53000008_0, fx_55000008_0, fx_57000008_0, fx_59000008_0, fx_61000008_0, fx_63000008_0, fx_65000008_0, fx_67000008_0, fx_69000008_0, fx_71000008_0, fx_73000008_0, fx_75000008_0, fx_77000008_0, fx_79000008_0, fx_81000008_0, fx_83000424_0, fx_83000424_1, fx_83000424_2, fx_83000424_3, fx_85000004_0, fx_85000004_1, fx_85000004_2, fx_85000004_3, fx_85000004_4, fx_85000004_5, fx_85000004_6, fx_85000004_10, fx_102000008_0, fx_104000008_0, fx_106000008_0, fx_108000008_0, fx_110000011_1, fx_110000011_4, fx_110000011_5, fx_110000011_6, fx_110000011_9, fx_110000011_10, fx_110000011_11, fx_110000011_12, fx_110000011_14, fx_110000011_15, fx_110000011_20, fx_110000011_21, fx_110000011_22, fx_110000011_23, fx_110000011_25, fx_110000011_26, fx_110000011_31, fx_110000011_32, fx_110000011_37, fx_110000011_38, fx_110000011_39, fx_110000011_40, h8, i2, hs]
    · have eZ : lnZ (n + 1) S T = bnd (lnB S T) fun p => lnZ n p.1 p.2 := by rw [lnZ, if_neg h30]
      have hs2 : ∃ v, v ≠ 0 ∧ v < 5 ∧ rI μ 112100220 i = nI v := by
        refine ⟨srt (hdT T).2.1, ?_, srt_5 _, hs⟩
        unfold srt
        repeat' split
        all_goals omega
      obtain ⟨v, v1, v2, v3⟩ := hs2
      obtain ⟨ν1, ⟨g1, g2⟩, g4⟩ := m155 (d := d) h hZ hS h30 hc
      have step : ∀ {ν2 : PM}, (∀ Q, R (d + 34) 143 0 [some (.ref 110000011), some (.int (nI 59))] [] ν1 Q = Q none ν2) → ∀ Q, R (d + 35) 153 35 [some (.ref 110000011), none] [] μ Q = R (d + 35) 153 35 [some (.ref 110000011), none] [] ν2 Q := by
        intro ν2 h2 Q
        rw [r153_35]
        simp (disch := first | assumption | omega) only [r153_36, r153_39, r153_42, r153_43, r153_46, r153_47, r153_50, r153_51, r153_54, r153_55, r153_58, r153_59, r153_61, r153_64, rI_wI, rL_wL, rR_wR, rI_wL, rI_wR, rL_wI, rL_wR, rR_wI, rR_wL, va_rf_some, va_rf_none, Option.toList_some, Option.toList_none, List.nil_append, List.cons_append, true_and, and_true, false_and, and_false, and_self, if_true, if_false, not_true_eq_false, not_false_eq_true, or_false, false_or, or_true, true_or, or_self, ite_true, ite_false, Option.some.injEq, reduceCtorEq, Nat.reduceMod, Nat.reduceDiv, Nat.reduceLeDiff, Nat.reduceEqDiff, Nat.reduceAdd, Nat.reduceMul, Nat.reduceSub, Nat.reduceLT, sw_nil, sw_int, sw_long, sw_ref, li, lo, nI_m1, ng_eq, nn_eq, en_eq, ng_le, ng_lt, Int32.neg_neg, nI_add, pk_mul, nI_clampO, nI_ltO, nI_leO, nI_eqO, nI_subO, nle_t, nle_f, nlt_t, nlt_f, neq_f, fx_2000010_0, fx_2000010_1, fx_2000010_4, fx_2000010_5, fx_2000010_6, fx_2000010_8, fx_2000010_10, fx_2000010_11, fx_2000010_12, fx_2000010_13, fx_2000010_14, fx_2000010_15, fx_2000010_16, fx_2000010_17, fx_2000010_18, fx_3000009_0, fx_5000007_0, fx_5000007_1, fx_5000007_2, fx_5000007_3, fx_7000001_0, fx_11000005_1, fx_11000005_2, fx_11000005_3, fx_11000005_4, fx_11000005_5, fx_11000005_6, fx_11000005_10, fx_11000005_11, fx_11000005_12, fx_20000002_0, fx_20000002_2, fx_20000002_3, fx_20000002_4, fx_25000005_1, fx_25000005_2, fx_25000005_3, fx_25000005_4, fx_25000005_5, fx_25000005_6, fx_25000005_10, fx_25000005_11, fx_25000005_12, fx_34000002_0, fx_34000002_2, fx_34000002_3, fx_34000002_4, fx_39000008_0, fx_41000006_0, fx_42002024_0, fx_42002024_1, fx_42002024_2, fx_42002024_3, fx_42002024_4, fx_42002024_5, fx_42002024_6, fx_42002024_7, fx_42002024_8, fx_42002024_9, fx_42002024_10, fx_42002024_11, fx_42002024_12, fx_42002024_13, fx_42002024_14, fx_42002024_15, fx_42002024_16, fx_42002024_17, fx_42002024_18, fx_42002024_19, fx_43000008_0, fx_45000008_0, fx_47000008_0, fx_49000008_0, fx_51000008_0, fx_53000008_0, fx_55000008_0, fx_57000008_0, fx_59000008_0, fx_61000008_0, fx_63000008_0, fx_65000008_0, fx_67000008_0, fx_69000008_0, fx_71000008_0, fx_73000008_0, fx_75000008_0, fx_77000008_0, fx_79000008_0, fx_81000008_0, fx_83000424_0, fx_83000424_1, fx_83000424_2, fx_83000424_3, fx_85000004_0, fx_85000004_1, fx_85000004_2, fx_85000004_3, fx_85000004_4, fx_85000004_5, fx_85000004_6, fx_85000004_10, fx_102000008_0, fx_104000008_0, fx_106000008_0, fx_108000008_0, fx_110000011_1, fx_110000011_4, fx_110000011_5, fx_110000011_6, fx_110000011_9, fx_110000011_10, fx_110000011_11, fx_110000011_12, fx_110000011_14, fx_110000011_15, fx_110000011_20, fx_110000011_21, fx_110000011_22, fx_110000011_23, fx_110000011_25, fx_110000011_26, fx_110000011_31, fx_110000011_32, fx_110000011_37, fx_110000011_38, fx_110000011_39, fx_110000011_40, h8, i2, v3, g4, h2]
      have bad : ∀ {f : Nat} {ν2 : PM}, GQ ν1 ν2 → RM ν2 (.error f) → lnB S T = .error f → (∀ Q, R (d + 34) 143 0 [some (.ref 110000011), some (.int (nI 59))] [] ν1 Q = Q none ν2) → ∃ ν, GQ μ ν ∧ (∀ f, lnZ (n + 1) S T = .error f → 1 ≤ f ∧ f < 100000 ∧ ∀ Q, R (d + 35) 153 35 [some (.ref 110000011), none] [] μ Q = Q (some (.int (nI f))) ν) ∧ (∀ S', lnZ (n + 1) S T = .ok S' → ∃ c1, c1 ≤ 1001 ∧ MZ ν S' c1 ∧ FX ν ∧ MC ν ∧ ∀ Q, R (d + 35) 153 35 [some (.ref 110000011), none] [] μ Q = R (d + 35) 153 79 [some (.ref 110000011), none] [] ν Q) := by
        intro f ν2 q1 q2 q3 q4
        obtain ⟨y1, y2, y3⟩ := q2.2.2.1 f rfl
        refine ⟨ν2, GQ_tr g1 q1, fun f' q => ?_, fun S' q => (by rw [eZ, q3] at q; cases q)⟩
        rw [eZ, q3] at q
        cases q
        refine ⟨y2, y3, fun Q => ?_⟩
        rw [step q4 Q]
        simp (disch := first | assumption | omega) only [r153_35, r153_36, r153_39, r153_67, r153_68, r153_71, r153_74, r153_75, r153_78, rI_wI, rL_wL, rR_wR, rI_wL, rI_wR, rL_wI, rL_wR, rR_wI, rR_wL, va_rf_some, va_rf_none, Option.toList_some, Option.toList_none, List.nil_append, List.cons_append, true_and, and_true, false_and, and_false, and_self, if_true, if_false, not_true_eq_false, not_false_eq_true, or_false, false_or, or_true, true_or, or_self, ite_true, ite_false, Option.some.injEq, reduceCtorEq, Nat.reduceMod, Nat.reduceDiv, Nat.reduceLeDiff, Nat.reduceEqDiff, Nat.reduceAdd, Nat.reduceMul, Nat.reduceSub, Nat.reduceLT, sw_nil, sw_int, sw_long, sw_ref, li, lo, nI_m1, ng_eq, nn_eq, en_eq, ng_le, ng_lt, Int32.neg_neg, nI_add, pk_mul, nI_clampO, nI_ltO, nI_leO, nI_eqO, nI_subO, nle_t, nle_f, nlt_t, nlt_f, neq_f, y1]
      rcases g2 with ⟨g2, g3⟩ | ⟨T', g2, g3, g5⟩
      · obtain ⟨ν2, k1, k2, k3⟩ := m143 (d := d + 33) g2 (w := 59) (by omega) (by omega)
        have k3 : ∀ Q, R (d + 34) 143 0 [some (.ref 110000011), some (.int (nI 59))] [] ν1 Q = Q none ν2 := k3
        rw [← lnB_snx] at k2
        cases hB : lnB S T with
        | error f =>
          rw [hB] at k2
          exact bad (GQ_A k1) k2 hB k3
        | ok p =>
          rw [hB] at k2
          obtain ⟨T1, o1, o2⟩ := lnB_ok hB
          obtain ⟨s1, s2⟩ := lnA_SI hS hG o1
          obtain ⟨c1, l1, l2⟩ := g3 _ o1
          have l1 : c1 + T1.length ≤ c0 + T.length := l1
          have s2 : T1.length < T.length := s2
          have e2 := (tkW_ok o2).2
          have e2l : p.2.length ≤ T1.length := by rw [e2, List.length_tail]; omega
          obtain ⟨ν, m1, m2, m3⟩ := ih p.2 p.1 c1 ν2 (by omega) k2 (MZ_A k1 l2) s1 (by omega)
          refine ⟨ν, GQ_tr (GQ_tr g1 (GQ_A k1)) m1, fun f q => ?_, fun S' q => ?_⟩
          · rw [eZ, hB] at q
            obtain ⟨a1, a2, a3⟩ := m2 f q
            exact ⟨a1, a2, fun Q => (step k3 Q).trans (a3 Q)⟩
          · rw [eZ, hB] at q
            obtain ⟨c2, a1, a2, a3, a4, a5⟩ := m3 S' q
            exact ⟨c2, a1, a2, a3, a4, fun Q => (step k3 Q).trans (a5 Q)⟩
      · obtain ⟨ν2, k1, k2, k3⟩ := m143 (d := d + 33) g2 (w := 59) (by omega) (by omega)
        have k3 : ∀ Q, R (d + 34) 143 0 [some (.ref 110000011), some (.int (nI 59))] [] ν1 Q = Q none ν2 := k3
        have ew : bnd (.ok T') (tkW 59) = .error (flT 1 T') := by
          show tkW 59 T' = _
          unfold tkW
          rw [if_neg g3]
        rw [ew] at k2
        exact bad (GQ_A k1) k2 (by unfold lnB; rw [g5]; rfl) k3
end T1
