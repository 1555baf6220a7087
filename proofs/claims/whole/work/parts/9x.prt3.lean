/-! PAIRS AND QUARRELS IN MEMORY: THE CLASS -/
theorem bt_o2 (x y j : Nat) : bt (x ||| y) j = 1 ↔ bt x j = 1 ∨ bt y j = 1 := by
  rw [bt_tb, bt_tb, bt_tb, Nat.testBit_or, Bool.or_eq_true]
theorem tw_bt {pa : Nat → Nat} (hP : PK pa) {i j : Nat} (hi : i < 7) (hj : j < 7) : bt (bsN pa 1 i ||| bsN pa 2 i) j = 1 ↔ tw pa i j ≠ 0 := by
  rw [bt_o2, (bs_ex pa 1 i).2 j hj, (bs_ex pa 2 i).2 j hj]
  have := (hP.2.2.2.1 i j hi hj).1
  have e : tw pa i j = pa (44 + 7 * i + j) := rfl
  omega
section T1
variable {d : Nat} {μ : PM} {pa : Nat → Nat}
theorem c50a (hF : FX μ) (h : CPa μ pa) (hP : PK pa) {i j : Nat} (hi : i < 7) (hj : j < 7) : (tw pa i j ≠ 0 → ∀ Q, R d 50 0 [some (.ref 11000005), some (.int (nI i)), some (.int (nI j))] [] μ Q = Q (some (.int (nI 1))) μ) ∧ (tw pa i j = 0 → ∀ Q, R d 50 0 [some (.ref 11000005), some (.int (nI i)), some (.int (nI j))] [] μ Q = Q (some (.int (nI 0))) μ) := by
  obtain ⟨p1, p2⟩ := h.2.2.1 i hi
  have k := shr_2 j (by omega) (bsN pa 1 i ||| bsN pa 2 i) (Nat.lt_of_lt_of_le (Nat.or_lt_two_pow (n := 7) (bs_ex pa 1 i).1 (bs_ex pa 2 i).1) (by omega))
  have z := tw_bt hP hi hj
  refine ⟨fun e Q => ?_, fun e Q => ?_⟩
  · rw [z.mpr e] at k
    simp (disch := first | assumption | omega) only [r50_0, r50_1, r50_4, r50_5, r50_6, r50_7, r50_10, r50_11, r50_12, r50_13, r50_14, r50_15, r50_16, j50_17, r50_20, r50_21, r50_24, r50_25, rI_wI, rL_wL, rR_wR, rI_wL, rI_wR, rL_wI, rL_wR, rR_wI, rR_wL, va_rf_some, va_rf_none, Option.toList_some, Option.toList_none, List.nil_append, List.cons_append, true_and, and_true, false_and, and_false, and_self, if_true, if_false, not_true_eq_false, not_false_eq_true, or_false, false_or, or_true, true_or, or_self, ite_true, ite_false, Option.some.injEq, reduceCtorEq, Nat.reduceMod, Nat.reduceDiv, Nat.reduceLeDiff, Nat.reduceEqDiff, Nat.reduceAdd, Nat.reduceMul, Nat.reduceSub, Nat.reduceLT, sw_nil, sw_int, sw_long, sw_ref, li, lo, nI_m1, ng_eq, nn_eq, en_eq, ng_le, ng_lt, Int32.neg_neg, nI_add, pk_mul, nI_clampO, nI_ltO, nI_leO, nI_eqO, nI_subO, nle_t, nle_f, nlt_t, nlt_f, neq_f, fx_2000010_0, fx_2000010_1, fx_2000010_4, fx_2000010_5, fx_2000010_6, fx_2000010_8, fx_2000010_10, fx_2000010_11, fx_2000010_12, fx_2000010_13, fx_2000010_14, fx_2000010_15, fx_2000010_16, fx_2000010_17, fx_2000010_18, fx_3000009_0, fx_5000007_0, fx_5000007_1, fx_5000007_2, fx_5000007_3, fx_7000001_0, fx_11000005_1, fx_11000005_2, fx_11000005_3, fx_11000005_4, fx_11000005_5, fx_11000005_6, fx_11000005_10, fx_11000005_11, fx_11000005_12, fx_20000002_0, fx_20000002_2, fx_20000002_3, fx_20000002_4, fx_25000005_1, fx_25000005_2, fx_25000005_3, fx_25000005_4, fx_25000005_5, fx_25000005_6, fx_25000005_10, fx_25000005_11, fx_25000005_12, fx_34000002_0, fx_34000002_2, fx_34000002_3, fx_34000002_4, fx_39000008_0, fx_41000006_0, fx_42002024_0, fx_42002024_1, fx_42002024_2, fx_42002024_3, fx_42002024_4, fx_42002024_5, fx_42002024_6, fx_42002024_7, fx_42002024_8, fx_42002024_9, fx_42002024_10, fx_42002024_11, fx_42002024_12, fx_42002024_13, fx_42002024_14, fx_42002024_15, fx_42002024_16, fx_42002024_17, fx_42002024_18, fx_42002024_19, fx_43000008_0, fx_45000008_0, fx_47000008_0, fx_49000008_0, fx_51000008_0, fx_53000008_0, fx_55000008_0, fx_57000008_0, fx_59000008_0, fx_61000008_0, fx_63000008_0, fx_65000008_0, fx_67000008_0, fx_69000008_0, fx_71000008_0, fx_73000008_0, fx_75000008_0, fx_77000008_0, fx_79000008_0, fx_81000008_0, fx_83000424_0, fx_83000424_1, fx_83000424_2, fx_83000424_3, fx_85000004_0, fx_85000004_1, fx_85000004_2, fx_85000004_3, fx_85000004_4, fx_85000004_5, fx_85000004_6, fx_85000004_10, fx_102000008_0, fx_104000008_0, fx_106000008_0, fx_108000008_0, fx_110000011_1, fx_110000011_4, fx_110000011_5, fx_110000011_6, fx_110000011_9, fx_110000011_10, fx_110000011_11, fx_110000011_12, fx_110000011_14, fx_110000011_15, fx_110000011_20, fx_110000011_21, fx_110000011_22, fx_110000011_23, fx_110000011_25, fx_110000011_26, fx_110000011_31, fx_110000011_32, fx_110000011_37, fx_110000011_38, fx_110000011_39, fx_110000011_40, p1, p2, or_nI, k]
  · have : bt (bsN pa 1 i ||| bsN pa 2 i) j = 0 := by
      rcases bt_01 (bsN pa 1 i ||| bsN pa 2 i) j with q | q
      · exact q
      · exact absurd e (z.mp q)
    rw [this] at k
    simp (disch := first | assumption | omega) only [r50_0, r50_1, r50_4, r50_5, r50_6, r50_7, r50_10, r50_11, r50_12, r50_13, r50_14, r50_15, r50_16, j50_17, r50_20, r50_21, r50_24, r50_25, rI_wI, rL_wL, rR_wR, rI_wL, rI_wR, rL_wI, rL_wR, rR_wI, rR_wL, va_rf_some, va_rf_none, Option.toList_some, Option.toList_none, List.nil_append, List.cons_append, true_and, and_true, false_and, and_false, and_self, if_true, if_false, not_true_eq_false, not_false_eq_true, or_false, false_or, or_true, true_or, or_self, ite_true, ite_false, Option.some.injEq, reduceCtorEq, Nat.reduceMod, Nat.reduceDiv, Nat.reduceLeDiff, Nat.reduceEqDiff, Nat.reduceAdd, Nat.reduceMul, Nat.reduceSub, Nat.reduceLT, sw_nil, sw_int, sw_long, sw_ref, li, lo, nI_m1, ng_eq, nn_eq, en_eq, ng_le, ng_lt, Int32.neg_neg, nI_add, pk_mul, nI_clampO, nI_ltO, nI_leO, nI_eqO, nI_subO, nle_t, nle_f, nlt_t, nlt_f, neq_f, fx_2000010_0, fx_2000010_1, fx_2000010_4, fx_2000010_5, fx_2000010_6, fx_2000010_8, fx_2000010_10, fx_2000010_11, fx_2000010_12, fx_2000010_13, fx_2000010_14, fx_2000010_15, fx_2000010_16, fx_2000010_17, fx_2000010_18, fx_3000009_0, fx_5000007_0, fx_5000007_1, fx_5000007_2, fx_5000007_3, fx_7000001_0, fx_11000005_1, fx_11000005_2, fx_11000005_3, fx_11000005_4, fx_11000005_5, fx_11000005_6, fx_11000005_10, fx_11000005_11, fx_11000005_12, fx_20000002_0, fx_20000002_2, fx_20000002_3, fx_20000002_4, fx_25000005_1, fx_25000005_2, fx_25000005_3, fx_25000005_4, fx_25000005_5, fx_25000005_6, fx_25000005_10, fx_25000005_11, fx_25000005_12, fx_34000002_0, fx_34000002_2, fx_34000002_3, fx_34000002_4, fx_39000008_0, fx_41000006_0, fx_42002024_0, fx_42002024_1, fx_42002024_2, fx_42002024_3, fx_42002024_4, fx_42002024_5, fx_42002024_6, fx_42002024_7, fx_42002024_8, fx_42002024_9, fx_42002024_10, fx_42002024_11, fx_42002024_12, fx_42002024_13, fx_42002024_14, fx_42002024_15, fx_42002024_16, fx_42002024_17, fx_42002024_18, fx_42002024_19, fx_43000008_0, fx_45000008_0, fx_47000008_0, fx_49000008_0, fx_51000008_0, fx_53000008_0, fx_55000008_0, fx_57000008_0, fx_59000008_0, fx_61000008_0, fx_63000008_0, fx_65000008_0, fx_67000008_0, fx_69000008_0, fx_71000008_0, fx_73000008_0, fx_75000008_0, fx_77000008_0, fx_79000008_0, fx_81000008_0, fx_83000424_0, fx_83000424_1, fx_83000424_2, fx_83000424_3, fx_85000004_0, fx_85000004_1, fx_85000004_2, fx_85000004_3, fx_85000004_4, fx_85000004_5, fx_85000004_6, fx_85000004_10, fx_102000008_0, fx_104000008_0, fx_106000008_0, fx_108000008_0, fx_110000011_1, fx_110000011_4, fx_110000011_5, fx_110000011_6, fx_110000011_9, fx_110000011_10, fx_110000011_11, fx_110000011_12, fx_110000011_14, fx_110000011_15, fx_110000011_20, fx_110000011_21, fx_110000011_22, fx_110000011_23, fx_110000011_25, fx_110000011_26, fx_110000011_31, fx_110000011_32, fx_110000011_37, fx_110000011_38, fx_110000011_39, fx_110000011_40, p1, p2, or_nI, k]
def w51a (μ : PM) (B k i j bi bj n : Nat) : PM := wI (wI (wI μ B i (nI bi)) B j (nI bj)) 11000005 k (nI (n + 1))
theorem w51a_DF (μ : PM) {B : Nat} (hB : B = 16000720 ∨ B = 17000720) (k i j bi bj n : Nat) : DFa μ (w51a μ B k i j bi bj n) := DFa_tr (DFa_tr (DFa_w μ _ (by omega)) (DFa_w _ _ (by omega))) (DFa_w _ _ (by omega))
theorem w51a_r {B k i j bi bj n : Nat} (x y : Nat) : rI (w51a μ B k i j bi bj n) x y = if x = 11000005 ∧ y = k then nI (n + 1) else if x = B ∧ y = j then nI bj else if x = B ∧ y = i then nI bi else rI μ x y := by
  unfold w51a
  simp only [rI_wI, eq_comm]
theorem c51pa (hF : FX μ) (h : CPa μ pa) {i j : Nat} (hi : i < 7) (hj : j < 7) (hij : i ≠ j) : ∀ Q, R d 51 0 [some (.ref 11000005), some (.int (nI i)), some (.int (nI j)), some (.int (nI 1)), none] [] μ Q = Q none (w51a μ 16000720 7 i j (bsN pa 1 i ||| 2 ^ j) (bsN pa 1 j ||| 2 ^ i) (twN pa 1)) := by
  intro Q
  obtain ⟨p1, p2⟩ := h.2.2.1 i hi
  obtain ⟨q1, q2⟩ := h.2.2.1 j hj
  have t := h.2.2.2.1
  have s1 := shl_2 i (by omega)
  have s2 := shl_2 j (by omega)
  unfold w51a
  simp (disch := first | assumption | omega) only [r51_0, r51_1, r51_4, r51_5, r51_8, r51_11, r51_12, r51_15, r51_17, r51_19, r51_20, r51_21, r51_22, r51_23, r51_24, r51_25, r51_26, r51_27, r51_29, r51_30, r51_31, r51_32, r51_33, r51_34, r51_35, r51_36, r51_37, r51_38, r51_41, r51_42, r51_42i, r51_43, r51_46, r51_47, r51_48, r51_51, r51_54, r51_55, r51_55i, r51_56, r51_59, r51_60, r51_61, r51_64, rI_wI, rL_wL, rR_wR, rI_wL, rI_wR, rL_wI, rL_wR, rR_wI, rR_wL, va_rf_some, va_rf_none, Option.toList_some, Option.toList_none, List.nil_append, List.cons_append, true_and, and_true, false_and, and_false, and_self, if_true, if_false, not_true_eq_false, not_false_eq_true, or_false, false_or, or_true, true_or, or_self, ite_true, ite_false, Option.some.injEq, reduceCtorEq, Nat.reduceMod, Nat.reduceDiv, Nat.reduceLeDiff, Nat.reduceEqDiff, Nat.reduceAdd, Nat.reduceMul, Nat.reduceSub, Nat.reduceLT, sw_nil, sw_int, sw_long, sw_ref, li, lo, nI_m1, ng_eq, nn_eq, en_eq, ng_le, ng_lt, Int32.neg_neg, nI_add, pk_mul, nI_clampO, nI_ltO, nI_leO, nI_eqO, nI_subO, nle_t, nle_f, nlt_t, nlt_f, neq_f, fx_2000010_0, fx_2000010_1, fx_2000010_4, fx_2000010_5, fx_2000010_6, fx_2000010_8, fx_2000010_10, fx_2000010_11, fx_2000010_12, fx_2000010_13, fx_2000010_14, fx_2000010_15, fx_2000010_16, fx_2000010_17, fx_2000010_18, fx_3000009_0, fx_5000007_0, fx_5000007_1, fx_5000007_2, fx_5000007_3, fx_7000001_0, fx_11000005_1, fx_11000005_2, fx_11000005_3, fx_11000005_4, fx_11000005_5, fx_11000005_6, fx_11000005_10, fx_11000005_11, fx_11000005_12, fx_20000002_0, fx_20000002_2, fx_20000002_3, fx_20000002_4, fx_25000005_1, fx_25000005_2, fx_25000005_3, fx_25000005_4, fx_25000005_5, fx_25000005_6, fx_25000005_10, fx_25000005_11, fx_25000005_12, fx_34000002_0, fx_34000002_2, fx_34000002_3, fx_34000002_4, fx_39000008_0, fx_41000006_0, fx_42002024_0, fx_42002024_1, fx_42002024_2, fx_42002024_3, fx_42002024_4, fx_42002024_5, fx_42002024_6, fx_42002024_7, fx_42002024_8, fx_42002024_9, fx_42002024_10, fx_42002024_11, fx_42002024_12, fx_42002024_13, fx_42002024_14, fx_42002024_15, fx_42002024_16, fx_42002024_17, fx_42002024_18, fx_42002024_19, fx_43000008_0, fx_45000008_0, fx_47000008_0, fx_49000008_0, fx_51000008_0, fx_53000008_0, fx_55000008_0, fx_57000008_0, fx_59000008_0, fx_61000008_0, fx_63000008_0, fx_65000008_0, fx_67000008_0, fx_69000008_0, fx_71000008_0, fx_73000008_0, fx_75000008_0, fx_77000008_0, fx_79000008_0, fx_81000008_0, fx_83000424_0, fx_83000424_1, fx_83000424_2, fx_83000424_3, fx_85000004_0, fx_85000004_1, fx_85000004_2, fx_85000004_3, fx_85000004_4, fx_85000004_5, fx_85000004_6, fx_85000004_10, fx_102000008_0, fx_104000008_0, fx_106000008_0, fx_108000008_0, fx_110000011_1, fx_110000011_4, fx_110000011_5, fx_110000011_6, fx_110000011_9, fx_110000011_10, fx_110000011_11, fx_110000011_12, fx_110000011_14, fx_110000011_15, fx_110000011_20, fx_110000011_21, fx_110000011_22, fx_110000011_23, fx_110000011_25, fx_110000011_26, fx_110000011_31, fx_110000011_32, fx_110000011_37, fx_110000011_38, fx_110000011_39, fx_110000011_40, p1, q1, t, or_nI, s1, s2, hij, eq_comm]
theorem c51qa (hF : FX μ) (h : CPa μ pa) {i j : Nat} (hi : i < 7) (hj : j < 7) (hij : i ≠ j) : ∀ Q, R d 51 0 [some (.ref 11000005), some (.int (nI i)), some (.int (nI j)), some (.int (nI 0)), none] [] μ Q = Q none (w51a μ 17000720 8 i j (bsN pa 2 i ||| 2 ^ j) (bsN pa 2 j ||| 2 ^ i) (twN pa 2)) := by
  intro Q
  obtain ⟨p1, p2⟩ := h.2.2.1 i hi
  obtain ⟨q1, q2⟩ := h.2.2.1 j hj
  have t := h.2.2.2.2.1
  have s1 := shl_2 i (by omega)
  have s2 := shl_2 j (by omega)
  unfold w51a
  simp (disch := first | assumption | omega) only [r51_0, r51_1, r51_4, r51_5, r51_8, r51_11, r51_12, r51_15, r51_17, r51_19, r51_20, r51_21, r51_22, r51_23, r51_24, r51_25, r51_26, r51_27, r51_29, r51_30, r51_31, r51_32, r51_33, r51_34, r51_35, r51_36, r51_37, r51_38, r51_41, r51_42, r51_42i, r51_43, r51_46, r51_47, r51_48, r51_51, r51_54, r51_55, r51_55i, r51_56, r51_59, r51_60, r51_61, r51_64, rI_wI, rL_wL, rR_wR, rI_wL, rI_wR, rL_wI, rL_wR, rR_wI, rR_wL, va_rf_some, va_rf_none, Option.toList_some, Option.toList_none, List.nil_append, List.cons_append, true_and, and_true, false_and, and_false, and_self, if_true, if_false, not_true_eq_false, not_false_eq_true, or_false, false_or, or_true, true_or, or_self, ite_true, ite_false, Option.some.injEq, reduceCtorEq, Nat.reduceMod, Nat.reduceDiv, Nat.reduceLeDiff, Nat.reduceEqDiff, Nat.reduceAdd, Nat.reduceMul, Nat.reduceSub, Nat.reduceLT, sw_nil, sw_int, sw_long, sw_ref, li, lo, nI_m1, ng_eq, nn_eq, en_eq, ng_le, ng_lt, Int32.neg_neg, nI_add, pk_mul, nI_clampO, nI_ltO, nI_leO, nI_eqO, nI_subO, nle_t, nle_f, nlt_t, nlt_f, neq_f, fx_2000010_0, fx_2000010_1, fx_2000010_4, fx_2000010_5, fx_2000010_6, fx_2000010_8, fx_2000010_10, fx_2000010_11, fx_2000010_12, fx_2000010_13, fx_2000010_14, fx_2000010_15, fx_2000010_16, fx_2000010_17, fx_2000010_18, fx_3000009_0, fx_5000007_0, fx_5000007_1, fx_5000007_2, fx_5000007_3, fx_7000001_0, fx_11000005_1, fx_11000005_2, fx_11000005_3, fx_11000005_4, fx_11000005_5, fx_11000005_6, fx_11000005_10, fx_11000005_11, fx_11000005_12, fx_20000002_0, fx_20000002_2, fx_20000002_3, fx_20000002_4, fx_25000005_1, fx_25000005_2, fx_25000005_3, fx_25000005_4, fx_25000005_5, fx_25000005_6, fx_25000005_10, fx_25000005_11, fx_25000005_12, fx_34000002_0, fx_34000002_2, fx_34000002_3, fx_34000002_4, fx_39000008_0, fx_41000006_0, fx_42002024_0, fx_42002024_1, fx_42002024_2, fx_42002024_3, fx_42002024_4, fx_42002024_5, fx_42002024_6, fx_42002024_7, fx_42002024_8, fx_42002024_9, fx_42002024_10, fx_42002024_11, fx_42002024_12, fx_42002024_13, fx_42002024_14, fx_42002024_15, fx_42002024_16, fx_42002024_17, fx_42002024_18, fx_42002024_19, fx_43000008_0, fx_45000008_0, fx_47000008_0, fx_49000008_0, fx_51000008_0, fx_53000008_0, fx_55000008_0, fx_57000008_0, fx_59000008_0, fx_61000008_0, fx_63000008_0, fx_65000008_0, fx_67000008_0, fx_69000008_0, fx_71000008_0, fx_73000008_0, fx_75000008_0, fx_77000008_0, fx_79000008_0, fx_81000008_0, fx_83000424_0, fx_83000424_1, fx_83000424_2, fx_83000424_3, fx_85000004_0, fx_85000004_1, fx_85000004_2, fx_85000004_3, fx_85000004_4, fx_85000004_5, fx_85000004_6, fx_85000004_10, fx_102000008_0, fx_104000008_0, fx_106000008_0, fx_108000008_0, fx_110000011_1, fx_110000011_4, fx_110000011_5, fx_110000011_6, fx_110000011_9, fx_110000011_10, fx_110000011_11, fx_110000011_12, fx_110000011_14, fx_110000011_15, fx_110000011_20, fx_110000011_21, fx_110000011_22, fx_110000011_23, fx_110000011_25, fx_110000011_26, fx_110000011_31, fx_110000011_32, fx_110000011_37, fx_110000011_38, fx_110000011_39, fx_110000011_40, p2, q2, t, or_nI, s1, s2, hij, eq_comm]
theorem w51pa_CP (h : CPa μ pa) (hP : PK pa) {i j : Nat} (hi : i < pa 0) (hj : j < pa 0) (hij : i ≠ j) (h0 : tw pa i j = 0) : CPa (w51a μ 16000720 7 i j (bsN pa 1 i ||| 2 ^ j) (bsN pa 1 j ||| 2 ^ i) (twN pa 1)) (adT pa i j 1) := by
  have h7 := hP.1.1
  have i7 : i < 7 := by omega
  have j7 : j < 7 := by omega
  have h0' : tw pa j i = 0 := (hP.2.2.2.1 i j i7 j7).2.symm.trans h0
  obtain ⟨h1, h2, h3, h4, h5, h6, h7', h8, h9, h10⟩ := h
  obtain ⟨b1, b2⟩ := adT_bs (pa := pa) (q := 1) i7 j7 hij
  refine ⟨?_, fun a ha => ?_, fun a ha => ⟨?_, ?_⟩, ?_, ?_, ?_, fun f hf => ?_, ?_, ?_, ?_⟩
  · rw [w51a_r, if_neg (by omega), if_neg (by omega), if_neg (by omega), adT_o (by omega)]; exact h1
  · rw [adT_o (by omega)] at ha
    have g := h2 a ha
    unfold kd wmn tl nk at g ⊢
    rw [adT_o (by omega), adT_o (by omega), adT_o (by omega), adT_o (by omega)]
    refine ⟨?_, ?_, ?_, ?_⟩
    · rw [w51a_r, if_neg (by omega), if_neg (by omega), if_neg (by omega)]; exact g.1
    · rw [w51a_r, if_neg (by omega), if_neg (by omega), if_neg (by omega)]; exact g.2.1
    · rw [w51a_r, if_neg (by omega), if_neg (by omega), if_neg (by omega)]; exact g.2.2.1
    · rw [w51a_r, if_neg (by omega), if_neg (by omega), if_neg (by omega)]; exact g.2.2.2
  · by_cases e1 : a = j
    · subst e1
      rw [w51a_r, if_neg (by omega), if_pos ⟨rfl, rfl⟩, b2]
    · by_cases e2 : a = i
      · subst e2
        rw [w51a_r, if_neg (by omega), if_neg (by omega), if_pos ⟨rfl, rfl⟩, b1]
      · rw [w51a_r, if_neg (by omega), if_neg (by omega), if_neg (by omega), adT_bo i7 j7 ha e2 e1]
        exact (h3 a ha).1
  · rw [w51a_r, if_neg (by omega), if_neg (by omega), if_neg (by omega), adT_bw i7 j7 ha (by omega) (by omega) h0 h0']
    exact (h3 a ha).2
  · rw [w51a_r, if_pos ⟨rfl, rfl⟩, adT_tq h7 hi hj hij (by omega) h0 h0']
  · rw [w51a_r, if_neg (by omega), if_neg (by omega), if_neg (by omega), adT_tw h7 i7 j7 (by omega) (by omega) h0 h0']; exact h5
  · rw [w51a_r, if_neg (by omega), if_neg (by omega), if_neg (by omega), adT_o (by omega)]; exact h6
  · rw [adT_o (by omega)] at hf
    have f4 := hP.1.2.1
    rw [w51a_r, if_neg (by omega), if_neg (by omega), if_neg (by omega), w51a_r, if_neg (by omega), if_neg (by omega), if_neg (by omega), adT_o (by omega), adT_o (by omega)]; exact h7' f hf
  · rw [w51a_r, if_neg (by omega), if_neg (by omega), if_neg (by omega), adT_o (by omega)]; exact h8
  · rw [w51a_r, if_neg (by omega), if_neg (by omega), if_neg (by omega), adT_o (by omega)]; exact h9
  · rw [w51a_r, if_neg (by omega), if_neg (by omega), if_neg (by omega), adT_o (by omega)]; exact h10
theorem w51qa_CP (h : CPa μ pa) (hP : PK pa) {i j : Nat} (hi : i < pa 0) (hj : j < pa 0) (hij : i ≠ j) (h0 : tw pa i j = 0) : CPa (w51a μ 17000720 8 i j (bsN pa 2 i ||| 2 ^ j) (bsN pa 2 j ||| 2 ^ i) (twN pa 2)) (adT pa i j 2) := by
  have h7 := hP.1.1
  have i7 : i < 7 := by omega
  have j7 : j < 7 := by omega
  have h0' : tw pa j i = 0 := (hP.2.2.2.1 i j i7 j7).2.symm.trans h0
  obtain ⟨h1, h2, h3, h4, h5, h6, h7', h8, h9, h10⟩ := h
  obtain ⟨b1, b2⟩ := adT_bs (pa := pa) (q := 2) i7 j7 hij
  refine ⟨?_, fun a ha => ?_, fun a ha => ⟨?_, ?_⟩, ?_, ?_, ?_, fun f hf => ?_, ?_, ?_, ?_⟩
  · rw [w51a_r, if_neg (by omega), if_neg (by omega), if_neg (by omega), adT_o (by omega)]; exact h1
  · rw [adT_o (by omega)] at ha
    have g := h2 a ha
    unfold kd wmn tl nk at g ⊢
    rw [adT_o (by omega), adT_o (by omega), adT_o (by omega), adT_o (by omega)]
    refine ⟨?_, ?_, ?_, ?_⟩
    · rw [w51a_r, if_neg (by omega), if_neg (by omega), if_neg (by omega)]; exact g.1
    · rw [w51a_r, if_neg (by omega), if_neg (by omega), if_neg (by omega)]; exact g.2.1
    · rw [w51a_r, if_neg (by omega), if_neg (by omega), if_neg (by omega)]; exact g.2.2.1
    · rw [w51a_r, if_neg (by omega), if_neg (by omega), if_neg (by omega)]; exact g.2.2.2
  · rw [w51a_r, if_neg (by omega), if_neg (by omega), if_neg (by omega), adT_bw i7 j7 ha (by omega) (by omega) h0 h0']
    exact (h3 a ha).1
  · by_cases e1 : a = j
    · subst e1
      rw [w51a_r, if_neg (by omega), if_pos ⟨rfl, rfl⟩, b2]
    · by_cases e2 : a = i
      · subst e2
        rw [w51a_r, if_neg (by omega), if_neg (by omega), if_pos ⟨rfl, rfl⟩, b1]
      · rw [w51a_r, if_neg (by omega), if_neg (by omega), if_neg (by omega), adT_bo i7 j7 ha e2 e1]
        exact (h3 a ha).2
  · rw [w51a_r, if_neg (by omega), if_neg (by omega), if_neg (by omega), adT_tw h7 i7 j7 (by omega) (by omega) h0 h0']; exact h4
  · rw [w51a_r, if_pos ⟨rfl, rfl⟩, adT_tq h7 hi hj hij (by omega) h0 h0']
  · rw [w51a_r, if_neg (by omega), if_neg (by omega), if_neg (by omega), adT_o (by omega)]; exact h6
  · rw [adT_o (by omega)] at hf
    have f4 := hP.1.2.1
    rw [w51a_r, if_neg (by omega), if_neg (by omega), if_neg (by omega), w51a_r, if_neg (by omega), if_neg (by omega), if_neg (by omega), adT_o (by omega), adT_o (by omega)]; exact h7' f hf
  · rw [w51a_r, if_neg (by omega), if_neg (by omega), if_neg (by omega), adT_o (by omega)]; exact h8
  · rw [w51a_r, if_neg (by omega), if_neg (by omega), if_neg (by omega), adT_o (by omega)]; exact h9
  · rw [w51a_r, if_neg (by omega), if_neg (by omega), if_neg (by omega), adT_o (by omega)]; exact h10
end T1
section T1
variable {d : Nat} {μ : PM} {pa : Nat → Nat}
theorem c50b (hF : FX μ) (h : CPb μ pa) (hP : PK pa) {i j : Nat} (hi : i < 7) (hj : j < 7) : (tw pa i j ≠ 0 → ∀ Q, R d 50 0 [some (.ref 25000005), some (.int (nI i)), some (.int (nI j))] [] μ Q = Q (some (.int (nI 1))) μ) ∧ (tw pa i j = 0 → ∀ Q, R d 50 0 [some (.ref 25000005), some (.int (nI i)), some (.int (nI j))] [] μ Q = Q (some (.int (nI 0))) μ) := by
  obtain ⟨p1, p2⟩ := h.2.2.1 i hi
  have k := shr_2 j (by omega) (bsN pa 1 i ||| bsN pa 2 i) (Nat.lt_of_lt_of_le (Nat.or_lt_two_pow (n := 7) (bs_ex pa 1 i).1 (bs_ex pa 2 i).1) (by omega))
  have z := tw_bt hP hi hj
  refine ⟨fun e Q => ?_, fun e Q => ?_⟩
  · rw [z.mpr e] at k
    simp (disch := first | assumption | omega) only [r50_0, r50_1, r50_4, r50_5, r50_6, r50_7, r50_10, r50_11, r50_12, r50_13, r50_14, r50_15, r50_16, j50_17, r50_20, r50_21, r50_24, r50_25, rI_wI, rL_wL, rR_wR, rI_wL, rI_wR, rL_wI, rL_wR, rR_wI, rR_wL, va_rf_some, va_rf_none, Option.toList_some, Option.toList_none, List.nil_append, List.cons_append, true_and, and_true, false_and, and_false, and_self, if_true, if_false, not_true_eq_false, not_false_eq_true, or_false, false_or, or_true, true_or, or_self, ite_true, ite_false, Option.some.injEq, reduceCtorEq, Nat.reduceMod, Nat.reduceDiv, Nat.reduceLeDiff, Nat.reduceEqDiff, Nat.reduceAdd, Nat.reduceMul, Nat.reduceSub, Nat.reduceLT, sw_nil, sw_int, sw_long, sw_ref, li, lo, nI_m1, ng_eq, nn_eq, en_eq, ng_le, ng_lt, Int32.neg_neg, nI_add, pk_mul, nI_clampO, nI_ltO, nI_leO, nI_eqO, nI_subO, nle_t, nle_f, nlt_t, nlt_f, neq_f, fx_2000010_0, fx_2000010_1, fx_2000010_4, fx_2000010_5, fx_2000010_6, fx_2000010_8, fx_2000010_10, fx_2000010_11, fx_2000010_12, fx_2000010_13, fx_2000010_14, fx_2000010_15, fx_2000010_16, fx_2000010_17, fx_2000010_18, fx_3000009_0, fx_5000007_0, fx_5000007_1, fx_5000007_2, fx_5000007_3, fx_7000001_0, fx_11000005_1, fx_11000005_2, fx_11000005_3, fx_11000005_4, fx_11000005_5, fx_11000005_6, fx_11000005_10, fx_11000005_11, fx_11000005_12, fx_20000002_0, fx_20000002_2, fx_20000002_3, fx_20000002_4, fx_25000005_1, fx_25000005_2, fx_25000005_3, fx_25000005_4, fx_25000005_5, fx_25000005_6, fx_25000005_10, fx_25000005_11, fx_25000005_12, fx_34000002_0, fx_34000002_2, fx_34000002_3, fx_34000002_4, fx_39000008_0, fx_41000006_0, fx_42002024_0, fx_42002024_1, fx_42002024_2, fx_42002024_3, fx_42002024_4, fx_42002024_5, fx_42002024_6, fx_42002024_7, fx_42002024_8, fx_42002024_9, fx_42002024_10, fx_42002024_11, fx_42002024_12, fx_42002024_13, fx_42002024_14, fx_42002024_15, fx_42002024_16, fx_42002024_17, fx_42002024_18, fx_42002024_19, fx_43000008_0, fx_45000008_0, fx_47000008_0, fx_49000008_0, fx_51000008_0, fx_53000008_0, fx_55000008_0, fx_57000008_0, fx_59000008_0, fx_61000008_0, fx_63000008_0, fx_65000008_0, fx_67000008_0, fx_69000008_0, fx_71000008_0, fx_73000008_0, fx_75000008_0, fx_77000008_0, fx_79000008_0, fx_81000008_0, fx_83000424_0, fx_83000424_1, fx_83000424_2, fx_83000424_3, fx_85000004_0, fx_85000004_1, fx_85000004_2, fx_85000004_3, fx_85000004_4, fx_85000004_5, fx_85000004_6, fx_85000004_10, fx_102000008_0, fx_104000008_0, fx_106000008_0, fx_108000008_0, fx_110000011_1, fx_110000011_4, fx_110000011_5, fx_110000011_6, fx_110000011_9, fx_110000011_10, fx_110000011_11, fx_110000011_12, fx_110000011_14, fx_110000011_15, fx_110000011_20, fx_110000011_21, fx_110000011_22, fx_110000011_23, fx_110000011_25, fx_110000011_26, fx_110000011_31, fx_110000011_32, fx_110000011_37, fx_110000011_38, fx_110000011_39, fx_110000011_40, p1, p2, or_nI, k]
  · have : bt (bsN pa 1 i ||| bsN pa 2 i) j = 0 := by
      rcases bt_01 (bsN pa 1 i ||| bsN pa 2 i) j with q | q
      · exact q
      · exact absurd e (z.mp q)
    rw [this] at k
    simp (disch := first | assumption | omega) only [r50_0, r50_1, r50_4, r50_5, r50_6, r50_7, r50_10, r50_11, r50_12, r50_13, r50_14, r50_15, r50_16, j50_17, r50_20, r50_21, r50_24, r50_25, rI_wI, rL_wL, rR_wR, rI_wL, rI_wR, rL_wI, rL_wR, rR_wI, rR_wL, va_rf_some, va_rf_none, Option.toList_some, Option.toList_none, List.nil_append, List.cons_append, true_and, and_true, false_and, and_false, and_self, if_true, if_false, not_true_eq_false, not_false_eq_true, or_false, false_or, or_true, true_or, or_self, ite_true, ite_false, Option.some.injEq, reduceCtorEq, Nat.reduceMod, Nat.reduceDiv, Nat.reduceLeDiff, Nat.reduceEqDiff, Nat.reduceAdd, Nat.reduceMul, Nat.reduceSub, Nat.reduceLT, sw_nil, sw_int, sw_long, sw_ref, li, lo, nI_m1, ng_eq, nn_eq, en_eq, ng_le, ng_lt, Int32.neg_neg, nI_add, pk_mul, nI_clampO, nI_ltO, nI_leO, nI_eqO, nI_subO, nle_t, nle_f, nlt_t, nlt_f, neq_f, fx_2000010_0, fx_2000010_1, fx_2000010_4, fx_2000010_5, fx_2000010_6, fx_2000010_8, fx_2000010_10, fx_2000010_11, fx_2000010_12, fx_2000010_13, fx_2000010_14, fx_2000010_15, fx_2000010_16, fx_2000010_17, fx_2000010_18, fx_3000009_0, fx_5000007_0, fx_5000007_1, fx_5000007_2, fx_5000007_3, fx_7000001_0, fx_11000005_1, fx_11000005_2, fx_11000005_3, fx_11000005_4, fx_11000005_5, fx_11000005_6, fx_11000005_10, fx_11000005_11, fx_11000005_12, fx_20000002_0, fx_20000002_2, fx_20000002_3, fx_20000002_4, fx_25000005_1, fx_25000005_2, fx_25000005_3, fx_25000005_4, fx_25000005_5, fx_25000005_6, fx_25000005_10, fx_25000005_11, fx_25000005_12, fx_34000002_0, fx_34000002_2, fx_34000002_3, fx_34000002_4, fx_39000008_0, fx_41000006_0, fx_42002024_0, fx_42002024_1, fx_42002024_2, fx_42002024_3, fx_42002024_4, fx_42002024_5, fx_42002024_6, fx_42002024_7, fx_42002024_8, fx_42002024_9, fx_42002024_10, fx_42002024_11, fx_42002024_12, fx_42002024_13, fx_42002024_14, fx_42002024_15, fx_42002024_16, fx_42002024_17, fx_42002024_18, fx_42002024_19, fx_43000008_0, fx_45000008_0, fx_47000008_0, fx_49000008_0, fx_51000008_0, fx_53000008_0, fx_55000008_0, fx_57000008_0, fx_59000008_0, fx_61000008_0, fx_63000008_0, fx_65000008_0, fx_67000008_0, fx_69000008_0, fx_71000008_0, fx_73000008_0, fx_75000008_0, fx_77000008_0, fx_79000008_0, fx_81000008_0, fx_83000424_0, fx_83000424_1, fx_83000424_2, fx_83000424_3, fx_85000004_0, fx_85000004_1, fx_85000004_2, fx_85000004_3, fx_85000004_4, fx_85000004_5, fx_85000004_6, fx_85000004_10, fx_102000008_0, fx_104000008_0, fx_106000008_0, fx_108000008_0, fx_110000011_1, fx_110000011_4, fx_110000011_5, fx_110000011_6, fx_110000011_9, fx_110000011_10, fx_110000011_11, fx_110000011_12, fx_110000011_14, fx_110000011_15, fx_110000011_20, fx_110000011_21, fx_110000011_22, fx_110000011_23, fx_110000011_25, fx_110000011_26, fx_110000011_31, fx_110000011_32, fx_110000011_37, fx_110000011_38, fx_110000011_39, fx_110000011_40, p1, p2, or_nI, k]
def w51b (μ : PM) (B k i j bi bj n : Nat) : PM := wI (wI (wI μ B i (nI bi)) B j (nI bj)) 25000005 k (nI (n + 1))
theorem w51b_DF (μ : PM) {B : Nat} (hB : B = 30000720 ∨ B = 31000720) (k i j bi bj n : Nat) : DFb μ (w51b μ B k i j bi bj n) := DFb_tr (DFb_tr (DFb_w μ _ (by omega)) (DFb_w _ _ (by omega))) (DFb_w _ _ (by omega))
theorem w51b_r {B k i j bi bj n : Nat} (x y : Nat) : rI (w51b μ B k i j bi bj n) x y = if x = 25000005 ∧ y = k then nI (n + 1) else if x = B ∧ y = j then nI bj else if x = B ∧ y = i then nI bi else rI μ x y := by
  unfold w51b
  simp only [rI_wI, eq_comm]
theorem c51pb (hF : FX μ) (h : CPb μ pa) {i j : Nat} (hi : i < 7) (hj : j < 7) (hij : i ≠ j) : ∀ Q, R d 51 0 [some (.ref 25000005), some (.int (nI i)), some (.int (nI j)), some (.int (nI 1)), none] [] μ Q = Q none (w51b μ 30000720 7 i j (bsN pa 1 i ||| 2 ^ j) (bsN pa 1 j ||| 2 ^ i) (twN pa 1)) := by
  intro Q
  obtain ⟨p1, p2⟩ := h.2.2.1 i hi
  obtain ⟨q1, q2⟩ := h.2.2.1 j hj
  have t := h.2.2.2.1
  have s1 := shl_2 i (by omega)
  have s2 := shl_2 j (by omega)
  unfold w51b
  simp (disch := first | assumption | omega) only [r51_0, r51_1, r51_4, r51_5, r51_8, r51_11, r51_12, r51_15, r51_17, r51_19, r51_20, r51_21, r51_22, r51_23, r51_24, r51_25, r51_26, r51_27, r51_29, r51_30, r51_31, r51_32, r51_33, r51_34, r51_35, r51_36, r51_37, r51_38, r51_41, r51_42, r51_42i, r51_43, r51_46, r51_47, r51_48, r51_51, r51_54, r51_55, r51_55i, r51_56, r51_59, r51_60, r51_61, r51_64, rI_wI, rL_wL, rR_wR, rI_wL, rI_wR, rL_wI, rL_wR, rR_wI, rR_wL, va_rf_some, va_rf_none, Option.toList_some, Option.toList_none, List.nil_append, List.cons_append, true_and, and_true, false_and, and_false, and_self, if_true, if_false, not_true_eq_false, not_false_eq_true, or_false, false_or, or_true, true_or, or_self, ite_true, ite_false, Option.some.injEq, reduceCtorEq, Nat.reduceMod, Nat.reduceDiv, Nat.reduceLeDiff, Nat.reduceEqDiff, Nat.reduceAdd, Nat.reduceMul, Nat.reduceSub, Nat.reduceLT, sw_nil, sw_int, sw_long, sw_ref, li, lo, nI_m1, ng_eq, nn_eq, en_eq, ng_le, ng_lt, Int32.neg_neg, nI_add, pk_mul, nI_clampO, nI_ltO, nI_leO, nI_eqO, nI_subO, nle_t, nle_f, nlt_t, nlt_f, neq_f, fx_2000010_0, fx_2000010_1, fx_2000010_4, fx_2000010_5, fx_2000010_6, fx_2000010_8, fx_2000010_10, fx_2000010_11, fx_2000010_12, fx_2000010_13, fx_2000010_14, fx_2000010_15, fx_2000010_16, fx_2000010_17, fx_2000010_18, fx_3000009_0, fx_5000007_0, fx_5000007_1, fx_5000007_2, fx_5000007_3, fx_7000001_0, fx_11000005_1, fx_11000005_2, fx_11000005_3, fx_11000005_4, fx_11000005_5, fx_11000005_6, fx_11000005_10, fx_11000005_11, fx_11000005_12, fx_20000002_0, fx_20000002_2, fx_20000002_3, fx_20000002_4, fx_25000005_1, fx_25000005_2, fx_25000005_3, fx_25000005_4, fx_25000005_5, fx_25000005_6, fx_25000005_10, fx_25000005_11, fx_25000005_12, fx_34000002_0, fx_34000002_2, fx_34000002_3, fx_34000002_4, fx_39000008_0, fx_41000006_0, fx_42002024_0, fx_42002024_1, fx_42002024_2, fx_42002024_3, fx_42002024_4, fx_42002024_5, fx_42002024_6, fx_42002024_7, fx_42002024_8, fx_42002024_9, fx_42002024_10, fx_42002024_11, fx_42002024_12, fx_42002024_13, fx_42002024_14, fx_42002024_15, fx_42002024_16, fx_42002024_17, fx_42002024_18, fx_42002024_19, fx_43000008_0, fx_45000008_0, fx_47000008_0, fx_49000008_0, fx_51000008_0, fx_53000008_0, fx_55000008_0, fx_57000008_0, fx_59000008_0, fx_61000008_0, fx_63000008_0, fx_65000008_0, fx_67000008_0, fx_69000008_0, fx_71000008_0, fx_73000008_0, fx_75000008_0, fx_77000008_0, fx_79000008_0, fx_81000008_0, fx_83000424_0, fx_83000424_1, fx_83000424_2, fx_83000424_3, fx_85000004_0, fx_85000004_1, fx_85000004_2, fx_85000004_3, fx_85000004_4, fx_85000004_5, fx_85000004_6, fx_85000004_10, fx_102000008_0, fx_104000008_0, fx_106000008_0, fx_108000008_0, fx_110000011_1, fx_110000011_4, fx_110000011_5, fx_110000011_6, fx_110000011_9, fx_110000011_10, fx_110000011_11, fx_110000011_12, fx_110000011_14, fx_110000011_15, fx_110000011_20, fx_110000011_21, fx_110000011_22, fx_110000011_23, fx_110000011_25, fx_110000011_26, fx_110000011_31, fx_110000011_32, fx_110000011_37, fx_110000011_38, fx_110000011_39, fx_110000011_40, p1, q1, t, or_nI, s1, s2, hij, eq_comm]
theorem c51qb (hF : FX μ) (h : CPb μ pa) {i j : Nat} (hi : i < 7) (hj : j < 7) (hij : i ≠ j) : ∀ Q, R d 51 0 [some (.ref 25000005), some (.int (nI i)), some (.int (nI j)), some (.int (nI 0)), none] [] μ Q = Q none (w51b μ 31000720 8 i j (bsN pa 2 i ||| 2 ^ j) (bsN pa 2 j ||| 2 ^ i) (twN pa 2)) := by
  intro Q
  obtain ⟨p1, p2⟩ := h.2.2.1 i hi
  obtain ⟨q1, q2⟩ := h.2.2.1 j hj
  have t := h.2.2.2.2.1
  have s1 := shl_2 i (by omega)
  have s2 := shl_2 j (by omega)
  unfold w51b
  simp (disch := first | assumption | omega) only [r51_0, r51_1, r51_4, r51_5, r51_8, r51_11, r51_12, r51_15, r51_17, r51_19, r51_20, r51_21, r51_22, r51_23, r51_24, r51_25, r51_26, r51_27, r51_29, r51_30, r51_31, r51_32, r51_33, r51_34, r51_35, r51_36, r51_37, r51_38, r51_41, r51_42, r51_42i, r51_43, r51_46, r51_47, r51_48, r51_51, r51_54, r51_55, r51_55i, r51_56, r51_59, r51_60, r51_61, r51_64, rI_wI, rL_wL, rR_wR, rI_wL, rI_wR, rL_wI, rL_wR, rR_wI, rR_wL, va_rf_some, va_rf_none, Option.toList_some, Option.toList_none, List.nil_append, List.cons_append, true_and, and_true, false_and, and_false, and_self, if_true, if_false, not_true_eq_false, not_false_eq_true, or_false, false_or, or_true, true_or, or_self, ite_true, ite_false, Option.some.injEq, reduceCtorEq, Nat.reduceMod, Nat.reduceDiv, Nat.reduceLeDiff, Nat.reduceEqDiff, Nat.reduceAdd, Nat.reduceMul, Nat.reduceSub, Nat.reduceLT, sw_nil, sw_int, sw_long, sw_ref, li, lo, nI_m1, ng_eq, nn_eq, en_eq, ng_le, ng_lt, Int32.neg_neg, nI_add, pk_mul, nI_clampO, nI_ltO, nI_leO, nI_eqO, nI_subO, nle_t, nle_f, nlt_t, nlt_f, neq_f, fx_2000010_0, fx_2000010_1, fx_2000010_4, fx_2000010_5, fx_2000010_6, fx_2000010_8, fx_2000010_10, fx_2000010_11, fx_2000010_12, fx_2000010_13, fx_2000010_14, fx_2000010_15, fx_2000010_16, fx_2000010_17, fx_2000010_18, fx_3000009_0, fx_5000007_0, fx_5000007_1, fx_5000007_2, fx_5000007_3, fx_7000001_0, fx_11000005_1, fx_11000005_2, fx_11000005_3, fx_11000005_4, fx_11000005_5, fx_11000005_6, fx_11000005_10, fx_11000005_11, fx_11000005_12, fx_20000002_0, fx_20000002_2, fx_20000002_3, fx_20000002_4, fx_25000005_1, fx_25000005_2, fx_25000005_3, fx_25000005_4, fx_25000005_5, fx_25000005_6, fx_25000005_10, fx_25000005_11, fx_25000005_12, fx_34000002_0, fx_34000002_2, fx_34000002_3, fx_34000002_4, fx_39000008_0, fx_41000006_0, fx_42002024_0, fx_42002024_1, fx_42002024_2, fx_42002024_3, fx_42002024_4, fx_42002024_5, fx_42002024_6, fx_42002024_7, fx_42002024_8, fx_42002024_9, fx_42002024_10, fx_42002024_11, fx_42002024_12, fx_42002024_13, fx_42002024_14, fx_42002024_15, fx_42002024_16, fx_42002024_17, fx_42002024_18, fx_42002024_19, fx_43000008_0, fx_45000008_0, fx_47000008_0, fx_49000008_0, fx_51000008_0, fx_53000008_0, fx_55000008_0, fx_57000008_0, fx_59000008_0, fx_61000008_0, fx_63000008_0, fx_65000008_0, fx_67000008_0, fx_69000008_0, fx_71000008_0, fx_73000008_0, fx_75000008_0, fx_77000008_0, fx_79000008_0, fx_81000008_0, fx_83000424_0, fx_83000424_1, fx_83000424_2, fx_83000424_3, fx_85000004_0, fx_85000004_1, fx_85000004_2, fx_85000004_3, fx_85000004_4, fx_85000004_5, fx_85000004_6, fx_85000004_10, fx_102000008_0, fx_104000008_0, fx_106000008_0, fx_108000008_0, fx_110000011_1, fx_110000011_4, fx_110000011_5, fx_110000011_6, fx_110000011_9, fx_110000011_10, fx_110000011_11, fx_110000011_12, fx_110000011_14, fx_110000011_15, fx_110000011_20, fx_110000011_21, fx_110000011_22, fx_110000011_23, fx_110000011_25, fx_110000011_26, fx_110000011_31, fx_110000011_32, fx_110000011_37, fx_110000011_38, fx_110000011_39, fx_110000011_40, p2, q2, t, or_nI, s1, s2, hij, eq_comm]
theorem w51pb_CP (h : CPb μ pa) (hP : PK pa) {i j : Nat} (hi : i < pa 0) (hj : j < pa 0) (hij : i ≠ j) (h0 : tw pa i j = 0) : CPb (w51b μ 30000720 7 i j (bsN pa 1 i ||| 2 ^ j) (bsN pa 1 j ||| 2 ^ i) (twN pa 1)) (adT pa i j 1) := by
  have h7 := hP.1.1
  have i7 : i < 7 := by omega
  have j7 : j < 7 := by omega
  have h0' : tw pa j i = 0 := (hP.2.2.2.1 i j i7 j7).2.symm.trans h0
  obtain ⟨h1, h2, h3, h4, h5, h6, h7', h8, h9, h10⟩ := h
  obtain ⟨b1, b2⟩ := adT_bs (pa := pa) (q := 1) i7 j7 hij
  refine ⟨?_, fun a ha => ?_, fun a ha => ⟨?_, ?_⟩, ?_, ?_, ?_, fun f hf => ?_, ?_, ?_, ?_⟩
  · rw [w51b_r, if_neg (by omega), if_neg (by omega), if_neg (by omega), adT_o (by omega)]; exact h1
  · rw [adT_o (by omega)] at ha
    have g := h2 a ha
    unfold kd wmn tl nk at g ⊢
    rw [adT_o (by omega), adT_o (by omega), adT_o (by omega), adT_o (by omega)]
    refine ⟨?_, ?_, ?_, ?_⟩
    · rw [w51b_r, if_neg (by omega), if_neg (by omega), if_neg (by omega)]; exact g.1
    · rw [w51b_r, if_neg (by omega), if_neg (by omega), if_neg (by omega)]; exact g.2.1
    · rw [w51b_r, if_neg (by omega), if_neg (by omega), if_neg (by omega)]; exact g.2.2.1
    · rw [w51b_r, if_neg (by omega), if_neg (by omega), if_neg (by omega)]; exact g.2.2.2
  · by_cases e1 : a = j
    · subst e1
      rw [w51b_r, if_neg (by omega), if_pos ⟨rfl, rfl⟩, b2]
    · by_cases e2 : a = i
      · subst e2
        rw [w51b_r, if_neg (by omega), if_neg (by omega), if_pos ⟨rfl, rfl⟩, b1]
      · rw [w51b_r, if_neg (by omega), if_neg (by omega), if_neg (by omega), adT_bo i7 j7 ha e2 e1]
        exact (h3 a ha).1
  · rw [w51b_r, if_neg (by omega), if_neg (by omega), if_neg (by omega), adT_bw i7 j7 ha (by omega) (by omega) h0 h0']
    exact (h3 a ha).2
  · rw [w51b_r, if_pos ⟨rfl, rfl⟩, adT_tq h7 hi hj hij (by omega) h0 h0']
  · rw [w51b_r, if_neg (by omega), if_neg (by omega), if_neg (by omega), adT_tw h7 i7 j7 (by omega) (by omega) h0 h0']; exact h5
  · rw [w51b_r, if_neg (by omega), if_neg (by omega), if_neg (by omega), adT_o (by omega)]; exact h6
  · rw [adT_o (by omega)] at hf
    have f4 := hP.1.2.1
    rw [w51b_r, if_neg (by omega), if_neg (by omega), if_neg (by omega), w51b_r, if_neg (by omega), if_neg (by omega), if_neg (by omega), adT_o (by omega), adT_o (by omega)]; exact h7' f hf
  · rw [w51b_r, if_neg (by omega), if_neg (by omega), if_neg (by omega), adT_o (by omega)]; exact h8
  · rw [w51b_r, if_neg (by omega), if_neg (by omega), if_neg (by omega), adT_o (by omega)]; exact h9
  · rw [w51b_r, if_neg (by omega), if_neg (by omega), if_neg (by omega), adT_o (by omega)]; exact h10
theorem w51qb_CP (h : CPb μ pa) (hP : PK pa) {i j : Nat} (hi : i < pa 0) (hj : j < pa 0) (hij : i ≠ j) (h0 : tw pa i j = 0) : CPb (w51b μ 31000720 8 i j (bsN pa 2 i ||| 2 ^ j) (bsN pa 2 j ||| 2 ^ i) (twN pa 2)) (adT pa i j 2) := by
  have h7 := hP.1.1
  have i7 : i < 7 := by omega
  have j7 : j < 7 := by omega
  have h0' : tw pa j i = 0 := (hP.2.2.2.1 i j i7 j7).2.symm.trans h0
  obtain ⟨h1, h2, h3, h4, h5, h6, h7', h8, h9, h10⟩ := h
  obtain ⟨b1, b2⟩ := adT_bs (pa := pa) (q := 2) i7 j7 hij
  refine ⟨?_, fun a ha => ?_, fun a ha => ⟨?_, ?_⟩, ?_, ?_, ?_, fun f hf => ?_, ?_, ?_, ?_⟩
  · rw [w51b_r, if_neg (by omega), if_neg (by omega), if_neg (by omega), adT_o (by omega)]; exact h1
  · rw [adT_o (by omega)] at ha
    have g := h2 a ha
    unfold kd wmn tl nk at g ⊢
    rw [adT_o (by omega), adT_o (by omega), adT_o (by omega), adT_o (by omega)]
    refine ⟨?_, ?_, ?_, ?_⟩
    · rw [w51b_r, if_neg (by omega), if_neg (by omega), if_neg (by omega)]; exact g.1
    · rw [w51b_r, if_neg (by omega), if_neg (by omega), if_neg (by omega)]; exact g.2.1
    · rw [w51b_r, if_neg (by omega), if_neg (by omega), if_neg (by omega)]; exact g.2.2.1
    · rw [w51b_r, if_neg (by omega), if_neg (by omega), if_neg (by omega)]; exact g.2.2.2
  · rw [w51b_r, if_neg (by omega), if_neg (by omega), if_neg (by omega), adT_bw i7 j7 ha (by omega) (by omega) h0 h0']
    exact (h3 a ha).1
  · by_cases e1 : a = j
    · subst e1
      rw [w51b_r, if_neg (by omega), if_pos ⟨rfl, rfl⟩, b2]
    · by_cases e2 : a = i
      · subst e2
        rw [w51b_r, if_neg (by omega), if_neg (by omega), if_pos ⟨rfl, rfl⟩, b1]
      · rw [w51b_r, if_neg (by omega), if_neg (by omega), if_neg (by omega), adT_bo i7 j7 ha e2 e1]
        exact (h3 a ha).2
  · rw [w51b_r, if_neg (by omega), if_neg (by omega), if_neg (by omega), adT_tw h7 i7 j7 (by omega) (by omega) h0 h0']; exact h4
  · rw [w51b_r, if_pos ⟨rfl, rfl⟩, adT_tq h7 hi hj hij (by omega) h0 h0']
  · rw [w51b_r, if_neg (by omega), if_neg (by omega), if_neg (by omega), adT_o (by omega)]; exact h6
  · rw [adT_o (by omega)] at hf
    have f4 := hP.1.2.1
    rw [w51b_r, if_neg (by omega), if_neg (by omega), if_neg (by omega), w51b_r, if_neg (by omega), if_neg (by omega), if_neg (by omega), adT_o (by omega), adT_o (by omega)]; exact h7' f hf
  · rw [w51b_r, if_neg (by omega), if_neg (by omega), if_neg (by omega), adT_o (by omega)]; exact h8
  · rw [w51b_r, if_neg (by omega), if_neg (by omega), if_neg (by omega), adT_o (by omega)]; exact h9
  · rw [w51b_r, if_neg (by omega), if_neg (by omega), if_neg (by omega), adT_o (by omega)]; exact h10
end T1
