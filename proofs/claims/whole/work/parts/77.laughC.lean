/-! WHO LAUGHS: THE CLASS -/
theorem sh1 : ∀ p, p < 7 → nI 1 <<< (nI p &&& nI 31) = nI (2 ^ p) := by decide +kernel
section T1
variable {d : Nat} {μ : PM} {pa : Nat → Nat} {lw : LW} {s : Nat → Nat} {un : List (Nat → Nat)} {mk : Nat → Option (Nat → Nat)} {tp : List Nat}
theorem SC_WL {μ ν : PM} {W : Nat} {l : List Nat} (h : SC μ ν) (hW : W % 100 = 20 ∧ W ≠ 24006420 ∧ W ≠ 38006420) (hL : WL μ W l) : WL ν W l := fun i hi => (h.1 _ _ hW.2.1 hW.2.2 (by omega)).trans (hL i hi)
theorem l2a_SC (μ : PM) (x y : Int32) : SC μ (wI (wI μ 20000002 5 x) 20000002 6 y) := by
  refine ⟨fun a j h1 h2 h3 => ?_, fun _ _ => rfl, fun _ _ => rfl, rfl⟩
  rw [rI_wI, if_neg (by omega), rI_wI, if_neg (by omega)]
theorem val2a (hF : FX μ) (hL : CLa μ lw) (hW : LK lw) (a0 a1 : Int32) : ∃ ν, SC μ ν ∧ ∀ Q, R (d + 2) 24 0 [some (.ref 20000002), some (.int (nI 9)), none, none, none, none] [] (wI (wI μ 20000002 5 a0) 20000002 6 a1) Q = Q (some (.int (lvS (lw 2) (nI 1) (fc a0 a1 (nI 0) (nI 0) (nI 0))))) ν := by
  have hS := l2a_SC μ a0 a1
  have hF1 := SC_FX hS hF
  have hL1 := SC_CLa hS hL
  cases hlw : lw 2 with
  | none =>
    obtain ⟨q, q1, q2, q3⟩ := (hL1 2 (by omega)).1 hlw
    refine ⟨_, hS, fun Q => ?_⟩
    rw [c24ad (j := 2) (fx_20000002_2 hF1) (fx_20000002_3 hF1) (by omega) q1 q2 q3]
    rfl
  | some l =>
    obtain ⟨l1, l2, st, l3, l4, l5⟩ := (hL1 2 (by omega)).2 l hlw
    refine ⟨_, SC_tr hS (wA_SCa _ (evs (fun j => rI (wI (wI μ 20000002 5 a0) 20000002 6 a1) 20000002 (5 + j)) l ((fun j => rI (wI (wI μ 20000002 5 a0) 20000002 6 a1) 24006420 j), 0)).1), fun Q => ?_⟩
    rw [c24a (j := 2) (fx_20000002_0 hF1) (fx_20000002_2 hF1) (fx_20000002_3 hF1) (fx_20000002_4 hF1) (by omega) l5 l2 l1 l3 l4]
    rw [vE_2 (g := fc a0 a1 (nI 0) (nI 0) (nI 0)) (hW l hlw) (fun j hj => by
      match j, hj with
      | 0, _ => rfl
      | 1, _ => rfl)]
    rfl
theorem c62a (hF : FX μ) (hC : CPa μ pa) (hL : CLa μ lw) (hP : PK pa) (hW : LK lw) {a b : Nat} (ha : a < pa 0) (hb : b < pa 0) : ∃ ν, SC μ ν ∧ ∀ Q, R (d + 3) 62 0 [some (.ref 11000005), some (.int (nI a)), some (.int (nI b))] [] μ Q = Q (some (.int (nI (laN pa lw a b)))) ν := by
  have hp := hP.1.1
  have h2 : kd pa b ≤ 5 := (hP.2.1 b (by omega)).1
  unfold laN
  by_cases hk : kd pa b = 3
  · refine ⟨μ, SC_rf _, fun Q => ?_⟩
    simp (disch := first | assumption | omega) only [r62_0, r62_1, r62_4, r62_5, r62_6, r62_7, r62_10, r62_11, r62_12, r62_13, r62_16, r62_17, r62_18, r62_19, r62_22, r62_23, r62_26, r62_27, r62_28, r62_31, r62_32, r62_35, r62_37, j62_40, r62_43, r62_44, r62_47, r62_48, rI_wI, rL_wL, rR_wR, rI_wL, rI_wR, rL_wI, rL_wR, rR_wI, rR_wL, va_rf_some, va_rf_none, Option.toList_some, Option.toList_none, List.nil_append, List.cons_append, true_and, and_true, false_and, and_false, and_self, if_true, if_false, not_true_eq_false, not_false_eq_true, or_false, false_or, or_true, true_or, or_self, ite_true, ite_false, Option.some.injEq, reduceCtorEq, Nat.reduceMod, Nat.reduceDiv, Nat.reduceLeDiff, Nat.reduceEqDiff, Nat.reduceAdd, Nat.reduceMul, Nat.reduceSub, Nat.reduceLT, sw_nil, sw_int, sw_long, sw_ref, li, lo, nI_m1, ng_eq, nn_eq, en_eq, ng_le, ng_lt, Int32.neg_neg, nI_add, pk_mul, nI_clampO, nI_ltO, nI_leO, nI_eqO, nI_subO, nle_t, nle_f, nlt_t, nlt_f, neq_f, fx_2000010_0, fx_2000010_1, fx_2000010_4, fx_2000010_5, fx_2000010_6, fx_2000010_8, fx_2000010_10, fx_2000010_11, fx_2000010_12, fx_2000010_13, fx_2000010_14, fx_2000010_15, fx_2000010_16, fx_2000010_17, fx_2000010_18, fx_3000009_0, fx_5000007_0, fx_5000007_1, fx_5000007_2, fx_5000007_3, fx_7000001_0, fx_11000005_1, fx_11000005_2, fx_11000005_3, fx_11000005_4, fx_11000005_5, fx_11000005_6, fx_11000005_10, fx_11000005_11, fx_11000005_12, fx_20000002_0, fx_20000002_2, fx_20000002_3, fx_20000002_4, fx_25000005_1, fx_25000005_2, fx_25000005_3, fx_25000005_4, fx_25000005_5, fx_25000005_6, fx_25000005_10, fx_25000005_11, fx_25000005_12, fx_34000002_0, fx_34000002_2, fx_34000002_3, fx_34000002_4, fx_39000008_0, fx_41000006_0, fx_42002024_0, fx_42002024_1, fx_42002024_2, fx_42002024_3, fx_42002024_4, fx_42002024_5, fx_42002024_6, fx_42002024_7, fx_42002024_8, fx_42002024_9, fx_42002024_10, fx_42002024_11, fx_42002024_12, fx_42002024_13, fx_42002024_14, fx_42002024_15, fx_42002024_16, fx_42002024_17, fx_42002024_18, fx_42002024_19, fx_43000008_0, fx_45000008_0, fx_47000008_0, fx_49000008_0, fx_51000008_0, fx_53000008_0, fx_55000008_0, fx_57000008_0, fx_59000008_0, fx_61000008_0, fx_63000008_0, fx_65000008_0, fx_67000008_0, fx_69000008_0, fx_71000008_0, fx_73000008_0, fx_75000008_0, fx_77000008_0, fx_79000008_0, fx_81000008_0, fx_83000424_0, fx_83000424_1, fx_83000424_2, fx_83000424_3, fx_85000004_0, fx_85000004_1, fx_85000004_2, fx_85000004_3, fx_85000004_4, fx_85000004_5, fx_85000004_6, fx_85000004_10, fx_102000008_0, fx_104000008_0, fx_106000008_0, fx_108000008_0, fx_110000011_1, fx_110000011_4, fx_110000011_5, fx_110000011_6, fx_110000011_9, fx_110000011_10, fx_110000011_11, fx_110000011_12, fx_110000011_14, fx_110000011_15, fx_110000011_20, fx_110000011_21, fx_110000011_22, fx_110000011_23, fx_110000011_25, fx_110000011_26, fx_110000011_31, fx_110000011_32, fx_110000011_37, fx_110000011_38, fx_110000011_39, fx_110000011_40, cpa_k hC, hk]
  · have k53 := fun Q => c53a (d := d + 2) (Q := Q) hF hC hP ha hb
    obtain ⟨ν, n1, n2⟩ := val2a (d := d) hF hL hW (nI (dfN (tl pa a) (tl pa b))) (nI (nk pa b))
    refine ⟨ν, n1, fun Q => ?_⟩
    generalize lvS (lw 2) (nI 1) (fc (nI (dfN (tl pa a) (tl pa b))) (nI (nk pa b)) (nI 0) (nI 0) (nI 0)) = v at *
    by_cases hv : v = nI 0
    · subst hv
      simp (disch := first | assumption | omega) only [r62_0, r62_1, r62_4, r62_5, r62_6, r62_7, r62_10, r62_11, r62_12, r62_13, r62_16, r62_17, r62_18, r62_19, r62_22, r62_23, r62_26, r62_27, r62_28, r62_31, r62_32, r62_35, r62_37, j62_40, r62_43, r62_44, r62_47, r62_48, r22_0, r22_1, r22_2, r22_5, r22_6, r22_7, r22_10, rI_wI, rL_wL, rR_wR, rI_wL, rI_wR, rL_wI, rL_wR, rR_wI, rR_wL, va_rf_some, va_rf_none, Option.toList_some, Option.toList_none, List.nil_append, List.cons_append, true_and, and_true, false_and, and_false, and_self, if_true, if_false, not_true_eq_false, not_false_eq_true, or_false, false_or, or_true, true_or, or_self, ite_true, ite_false, Option.some.injEq, reduceCtorEq, Nat.reduceMod, Nat.reduceDiv, Nat.reduceLeDiff, Nat.reduceEqDiff, Nat.reduceAdd, Nat.reduceMul, Nat.reduceSub, Nat.reduceLT, sw_nil, sw_int, sw_long, sw_ref, li, lo, nI_m1, ng_eq, nn_eq, en_eq, ng_le, ng_lt, Int32.neg_neg, nI_add, pk_mul, nI_clampO, nI_ltO, nI_leO, nI_eqO, nI_subO, nle_t, nle_f, nlt_t, nlt_f, neq_f, fx_2000010_0, fx_2000010_1, fx_2000010_4, fx_2000010_5, fx_2000010_6, fx_2000010_8, fx_2000010_10, fx_2000010_11, fx_2000010_12, fx_2000010_13, fx_2000010_14, fx_2000010_15, fx_2000010_16, fx_2000010_17, fx_2000010_18, fx_3000009_0, fx_5000007_0, fx_5000007_1, fx_5000007_2, fx_5000007_3, fx_7000001_0, fx_11000005_1, fx_11000005_2, fx_11000005_3, fx_11000005_4, fx_11000005_5, fx_11000005_6, fx_11000005_10, fx_11000005_11, fx_11000005_12, fx_20000002_0, fx_20000002_2, fx_20000002_3, fx_20000002_4, fx_25000005_1, fx_25000005_2, fx_25000005_3, fx_25000005_4, fx_25000005_5, fx_25000005_6, fx_25000005_10, fx_25000005_11, fx_25000005_12, fx_34000002_0, fx_34000002_2, fx_34000002_3, fx_34000002_4, fx_39000008_0, fx_41000006_0, fx_42002024_0, fx_42002024_1, fx_42002024_2, fx_42002024_3, fx_42002024_4, fx_42002024_5, fx_42002024_6, fx_42002024_7, fx_42002024_8, fx_42002024_9, fx_42002024_10, fx_42002024_11, fx_42002024_12, fx_42002024_13, fx_42002024_14, fx_42002024_15, fx_42002024_16, fx_42002024_17, fx_42002024_18, fx_42002024_19, fx_43000008_0, fx_45000008_0, fx_47000008_0, fx_49000008_0, fx_51000008_0, fx_53000008_0, fx_55000008_0, fx_57000008_0, fx_59000008_0, fx_61000008_0, fx_63000008_0, fx_65000008_0, fx_67000008_0, fx_69000008_0, fx_71000008_0, fx_73000008_0, fx_75000008_0, fx_77000008_0, fx_79000008_0, fx_81000008_0, fx_83000424_0, fx_83000424_1, fx_83000424_2, fx_83000424_3, fx_85000004_0, fx_85000004_1, fx_85000004_2, fx_85000004_3, fx_85000004_4, fx_85000004_5, fx_85000004_6, fx_85000004_10, fx_102000008_0, fx_104000008_0, fx_106000008_0, fx_108000008_0, fx_110000011_1, fx_110000011_4, fx_110000011_5, fx_110000011_6, fx_110000011_9, fx_110000011_10, fx_110000011_11, fx_110000011_12, fx_110000011_14, fx_110000011_15, fx_110000011_20, fx_110000011_21, fx_110000011_22, fx_110000011_23, fx_110000011_25, fx_110000011_26, fx_110000011_31, fx_110000011_32, fx_110000011_37, fx_110000011_38, fx_110000011_39, fx_110000011_40, cpa_k hC, cpa_n hC, hk, k53, n2]
    · have hv' := eq_false hv
      simp (disch := first | assumption | omega) only [r62_0, r62_1, r62_4, r62_5, r62_6, r62_7, r62_10, r62_11, r62_12, r62_13, r62_16, r62_17, r62_18, r62_19, r62_22, r62_23, r62_26, r62_27, r62_28, r62_31, r62_32, r62_35, r62_37, j62_40, r62_43, r62_44, r62_47, r62_48, r22_0, r22_1, r22_2, r22_5, r22_6, r22_7, r22_10, rI_wI, rL_wL, rR_wR, rI_wL, rI_wR, rL_wI, rL_wR, rR_wI, rR_wL, va_rf_some, va_rf_none, Option.toList_some, Option.toList_none, List.nil_append, List.cons_append, true_and, and_true, false_and, and_false, and_self, if_true, if_false, not_true_eq_false, not_false_eq_true, or_false, false_or, or_true, true_or, or_self, ite_true, ite_false, Option.some.injEq, reduceCtorEq, Nat.reduceMod, Nat.reduceDiv, Nat.reduceLeDiff, Nat.reduceEqDiff, Nat.reduceAdd, Nat.reduceMul, Nat.reduceSub, Nat.reduceLT, sw_nil, sw_int, sw_long, sw_ref, li, lo, nI_m1, ng_eq, nn_eq, en_eq, ng_le, ng_lt, Int32.neg_neg, nI_add, pk_mul, nI_clampO, nI_ltO, nI_leO, nI_eqO, nI_subO, nle_t, nle_f, nlt_t, nlt_f, neq_f, fx_2000010_0, fx_2000010_1, fx_2000010_4, fx_2000010_5, fx_2000010_6, fx_2000010_8, fx_2000010_10, fx_2000010_11, fx_2000010_12, fx_2000010_13, fx_2000010_14, fx_2000010_15, fx_2000010_16, fx_2000010_17, fx_2000010_18, fx_3000009_0, fx_5000007_0, fx_5000007_1, fx_5000007_2, fx_5000007_3, fx_7000001_0, fx_11000005_1, fx_11000005_2, fx_11000005_3, fx_11000005_4, fx_11000005_5, fx_11000005_6, fx_11000005_10, fx_11000005_11, fx_11000005_12, fx_20000002_0, fx_20000002_2, fx_20000002_3, fx_20000002_4, fx_25000005_1, fx_25000005_2, fx_25000005_3, fx_25000005_4, fx_25000005_5, fx_25000005_6, fx_25000005_10, fx_25000005_11, fx_25000005_12, fx_34000002_0, fx_34000002_2, fx_34000002_3, fx_34000002_4, fx_39000008_0, fx_41000006_0, fx_42002024_0, fx_42002024_1, fx_42002024_2, fx_42002024_3, fx_42002024_4, fx_42002024_5, fx_42002024_6, fx_42002024_7, fx_42002024_8, fx_42002024_9, fx_42002024_10, fx_42002024_11, fx_42002024_12, fx_42002024_13, fx_42002024_14, fx_42002024_15, fx_42002024_16, fx_42002024_17, fx_42002024_18, fx_42002024_19, fx_43000008_0, fx_45000008_0, fx_47000008_0, fx_49000008_0, fx_51000008_0, fx_53000008_0, fx_55000008_0, fx_57000008_0, fx_59000008_0, fx_61000008_0, fx_63000008_0, fx_65000008_0, fx_67000008_0, fx_69000008_0, fx_71000008_0, fx_73000008_0, fx_75000008_0, fx_77000008_0, fx_79000008_0, fx_81000008_0, fx_83000424_0, fx_83000424_1, fx_83000424_2, fx_83000424_3, fx_85000004_0, fx_85000004_1, fx_85000004_2, fx_85000004_3, fx_85000004_4, fx_85000004_5, fx_85000004_6, fx_85000004_10, fx_102000008_0, fx_104000008_0, fx_106000008_0, fx_108000008_0, fx_110000011_1, fx_110000011_4, fx_110000011_5, fx_110000011_6, fx_110000011_9, fx_110000011_10, fx_110000011_11, fx_110000011_12, fx_110000011_14, fx_110000011_15, fx_110000011_20, fx_110000011_21, fx_110000011_22, fx_110000011_23, fx_110000011_25, fx_110000011_26, fx_110000011_31, fx_110000011_32, fx_110000011_37, fx_110000011_38, fx_110000011_39, fx_110000011_40, cpa_k hC, cpa_n hC, hk, k53, n2, hv']
theorem l2b_SC (μ : PM) (x y : Int32) : SC μ (wI (wI μ 34000002 5 x) 34000002 6 y) := by
  refine ⟨fun a j h1 h2 h3 => ?_, fun _ _ => rfl, fun _ _ => rfl, rfl⟩
  rw [rI_wI, if_neg (by omega), rI_wI, if_neg (by omega)]
theorem val2b (hF : FX μ) (hL : CLb μ lw) (hW : LK lw) (a0 a1 : Int32) : ∃ ν, SC μ ν ∧ ∀ Q, R (d + 2) 24 0 [some (.ref 34000002), some (.int (nI 9)), none, none, none, none] [] (wI (wI μ 34000002 5 a0) 34000002 6 a1) Q = Q (some (.int (lvS (lw 2) (nI 1) (fc a0 a1 (nI 0) (nI 0) (nI 0))))) ν := by
  have hS := l2b_SC μ a0 a1
  have hF1 := SC_FX hS hF
  have hL1 := SC_CLb hS hL
  cases hlw : lw 2 with
  | none =>
    obtain ⟨q, q1, q2, q3⟩ := (hL1 2 (by omega)).1 hlw
    refine ⟨_, hS, fun Q => ?_⟩
    rw [c24bd (j := 2) (fx_34000002_2 hF1) (fx_34000002_3 hF1) (by omega) q1 q2 q3]
    rfl
  | some l =>
    obtain ⟨l1, l2, st, l3, l4, l5⟩ := (hL1 2 (by omega)).2 l hlw
    refine ⟨_, SC_tr hS (wA_SCb _ (evs (fun j => rI (wI (wI μ 34000002 5 a0) 34000002 6 a1) 34000002 (5 + j)) l ((fun j => rI (wI (wI μ 34000002 5 a0) 34000002 6 a1) 38006420 j), 0)).1), fun Q => ?_⟩
    rw [c24b (j := 2) (fx_34000002_0 hF1) (fx_34000002_2 hF1) (fx_34000002_3 hF1) (fx_34000002_4 hF1) (by omega) l5 l2 l1 l3 l4]
    rw [vE_2 (g := fc a0 a1 (nI 0) (nI 0) (nI 0)) (hW l hlw) (fun j hj => by
      match j, hj with
      | 0, _ => rfl
      | 1, _ => rfl)]
    rfl
theorem c62b (hF : FX μ) (hC : CPb μ pa) (hL : CLb μ lw) (hP : PK pa) (hW : LK lw) {a b : Nat} (ha : a < pa 0) (hb : b < pa 0) : ∃ ν, SC μ ν ∧ ∀ Q, R (d + 3) 62 0 [some (.ref 25000005), some (.int (nI a)), some (.int (nI b))] [] μ Q = Q (some (.int (nI (laN pa lw a b)))) ν := by
  have hp := hP.1.1
  have h2 : kd pa b ≤ 5 := (hP.2.1 b (by omega)).1
  unfold laN
  by_cases hk : kd pa b = 3
  · refine ⟨μ, SC_rf _, fun Q => ?_⟩
    simp (disch := first | assumption | omega) only [r62_0, r62_1, r62_4, r62_5, r62_6, r62_7, r62_10, r62_11, r62_12, r62_13, r62_16, r62_17, r62_18, r62_19, r62_22, r62_23, r62_26, r62_27, r62_28, r62_31, r62_32, r62_35, r62_37, j62_40, r62_43, r62_44, r62_47, r62_48, rI_wI, rL_wL, rR_wR, rI_wL, rI_wR, rL_wI, rL_wR, rR_wI, rR_wL, va_rf_some, va_rf_none, Option.toList_some, Option.toList_none, List.nil_append, List.cons_append, true_and, and_true, false_and, and_false, and_self, if_true, if_false, not_true_eq_false, not_false_eq_true, or_false, false_or, or_true, true_or, or_self, ite_true, ite_false, Option.some.injEq, reduceCtorEq, Nat.reduceMod, Nat.reduceDiv, Nat.reduceLeDiff, Nat.reduceEqDiff, Nat.reduceAdd, Nat.reduceMul, Nat.reduceSub, Nat.reduceLT, sw_nil, sw_int, sw_long, sw_ref, li, lo, nI_m1, ng_eq, nn_eq, en_eq, ng_le, ng_lt, Int32.neg_neg, nI_add, pk_mul, nI_clampO, nI_ltO, nI_leO, nI_eqO, nI_subO, nle_t, nle_f, nlt_t, nlt_f, neq_f, fx_2000010_0, fx_2000010_1, fx_2000010_4, fx_2000010_5, fx_2000010_6, fx_2000010_8, fx_2000010_10, fx_2000010_11, fx_2000010_12, fx_2000010_13, fx_2000010_14, fx_2000010_15, fx_2000010_16, fx_2000010_17, fx_2000010_18, fx_3000009_0, fx_5000007_0, fx_5000007_1, fx_5000007_2, fx_5000007_3, fx_7000001_0, fx_11000005_1, fx_11000005_2, fx_11000005_3, fx_11000005_4, fx_11000005_5, fx_11000005_6, fx_11000005_10, fx_11000005_11, fx_11000005_12, fx_20000002_0, fx_20000002_2, fx_20000002_3, fx_20000002_4, fx_25000005_1, fx_25000005_2, fx_25000005_3, fx_25000005_4, fx_25000005_5, fx_25000005_6, fx_25000005_10, fx_25000005_11, fx_25000005_12, fx_34000002_0, fx_34000002_2, fx_34000002_3, fx_34000002_4, fx_39000008_0, fx_41000006_0, fx_42002024_0, fx_42002024_1, fx_42002024_2, fx_42002024_3, fx_42002024_4, fx_42002024_5, fx_42002024_6, fx_42002024_7, fx_42002024_8, fx_42002024_9, fx_42002024_10, fx_42002024_11, fx_42002024_12, fx_42002024_13, fx_42002024_14, fx_42002024_15, fx_42002024_16, fx_42002024_17, fx_42002024_18, fx_42002024_19, fx_43000008_0, fx_45000008_0, fx_47000008_0, fx_49000008_0, fx_51000008_0, fx_53000008_0, fx_55000008_0, fx_57000008_0, fx_59000008_0, fx_61000008_0, fx_63000008_0, fx_65000008_0, fx_67000008_0, fx_69000008_0, fx_71000008_0, fx_73000008_0, fx_75000008_0, fx_77000008_0, fx_79000008_0, fx_81000008_0, fx_83000424_0, fx_83000424_1, fx_83000424_2, fx_83000424_3, fx_85000004_0, fx_85000004_1, fx_85000004_2, fx_85000004_3, fx_85000004_4, fx_85000004_5, fx_85000004_6, fx_85000004_10, fx_102000008_0, fx_104000008_0, fx_106000008_0, fx_108000008_0, fx_110000011_1, fx_110000011_4, fx_110000011_5, fx_110000011_6, fx_110000011_9, fx_110000011_10, fx_110000011_11, fx_110000011_12, fx_110000011_14, fx_110000011_15, fx_110000011_20, fx_110000011_21, fx_110000011_22, fx_110000011_23, fx_110000011_25, fx_110000011_26, fx_110000011_31, fx_110000011_32, fx_110000011_37, fx_110000011_38, fx_110000011_39, fx_110000011_40, cpb_k hC, hk]
  · have k53 := fun Q => c53b (d := d + 2) (Q := Q) hF hC hP ha hb
    obtain ⟨ν, n1, n2⟩ := val2b (d := d) hF hL hW (nI (dfN (tl pa a) (tl pa b))) (nI (nk pa b))
    refine ⟨ν, n1, fun Q => ?_⟩
    generalize lvS (lw 2) (nI 1) (fc (nI (dfN (tl pa a) (tl pa b))) (nI (nk pa b)) (nI 0) (nI 0) (nI 0)) = v at *
    by_cases hv : v = nI 0
    · subst hv
      simp (disch := first | assumption | omega) only [r62_0, r62_1, r62_4, r62_5, r62_6, r62_7, r62_10, r62_11, r62_12, r62_13, r62_16, r62_17, r62_18, r62_19, r62_22, r62_23, r62_26, r62_27, r62_28, r62_31, r62_32, r62_35, r62_37, j62_40, r62_43, r62_44, r62_47, r62_48, r22_0, r22_1, r22_2, r22_5, r22_6, r22_7, r22_10, rI_wI, rL_wL, rR_wR, rI_wL, rI_wR, rL_wI, rL_wR, rR_wI, rR_wL, va_rf_some, va_rf_none, Option.toList_some, Option.toList_none, List.nil_append, List.cons_append, true_and, and_true, false_and, and_false, and_self, if_true, if_false, not_true_eq_false, not_false_eq_true, or_false, false_or, or_true, true_or, or_self, ite_true, ite_false, Option.some.injEq, reduceCtorEq, Nat.reduceMod, Nat.reduceDiv, Nat.reduceLeDiff, Nat.reduceEqDiff, Nat.reduceAdd, Nat.reduceMul, Nat.reduceSub, Nat.reduceLT, sw_nil, sw_int, sw_long, sw_ref, li, lo, nI_m1, ng_eq, nn_eq, en_eq, ng_le, ng_lt, Int32.neg_neg, nI_add, pk_mul, nI_clampO, nI_ltO, nI_leO, nI_eqO, nI_subO, nle_t, nle_f, nlt_t, nlt_f, neq_f, fx_2000010_0, fx_2000010_1, fx_2000010_4, fx_2000010_5, fx_2000010_6, fx_2000010_8, fx_2000010_10, fx_2000010_11, fx_2000010_12, fx_2000010_13, fx_2000010_14, fx_2000010_15, fx_2000010_16, fx_2000010_17, fx_2000010_18, fx_3000009_0, fx_5000007_0, fx_5000007_1, fx_5000007_2, fx_5000007_3, fx_7000001_0, fx_11000005_1, fx_11000005_2, fx_11000005_3, fx_11000005_4, fx_11000005_5, fx_11000005_6, fx_11000005_10, fx_11000005_11, fx_11000005_12, fx_20000002_0, fx_20000002_2, fx_20000002_3, fx_20000002_4, fx_25000005_1, fx_25000005_2, fx_25000005_3, fx_25000005_4, fx_25000005_5, fx_25000005_6, fx_25000005_10, fx_25000005_11, fx_25000005_12, fx_34000002_0, fx_34000002_2, fx_34000002_3, fx_34000002_4, fx_39000008_0, fx_41000006_0, fx_42002024_0, fx_42002024_1, fx_42002024_2, fx_42002024_3, fx_42002024_4, fx_42002024_5, fx_42002024_6, fx_42002024_7, fx_42002024_8, fx_42002024_9, fx_42002024_10, fx_42002024_11, fx_42002024_12, fx_42002024_13, fx_42002024_14, fx_42002024_15, fx_42002024_16, fx_42002024_17, fx_42002024_18, fx_42002024_19, fx_43000008_0, fx_45000008_0, fx_47000008_0, fx_49000008_0, fx_51000008_0, fx_53000008_0, fx_55000008_0, fx_57000008_0, fx_59000008_0, fx_61000008_0, fx_63000008_0, fx_65000008_0, fx_67000008_0, fx_69000008_0, fx_71000008_0, fx_73000008_0, fx_75000008_0, fx_77000008_0, fx_79000008_0, fx_81000008_0, fx_83000424_0, fx_83000424_1, fx_83000424_2, fx_83000424_3, fx_85000004_0, fx_85000004_1, fx_85000004_2, fx_85000004_3, fx_85000004_4, fx_85000004_5, fx_85000004_6, fx_85000004_10, fx_102000008_0, fx_104000008_0, fx_106000008_0, fx_108000008_0, fx_110000011_1, fx_110000011_4, fx_110000011_5, fx_110000011_6, fx_110000011_9, fx_110000011_10, fx_110000011_11, fx_110000011_12, fx_110000011_14, fx_110000011_15, fx_110000011_20, fx_110000011_21, fx_110000011_22, fx_110000011_23, fx_110000011_25, fx_110000011_26, fx_110000011_31, fx_110000011_32, fx_110000011_37, fx_110000011_38, fx_110000011_39, fx_110000011_40, cpb_k hC, cpb_n hC, hk, k53, n2]
    · have hv' := eq_false hv
      simp (disch := first | assumption | omega) only [r62_0, r62_1, r62_4, r62_5, r62_6, r62_7, r62_10, r62_11, r62_12, r62_13, r62_16, r62_17, r62_18, r62_19, r62_22, r62_23, r62_26, r62_27, r62_28, r62_31, r62_32, r62_35, r62_37, j62_40, r62_43, r62_44, r62_47, r62_48, r22_0, r22_1, r22_2, r22_5, r22_6, r22_7, r22_10, rI_wI, rL_wL, rR_wR, rI_wL, rI_wR, rL_wI, rL_wR, rR_wI, rR_wL, va_rf_some, va_rf_none, Option.toList_some, Option.toList_none, List.nil_append, List.cons_append, true_and, and_true, false_and, and_false, and_self, if_true, if_false, not_true_eq_false, not_false_eq_true, or_false, false_or, or_true, true_or, or_self, ite_true, ite_false, Option.some.injEq, reduceCtorEq, Nat.reduceMod, Nat.reduceDiv, Nat.reduceLeDiff, Nat.reduceEqDiff, Nat.reduceAdd, Nat.reduceMul, Nat.reduceSub, Nat.reduceLT, sw_nil, sw_int, sw_long, sw_ref, li, lo, nI_m1, ng_eq, nn_eq, en_eq, ng_le, ng_lt, Int32.neg_neg, nI_add, pk_mul, nI_clampO, nI_ltO, nI_leO, nI_eqO, nI_subO, nle_t, nle_f, nlt_t, nlt_f, neq_f, fx_2000010_0, fx_2000010_1, fx_2000010_4, fx_2000010_5, fx_2000010_6, fx_2000010_8, fx_2000010_10, fx_2000010_11, fx_2000010_12, fx_2000010_13, fx_2000010_14, fx_2000010_15, fx_2000010_16, fx_2000010_17, fx_2000010_18, fx_3000009_0, fx_5000007_0, fx_5000007_1, fx_5000007_2, fx_5000007_3, fx_7000001_0, fx_11000005_1, fx_11000005_2, fx_11000005_3, fx_11000005_4, fx_11000005_5, fx_11000005_6, fx_11000005_10, fx_11000005_11, fx_11000005_12, fx_20000002_0, fx_20000002_2, fx_20000002_3, fx_20000002_4, fx_25000005_1, fx_25000005_2, fx_25000005_3, fx_25000005_4, fx_25000005_5, fx_25000005_6, fx_25000005_10, fx_25000005_11, fx_25000005_12, fx_34000002_0, fx_34000002_2, fx_34000002_3, fx_34000002_4, fx_39000008_0, fx_41000006_0, fx_42002024_0, fx_42002024_1, fx_42002024_2, fx_42002024_3, fx_42002024_4, fx_42002024_5, fx_42002024_6, fx_42002024_7, fx_42002024_8, fx_42002024_9, fx_42002024_10, fx_42002024_11, fx_42002024_12, fx_42002024_13, fx_42002024_14, fx_42002024_15, fx_42002024_16, fx_42002024_17, fx_42002024_18, fx_42002024_19, fx_43000008_0, fx_45000008_0, fx_47000008_0, fx_49000008_0, fx_51000008_0, fx_53000008_0, fx_55000008_0, fx_57000008_0, fx_59000008_0, fx_61000008_0, fx_63000008_0, fx_65000008_0, fx_67000008_0, fx_69000008_0, fx_71000008_0, fx_73000008_0, fx_75000008_0, fx_77000008_0, fx_79000008_0, fx_81000008_0, fx_83000424_0, fx_83000424_1, fx_83000424_2, fx_83000424_3, fx_85000004_0, fx_85000004_1, fx_85000004_2, fx_85000004_3, fx_85000004_4, fx_85000004_5, fx_85000004_6, fx_85000004_10, fx_102000008_0, fx_104000008_0, fx_106000008_0, fx_108000008_0, fx_110000011_1, fx_110000011_4, fx_110000011_5, fx_110000011_6, fx_110000011_9, fx_110000011_10, fx_110000011_11, fx_110000011_12, fx_110000011_14, fx_110000011_15, fx_110000011_20, fx_110000011_21, fx_110000011_22, fx_110000011_23, fx_110000011_25, fx_110000011_26, fx_110000011_31, fx_110000011_32, fx_110000011_37, fx_110000011_38, fx_110000011_39, fx_110000011_40, cpb_k hC, cpb_n hC, hk, k53, n2, hv']
theorem cLa (hF : FX μ) (hC : CPt μ pa lw) (hP : PK pa) (hW : LK lw) {a b : Nat} (ha : a < pa 0) (hb : b < pa 0) {P : Nat} (hr : rR μ 2000010 2 = some P) : ∃ ν, SC μ ν ∧ ∀ Q, R (d + 3) 62 0 [some (.ref P), some (.int (nI a)), some (.int (nI b))] [] μ Q = Q (some (.int (nI (laN pa lw a b)))) ν := by
  rcases hC with ⟨h1, -, h3, h4⟩ | ⟨h1, -, h3, h4⟩
  · have e : P = 11000005 := by rw [h1] at hr; exact (Option.some.inj hr).symm
    subst e
    exact c62a (d := d) hF h3 h4 hP hW ha hb
  · have e : P = 25000005 := by rw [h1] at hr; exact (Option.some.inj hr).symm
    subst e
    exact c62b (d := d) hF h3 h4 hP hW ha hb
theorem SC_CPt {μ ν : PM} (h : SC μ ν) (hC : CPt μ pa lw) : CPt ν pa lw := CSc_CPt (CSc_SC h) hC
theorem c61_f (hP : PK pa) (hW : LK lw) {P W : Nat} {l : List Nat} (hl : l.length ≤ 7) (h7 : ∀ i, i < l.length → l.getD i 0 < pa 0) (hW1 : W % 100 = 20 ∧ W ≠ 24006420 ∧ W ≠ 38006420) (h5 : P % 100 = 5) (hW2 : W / 100 % 10000 = 7) {v3 : Option Value} :
    ∀ (r k o : Nat) (μ : PM), k + r = l.length → 1 ≤ k → o < 128 → FX μ → CPt μ pa lw → rR μ 2000010 2 = some P → WL μ W l → ∃ ν w5, SC μ ν ∧ laF (laN pa lw) l r k o < 128 ∧ ∀ Q, R (d + 4) 61 12 [some (.ref P), some (.ref W), some (.int (nI l.length)), v3, some (.int (nI o)), some (.int (nI k))] [] μ Q = R (d + 4) 61 52 [some (.ref P), some (.ref W), some (.int (nI l.length)), v3, some (.int (nI (laF (laN pa lw) l r k o))), w5] [] ν Q := by
  have hp := hP.1.1
  have hW20 := hW1.1
  intro r
  induction r with
  | zero =>
    intro k o μ hk hk1 ho hF hC hr hL
    refine ⟨μ, some (.int (nI k)), SC_rf _, ho, fun Q => ?_⟩
    rw [r61_12, laF]
    simp (disch := first | assumption | omega) only [r61_14, r61_15, rI_wI, rL_wL, rR_wR, rI_wL, rI_wR, rL_wI, rL_wR, rR_wI, rR_wL, va_rf_some, va_rf_none, Option.toList_some, Option.toList_none, List.nil_append, List.cons_append, true_and, and_true, false_and, and_false, and_self, if_true, if_false, not_true_eq_false, not_false_eq_true, or_false, false_or, or_true, true_or, or_self, ite_true, ite_false, Option.some.injEq, reduceCtorEq, Nat.reduceMod, Nat.reduceDiv, Nat.reduceLeDiff, Nat.reduceEqDiff, Nat.reduceAdd, Nat.reduceMul, Nat.reduceSub, Nat.reduceLT, sw_nil, sw_int, sw_long, sw_ref, li, lo, nI_m1, ng_eq, nn_eq, en_eq, ng_le, ng_lt, Int32.neg_neg, nI_add, pk_mul, nI_clampO, nI_ltO, nI_leO, nI_eqO, nI_subO, nle_t, nle_f, nlt_t, nlt_f, neq_f]
  | succ r ih =>
    intro k o μ hk hk1 ho hF hC hr hL
    have q0 := h7 (k - 1) (by omega)
    have q1 := h7 k (by omega)
    have e0 := hL (k - 1) (by omega)
    have e1 := hL k (by omega)
    obtain ⟨ν1, n1, n2⟩ := cLa (d := d) hF hC hP hW q0 q1 hr
    have f1 := (SC_WL n1 hW1 hL) k (by omega)
    rw [laF]
    rcases laN_01 pa lw (l.getD (k - 1) 0) (l.getD k 0) with e | e
    · rw [e] at n2
      rw [if_neg (by omega)]
      refine ⟨ν1, some (.int (nI k)), n1, ho, fun Q => ?_⟩
      rw [r61_12]
      simp (disch := first | assumption | omega) only [r61_0, r61_1, r61_2, r61_3, r61_4, r61_5, r61_7, r61_8, r61_9, r61_10, r61_14, r61_15, r61_18, r61_19, r61_20, r61_22, r61_23, r61_24, r61_25, r61_26, r61_28, r61_29, r61_32, r61_35, r61_37, r61_38, r61_39, r61_41, r61_42, r61_43, r61_44, r61_46, r61_49, r61_53, r61_54, r61_55, r61_57, r61_59, r61_62, r61_63, r61_64, r61_66, r61_67, r61_68, r61_69, r61_70, r61_72, r61_73, r61_76, r61_79, r61_81, r61_82, r61_83, r61_85, r61_86, r61_87, r61_88, r61_90, r61_93, r61_96, r61_98, rI_wI, rL_wL, rR_wR, rI_wL, rI_wR, rL_wI, rL_wR, rR_wI, rR_wL, va_rf_some, va_rf_none, Option.toList_some, Option.toList_none, List.nil_append, List.cons_append, true_and, and_true, false_and, and_false, and_self, if_true, if_false, not_true_eq_false, not_false_eq_true, or_false, false_or, or_true, true_or, or_self, ite_true, ite_false, Option.some.injEq, reduceCtorEq, Nat.reduceMod, Nat.reduceDiv, Nat.reduceLeDiff, Nat.reduceEqDiff, Nat.reduceAdd, Nat.reduceMul, Nat.reduceSub, Nat.reduceLT, sw_nil, sw_int, sw_long, sw_ref, li, lo, nI_m1, ng_eq, nn_eq, en_eq, ng_le, ng_lt, Int32.neg_neg, nI_add, pk_mul, nI_clampO, nI_ltO, nI_leO, nI_eqO, nI_subO, nle_t, nle_f, nlt_t, nlt_f, neq_f, hW20, h5, e0, e1, n2]
    · rw [e] at n2
      rw [if_pos e]
      obtain ⟨s1, -⟩ := sbN_b o ho _ (show l.getD k 0 < 7 by omega)
      have s2 := sbN_or o ho _ (show l.getD k 0 < 7 by omega)
      obtain ⟨ν, w5, k1, k2, k3⟩ := ih (k + 1) (sbN o (l.getD k 0)) ν1 (by omega) (by omega) s1 (SC_FX n1 hF) (SC_CPt n1 hC) ((n1.2.2.1 _ _).trans hr) (SC_WL n1 hW1 hL)
      refine ⟨ν, w5, SC_tr n1 k1, k2, fun Q => ?_⟩
      rw [r61_12]
      simp (disch := first | assumption | omega) only [r61_0, r61_1, r61_2, r61_3, r61_4, r61_5, r61_7, r61_8, r61_9, r61_10, r61_14, r61_15, r61_18, r61_19, r61_20, r61_22, r61_23, r61_24, r61_25, r61_26, r61_28, r61_29, r61_32, r61_35, r61_37, r61_38, r61_39, r61_41, r61_42, r61_43, r61_44, r61_46, r61_49, r61_53, r61_54, r61_55, r61_57, r61_59, r61_62, r61_63, r61_64, r61_66, r61_67, r61_68, r61_69, r61_70, r61_72, r61_73, r61_76, r61_79, r61_81, r61_82, r61_83, r61_85, r61_86, r61_87, r61_88, r61_90, r61_93, r61_96, r61_98, rI_wI, rL_wL, rR_wR, rI_wL, rI_wR, rL_wI, rL_wR, rR_wI, rR_wL, va_rf_some, va_rf_none, Option.toList_some, Option.toList_none, List.nil_append, List.cons_append, true_and, and_true, false_and, and_false, and_self, if_true, if_false, not_true_eq_false, not_false_eq_true, or_false, false_or, or_true, true_or, or_self, ite_true, ite_false, Option.some.injEq, reduceCtorEq, Nat.reduceMod, Nat.reduceDiv, Nat.reduceLeDiff, Nat.reduceEqDiff, Nat.reduceAdd, Nat.reduceMul, Nat.reduceSub, Nat.reduceLT, sw_nil, sw_int, sw_long, sw_ref, li, lo, nI_m1, ng_eq, nn_eq, en_eq, ng_le, ng_lt, Int32.neg_neg, nI_add, pk_mul, nI_clampO, nI_ltO, nI_leO, nI_eqO, nI_subO, nle_t, nle_f, nlt_t, nlt_f, neq_f, hW20, h5, e0, e1, n2, f1, s2, k3]
theorem c61_b (hP : PK pa) (hW : LK lw) {P W : Nat} {l : List Nat} (hl : l.length ≤ 7) (h7 : ∀ i, i < l.length → l.getD i 0 < pa 0) (hW1 : W % 100 = 20 ∧ W ≠ 24006420 ∧ W ≠ 38006420) (h5 : P % 100 = 5) (hW2 : W / 100 % 10000 = 7) {v3 : Option Value} :
    ∀ (k o : Nat) (μ : PM), k < l.length → o < 128 → FX μ → CPt μ pa lw → rR μ 2000010 2 = some P → WL μ W l → ∃ ν, SC μ ν ∧ ∀ Q, R (d + 4) 61 57 [some (.ref P), some (.ref W), some (.int (nI l.length)), v3, some (.int (nI o)), some (.int (fI k))] [] μ Q = Q (some (.int (nI (laB (laN pa lw) l k o)))) ν := by
  have hp := hP.1.1
  have hW20 := hW1.1
  intro k
  induction k with
  | zero =>
    intro o μ hk ho hF hC hr hL
    refine ⟨μ, SC_rf _, fun Q => ?_⟩
    rw [r61_57, laB, fI_z]
    simp (disch := first | assumption | omega) only [r61_0, r61_1, r61_2, r61_3, r61_4, r61_5, r61_7, r61_8, r61_9, r61_10, r61_12, r61_14, r61_15, r61_18, r61_19, r61_20, r61_22, r61_23, r61_24, r61_25, r61_26, r61_28, r61_29, r61_32, r61_35, r61_37, r61_38, r61_39, r61_41, r61_42, r61_43, r61_44, r61_46, r61_49, r61_52, r61_53, r61_54, r61_55, r61_59, r61_62, r61_63, r61_64, r61_66, r61_67, r61_68, r61_69, r61_70, r61_72, r61_73, r61_76, r61_79, r61_81, r61_82, r61_83, r61_85, r61_86, r61_87, r61_88, r61_90, r61_93, r61_96, r61_98, rI_wI, rL_wL, rR_wR, rI_wL, rI_wR, rL_wI, rL_wR, rR_wI, rR_wL, va_rf_some, va_rf_none, Option.toList_some, Option.toList_none, List.nil_append, List.cons_append, true_and, and_true, false_and, and_false, and_self, if_true, if_false, not_true_eq_false, not_false_eq_true, or_false, false_or, or_true, true_or, or_self, ite_true, ite_false, Option.some.injEq, reduceCtorEq, Nat.reduceMod, Nat.reduceDiv, Nat.reduceLeDiff, Nat.reduceEqDiff, Nat.reduceAdd, Nat.reduceMul, Nat.reduceSub, Nat.reduceLT, sw_nil, sw_int, sw_long, sw_ref, li, lo, nI_m1, ng_eq, nn_eq, en_eq, ng_le, ng_lt, Int32.neg_neg, nI_add, pk_mul, nI_clampO, nI_ltO, nI_leO, nI_eqO, nI_subO, nle_t, nle_f, nlt_t, nlt_f, neq_f]
  | succ k ih =>
    intro o μ hk ho hF hC hr hL
    have q0 := h7 (k + 1) (by omega)
    have q1 := h7 k (by omega)
    have e0 := hL (k + 1) (by omega)
    have e1 := hL k (by omega)
    obtain ⟨ν1, n1, n2⟩ := cLa (d := d) hF hC hP hW q0 q1 hr
    have f1 := (SC_WL n1 hW1 hL) k (by omega)
    rw [laB]
    rcases laN_01 pa lw (l.getD (k + 1) 0) (l.getD k 0) with e | e
    · rw [e] at n2
      rw [if_neg (by omega)]
      refine ⟨ν1, n1, fun Q => ?_⟩
      rw [r61_57, fI_s]
      simp (disch := first | assumption | omega) only [r61_0, r61_1, r61_2, r61_3, r61_4, r61_5, r61_7, r61_8, r61_9, r61_10, r61_12, r61_14, r61_15, r61_18, r61_19, r61_20, r61_22, r61_23, r61_24, r61_25, r61_26, r61_28, r61_29, r61_32, r61_35, r61_37, r61_38, r61_39, r61_41, r61_42, r61_43, r61_44, r61_46, r61_49, r61_52, r61_53, r61_54, r61_55, r61_59, r61_62, r61_63, r61_64, r61_66, r61_67, r61_68, r61_69, r61_70, r61_72, r61_73, r61_76, r61_79, r61_81, r61_82, r61_83, r61_85, r61_86, r61_87, r61_88, r61_90, r61_93, r61_96, r61_98, rI_wI, rL_wL, rR_wR, rI_wL, rI_wR, rL_wI, rL_wR, rR_wI, rR_wL, va_rf_some, va_rf_none, Option.toList_some, Option.toList_none, List.nil_append, List.cons_append, true_and, and_true, false_and, and_false, and_self, if_true, if_false, not_true_eq_false, not_false_eq_true, or_false, false_or, or_true, true_or, or_self, ite_true, ite_false, Option.some.injEq, reduceCtorEq, Nat.reduceMod, Nat.reduceDiv, Nat.reduceLeDiff, Nat.reduceEqDiff, Nat.reduceAdd, Nat.reduceMul, Nat.reduceSub, Nat.reduceLT, sw_nil, sw_int, sw_long, sw_ref, li, lo, nI_m1, ng_eq, nn_eq, en_eq, ng_le, ng_lt, Int32.neg_neg, nI_add, pk_mul, nI_clampO, nI_ltO, nI_leO, nI_eqO, nI_subO, nle_t, nle_f, nlt_t, nlt_f, neq_f, hW20, h5, e0, e1, n2]
    · rw [e] at n2
      rw [if_pos e]
      obtain ⟨s1, -⟩ := sbN_b o ho _ (show l.getD k 0 < 7 by omega)
      have s2 := sbN_or o ho _ (show l.getD k 0 < 7 by omega)
      obtain ⟨ν, k1, k3⟩ := ih (sbN o (l.getD k 0)) ν1 (by omega) s1 (SC_FX n1 hF) (SC_CPt n1 hC) ((n1.2.2.1 _ _).trans hr) (SC_WL n1 hW1 hL)
      refine ⟨ν, SC_tr n1 k1, fun Q => ?_⟩
      rw [r61_57, fI_s]
      have em : nI k + -nI 1 = fI k := by
        cases k with
        | zero => decide
        | succ k => rw [fI_s]; exact nI_m1 (by omega)
      simp (disch := first | assumption | omega) only [r61_0, r61_1, r61_2, r61_3, r61_4, r61_5, r61_7, r61_8, r61_9, r61_10, r61_12, r61_14, r61_15, r61_18, r61_19, r61_20, r61_22, r61_23, r61_24, r61_25, r61_26, r61_28, r61_29, r61_32, r61_35, r61_37, r61_38, r61_39, r61_41, r61_42, r61_43, r61_44, r61_46, r61_49, r61_52, r61_53, r61_54, r61_55, r61_59, r61_62, r61_63, r61_64, r61_66, r61_67, r61_68, r61_69, r61_70, r61_72, r61_73, r61_76, r61_79, r61_81, r61_82, r61_83, r61_85, r61_86, r61_87, r61_88, r61_90, r61_93, r61_96, r61_98, rI_wI, rL_wL, rR_wR, rI_wL, rI_wR, rL_wI, rL_wR, rR_wI, rR_wL, va_rf_some, va_rf_none, Option.toList_some, Option.toList_none, List.nil_append, List.cons_append, true_and, and_true, false_and, and_false, and_self, if_true, if_false, not_true_eq_false, not_false_eq_true, or_false, false_or, or_true, true_or, or_self, ite_true, ite_false, Option.some.injEq, reduceCtorEq, Nat.reduceMod, Nat.reduceDiv, Nat.reduceLeDiff, Nat.reduceEqDiff, Nat.reduceAdd, Nat.reduceMul, Nat.reduceSub, Nat.reduceLT, sw_nil, sw_int, sw_long, sw_ref, li, lo, ng_eq, nn_eq, en_eq, ng_le, ng_lt, nI_add, nI_clampO, nI_ltO, nI_leO, nI_eqO, nle_t, nle_f, nlt_t, nlt_f, neq_f, hW20, h5, e0, e1, n2, f1, s2, em, k3]
theorem c61 (hF : FX μ) (hC : CPt μ pa lw) (hP : PK pa) (hW : LK lw) {P W i : Nat} {l : List Nat} (hl : l.length ≤ 7) (h7 : ∀ i, i < l.length → l.getD i 0 < pa 0) (hi : i < l.length) (hW1 : W % 100 = 20 ∧ W ≠ 24006420 ∧ W ≠ 38006420) (h5 : P % 100 = 5) (hW2 : W / 100 % 10000 = 7) (hr : rR μ 2000010 2 = some P) (hL : WL μ W l) :
    ∃ ν, SC μ ν ∧ ∀ Q, R (d + 4) 61 0 [some (.ref P), some (.ref W), some (.int (nI l.length)), some (.int (nI i)), none, none] [] μ Q = Q (some (.int (nI (laS (laN pa lw) l i)))) ν := by
  have hp := hP.1.1
  have hW20 := hW1.1
  have q1 := h7 i hi
  obtain ⟨b1, -⟩ := bt_p (l.getD i 0) (by omega)
  obtain ⟨ν1, w5, n1, n2, n3⟩ := c61_f (d := d) (lw := lw) hP hW (P := P) (W := W) hl h7 hW1 h5 hW2 (v3 := some (.int (nI i))) (l.length - 1 - i) (i + 1) (2 ^ l.getD i 0) μ (by omega) (by omega) b1 hF hC hr hL
  obtain ⟨ν, m1, m2⟩ := c61_b (d := d) (lw := lw) hP hW (P := P) (W := W) hl h7 hW1 h5 hW2 (v3 := some (.int (nI i))) i (laF (laN pa lw) l (l.length - 1 - i) (i + 1) (2 ^ l.getD i 0)) ν1 hi n2 (SC_FX n1 hF) (SC_CPt n1 hC) ((n1.2.2.1 _ _).trans hr) (SC_WL n1 hW1 hL)
  refine ⟨ν, SC_tr n1 m1, fun Q => ?_⟩
  have e0 := hL i hi
  have s1 := sh1 (l.getD i 0) (by omega)
  have em : nI i - nI 1 = fI i := by
    cases i with
    | zero => decide
    | succ i => rw [fI_s]; exact pk_sub (by omega)
  unfold laS
  simp (disch := first | assumption | omega) only [r61_0, r61_1, r61_2, r61_3, r61_4, r61_5, r61_7, r61_8, r61_9, r61_10, r61_52, r61_53, r61_54, r61_55, rI_wI, rL_wL, rR_wR, rI_wL, rI_wR, rL_wI, rL_wR, rR_wI, rR_wL, va_rf_some, va_rf_none, Option.toList_some, Option.toList_none, List.nil_append, List.cons_append, true_and, and_true, false_and, and_false, and_self, if_true, if_false, not_true_eq_false, not_false_eq_true, or_false, false_or, or_true, true_or, or_self, ite_true, ite_false, Option.some.injEq, reduceCtorEq, Nat.reduceMod, Nat.reduceDiv, Nat.reduceLeDiff, Nat.reduceEqDiff, Nat.reduceAdd, Nat.reduceMul, Nat.reduceSub, Nat.reduceLT, sw_nil, sw_int, sw_long, sw_ref, li, lo, nI_add, nI_clampO, nI_ltO, nI_leO, nle_t, nle_f, nlt_t, nlt_f, neq_f, hW20, h5, e0, s1, n3, em, m2]
theorem psJ_at : ∀ (l : List Nat) (i k : Nat), (∀ j, j < l.length → l.getD j 0 < 7) → l.Nodup → i < l.length → psJ l (nI (l.getD i 0)) k = nI (k + i) := by
  intro l
  induction l with
  | nil => intro i k _ _ h; simp at h
  | cons q r ih =>
    intro i k h7 hn hi
    have hq : q < 7 := h7 0 (by simp)
    rw [psJ]
    cases i with
    | zero => exact if_pos rfl
    | succ i =>
      have hi' : i < r.length := by simp at hi; omega
      have hr : ∀ j, j < r.length → r.getD j 0 < 7 := fun j hj => h7 (j + 1) (by simp; omega)
      have hm : (q :: r).getD (i + 1) 0 = r.getD i 0 := rfl
      have hne : ¬ nI q = nI (r.getD i 0) := by
        intro e
        have e2 := (nI_eq (by omega) (by have := hr i hi'; omega)).mp e
        have : q ∈ r := by
          rw [e2, List.getD_eq_getElem?_getD, List.getElem?_eq_getElem hi']
          exact List.getElem_mem hi'
        exact (List.nodup_cons.mp hn).1 this
      rw [hm, if_neg hne, ih i (k + 1) hr (List.nodup_cons.mp hn).2 hi']
      congr 1
      omega
theorem ln_L7 (hK : OKA pa s un mk tp) : L7 (ln pa s) := ⟨ln_nd hK.1 hK.2.1, fun j hj => by have := ln_at hK hj; have := hK.1.1.1; omega⟩
theorem psI_at (hK : OKA pa s un mk tp) {i : Nat} (hi : i < (ln pa s).length) : psI (ln pa s) (nI ((ln pa s).getD i 0)) = nI i := by
  have := psJ_at (ln pa s) i 0 (ln_L7 hK).2 (ln_L7 hK).1 hi
  rw [Nat.zero_add] at this
  exact this
theorem psI_no {x : Int32} (h : ¬ ∃ i, i < (ln pa s).length ∧ x = nI ((ln pa s).getD i 0)) : psI (ln pa s) x = -nI 1 := psJ_n (fun q hq e => h (by
  obtain ⟨i, hi, e2⟩ := List.mem_iff_getElem.mp hq
  exact ⟨i, hi, by rw [← e, List.getD_eq_getElem?_getD, List.getElem?_eq_getElem hi, ← e2]; rfl⟩)) 0
theorem CLn_WL {l : List Nat} (h : CLn μ l) : WL μ 84000720 l := fun i hi => h.2 i hi
theorem c108y (hC : CH μ pa lw s un mk tp) (hK : OKA pa s un mk tp) (hW : LK lw) {i : Nat} (hi : i < (ln pa s).length) : ∃ ν, CSc μ ν ∧ ∀ Q, R (d + 5) 108 0 [some (.ref 2000010), some (.int (nI ((ln pa s).getD i 0))), none] [] μ Q = Q (some (.int (nI (laS (laN pa lw) (ln pa s) i)))) ν := by
  have hl := ln7 (s := s) hK.1
  have hF := hC.1
  have hL := hC.2.2.2.2.2.1
  obtain ⟨P, h5, -, hr, -⟩ := CPt_x hC.2.1
  have c := fun Q => c119 (d := d + 4) (Q := Q) hF hL hl (x := nI ((ln pa s).getD i 0))
  rw [psI_at hK hi] at c
  obtain ⟨ν, n1, n2⟩ := c61 (d := d) hF hC.2.1 hK.1 hW (W := 84000720) hl (fun i hi => ln_at hK hi) hi (by decide) h5 (by decide) hr (CLn_WL hL)
  refine ⟨ν, CSc_SC n1, fun Q => ?_⟩
  have hL1 := hL.1
  simp (disch := first | assumption | omega) only [r108_0, r108_1, r108_2, r108_5, r108_6, r108_7, r108_8, r108_11, r108_12, r108_15, r108_16, r108_19, r108_20, r108_23, r108_24, r108_27, r108_28, r108_31, rI_wI, rL_wL, rR_wR, rI_wL, rI_wR, rL_wI, rL_wR, rR_wI, rR_wL, va_rf_some, va_rf_none, Option.toList_some, Option.toList_none, List.nil_append, List.cons_append, true_and, and_true, false_and, and_false, and_self, if_true, if_false, not_true_eq_false, not_false_eq_true, or_false, false_or, or_true, true_or, or_self, ite_true, ite_false, Option.some.injEq, reduceCtorEq, Nat.reduceMod, Nat.reduceDiv, Nat.reduceLeDiff, Nat.reduceEqDiff, Nat.reduceAdd, Nat.reduceMul, Nat.reduceSub, Nat.reduceLT, sw_nil, sw_int, sw_long, sw_ref, li, lo, nI_m1, ng_eq, nn_eq, en_eq, ng_le, ng_lt, Int32.neg_neg, nI_add, pk_mul, nI_clampO, nI_ltO, nI_leO, nI_eqO, nI_subO, nle_t, nle_f, nlt_t, nlt_f, neq_f, fx_2000010_0, fx_2000010_1, fx_2000010_4, fx_2000010_5, fx_2000010_6, fx_2000010_8, fx_2000010_10, fx_2000010_11, fx_2000010_12, fx_2000010_13, fx_2000010_14, fx_2000010_15, fx_2000010_16, fx_2000010_17, fx_2000010_18, fx_3000009_0, fx_5000007_0, fx_5000007_1, fx_5000007_2, fx_5000007_3, fx_7000001_0, fx_11000005_1, fx_11000005_2, fx_11000005_3, fx_11000005_4, fx_11000005_5, fx_11000005_6, fx_11000005_10, fx_11000005_11, fx_11000005_12, fx_20000002_0, fx_20000002_2, fx_20000002_3, fx_20000002_4, fx_25000005_1, fx_25000005_2, fx_25000005_3, fx_25000005_4, fx_25000005_5, fx_25000005_6, fx_25000005_10, fx_25000005_11, fx_25000005_12, fx_34000002_0, fx_34000002_2, fx_34000002_3, fx_34000002_4, fx_39000008_0, fx_41000006_0, fx_42002024_0, fx_42002024_1, fx_42002024_2, fx_42002024_3, fx_42002024_4, fx_42002024_5, fx_42002024_6, fx_42002024_7, fx_42002024_8, fx_42002024_9, fx_42002024_10, fx_42002024_11, fx_42002024_12, fx_42002024_13, fx_42002024_14, fx_42002024_15, fx_42002024_16, fx_42002024_17, fx_42002024_18, fx_42002024_19, fx_43000008_0, fx_45000008_0, fx_47000008_0, fx_49000008_0, fx_51000008_0, fx_53000008_0, fx_55000008_0, fx_57000008_0, fx_59000008_0, fx_61000008_0, fx_63000008_0, fx_65000008_0, fx_67000008_0, fx_69000008_0, fx_71000008_0, fx_73000008_0, fx_75000008_0, fx_77000008_0, fx_79000008_0, fx_81000008_0, fx_83000424_0, fx_83000424_1, fx_83000424_2, fx_83000424_3, fx_85000004_0, fx_85000004_1, fx_85000004_2, fx_85000004_3, fx_85000004_4, fx_85000004_5, fx_85000004_6, fx_85000004_10, fx_102000008_0, fx_104000008_0, fx_106000008_0, fx_108000008_0, fx_110000011_1, fx_110000011_4, fx_110000011_5, fx_110000011_6, fx_110000011_9, fx_110000011_10, fx_110000011_11, fx_110000011_12, fx_110000011_14, fx_110000011_15, fx_110000011_20, fx_110000011_21, fx_110000011_22, fx_110000011_23, fx_110000011_25, fx_110000011_26, fx_110000011_31, fx_110000011_32, fx_110000011_37, fx_110000011_38, fx_110000011_39, fx_110000011_40, c, hr, h5, hL1, n2]
theorem c108n (hC : CH μ pa lw s un mk tp) (hK : OKA pa s un mk tp) {x : Int32} {Q : Option Value → PM → Prop} (h : ¬ ∃ i, i < (ln pa s).length ∧ x = nI ((ln pa s).getD i 0)) : R (d + 1) 108 0 [some (.ref 2000010), some (.int x), none] [] μ Q = Q (some (.int (-nI 1))) μ := by
  have hl := ln7 (s := s) hK.1
  have c := fun Q => c119 (d := d) (Q := Q) hC.1 hC.2.2.2.2.2.1 hl (x := x)
  rw [psI_no h] at c
  simp (disch := first | assumption | omega) only [r108_0, r108_1, r108_2, r108_5, r108_6, r108_7, r108_8, r108_11, r108_12, r108_15, r108_16, r108_19, r108_20, r108_23, r108_24, r108_27, r108_28, r108_31, rI_wI, rL_wL, rR_wR, rI_wL, rI_wR, rL_wI, rL_wR, rR_wI, rR_wL, va_rf_some, va_rf_none, Option.toList_some, Option.toList_none, List.nil_append, List.cons_append, true_and, and_true, false_and, and_false, and_self, if_true, if_false, not_true_eq_false, not_false_eq_true, or_false, false_or, or_true, true_or, or_self, ite_true, ite_false, Option.some.injEq, reduceCtorEq, Nat.reduceMod, Nat.reduceDiv, Nat.reduceLeDiff, Nat.reduceEqDiff, Nat.reduceAdd, Nat.reduceMul, Nat.reduceSub, Nat.reduceLT, sw_nil, sw_int, sw_long, sw_ref, li, lo, nI_m1, ng_eq, nn_eq, en_eq, ng_le, ng_lt, Int32.neg_neg, nI_add, pk_mul, nI_clampO, nI_ltO, nI_leO, nI_eqO, nI_subO, nle_t, nle_f, nlt_t, nlt_f, neq_f, c]
end T1
