/-! WHERE IT FALLS FIRST: THE REFERENCE'S ANSWER -/
section T1
variable {d : Nat} {μ : PM} {Q : Option Value → PM → Prop} {pa : Nat → Nat} {lw : LW} {s : Nat → Nat} {un : List (Nat → Nat)} {mk : Nat → Option (Nat → Nat)} {tp : List Nat}
theorem c200p (hL : MLn μ (ln pa s)) (hK : OKA pa s un mk tp) {x w : Int32} {v3 v4 v5 : Option Value} : R d 200 9 [some (.ref 110000011), some (.int x), some (.int w), v3, v4, v5] [] μ Q = R d 200 28 [some (.ref 110000011), some (.int x), some (.int w), some (.int (nI ((ln pa s).length - 1))), v4, v5] [] μ Q := by
  have hl := ln7 (s := s) hK.1
  by_cases h : 2 ≤ (ln pa s).length
  · simp (disch := first | assumption | omega) only [r200_9, r200_10, r200_13, r200_14, r200_17, r200_18, r200_21, r200_22, r200_25, r200_26, r200_27, rI_wI, rL_wL, rR_wR, rI_wL, rI_wR, rL_wI, rL_wR, rR_wI, rR_wL, va_rf_some, va_rf_none, Option.toList_some, Option.toList_none, List.nil_append, List.cons_append, true_and, and_true, false_and, and_false, and_self, if_true, if_false, not_true_eq_false, not_false_eq_true, or_false, false_or, or_true, true_or, or_self, ite_true, ite_false, Option.some.injEq, reduceCtorEq, Nat.reduceMod, Nat.reduceDiv, Nat.reduceLeDiff, Nat.reduceEqDiff, Nat.reduceAdd, Nat.reduceMul, Nat.reduceSub, Nat.reduceLT, sw_nil, sw_int, sw_long, sw_ref, li, lo, nI_m1, ng_eq, nn_eq, en_eq, ng_le, ng_lt, Int32.neg_neg, nI_add, pk_mul, nI_clampO, nI_ltO, nI_leO, nI_eqO, nI_subO, nle_t, nle_f, nlt_t, nlt_f, neq_f, hL.1]
  · have e : (ln pa s).length - 1 = 0 := by omega
    simp (disch := first | assumption | omega) only [r200_9, r200_10, r200_13, r200_14, r200_17, r200_18, r200_21, r200_22, r200_25, r200_26, r200_27, rI_wI, rL_wL, rR_wR, rI_wL, rI_wR, rL_wI, rL_wR, rR_wI, rR_wL, va_rf_some, va_rf_none, Option.toList_some, Option.toList_none, List.nil_append, List.cons_append, true_and, and_true, false_and, and_false, and_self, if_true, if_false, not_true_eq_false, not_false_eq_true, or_false, false_or, or_true, true_or, or_self, ite_true, ite_false, Option.some.injEq, reduceCtorEq, Nat.reduceMod, Nat.reduceDiv, Nat.reduceLeDiff, Nat.reduceEqDiff, Nat.reduceAdd, Nat.reduceMul, Nat.reduceSub, Nat.reduceLT, sw_nil, sw_int, sw_long, sw_ref, li, lo, nI_m1, ng_eq, nn_eq, en_eq, ng_le, ng_lt, Int32.neg_neg, nI_add, pk_mul, nI_clampO, nI_ltO, nI_leO, nI_eqO, nI_subO, nle_t, nle_f, nlt_t, nlt_f, neq_f, hL.1, e]
theorem c200n (hM : MH μ pa lw s un mk tp) (hK : OKA pa s un mk tp) {x w : Int32} (h : ¬ ∃ i, i ≤ (ln pa s).length - 1 ∧ x = fI i) : ∃ ν, MSc μ ν ∧ ∀ Q, R (d + 2) 200 0 [some (.ref 110000011), some (.int x), some (.int w), none, none, none] [] μ Q = Q (some (.long (-lN 1))) ν := by
  have hl := ln7 (s := s) hK.1
  obtain ⟨ν, k1, k2, k3⟩ := fLn (d := d) (MSc_MH (th_MSc μ) hM) hK
  refine ⟨ν, MSc_tr (th_MSc μ) k1, fun Q => ?_⟩
  have hp := c200p (d := d + 2) (Q := Q) (x := x) (w := w) (v3 := none) (v4 := none) (v5 := none) k2 hK
  by_cases h1 : x < -nI 1
  · have e := eq_true h1
    simp (disch := first | assumption | omega) only [r200_0, r200_1, r200_2, r200_5, r200_6, r200_28, r200_29, r200_30, r200_33, r200_34, r200_35, r200_47, r200_50, rI_wI, rL_wL, rR_wR, rI_wL, rI_wR, rL_wI, rL_wR, rR_wI, rR_wL, va_rf_some, va_rf_none, Option.toList_some, Option.toList_none, List.nil_append, List.cons_append, true_and, and_true, false_and, and_false, and_self, if_true, if_false, not_true_eq_false, not_false_eq_true, or_false, false_or, or_true, true_or, or_self, ite_true, ite_false, Option.some.injEq, reduceCtorEq, Nat.reduceMod, Nat.reduceDiv, Nat.reduceLeDiff, Nat.reduceEqDiff, Nat.reduceAdd, Nat.reduceMul, Nat.reduceSub, Nat.reduceLT, sw_nil, sw_int, sw_long, sw_ref, li, lo, nI_m1, ng_eq, nn_eq, en_eq, ng_le, ng_lt, Int32.neg_neg, nI_add, pk_mul, nI_clampO, nI_ltO, nI_leO, nI_eqO, nI_subO, nle_t, nle_f, nlt_t, nlt_f, neq_f, k3, hp, e, ll]
  · have e := eq_false h1
    rcases xcs x ((ln pa s).length - 1) (by omega) with hx | hx | ⟨a, ha, rfl⟩
    · exfalso
      apply h
      refine ⟨0, by omega, ?_⟩
      unfold fI
      rw [if_pos rfl]
      apply Int32.toInt_inj.mp
      have hm : (-nI 1).toInt = -1 := by decide
      rw [Int32.lt_iff_toInt_lt, hm] at h1
      rw [Int32.lt_iff_toInt_lt, nI_toInt (by omega)] at hx
      rw [hm]; omega
    · simp (disch := first | assumption | omega) only [r200_0, r200_1, r200_2, r200_5, r200_6, r200_28, r200_29, r200_30, r200_33, r200_34, r200_35, r200_47, r200_50, rI_wI, rL_wL, rR_wR, rI_wL, rI_wR, rL_wI, rL_wR, rR_wI, rR_wL, va_rf_some, va_rf_none, Option.toList_some, Option.toList_none, List.nil_append, List.cons_append, true_and, and_true, false_and, and_false, and_self, if_true, if_false, not_true_eq_false, not_false_eq_true, or_false, false_or, or_true, true_or, or_self, ite_true, ite_false, Option.some.injEq, reduceCtorEq, Nat.reduceMod, Nat.reduceDiv, Nat.reduceLeDiff, Nat.reduceEqDiff, Nat.reduceAdd, Nat.reduceMul, Nat.reduceSub, Nat.reduceLT, sw_nil, sw_int, sw_long, sw_ref, li, lo, nI_m1, ng_eq, nn_eq, en_eq, ng_le, ng_lt, Int32.neg_neg, nI_add, pk_mul, nI_clampO, nI_ltO, nI_leO, nI_eqO, nI_subO, nle_t, nle_f, nlt_t, nlt_f, neq_f, k3, hp, e, xg_le hx, ll]
    · exact absurd ⟨a + 1, by omega, by unfold fI; rw [if_neg (by omega)]; rfl⟩ h
theorem c200y (hM : MH μ pa lw s un mk tp) (hK : OKA pa s un mk tp) {i : Nat} {w : Int32} (hi : i ≤ (ln pa s).length - 1) : ∃ ν, MSc μ ν ∧ ∀ Q, R (d + 4) 200 0 [some (.ref 110000011), some (.int (fI i)), some (.int w), none, none, none] [] μ Q = Q (some (.long (rdI (faP pa lw s i) w))) ν := by
  have hl := ln7 (s := s) hK.1
  obtain ⟨ν, k1, k2, k3⟩ := fLn (d := d + 2) (MSc_MH (th_MSc μ) hM) hK
  have k0 := MSc_tr (th_MSc μ) k1
  have hM1 := MSc_MH k0 hM
  have hF := hM1.1
  have h8 := MH_8 hM1
  have z1 : (fI i < -nI 1) = False := by
    apply eq_false
    unfold fI
    split
    · decide
    · rw [Int32.lt_iff_toInt_lt, nI_neg (by omega), nI_toInt (by omega)]; omega
  have z2 : (nI ((ln pa s).length - 1) ≤ fI i) = False := by
    apply eq_false
    unfold fI
    split
    · rw [ng_le (by omega) (by omega) (by omega)]; exact not_false
    · rw [nI_leO (by omega) (by omega)]; omega
  have hp := fun Q => c200p (d := d + 4) (Q := Q) (x := fI i) (w := w) (v3 := none) (v4 := none) (v5 := none) k2 hK
  rcases w01 w with rfl | rfl | ⟨hw, hw0, hw1⟩
  case inr.inr =>
    have c1 := fun Q => c147n (d := d + 3) (μ := ν) (Q := Q) (x := w) (l := 0) (h := 1) (by omega) (by omega) hw
    refine ⟨ν, k0, fun Q => ?_⟩
    have e : rdI (faP pa lw s i) w = -lN 1 := by unfold rdI ptI; rw [if_neg hw0, if_neg hw1]
    rw [e]
    simp (disch := first | assumption | omega) only [r200_0, r200_1, r200_2, r200_5, r200_6, r200_28, r200_29, r200_30, r200_33, r200_34, r200_35, r200_38, r200_39, r200_40, r200_41, r200_44, r200_47, r200_50, rI_wI, rL_wL, rR_wR, rI_wL, rI_wR, rL_wI, rL_wR, rR_wI, rR_wL, va_rf_some, va_rf_none, Option.toList_some, Option.toList_none, List.nil_append, List.cons_append, true_and, and_true, false_and, and_false, and_self, if_true, if_false, not_true_eq_false, not_false_eq_true, or_false, false_or, or_true, true_or, or_self, ite_true, ite_false, Option.some.injEq, reduceCtorEq, Nat.reduceMod, Nat.reduceDiv, Nat.reduceLeDiff, Nat.reduceEqDiff, Nat.reduceAdd, Nat.reduceMul, Nat.reduceSub, Nat.reduceLT, sw_nil, sw_int, sw_long, sw_ref, li, lo, nI_m1, ng_eq, nn_eq, en_eq, ng_le, ng_lt, Int32.neg_neg, nI_add, pk_mul, nI_clampO, nI_ltO, nI_leO, nI_eqO, nI_subO, nle_t, nle_f, nlt_t, nlt_f, neq_f, k3, hp, z1, z2, c1, ll]
  all_goals
    have hS := MSc_tr (fN_MSc ν (fI (s 8))) (mw2_MSc (wI ν 110000011 28 (fI (s 8))) 1 1)
    have hM2 := MSc_MH hS hM1
    have hL2 : MLn (mw2 (wI ν 110000011 28 (fI (s 8))) 1 1) (ln pa s) := by
      refine mw2_ln ⟨?_, fun i hi => ?_⟩
      · rw [rI_wI, if_neg (by decide)]; exact k2.1
      · rw [rI_wI, if_neg (by omega)]; exact k2.2 i hi
    have h28 : rI (mw2 (wI ν 110000011 28 (fI (s 8))) 1 1) 110000011 28 = fI (s 8) := by
      show rI (wI ν 110000011 28 (fI (s 8))) 110000011 28 = _
      rw [rI_wI, if_pos ⟨rfl, rfl⟩]
  · obtain ⟨ν2, j1, j2, j3, v5, j4⟩ := c200_l (d := d) (lw := lw) hK (w := nI 0) (i := i) rfl hi (if i = 0 then (ln pa s).length - 1 else i) 0 (mw2 (wI ν 110000011 28 (fI (s 8))) 1 1) 1 1 none (by omega) hM2 hL2 h28 (mw2_0 _ _ _) (mw2_1 _ _ _)
    have hb := p10 (r := if i = 0 then (ln pa s).length - 1 else i) (by split <;> omega)
    have ha := frp_le (fxN_le (fcN_le pa lw s) i) (if i = 0 then (ln pa s).length - 1 else i) 0
    rw [Nat.one_mul] at j2 j3
    obtain ⟨ρ, m1, m2⟩ := c200_e (d := d + 3) (x := fI i) (w := 0) (v3 := some (.int (nI ((ln pa s).length - 1)))) (v4 := some (.int (nI (0 + if i = 0 then (ln pa s).length - 1 else i)))) (v5 := v5) (by omega) j2 j3 (by omega) hb.2 (by omega)
    refine ⟨ρ, MSc_tr k0 (MSc_tr hS (MSc_tr j1 m1)), fun Q => ?_⟩
    have c1 := fun Q => c147y (d := d + 3) (μ := ν) (Q := Q) (a := 0) (l := 0) (h := 1) (by omega) (by omega) (by omega)
    have j4 := j4 Q
    rw [m2] at j4
    have ef : faP pa lw s i = (frp (fxN (fcN pa lw s) i) 0 (if i = 0 then (ln pa s).length - 1 else i), 10 ^ (if i = 0 then (ln pa s).length - 1 else i)) := by
      unfold faP
      by_cases h0 : i = 0
      · subst h0; rw [if_pos rfl, if_pos rfl, frp_f0]
      · obtain ⟨j, rfl⟩ : ∃ j, i = j + 1 := ⟨i - 1, by omega⟩
        rw [if_neg h0, if_neg h0, frp_fx, Nat.add_sub_cancel]
    rw [ef]
    unfold mw2 at j4
    simp (disch := first | assumption | omega) only [r200_0, r200_1, r200_2, r200_5, r200_6, r200_28, r200_29, r200_30, r200_33, r200_34, r200_35, r200_38, r200_39, r200_40, r200_41, r200_44, r200_51, r200_52, r200_53, r200_56, r200_58, r200_59, r200_62, r200_63, r200_64, r200_67, r200_68, r200_69, r200_72, r200_73, rI_wI, rL_wL, rR_wR, rI_wL, rI_wR, rL_wI, rL_wR, rR_wI, rR_wL, va_rf_some, va_rf_none, Option.toList_some, Option.toList_none, List.nil_append, List.cons_append, true_and, and_true, false_and, and_false, and_self, if_true, if_false, not_true_eq_false, not_false_eq_true, or_false, false_or, or_true, true_or, or_self, ite_true, ite_false, Option.some.injEq, reduceCtorEq, Nat.reduceMod, Nat.reduceDiv, Nat.reduceLeDiff, Nat.reduceEqDiff, Nat.reduceAdd, Nat.reduceMul, Nat.reduceSub, Nat.reduceLT, sw_nil, sw_int, sw_long, sw_ref, li, lo, nI_m1, ng_eq, nn_eq, en_eq, ng_le, ng_lt, Int32.neg_neg, nI_add, pk_mul, nI_clampO, nI_ltO, nI_leO, nI_eqO, nI_subO, nle_t, nle_f, nlt_t, nlt_f, neq_f, fx_2000010_0, fx_2000010_1, fx_2000010_4, fx_2000010_5, fx_2000010_6, fx_2000010_8, fx_2000010_10, fx_2000010_11, fx_2000010_12, fx_2000010_13, fx_2000010_14, fx_2000010_15, fx_2000010_16, fx_2000010_17, fx_2000010_18, fx_3000009_0, fx_5000007_0, fx_5000007_1, fx_5000007_2, fx_5000007_3, fx_7000001_0, fx_11000005_1, fx_11000005_2, fx_11000005_3, fx_11000005_4, fx_11000005_5, fx_11000005_6, fx_11000005_10, fx_11000005_11, fx_11000005_12, fx_20000002_0, fx_20000002_2, fx_20000002_3, fx_20000002_4, fx_25000005_1, fx_25000005_2, fx_25000005_3, fx_25000005_4, fx_25000005_5, fx_25000005_6, fx_25000005_10, fx_25000005_11, fx_25000005_12, fx_34000002_0, fx_34000002_2, fx_34000002_3, fx_34000002_4, fx_39000008_0, fx_41000006_0, fx_42002024_0, fx_42002024_1, fx_42002024_2, fx_42002024_3, fx_42002024_4, fx_42002024_5, fx_42002024_6, fx_42002024_7, fx_42002024_8, fx_42002024_9, fx_42002024_10, fx_42002024_11, fx_42002024_12, fx_42002024_13, fx_42002024_14, fx_42002024_15, fx_42002024_16, fx_42002024_17, fx_42002024_18, fx_42002024_19, fx_43000008_0, fx_45000008_0, fx_47000008_0, fx_49000008_0, fx_51000008_0, fx_53000008_0, fx_55000008_0, fx_57000008_0, fx_59000008_0, fx_61000008_0, fx_63000008_0, fx_65000008_0, fx_67000008_0, fx_69000008_0, fx_71000008_0, fx_73000008_0, fx_75000008_0, fx_77000008_0, fx_79000008_0, fx_81000008_0, fx_83000424_0, fx_83000424_1, fx_83000424_2, fx_83000424_3, fx_85000004_0, fx_85000004_1, fx_85000004_2, fx_85000004_3, fx_85000004_4, fx_85000004_5, fx_85000004_6, fx_85000004_10, fx_102000008_0, fx_104000008_0, fx_106000008_0, fx_108000008_0, fx_110000011_1, fx_110000011_4, fx_110000011_5, fx_110000011_6, fx_110000011_9, fx_110000011_10, fx_110000011_11, fx_110000011_12, fx_110000011_14, fx_110000011_15, fx_110000011_20, fx_110000011_21, fx_110000011_22, fx_110000011_23, fx_110000011_25, fx_110000011_26, fx_110000011_31, fx_110000011_32, fx_110000011_37, fx_110000011_38, fx_110000011_39, fx_110000011_40, k3, hp, z1, z2, c1, ll, h8]
    exact j4
  · obtain ⟨ν2, j1, j2, j3, v5, j4⟩ := c200_l (d := d) (lw := lw) hK (w := nI 1) (i := i) rfl hi (if i = 0 then (ln pa s).length - 1 else i) 0 (mw2 (wI ν 110000011 28 (fI (s 8))) 1 1) 1 1 none (by omega) hM2 hL2 h28 (mw2_0 _ _ _) (mw2_1 _ _ _)
    have hb := p10 (r := if i = 0 then (ln pa s).length - 1 else i) (by split <;> omega)
    have ha := frp_le (fxN_le (fcN_le pa lw s) i) (if i = 0 then (ln pa s).length - 1 else i) 0
    rw [Nat.one_mul] at j2 j3
    obtain ⟨ρ, m1, m2⟩ := c200_e (d := d + 3) (x := fI i) (w := 1) (v3 := some (.int (nI ((ln pa s).length - 1)))) (v4 := some (.int (nI (0 + if i = 0 then (ln pa s).length - 1 else i)))) (v5 := v5) (by omega) j2 j3 (by omega) hb.2 (by omega)
    refine ⟨ρ, MSc_tr k0 (MSc_tr hS (MSc_tr j1 m1)), fun Q => ?_⟩
    have c1 := fun Q => c147y (d := d + 3) (μ := ν) (Q := Q) (a := 1) (l := 0) (h := 1) (by omega) (by omega) (by omega)
    have j4 := j4 Q
    rw [m2] at j4
    have ef : faP pa lw s i = (frp (fxN (fcN pa lw s) i) 0 (if i = 0 then (ln pa s).length - 1 else i), 10 ^ (if i = 0 then (ln pa s).length - 1 else i)) := by
      unfold faP
      by_cases h0 : i = 0
      · subst h0; rw [if_pos rfl, if_pos rfl, frp_f0]
      · obtain ⟨j, rfl⟩ : ∃ j, i = j + 1 := ⟨i - 1, by omega⟩
        rw [if_neg h0, if_neg h0, frp_fx, Nat.add_sub_cancel]
    rw [ef]
    unfold mw2 at j4
    simp (disch := first | assumption | omega) only [r200_0, r200_1, r200_2, r200_5, r200_6, r200_28, r200_29, r200_30, r200_33, r200_34, r200_35, r200_38, r200_39, r200_40, r200_41, r200_44, r200_51, r200_52, r200_53, r200_56, r200_58, r200_59, r200_62, r200_63, r200_64, r200_67, r200_68, r200_69, r200_72, r200_73, rI_wI, rL_wL, rR_wR, rI_wL, rI_wR, rL_wI, rL_wR, rR_wI, rR_wL, va_rf_some, va_rf_none, Option.toList_some, Option.toList_none, List.nil_append, List.cons_append, true_and, and_true, false_and, and_false, and_self, if_true, if_false, not_true_eq_false, not_false_eq_true, or_false, false_or, or_true, true_or, or_self, ite_true, ite_false, Option.some.injEq, reduceCtorEq, Nat.reduceMod, Nat.reduceDiv, Nat.reduceLeDiff, Nat.reduceEqDiff, Nat.reduceAdd, Nat.reduceMul, Nat.reduceSub, Nat.reduceLT, sw_nil, sw_int, sw_long, sw_ref, li, lo, nI_m1, ng_eq, nn_eq, en_eq, ng_le, ng_lt, Int32.neg_neg, nI_add, pk_mul, nI_clampO, nI_ltO, nI_leO, nI_eqO, nI_subO, nle_t, nle_f, nlt_t, nlt_f, neq_f, fx_2000010_0, fx_2000010_1, fx_2000010_4, fx_2000010_5, fx_2000010_6, fx_2000010_8, fx_2000010_10, fx_2000010_11, fx_2000010_12, fx_2000010_13, fx_2000010_14, fx_2000010_15, fx_2000010_16, fx_2000010_17, fx_2000010_18, fx_3000009_0, fx_5000007_0, fx_5000007_1, fx_5000007_2, fx_5000007_3, fx_7000001_0, fx_11000005_1, fx_11000005_2, fx_11000005_3, fx_11000005_4, fx_11000005_5, fx_11000005_6, fx_11000005_10, fx_11000005_11, fx_11000005_12, fx_20000002_0, fx_20000002_2, fx_20000002_3, fx_20000002_4, fx_25000005_1, fx_25000005_2, fx_25000005_3, fx_25000005_4, fx_25000005_5, fx_25000005_6, fx_25000005_10, fx_25000005_11, fx_25000005_12, fx_34000002_0, fx_34000002_2, fx_34000002_3, fx_34000002_4, fx_39000008_0, fx_41000006_0, fx_42002024_0, fx_42002024_1, fx_42002024_2, fx_42002024_3, fx_42002024_4, fx_42002024_5, fx_42002024_6, fx_42002024_7, fx_42002024_8, fx_42002024_9, fx_42002024_10, fx_42002024_11, fx_42002024_12, fx_42002024_13, fx_42002024_14, fx_42002024_15, fx_42002024_16, fx_42002024_17, fx_42002024_18, fx_42002024_19, fx_43000008_0, fx_45000008_0, fx_47000008_0, fx_49000008_0, fx_51000008_0, fx_53000008_0, fx_55000008_0, fx_57000008_0, fx_59000008_0, fx_61000008_0, fx_63000008_0, fx_65000008_0, fx_67000008_0, fx_69000008_0, fx_71000008_0, fx_73000008_0, fx_75000008_0, fx_77000008_0, fx_79000008_0, fx_81000008_0, fx_83000424_0, fx_83000424_1, fx_83000424_2, fx_83000424_3, fx_85000004_0, fx_85000004_1, fx_85000004_2, fx_85000004_3, fx_85000004_4, fx_85000004_5, fx_85000004_6, fx_85000004_10, fx_102000008_0, fx_104000008_0, fx_106000008_0, fx_108000008_0, fx_110000011_1, fx_110000011_4, fx_110000011_5, fx_110000011_6, fx_110000011_9, fx_110000011_10, fx_110000011_11, fx_110000011_12, fx_110000011_14, fx_110000011_15, fx_110000011_20, fx_110000011_21, fx_110000011_22, fx_110000011_23, fx_110000011_25, fx_110000011_26, fx_110000011_31, fx_110000011_32, fx_110000011_37, fx_110000011_38, fx_110000011_39, fx_110000011_40, k3, hp, z1, z2, c1, ll, h8]
    exact j4
end T1
