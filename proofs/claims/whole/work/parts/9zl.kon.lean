/-! THE CONSTRUCTORS AS WRITES -/
theorem aSl_I (μ : PM) (a j : Nat) (x : Int32) : (aS (wI μ a j x)).length = (aS μ).length := rfl
theorem aSl_L (μ : PM) (a j : Nat) (x : Int64) : (aS (wL μ a j x)).length = (aS μ).length := rfl
theorem aSl_R (μ : PM) (a j : Nat) (x : Option Nat) : (aS (wR μ a j x)).length = (aS μ).length := rfl
theorem aSl_N (μ : PM) (a : Nat) : (aS (nw μ a)).length = (aS μ).length + 1 := by show (aS μ ++ [a]).length = _; rw [List.length_append]; rfl
theorem rI_nw (μ : PM) (a b j : Nat) : rI (nw μ a) b j = if a = b then 0 else rI μ b j := rfl
theorem rR_nw (μ : PM) (a b j : Nat) : rR (nw μ a) b j = if a = b then none else rR μ b j := rfl
def AG (f : Nat → Nat → Int32) (μ ν : PM) : Prop := (∀ a j, 2000000 ≤ a → rI μ a j = rI ν a j) ∧ (∀ a j, a < 2000000 → rI μ a j = f a j) ∧ μ.2 = ν.2
theorem AG_I {f : Nat → Nat → Int32} {μ ν : PM} {a j : Nat} {x : Int32} (q : 2000000 ≤ a) (h : AG f μ ν) : AG f (wI μ a j x) (wI ν a j x) := ⟨fun b k q => by rw [rI_wI, rI_wI, h.1 b k q], fun b k q2 => by rw [rI_wI, if_neg (by omega), h.2.1 b k q2], h.2.2⟩
theorem AG_L {f : Nat → Nat → Int32} {μ ν : PM} {a j : Nat} {x : Int64} (h : AG f μ ν) : AG f (wL μ a j x) (wL ν a j x) := ⟨h.1, h.2.1, by unfold wL; rw [h.2.2]⟩
theorem AG_R {f : Nat → Nat → Int32} {μ ν : PM} {a j : Nat} {x : Option Nat} (h : AG f μ ν) : AG f (wR μ a j x) (wR ν a j x) := ⟨h.1, h.2.1, by unfold wR; rw [h.2.2]⟩
theorem AG_N {f : Nat → Nat → Int32} {μ ν : PM} {a : Nat} (q : 2000000 ≤ a) (h : AG f μ ν) : AG f (nw μ a) (nw ν a) := ⟨fun b k q => by rw [rI_nw, rI_nw, h.1 b k q], fun b k q2 => by rw [rI_nw, if_neg (by omega), h.2.1 b k q2], by unfold nw; rw [h.2.2]⟩
def V0 (μ : PM) : PM := (wI (wR (nw μ 4100022) 3000009 0 (some 4100022)) 3000009 1 (nI 0))
theorem V0_l (μ : PM) : (aS (V0 μ)).length = (aS μ).length + 1 := by
  unfold V0
  simp only [aSl_I, aSl_L, aSl_R, aSl_N, Nat.add_assoc, Nat.reduceAdd]
theorem V0_AG {f : Nat → Nat → Int32} {μ ν : PM} (h : AG f μ ν) : AG f (V0 μ) (V0 ν) := (AG_I (by decide) (AG_R (AG_N (by decide) h)))
theorem k0 {d : Nat} {μ : PM} (h : (aS μ).length = 2) : ∀ Q, R d 86 0 [some (.ref 3000009)] [] μ Q = Q none (V0 μ) := by
  intro Q
  unfold V0
  simp (disch := first | assumption | omega) only [r86_0, r86_1, r86_4, r86_5, r86_8, r86_10, r86_10n, r86_13, r86_14, r86_15, r86_18, rI_wI, rL_wL, rR_wR, rI_wL, rI_wR, rL_wI, rL_wR, rR_wI, rR_wL, va_rf_some, va_rf_none, Option.toList_some, Option.toList_none, List.nil_append, List.cons_append, true_and, and_true, false_and, and_false, and_self, if_true, if_false, not_true_eq_false, not_false_eq_true, or_false, false_or, or_true, true_or, or_self, ite_true, ite_false, Option.some.injEq, reduceCtorEq, Nat.reduceMod, Nat.reduceDiv, Nat.reduceLeDiff, Nat.reduceEqDiff, Nat.reduceAdd, Nat.reduceMul, Nat.reduceSub, Nat.reduceLT, sw_nil, sw_int, sw_long, sw_ref, li, lo, nI_m1, ng_eq, nn_eq, en_eq, ng_le, ng_lt, Int32.neg_neg, nI_add, pk_mul, nI_clampO, nI_ltO, nI_leO, nI_eqO, nI_subO, nle_t, nle_f, nlt_t, nlt_f, neq_f, ll, nx, aSl_I, aSl_L, aSl_R, aSl_N, h, vnb0, vnb1, rR_nw]
theorem V0_r (μ : PM) (j : Nat) : rR (V0 μ) 2000010 j = rR μ 2000010 j := by
  unfold V0
  simp only [rI_wI, rL_wL, rR_wR, rI_wL, rI_wR, rL_wI, rL_wR, rR_wI, rR_wL, va_rf_some, va_rf_none, rR_nw, Option.toList_some, Option.toList_none, List.nil_append, List.cons_append, true_and, and_true, false_and, and_false, and_self, if_true, if_false, not_true_eq_false, not_false_eq_true, or_false, false_or, or_true, true_or, or_self, ite_true, ite_false, Option.some.injEq, reduceCtorEq, Nat.reduceMod, Nat.reduceDiv, Nat.reduceLeDiff, Nat.reduceEqDiff, Nat.reduceAdd, Nat.reduceMul, Nat.reduceSub, Nat.reduceLT, sw_nil, sw_int, sw_long, sw_ref]
def V1 (μ : PM) : PM := (wL (wI (wI (wI (wI (wR μ 6000003 0 none) 6000003 1 (nI 0)) 6000003 2 (nI 30)) 6000003 3 (nI 0)) 6000003 4 (nI 0)) 6000003 5 (lN 0))
theorem V1_l (μ : PM) : (aS (V1 μ)).length = (aS μ).length + 0 := rfl
theorem V1_AG {f : Nat → Nat → Int32} {μ ν : PM} (h : AG f μ ν) : AG f (V1 μ) (V1 ν) := (AG_L (AG_I (by decide) (AG_I (by decide) (AG_I (by decide) (AG_I (by decide) (AG_R h))))))
theorem k1 {d : Nat} {μ : PM} (h : (aS μ).length = 5) : ∀ Q, R d 29 0 [some (.ref 6000003)] [] μ Q = Q none (V1 μ) := by
  intro Q
  unfold V1
  simp (disch := first | assumption | omega) only [r29_0, r29_1, r29_4, r29_5, r29_6, r29_6n, r29_9, r29_10, r29_11, r29_14, r29_15, r29_17, r29_20, r29_21, r29_22, r29_25, r29_26, r29_27, r29_30, r29_31, r29_32, r29_35, rI_wI, rL_wL, rR_wR, rI_wL, rI_wR, rL_wI, rL_wR, rR_wI, rR_wL, va_rf_some, va_rf_none, Option.toList_some, Option.toList_none, List.nil_append, List.cons_append, true_and, and_true, false_and, and_false, and_self, if_true, if_false, not_true_eq_false, not_false_eq_true, or_false, false_or, or_true, true_or, or_self, ite_true, ite_false, Option.some.injEq, reduceCtorEq, Nat.reduceMod, Nat.reduceDiv, Nat.reduceLeDiff, Nat.reduceEqDiff, Nat.reduceAdd, Nat.reduceMul, Nat.reduceSub, Nat.reduceLT, sw_nil, sw_int, sw_long, sw_ref, li, lo, nI_m1, ng_eq, nn_eq, en_eq, ng_le, ng_lt, Int32.neg_neg, nI_add, pk_mul, nI_clampO, nI_ltO, nI_leO, nI_eqO, nI_subO, nle_t, nle_f, nlt_t, nlt_f, neq_f, ll, nx, aSl_I, aSl_L, aSl_R, aSl_N, h, vnb0, vnb1, rR_nw]
theorem V1_r (μ : PM) (j : Nat) : rR (V1 μ) 2000010 j = rR μ 2000010 j := by
  unfold V1
  simp only [rI_wI, rL_wL, rR_wR, rI_wL, rI_wR, rL_wI, rL_wR, rR_wI, rR_wL, va_rf_some, va_rf_none, rR_nw, Option.toList_some, Option.toList_none, List.nil_append, List.cons_append, true_and, and_true, false_and, and_false, and_self, if_true, if_false, not_true_eq_false, not_false_eq_true, or_false, false_or, or_true, true_or, or_self, ite_true, ite_false, Option.some.injEq, reduceCtorEq, Nat.reduceMod, Nat.reduceDiv, Nat.reduceLeDiff, Nat.reduceEqDiff, Nat.reduceAdd, Nat.reduceMul, Nat.reduceSub, Nat.reduceLT, sw_nil, sw_int, sw_long, sw_ref]
def V2 (μ : PM) : PM := (wR (wI (wI (wI (wR (nw μ 8006420) 7000001 0 (some 8006420)) 7000001 1 (nI 0)) 7000001 2 (nI 0)) 7000001 3 (nI 1)) 7000001 4 none)
theorem V2_l (μ : PM) : (aS (V2 μ)).length = (aS μ).length + 1 := by
  unfold V2
  simp only [aSl_I, aSl_L, aSl_R, aSl_N, Nat.add_assoc, Nat.reduceAdd]
theorem V2_AG {f : Nat → Nat → Int32} {μ ν : PM} (h : AG f μ ν) : AG f (V2 μ) (V2 ν) := (AG_R (AG_I (by decide) (AG_I (by decide) (AG_I (by decide) (AG_R (AG_N (by decide) h))))))
theorem k2 {d : Nat} {μ : PM} (h : (aS μ).length = 6) : ∀ Q, R d 7 0 [some (.ref 7000001)] [] μ Q = Q none (V2 μ) := by
  intro Q
  unfold V2
  simp (disch := first | assumption | omega) only [r7_0, r7_1, r7_4, r7_5, r7_7, r7_9, r7_9n, r7_12, r7_13, r7_14, r7_17, r7_18, r7_19, r7_22, r7_23, r7_24, r7_27, r7_28, r7_29, r7_29n, r7_32, rI_wI, rL_wL, rR_wR, rI_wL, rI_wR, rL_wI, rL_wR, rR_wI, rR_wL, va_rf_some, va_rf_none, Option.toList_some, Option.toList_none, List.nil_append, List.cons_append, true_and, and_true, false_and, and_false, and_self, if_true, if_false, not_true_eq_false, not_false_eq_true, or_false, false_or, or_true, true_or, or_self, ite_true, ite_false, Option.some.injEq, reduceCtorEq, Nat.reduceMod, Nat.reduceDiv, Nat.reduceLeDiff, Nat.reduceEqDiff, Nat.reduceAdd, Nat.reduceMul, Nat.reduceSub, Nat.reduceLT, sw_nil, sw_int, sw_long, sw_ref, li, lo, nI_m1, ng_eq, nn_eq, en_eq, ng_le, ng_lt, Int32.neg_neg, nI_add, pk_mul, nI_clampO, nI_ltO, nI_leO, nI_eqO, nI_subO, nle_t, nle_f, nlt_t, nlt_f, neq_f, ll, nx, aSl_I, aSl_L, aSl_R, aSl_N, h, vnb0, vnb1, rR_nw]
theorem V2_r (μ : PM) (j : Nat) : rR (V2 μ) 2000010 j = rR μ 2000010 j := by
  unfold V2
  simp only [rI_wI, rL_wL, rR_wR, rI_wL, rI_wR, rL_wI, rL_wR, rR_wI, rR_wL, va_rf_some, va_rf_none, rR_nw, Option.toList_some, Option.toList_none, List.nil_append, List.cons_append, true_and, and_true, false_and, and_false, and_self, if_true, if_false, not_true_eq_false, not_false_eq_true, or_false, false_or, or_true, true_or, or_self, ite_true, ite_false, Option.some.injEq, reduceCtorEq, Nat.reduceMod, Nat.reduceDiv, Nat.reduceLeDiff, Nat.reduceEqDiff, Nat.reduceAdd, Nat.reduceMul, Nat.reduceSub, Nat.reduceLT, sw_nil, sw_int, sw_long, sw_ref]
def V3 (μ : PM) : PM := (wI (wI (wR (wR (nw (wR (nw (wR (V2 (nw (wR (V1 (nw μ 6000003)) 5000007 0 (some 6000003)) 7000001)) 5000007 1 (some 7000001)) 9000721) 5000007 2 (some 9000721)) 10000421) 5000007 3 (some 10000421)) 5000007 4 none) 5000007 5 (nI 0)) 5000007 6 (nI 0))
theorem V3_l (μ : PM) : (aS (V3 μ)).length = (aS μ).length + 5 := by
  unfold V3
  simp only [aSl_I, aSl_L, aSl_R, aSl_N, V1_l, V2_l, Nat.add_assoc, Nat.reduceAdd]
theorem V3_AG {f : Nat → Nat → Int32} {μ ν : PM} (h : AG f μ ν) : AG f (V3 μ) (V3 ν) := (AG_I (by decide) (AG_I (by decide) (AG_R (AG_R (AG_N (by decide) (AG_R (AG_N (by decide) (AG_R (V2_AG (AG_N (by decide) (AG_R (V1_AG (AG_N (by decide) h)))))))))))))
theorem k3 {d : Nat} {μ : PM} (h : (aS μ).length = 4) : ∀ Q, R (d + 1) 67 0 [some (.ref 5000007)] [] μ Q = Q none (V3 μ) := by
  intro Q
  have c0 := k1 (d := d) (μ := (nw μ 6000003)) (by simp only [aSl_I, aSl_L, aSl_R, aSl_N, V1_l, V2_l, h, Nat.reduceAdd])
  have c0 : ∀ Q, R d 29 0 [some (.ref 6000003)] [] (nw μ 6000003) Q = Q none (V1 (nw μ 6000003)) := c0
  have c1 := k2 (d := d) (μ := (nw (wR (V1 (nw μ 6000003)) 5000007 0 (some 6000003)) 7000001)) (by simp only [aSl_I, aSl_L, aSl_R, aSl_N, V1_l, V2_l, h, Nat.reduceAdd])
  have c1 : ∀ Q, R d 7 0 [some (.ref 7000001)] [] (nw (wR (V1 (nw μ 6000003)) 5000007 0 (some 6000003)) 7000001) Q = Q none (V2 (nw (wR (V1 (nw μ 6000003)) 5000007 0 (some 6000003)) 7000001)) := c1
  unfold V3
  simp (disch := first | assumption | omega) only [r67_0, r67_1, r67_4, r67_5, r67_8, r67_8i, r67_9, r67_12, r67_12n, r67_15, r67_16, r67_19, r67_19i, r67_20, r67_23, r67_23n, r67_26, r67_27, r67_29, r67_31, r67_31n, r67_34, r67_35, r67_36, r67_38, r67_38n, r67_41, r67_42, r67_43, r67_43n, r67_46, r67_47, r67_48, r67_51, r67_52, r67_53, r67_56, rI_wI, rL_wL, rR_wR, rI_wL, rI_wR, rL_wI, rL_wR, rR_wI, rR_wL, va_rf_some, va_rf_none, Option.toList_some, Option.toList_none, List.nil_append, List.cons_append, true_and, and_true, false_and, and_false, and_self, if_true, if_false, not_true_eq_false, not_false_eq_true, or_false, false_or, or_true, true_or, or_self, ite_true, ite_false, Option.some.injEq, reduceCtorEq, Nat.reduceMod, Nat.reduceDiv, Nat.reduceLeDiff, Nat.reduceEqDiff, Nat.reduceAdd, Nat.reduceMul, Nat.reduceSub, Nat.reduceLT, sw_nil, sw_int, sw_long, sw_ref, li, lo, nI_m1, ng_eq, nn_eq, en_eq, ng_le, ng_lt, Int32.neg_neg, nI_add, pk_mul, nI_clampO, nI_ltO, nI_leO, nI_eqO, nI_subO, nle_t, nle_f, nlt_t, nlt_f, neq_f, ll, nx, aSl_I, aSl_L, aSl_R, aSl_N, V1_l, V2_l, h, vnb0, vnb1, rR_nw, c0, c1]
theorem V3_r (μ : PM) (j : Nat) : rR (V3 μ) 2000010 j = rR μ 2000010 j := by
  unfold V3
  simp only [rI_wI, rL_wL, rR_wR, rI_wL, rI_wR, rL_wI, rL_wR, rR_wI, rR_wL, va_rf_some, va_rf_none, rR_nw, Option.toList_some, Option.toList_none, List.nil_append, List.cons_append, true_and, and_true, false_and, and_false, and_self, if_true, if_false, not_true_eq_false, not_false_eq_true, or_false, false_or, or_true, true_or, or_self, ite_true, ite_false, Option.some.injEq, reduceCtorEq, Nat.reduceMod, Nat.reduceDiv, Nat.reduceLeDiff, Nat.reduceEqDiff, Nat.reduceAdd, Nat.reduceMul, Nat.reduceSub, Nat.reduceLT, sw_nil, sw_int, sw_long, sw_ref, V1_r, V2_r]
def V4 (μ : PM) : PM := (wI (wI (wI (wI (wI (wR (nw (wR (nw (wR (nw (wI (wR (nw μ 21100020) 20000002 0 (some 21100020)) 20000002 1 (nI 0)) 22000320) 20000002 2 (some 22000320)) 23000320) 20000002 3 (some 23000320)) 24006420) 20000002 4 (some 24006420)) 20000002 5 (nI 0)) 20000002 6 (nI 0)) 20000002 7 (nI 0)) 20000002 8 (nI 0)) 20000002 9 (nI 0))
theorem V4_l (μ : PM) : (aS (V4 μ)).length = (aS μ).length + 4 := by
  unfold V4
  simp only [aSl_I, aSl_L, aSl_R, aSl_N, Nat.add_assoc, Nat.reduceAdd]
theorem V4_AG {f : Nat → Nat → Int32} {μ ν : PM} (h : AG f μ ν) : AG f (V4 μ) (V4 ν) := (AG_I (by decide) (AG_I (by decide) (AG_I (by decide) (AG_I (by decide) (AG_I (by decide) (AG_R (AG_N (by decide) (AG_R (AG_N (by decide) (AG_R (AG_N (by decide) (AG_I (by decide) (AG_R (AG_N (by decide) h))))))))))))))
theorem k4 {d : Nat} {μ : PM} (h : (aS μ).length = 19) : ∀ Q, R d 17 0 [some (.ref 20000002)] [] μ Q = Q none (V4 μ) := by
  intro Q
  unfold V4
  simp (disch := first | assumption | omega) only [r17_0, r17_1, r17_4, r17_5, r17_8, r17_10, r17_10n, r17_13, r17_14, r17_15, r17_18, r17_19, r17_20, r17_22, r17_22n, r17_25, r17_26, r17_27, r17_29, r17_29n, r17_32, r17_33, r17_35, r17_37, r17_37n, r17_40, r17_41, r17_42, r17_45, r17_46, r17_47, r17_50, r17_51, r17_52, r17_55, r17_56, r17_57, r17_60, r17_61, r17_62, r17_65, rI_wI, rL_wL, rR_wR, rI_wL, rI_wR, rL_wI, rL_wR, rR_wI, rR_wL, va_rf_some, va_rf_none, Option.toList_some, Option.toList_none, List.nil_append, List.cons_append, true_and, and_true, false_and, and_false, and_self, if_true, if_false, not_true_eq_false, not_false_eq_true, or_false, false_or, or_true, true_or, or_self, ite_true, ite_false, Option.some.injEq, reduceCtorEq, Nat.reduceMod, Nat.reduceDiv, Nat.reduceLeDiff, Nat.reduceEqDiff, Nat.reduceAdd, Nat.reduceMul, Nat.reduceSub, Nat.reduceLT, sw_nil, sw_int, sw_long, sw_ref, li, lo, nI_m1, ng_eq, nn_eq, en_eq, ng_le, ng_lt, Int32.neg_neg, nI_add, pk_mul, nI_clampO, nI_ltO, nI_leO, nI_eqO, nI_subO, nle_t, nle_f, nlt_t, nlt_f, neq_f, ll, nx, aSl_I, aSl_L, aSl_R, aSl_N, h, vnb0, vnb1, rR_nw]
theorem V4_r (μ : PM) (j : Nat) : rR (V4 μ) 2000010 j = rR μ 2000010 j := by
  unfold V4
  simp only [rI_wI, rL_wL, rR_wR, rI_wL, rI_wR, rL_wI, rL_wR, rR_wI, rR_wL, va_rf_some, va_rf_none, rR_nw, Option.toList_some, Option.toList_none, List.nil_append, List.cons_append, true_and, and_true, false_and, and_false, and_self, if_true, if_false, not_true_eq_false, not_false_eq_true, or_false, false_or, or_true, true_or, or_self, ite_true, ite_false, Option.some.injEq, reduceCtorEq, Nat.reduceMod, Nat.reduceDiv, Nat.reduceLeDiff, Nat.reduceEqDiff, Nat.reduceAdd, Nat.reduceMul, Nat.reduceSub, Nat.reduceLT, sw_nil, sw_int, sw_long, sw_ref]
def V5 (μ : PM) : PM := (wI (wI (wI (wR (V4 (nw (wR (nw (wR (nw (wI (wI (wI (wR (nw (wR (nw (wR (nw (wR (nw (wR (nw (wR (nw (wI μ 11000005 0 (nI 0)) 12000720) 11000005 1 (some 12000720)) 13000723) 11000005 2 (some 13000723)) 14000720) 11000005 3 (some 14000720)) 15000720) 11000005 4 (some 15000720)) 16000720) 11000005 5 (some 16000720)) 17000720) 11000005 6 (some 17000720)) 11000005 7 (nI 0)) 11000005 8 (nI 0)) 11000005 9 (nI 0)) 18000420) 11000005 10 (some 18000420)) 19000420) 11000005 11 (some 19000420)) 20000002)) 11000005 12 (some 20000002)) 11000005 13 (nI 0)) 11000005 14 (nI 0)) 11000005 15 (nI 3))
theorem V5_l (μ : PM) : (aS (V5 μ)).length = (aS μ).length + 13 := by
  unfold V5
  simp only [aSl_I, aSl_L, aSl_R, aSl_N, V4_l, Nat.add_assoc, Nat.reduceAdd]
theorem V5_AG {f : Nat → Nat → Int32} {μ ν : PM} (h : AG f μ ν) : AG f (V5 μ) (V5 ν) := (AG_I (by decide) (AG_I (by decide) (AG_I (by decide) (AG_R (V4_AG (AG_N (by decide) (AG_R (AG_N (by decide) (AG_R (AG_N (by decide) (AG_I (by decide) (AG_I (by decide) (AG_I (by decide) (AG_R (AG_N (by decide) (AG_R (AG_N (by decide) (AG_R (AG_N (by decide) (AG_R (AG_N (by decide) (AG_R (AG_N (by decide) (AG_R (AG_N (by decide) (AG_I (by decide) h))))))))))))))))))))))))))
theorem k5 {d : Nat} {μ : PM} (h : (aS μ).length = 10) : ∀ Q, R (d + 1) 46 0 [some (.ref 11000005)] [] μ Q = Q none (V5 μ) := by
  intro Q
  have c0 := k4 (d := d) (μ := (nw (wR (nw (wR (nw (wI (wI (wI (wR (nw (wR (nw (wR (nw (wR (nw (wR (nw (wR (nw (wI μ 11000005 0 (nI 0)) 12000720) 11000005 1 (some 12000720)) 13000723) 11000005 2 (some 13000723)) 14000720) 11000005 3 (some 14000720)) 15000720) 11000005 4 (some 15000720)) 16000720) 11000005 5 (some 16000720)) 17000720) 11000005 6 (some 17000720)) 11000005 7 (nI 0)) 11000005 8 (nI 0)) 11000005 9 (nI 0)) 18000420) 11000005 10 (some 18000420)) 19000420) 11000005 11 (some 19000420)) 20000002)) (by simp only [aSl_I, aSl_L, aSl_R, aSl_N, V4_l, h, Nat.reduceAdd])
  have c0 : ∀ Q, R d 17 0 [some (.ref 20000002)] [] (nw (wR (nw (wR (nw (wI (wI (wI (wR (nw (wR (nw (wR (nw (wR (nw (wR (nw (wR (nw (wI μ 11000005 0 (nI 0)) 12000720) 11000005 1 (some 12000720)) 13000723) 11000005 2 (some 13000723)) 14000720) 11000005 3 (some 14000720)) 15000720) 11000005 4 (some 15000720)) 16000720) 11000005 5 (some 16000720)) 17000720) 11000005 6 (some 17000720)) 11000005 7 (nI 0)) 11000005 8 (nI 0)) 11000005 9 (nI 0)) 18000420) 11000005 10 (some 18000420)) 19000420) 11000005 11 (some 19000420)) 20000002) Q = Q none (V4 (nw (wR (nw (wR (nw (wI (wI (wI (wR (nw (wR (nw (wR (nw (wR (nw (wR (nw (wR (nw (wI μ 11000005 0 (nI 0)) 12000720) 11000005 1 (some 12000720)) 13000723) 11000005 2 (some 13000723)) 14000720) 11000005 3 (some 14000720)) 15000720) 11000005 4 (some 15000720)) 16000720) 11000005 5 (some 16000720)) 17000720) 11000005 6 (some 17000720)) 11000005 7 (nI 0)) 11000005 8 (nI 0)) 11000005 9 (nI 0)) 18000420) 11000005 10 (some 18000420)) 19000420) 11000005 11 (some 19000420)) 20000002)) := c0
  unfold V5
  simp (disch := first | assumption | omega) only [r46_0, r46_1, r46_4, r46_5, r46_6, r46_9, r46_10, r46_12, r46_14, r46_14n, r46_17, r46_18, r46_20, r46_22, r46_22n, r46_25, r46_26, r46_28, r46_30, r46_30n, r46_33, r46_34, r46_36, r46_38, r46_38n, r46_41, r46_42, r46_44, r46_46, r46_46n, r46_49, r46_50, r46_52, r46_54, r46_54n, r46_57, r46_58, r46_59, r46_62, r46_63, r46_64, r46_67, r46_68, r46_69, r46_72, r46_73, r46_74, r46_76, r46_76n, r46_79, r46_80, r46_81, r46_83, r46_83n, r46_86, r46_87, r46_90, r46_90i, r46_91, r46_94, r46_94n, r46_97, r46_98, r46_99, r46_102, r46_103, r46_104, r46_107, r46_108, r46_109, r46_112, rI_wI, rL_wL, rR_wR, rI_wL, rI_wR, rL_wI, rL_wR, rR_wI, rR_wL, va_rf_some, va_rf_none, Option.toList_some, Option.toList_none, List.nil_append, List.cons_append, true_and, and_true, false_and, and_false, and_self, if_true, if_false, not_true_eq_false, not_false_eq_true, or_false, false_or, or_true, true_or, or_self, ite_true, ite_false, Option.some.injEq, reduceCtorEq, Nat.reduceMod, Nat.reduceDiv, Nat.reduceLeDiff, Nat.reduceEqDiff, Nat.reduceAdd, Nat.reduceMul, Nat.reduceSub, Nat.reduceLT, sw_nil, sw_int, sw_long, sw_ref, li, lo, nI_m1, ng_eq, nn_eq, en_eq, ng_le, ng_lt, Int32.neg_neg, nI_add, pk_mul, nI_clampO, nI_ltO, nI_leO, nI_eqO, nI_subO, nle_t, nle_f, nlt_t, nlt_f, neq_f, ll, nx, aSl_I, aSl_L, aSl_R, aSl_N, V4_l, h, vnb0, vnb1, rR_nw, c0]
theorem V5_r (μ : PM) (j : Nat) : rR (V5 μ) 2000010 j = rR μ 2000010 j := by
  unfold V5
  simp only [rI_wI, rL_wL, rR_wR, rI_wL, rI_wR, rL_wI, rL_wR, rR_wI, rR_wL, va_rf_some, va_rf_none, rR_nw, Option.toList_some, Option.toList_none, List.nil_append, List.cons_append, true_and, and_true, false_and, and_false, and_self, if_true, if_false, not_true_eq_false, not_false_eq_true, or_false, false_or, or_true, true_or, or_self, ite_true, ite_false, Option.some.injEq, reduceCtorEq, Nat.reduceMod, Nat.reduceDiv, Nat.reduceLeDiff, Nat.reduceEqDiff, Nat.reduceAdd, Nat.reduceMul, Nat.reduceSub, Nat.reduceLT, sw_nil, sw_int, sw_long, sw_ref, V4_r]
def V6 (μ : PM) : PM := (wI (wI (wI (wI (wI (wR (nw (wR (nw (wR (nw (wI (wR (nw μ 35100020) 34000002 0 (some 35100020)) 34000002 1 (nI 0)) 36000320) 34000002 2 (some 36000320)) 37000320) 34000002 3 (some 37000320)) 38006420) 34000002 4 (some 38006420)) 34000002 5 (nI 0)) 34000002 6 (nI 0)) 34000002 7 (nI 0)) 34000002 8 (nI 0)) 34000002 9 (nI 0))
theorem V6_l (μ : PM) : (aS (V6 μ)).length = (aS μ).length + 4 := by
  unfold V6
  simp only [aSl_I, aSl_L, aSl_R, aSl_N, Nat.add_assoc, Nat.reduceAdd]
theorem V6_AG {f : Nat → Nat → Int32} {μ ν : PM} (h : AG f μ ν) : AG f (V6 μ) (V6 ν) := (AG_I (by decide) (AG_I (by decide) (AG_I (by decide) (AG_I (by decide) (AG_I (by decide) (AG_R (AG_N (by decide) (AG_R (AG_N (by decide) (AG_R (AG_N (by decide) (AG_I (by decide) (AG_R (AG_N (by decide) h))))))))))))))
theorem k6 {d : Nat} {μ : PM} (h : (aS μ).length = 33) : ∀ Q, R d 17 0 [some (.ref 34000002)] [] μ Q = Q none (V6 μ) := by
  intro Q
  unfold V6
  simp (disch := first | assumption | omega) only [r17_0, r17_1, r17_4, r17_5, r17_8, r17_10, r17_10n, r17_13, r17_14, r17_15, r17_18, r17_19, r17_20, r17_22, r17_22n, r17_25, r17_26, r17_27, r17_29, r17_29n, r17_32, r17_33, r17_35, r17_37, r17_37n, r17_40, r17_41, r17_42, r17_45, r17_46, r17_47, r17_50, r17_51, r17_52, r17_55, r17_56, r17_57, r17_60, r17_61, r17_62, r17_65, rI_wI, rL_wL, rR_wR, rI_wL, rI_wR, rL_wI, rL_wR, rR_wI, rR_wL, va_rf_some, va_rf_none, Option.toList_some, Option.toList_none, List.nil_append, List.cons_append, true_and, and_true, false_and, and_false, and_self, if_true, if_false, not_true_eq_false, not_false_eq_true, or_false, false_or, or_true, true_or, or_self, ite_true, ite_false, Option.some.injEq, reduceCtorEq, Nat.reduceMod, Nat.reduceDiv, Nat.reduceLeDiff, Nat.reduceEqDiff, Nat.reduceAdd, Nat.reduceMul, Nat.reduceSub, Nat.reduceLT, sw_nil, sw_int, sw_long, sw_ref, li, lo, nI_m1, ng_eq, nn_eq, en_eq, ng_le, ng_lt, Int32.neg_neg, nI_add, pk_mul, nI_clampO, nI_ltO, nI_leO, nI_eqO, nI_subO, nle_t, nle_f, nlt_t, nlt_f, neq_f, ll, nx, aSl_I, aSl_L, aSl_R, aSl_N, h, vnb0, vnb1, rR_nw]
theorem V6_r (μ : PM) (j : Nat) : rR (V6 μ) 2000010 j = rR μ 2000010 j := by
  unfold V6
  simp only [rI_wI, rL_wL, rR_wR, rI_wL, rI_wR, rL_wI, rL_wR, rR_wI, rR_wL, va_rf_some, va_rf_none, rR_nw, Option.toList_some, Option.toList_none, List.nil_append, List.cons_append, true_and, and_true, false_and, and_false, and_self, if_true, if_false, not_true_eq_false, not_false_eq_true, or_false, false_or, or_true, true_or, or_self, ite_true, ite_false, Option.some.injEq, reduceCtorEq, Nat.reduceMod, Nat.reduceDiv, Nat.reduceLeDiff, Nat.reduceEqDiff, Nat.reduceAdd, Nat.reduceMul, Nat.reduceSub, Nat.reduceLT, sw_nil, sw_int, sw_long, sw_ref]
def V7 (μ : PM) : PM := (wI (wI (wI (wR (V6 (nw (wR (nw (wR (nw (wI (wI (wI (wR (nw (wR (nw (wR (nw (wR (nw (wR (nw (wR (nw (wI μ 25000005 0 (nI 0)) 26000720) 25000005 1 (some 26000720)) 27000723) 25000005 2 (some 27000723)) 28000720) 25000005 3 (some 28000720)) 29000720) 25000005 4 (some 29000720)) 30000720) 25000005 5 (some 30000720)) 31000720) 25000005 6 (some 31000720)) 25000005 7 (nI 0)) 25000005 8 (nI 0)) 25000005 9 (nI 0)) 32000420) 25000005 10 (some 32000420)) 33000420) 25000005 11 (some 33000420)) 34000002)) 25000005 12 (some 34000002)) 25000005 13 (nI 0)) 25000005 14 (nI 0)) 25000005 15 (nI 3))
theorem V7_l (μ : PM) : (aS (V7 μ)).length = (aS μ).length + 13 := by
  unfold V7
  simp only [aSl_I, aSl_L, aSl_R, aSl_N, V6_l, Nat.add_assoc, Nat.reduceAdd]
theorem V7_AG {f : Nat → Nat → Int32} {μ ν : PM} (h : AG f μ ν) : AG f (V7 μ) (V7 ν) := (AG_I (by decide) (AG_I (by decide) (AG_I (by decide) (AG_R (V6_AG (AG_N (by decide) (AG_R (AG_N (by decide) (AG_R (AG_N (by decide) (AG_I (by decide) (AG_I (by decide) (AG_I (by decide) (AG_R (AG_N (by decide) (AG_R (AG_N (by decide) (AG_R (AG_N (by decide) (AG_R (AG_N (by decide) (AG_R (AG_N (by decide) (AG_R (AG_N (by decide) (AG_I (by decide) h))))))))))))))))))))))))))
theorem k7 {d : Nat} {μ : PM} (h : (aS μ).length = 24) : ∀ Q, R (d + 1) 46 0 [some (.ref 25000005)] [] μ Q = Q none (V7 μ) := by
  intro Q
  have c0 := k6 (d := d) (μ := (nw (wR (nw (wR (nw (wI (wI (wI (wR (nw (wR (nw (wR (nw (wR (nw (wR (nw (wR (nw (wI μ 25000005 0 (nI 0)) 26000720) 25000005 1 (some 26000720)) 27000723) 25000005 2 (some 27000723)) 28000720) 25000005 3 (some 28000720)) 29000720) 25000005 4 (some 29000720)) 30000720) 25000005 5 (some 30000720)) 31000720) 25000005 6 (some 31000720)) 25000005 7 (nI 0)) 25000005 8 (nI 0)) 25000005 9 (nI 0)) 32000420) 25000005 10 (some 32000420)) 33000420) 25000005 11 (some 33000420)) 34000002)) (by simp only [aSl_I, aSl_L, aSl_R, aSl_N, V6_l, h, Nat.reduceAdd])
  have c0 : ∀ Q, R d 17 0 [some (.ref 34000002)] [] (nw (wR (nw (wR (nw (wI (wI (wI (wR (nw (wR (nw (wR (nw (wR (nw (wR (nw (wR (nw (wI μ 25000005 0 (nI 0)) 26000720) 25000005 1 (some 26000720)) 27000723) 25000005 2 (some 27000723)) 28000720) 25000005 3 (some 28000720)) 29000720) 25000005 4 (some 29000720)) 30000720) 25000005 5 (some 30000720)) 31000720) 25000005 6 (some 31000720)) 25000005 7 (nI 0)) 25000005 8 (nI 0)) 25000005 9 (nI 0)) 32000420) 25000005 10 (some 32000420)) 33000420) 25000005 11 (some 33000420)) 34000002) Q = Q none (V6 (nw (wR (nw (wR (nw (wI (wI (wI (wR (nw (wR (nw (wR (nw (wR (nw (wR (nw (wR (nw (wI μ 25000005 0 (nI 0)) 26000720) 25000005 1 (some 26000720)) 27000723) 25000005 2 (some 27000723)) 28000720) 25000005 3 (some 28000720)) 29000720) 25000005 4 (some 29000720)) 30000720) 25000005 5 (some 30000720)) 31000720) 25000005 6 (some 31000720)) 25000005 7 (nI 0)) 25000005 8 (nI 0)) 25000005 9 (nI 0)) 32000420) 25000005 10 (some 32000420)) 33000420) 25000005 11 (some 33000420)) 34000002)) := c0
  unfold V7
  simp (disch := first | assumption | omega) only [r46_0, r46_1, r46_4, r46_5, r46_6, r46_9, r46_10, r46_12, r46_14, r46_14n, r46_17, r46_18, r46_20, r46_22, r46_22n, r46_25, r46_26, r46_28, r46_30, r46_30n, r46_33, r46_34, r46_36, r46_38, r46_38n, r46_41, r46_42, r46_44, r46_46, r46_46n, r46_49, r46_50, r46_52, r46_54, r46_54n, r46_57, r46_58, r46_59, r46_62, r46_63, r46_64, r46_67, r46_68, r46_69, r46_72, r46_73, r46_74, r46_76, r46_76n, r46_79, r46_80, r46_81, r46_83, r46_83n, r46_86, r46_87, r46_90, r46_90i, r46_91, r46_94, r46_94n, r46_97, r46_98, r46_99, r46_102, r46_103, r46_104, r46_107, r46_108, r46_109, r46_112, rI_wI, rL_wL, rR_wR, rI_wL, rI_wR, rL_wI, rL_wR, rR_wI, rR_wL, va_rf_some, va_rf_none, Option.toList_some, Option.toList_none, List.nil_append, List.cons_append, true_and, and_true, false_and, and_false, and_self, if_true, if_false, not_true_eq_false, not_false_eq_true, or_false, false_or, or_true, true_or, or_self, ite_true, ite_false, Option.some.injEq, reduceCtorEq, Nat.reduceMod, Nat.reduceDiv, Nat.reduceLeDiff, Nat.reduceEqDiff, Nat.reduceAdd, Nat.reduceMul, Nat.reduceSub, Nat.reduceLT, sw_nil, sw_int, sw_long, sw_ref, li, lo, nI_m1, ng_eq, nn_eq, en_eq, ng_le, ng_lt, Int32.neg_neg, nI_add, pk_mul, nI_clampO, nI_ltO, nI_leO, nI_eqO, nI_subO, nle_t, nle_f, nlt_t, nlt_f, neq_f, ll, nx, aSl_I, aSl_L, aSl_R, aSl_N, V6_l, h, vnb0, vnb1, rR_nw, c0]
theorem V7_r (μ : PM) (j : Nat) : rR (V7 μ) 2000010 j = rR μ 2000010 j := by
  unfold V7
  simp only [rI_wI, rL_wL, rR_wR, rI_wL, rI_wR, rL_wI, rL_wR, rR_wI, rR_wL, va_rf_some, va_rf_none, rR_nw, Option.toList_some, Option.toList_none, List.nil_append, List.cons_append, true_and, and_true, false_and, and_false, and_self, if_true, if_false, not_true_eq_false, not_false_eq_true, or_false, false_or, or_true, true_or, or_self, ite_true, ite_false, Option.some.injEq, reduceCtorEq, Nat.reduceMod, Nat.reduceDiv, Nat.reduceLeDiff, Nat.reduceEqDiff, Nat.reduceAdd, Nat.reduceMul, Nat.reduceSub, Nat.reduceLT, sw_nil, sw_int, sw_long, sw_ref, V6_r]
def V8 (μ : PM) : PM := (wI (wI (wI (wR (nw μ 40000720) 39000008 0 (some 40000720)) 39000008 1 (nI 0)) 39000008 2 (-nI 1)) 39000008 3 (nI 0))
theorem V8_l (μ : PM) : (aS (V8 μ)).length = (aS μ).length + 1 := by
  unfold V8
  simp only [aSl_I, aSl_L, aSl_R, aSl_N, Nat.add_assoc, Nat.reduceAdd]
theorem V8_AG {f : Nat → Nat → Int32} {μ ν : PM} (h : AG f μ ν) : AG f (V8 μ) (V8 ν) := (AG_I (by decide) (AG_I (by decide) (AG_I (by decide) (AG_R (AG_N (by decide) h)))))
theorem k8 {d : Nat} {μ : PM} (h : (aS μ).length = 38) : ∀ Q, R d 81 0 [some (.ref 39000008)] [] μ Q = Q none (V8 μ) := by
  intro Q
  unfold V8
  simp (disch := first | assumption | omega) only [r81_0, r81_1, r81_4, r81_5, r81_7, r81_9, r81_9n, r81_12, r81_13, r81_14, r81_17, r81_18, r81_19, r81_22, r81_23, r81_24, r81_27, rI_wI, rL_wL, rR_wR, rI_wL, rI_wR, rL_wI, rL_wR, rR_wI, rR_wL, va_rf_some, va_rf_none, Option.toList_some, Option.toList_none, List.nil_append, List.cons_append, true_and, and_true, false_and, and_false, and_self, if_true, if_false, not_true_eq_false, not_false_eq_true, or_false, false_or, or_true, true_or, or_self, ite_true, ite_false, Option.some.injEq, reduceCtorEq, Nat.reduceMod, Nat.reduceDiv, Nat.reduceLeDiff, Nat.reduceEqDiff, Nat.reduceAdd, Nat.reduceMul, Nat.reduceSub, Nat.reduceLT, sw_nil, sw_int, sw_long, sw_ref, li, lo, nI_m1, ng_eq, nn_eq, en_eq, ng_le, ng_lt, Int32.neg_neg, nI_add, pk_mul, nI_clampO, nI_ltO, nI_leO, nI_eqO, nI_subO, nle_t, nle_f, nlt_t, nlt_f, neq_f, ll, nx, aSl_I, aSl_L, aSl_R, aSl_N, h, vnb0, vnb1, rR_nw]
theorem V8_r (μ : PM) (j : Nat) : rR (V8 μ) 2000010 j = rR μ 2000010 j := by
  unfold V8
  simp only [rI_wI, rL_wL, rR_wR, rI_wL, rI_wR, rL_wI, rL_wR, rR_wI, rR_wL, va_rf_some, va_rf_none, rR_nw, Option.toList_some, Option.toList_none, List.nil_append, List.cons_append, true_and, and_true, false_and, and_false, and_self, if_true, if_false, not_true_eq_false, not_false_eq_true, or_false, false_or, or_true, true_or, or_self, ite_true, ite_false, Option.some.injEq, reduceCtorEq, Nat.reduceMod, Nat.reduceDiv, Nat.reduceLeDiff, Nat.reduceEqDiff, Nat.reduceAdd, Nat.reduceMul, Nat.reduceSub, Nat.reduceLT, sw_nil, sw_int, sw_long, sw_ref]
theorem V8_q (μ : PM) (j : Nat) : rR (V8 μ) 41000006 j = rR μ 41000006 j := by
  unfold V8
  simp only [rI_wI, rL_wL, rR_wR, rI_wL, rI_wR, rL_wI, rL_wR, rR_wI, rR_wL, va_rf_some, va_rf_none, rR_nw, Option.toList_some, Option.toList_none, List.nil_append, List.cons_append, true_and, and_true, false_and, and_false, and_self, if_true, if_false, not_true_eq_false, not_false_eq_true, or_false, false_or, or_true, true_or, or_self, ite_true, ite_false, Option.some.injEq, reduceCtorEq, Nat.reduceMod, Nat.reduceDiv, Nat.reduceLeDiff, Nat.reduceEqDiff, Nat.reduceAdd, Nat.reduceMul, Nat.reduceSub, Nat.reduceLT, sw_nil, sw_int, sw_long, sw_ref]
def V9 (μ : PM) : PM := (wI (wI (wI (wR (nw μ 44000720) 43000008 0 (some 44000720)) 43000008 1 (nI 0)) 43000008 2 (-nI 1)) 43000008 3 (nI 0))
theorem V9_l (μ : PM) : (aS (V9 μ)).length = (aS μ).length + 1 := by
  unfold V9
  simp only [aSl_I, aSl_L, aSl_R, aSl_N, Nat.add_assoc, Nat.reduceAdd]
theorem V9_AG {f : Nat → Nat → Int32} {μ ν : PM} (h : AG f μ ν) : AG f (V9 μ) (V9 ν) := (AG_I (by decide) (AG_I (by decide) (AG_I (by decide) (AG_R (AG_N (by decide) h)))))
theorem k9 {d : Nat} {μ : PM} (h : (aS μ).length = 42) : ∀ Q, R d 81 0 [some (.ref 43000008)] [] μ Q = Q none (V9 μ) := by
  intro Q
  unfold V9
  simp (disch := first | assumption | omega) only [r81_0, r81_1, r81_4, r81_5, r81_7, r81_9, r81_9n, r81_12, r81_13, r81_14, r81_17, r81_18, r81_19, r81_22, r81_23, r81_24, r81_27, rI_wI, rL_wL, rR_wR, rI_wL, rI_wR, rL_wI, rL_wR, rR_wI, rR_wL, va_rf_some, va_rf_none, Option.toList_some, Option.toList_none, List.nil_append, List.cons_append, true_and, and_true, false_and, and_false, and_self, if_true, if_false, not_true_eq_false, not_false_eq_true, or_false, false_or, or_true, true_or, or_self, ite_true, ite_false, Option.some.injEq, reduceCtorEq, Nat.reduceMod, Nat.reduceDiv, Nat.reduceLeDiff, Nat.reduceEqDiff, Nat.reduceAdd, Nat.reduceMul, Nat.reduceSub, Nat.reduceLT, sw_nil, sw_int, sw_long, sw_ref, li, lo, nI_m1, ng_eq, nn_eq, en_eq, ng_le, ng_lt, Int32.neg_neg, nI_add, pk_mul, nI_clampO, nI_ltO, nI_leO, nI_eqO, nI_subO, nle_t, nle_f, nlt_t, nlt_f, neq_f, ll, nx, aSl_I, aSl_L, aSl_R, aSl_N, h, vnb0, vnb1, rR_nw]
theorem V9_r (μ : PM) (j : Nat) : rR (V9 μ) 2000010 j = rR μ 2000010 j := by
  unfold V9
  simp only [rI_wI, rL_wL, rR_wR, rI_wL, rI_wR, rL_wI, rL_wR, rR_wI, rR_wL, va_rf_some, va_rf_none, rR_nw, Option.toList_some, Option.toList_none, List.nil_append, List.cons_append, true_and, and_true, false_and, and_false, and_self, if_true, if_false, not_true_eq_false, not_false_eq_true, or_false, false_or, or_true, true_or, or_self, ite_true, ite_false, Option.some.injEq, reduceCtorEq, Nat.reduceMod, Nat.reduceDiv, Nat.reduceLeDiff, Nat.reduceEqDiff, Nat.reduceAdd, Nat.reduceMul, Nat.reduceSub, Nat.reduceLT, sw_nil, sw_int, sw_long, sw_ref]
theorem V9_q (μ : PM) (j : Nat) : rR (V9 μ) 41000006 j = rR μ 41000006 j := by
  unfold V9
  simp only [rI_wI, rL_wL, rR_wR, rI_wL, rI_wR, rL_wI, rL_wR, rR_wI, rR_wL, va_rf_some, va_rf_none, rR_nw, Option.toList_some, Option.toList_none, List.nil_append, List.cons_append, true_and, and_true, false_and, and_false, and_self, if_true, if_false, not_true_eq_false, not_false_eq_true, or_false, false_or, or_true, true_or, or_self, ite_true, ite_false, Option.some.injEq, reduceCtorEq, Nat.reduceMod, Nat.reduceDiv, Nat.reduceLeDiff, Nat.reduceEqDiff, Nat.reduceAdd, Nat.reduceMul, Nat.reduceSub, Nat.reduceLT, sw_nil, sw_int, sw_long, sw_ref]
def V10 (μ : PM) : PM := (wI (wI (wI (wR (nw μ 46000720) 45000008 0 (some 46000720)) 45000008 1 (nI 0)) 45000008 2 (-nI 1)) 45000008 3 (nI 0))
theorem V10_l (μ : PM) : (aS (V10 μ)).length = (aS μ).length + 1 := by
  unfold V10
  simp only [aSl_I, aSl_L, aSl_R, aSl_N, Nat.add_assoc, Nat.reduceAdd]
theorem V10_AG {f : Nat → Nat → Int32} {μ ν : PM} (h : AG f μ ν) : AG f (V10 μ) (V10 ν) := (AG_I (by decide) (AG_I (by decide) (AG_I (by decide) (AG_R (AG_N (by decide) h)))))
theorem k10 {d : Nat} {μ : PM} (h : (aS μ).length = 44) : ∀ Q, R d 81 0 [some (.ref 45000008)] [] μ Q = Q none (V10 μ) := by
  intro Q
  unfold V10
  simp (disch := first | assumption | omega) only [r81_0, r81_1, r81_4, r81_5, r81_7, r81_9, r81_9n, r81_12, r81_13, r81_14, r81_17, r81_18, r81_19, r81_22, r81_23, r81_24, r81_27, rI_wI, rL_wL, rR_wR, rI_wL, rI_wR, rL_wI, rL_wR, rR_wI, rR_wL, va_rf_some, va_rf_none, Option.toList_some, Option.toList_none, List.nil_append, List.cons_append, true_and, and_true, false_and, and_false, and_self, if_true, if_false, not_true_eq_false, not_false_eq_true, or_false, false_or, or_true, true_or, or_self, ite_true, ite_false, Option.some.injEq, reduceCtorEq, Nat.reduceMod, Nat.reduceDiv, Nat.reduceLeDiff, Nat.reduceEqDiff, Nat.reduceAdd, Nat.reduceMul, Nat.reduceSub, Nat.reduceLT, sw_nil, sw_int, sw_long, sw_ref, li, lo, nI_m1, ng_eq, nn_eq, en_eq, ng_le, ng_lt, Int32.neg_neg, nI_add, pk_mul, nI_clampO, nI_ltO, nI_leO, nI_eqO, nI_subO, nle_t, nle_f, nlt_t, nlt_f, neq_f, ll, nx, aSl_I, aSl_L, aSl_R, aSl_N, h, vnb0, vnb1, rR_nw]
theorem V10_r (μ : PM) (j : Nat) : rR (V10 μ) 2000010 j = rR μ 2000010 j := by
  unfold V10
  simp only [rI_wI, rL_wL, rR_wR, rI_wL, rI_wR, rL_wI, rL_wR, rR_wI, rR_wL, va_rf_some, va_rf_none, rR_nw, Option.toList_some, Option.toList_none, List.nil_append, List.cons_append, true_and, and_true, false_and, and_false, and_self, if_true, if_false, not_true_eq_false, not_false_eq_true, or_false, false_or, or_true, true_or, or_self, ite_true, ite_false, Option.some.injEq, reduceCtorEq, Nat.reduceMod, Nat.reduceDiv, Nat.reduceLeDiff, Nat.reduceEqDiff, Nat.reduceAdd, Nat.reduceMul, Nat.reduceSub, Nat.reduceLT, sw_nil, sw_int, sw_long, sw_ref]
theorem V10_q (μ : PM) (j : Nat) : rR (V10 μ) 41000006 j = rR μ 41000006 j := by
  unfold V10
  simp only [rI_wI, rL_wL, rR_wR, rI_wL, rI_wR, rL_wI, rL_wR, rR_wI, rR_wL, va_rf_some, va_rf_none, rR_nw, Option.toList_some, Option.toList_none, List.nil_append, List.cons_append, true_and, and_true, false_and, and_false, and_self, if_true, if_false, not_true_eq_false, not_false_eq_true, or_false, false_or, or_true, true_or, or_self, ite_true, ite_false, Option.some.injEq, reduceCtorEq, Nat.reduceMod, Nat.reduceDiv, Nat.reduceLeDiff, Nat.reduceEqDiff, Nat.reduceAdd, Nat.reduceMul, Nat.reduceSub, Nat.reduceLT, sw_nil, sw_int, sw_long, sw_ref]
def V11 (μ : PM) : PM := (wI (wI (wI (wR (nw μ 48000720) 47000008 0 (some 48000720)) 47000008 1 (nI 0)) 47000008 2 (-nI 1)) 47000008 3 (nI 0))
theorem V11_l (μ : PM) : (aS (V11 μ)).length = (aS μ).length + 1 := by
  unfold V11
  simp only [aSl_I, aSl_L, aSl_R, aSl_N, Nat.add_assoc, Nat.reduceAdd]
theorem V11_AG {f : Nat → Nat → Int32} {μ ν : PM} (h : AG f μ ν) : AG f (V11 μ) (V11 ν) := (AG_I (by decide) (AG_I (by decide) (AG_I (by decide) (AG_R (AG_N (by decide) h)))))
theorem k11 {d : Nat} {μ : PM} (h : (aS μ).length = 46) : ∀ Q, R d 81 0 [some (.ref 47000008)] [] μ Q = Q none (V11 μ) := by
  intro Q
  unfold V11
  simp (disch := first | assumption | omega) only [r81_0, r81_1, r81_4, r81_5, r81_7, r81_9, r81_9n, r81_12, r81_13, r81_14, r81_17, r81_18, r81_19, r81_22, r81_23, r81_24, r81_27, rI_wI, rL_wL, rR_wR, rI_wL, rI_wR, rL_wI, rL_wR, rR_wI, rR_wL, va_rf_some, va_rf_none, Option.toList_some, Option.toList_none, List.nil_append, List.cons_append, true_and, and_true, false_and, and_false, and_self, if_true, if_false, not_true_eq_false, not_false_eq_true, or_false, false_or, or_true, true_or, or_self, ite_true, ite_false, Option.some.injEq, reduceCtorEq, Nat.reduceMod, Nat.reduceDiv, Nat.reduceLeDiff, Nat.reduceEqDiff, Nat.reduceAdd, Nat.reduceMul, Nat.reduceSub, Nat.reduceLT, sw_nil, sw_int, sw_long, sw_ref, li, lo, nI_m1, ng_eq, nn_eq, en_eq, ng_le, ng_lt, Int32.neg_neg, nI_add, pk_mul, nI_clampO, nI_ltO, nI_leO, nI_eqO, nI_subO, nle_t, nle_f, nlt_t, nlt_f, neq_f, ll, nx, aSl_I, aSl_L, aSl_R, aSl_N, h, vnb0, vnb1, rR_nw]
theorem V11_r (μ : PM) (j : Nat) : rR (V11 μ) 2000010 j = rR μ 2000010 j := by
  unfold V11
  simp only [rI_wI, rL_wL, rR_wR, rI_wL, rI_wR, rL_wI, rL_wR, rR_wI, rR_wL, va_rf_some, va_rf_none, rR_nw, Option.toList_some, Option.toList_none, List.nil_append, List.cons_append, true_and, and_true, false_and, and_false, and_self, if_true, if_false, not_true_eq_false, not_false_eq_true, or_false, false_or, or_true, true_or, or_self, ite_true, ite_false, Option.some.injEq, reduceCtorEq, Nat.reduceMod, Nat.reduceDiv, Nat.reduceLeDiff, Nat.reduceEqDiff, Nat.reduceAdd, Nat.reduceMul, Nat.reduceSub, Nat.reduceLT, sw_nil, sw_int, sw_long, sw_ref]
theorem V11_q (μ : PM) (j : Nat) : rR (V11 μ) 41000006 j = rR μ 41000006 j := by
  unfold V11
  simp only [rI_wI, rL_wL, rR_wR, rI_wL, rI_wR, rL_wI, rL_wR, rR_wI, rR_wL, va_rf_some, va_rf_none, rR_nw, Option.toList_some, Option.toList_none, List.nil_append, List.cons_append, true_and, and_true, false_and, and_false, and_self, if_true, if_false, not_true_eq_false, not_false_eq_true, or_false, false_or, or_true, true_or, or_self, ite_true, ite_false, Option.some.injEq, reduceCtorEq, Nat.reduceMod, Nat.reduceDiv, Nat.reduceLeDiff, Nat.reduceEqDiff, Nat.reduceAdd, Nat.reduceMul, Nat.reduceSub, Nat.reduceLT, sw_nil, sw_int, sw_long, sw_ref]
def V12 (μ : PM) : PM := (wI (wI (wI (wR (nw μ 50000720) 49000008 0 (some 50000720)) 49000008 1 (nI 0)) 49000008 2 (-nI 1)) 49000008 3 (nI 0))
theorem V12_l (μ : PM) : (aS (V12 μ)).length = (aS μ).length + 1 := by
  unfold V12
  simp only [aSl_I, aSl_L, aSl_R, aSl_N, Nat.add_assoc, Nat.reduceAdd]
theorem V12_AG {f : Nat → Nat → Int32} {μ ν : PM} (h : AG f μ ν) : AG f (V12 μ) (V12 ν) := (AG_I (by decide) (AG_I (by decide) (AG_I (by decide) (AG_R (AG_N (by decide) h)))))
theorem k12 {d : Nat} {μ : PM} (h : (aS μ).length = 48) : ∀ Q, R d 81 0 [some (.ref 49000008)] [] μ Q = Q none (V12 μ) := by
  intro Q
  unfold V12
  simp (disch := first | assumption | omega) only [r81_0, r81_1, r81_4, r81_5, r81_7, r81_9, r81_9n, r81_12, r81_13, r81_14, r81_17, r81_18, r81_19, r81_22, r81_23, r81_24, r81_27, rI_wI, rL_wL, rR_wR, rI_wL, rI_wR, rL_wI, rL_wR, rR_wI, rR_wL, va_rf_some, va_rf_none, Option.toList_some, Option.toList_none, List.nil_append, List.cons_append, true_and, and_true, false_and, and_false, and_self, if_true, if_false, not_true_eq_false, not_false_eq_true, or_false, false_or, or_true, true_or, or_self, ite_true, ite_false, Option.some.injEq, reduceCtorEq, Nat.reduceMod, Nat.reduceDiv, Nat.reduceLeDiff, Nat.reduceEqDiff, Nat.reduceAdd, Nat.reduceMul, Nat.reduceSub, Nat.reduceLT, sw_nil, sw_int, sw_long, sw_ref, li, lo, nI_m1, ng_eq, nn_eq, en_eq, ng_le, ng_lt, Int32.neg_neg, nI_add, pk_mul, nI_clampO, nI_ltO, nI_leO, nI_eqO, nI_subO, nle_t, nle_f, nlt_t, nlt_f, neq_f, ll, nx, aSl_I, aSl_L, aSl_R, aSl_N, h, vnb0, vnb1, rR_nw]
theorem V12_r (μ : PM) (j : Nat) : rR (V12 μ) 2000010 j = rR μ 2000010 j := by
  unfold V12
  simp only [rI_wI, rL_wL, rR_wR, rI_wL, rI_wR, rL_wI, rL_wR, rR_wI, rR_wL, va_rf_some, va_rf_none, rR_nw, Option.toList_some, Option.toList_none, List.nil_append, List.cons_append, true_and, and_true, false_and, and_false, and_self, if_true, if_false, not_true_eq_false, not_false_eq_true, or_false, false_or, or_true, true_or, or_self, ite_true, ite_false, Option.some.injEq, reduceCtorEq, Nat.reduceMod, Nat.reduceDiv, Nat.reduceLeDiff, Nat.reduceEqDiff, Nat.reduceAdd, Nat.reduceMul, Nat.reduceSub, Nat.reduceLT, sw_nil, sw_int, sw_long, sw_ref]
theorem V12_q (μ : PM) (j : Nat) : rR (V12 μ) 41000006 j = rR μ 41000006 j := by
  unfold V12
  simp only [rI_wI, rL_wL, rR_wR, rI_wL, rI_wR, rL_wI, rL_wR, rR_wI, rR_wL, va_rf_some, va_rf_none, rR_nw, Option.toList_some, Option.toList_none, List.nil_append, List.cons_append, true_and, and_true, false_and, and_false, and_self, if_true, if_false, not_true_eq_false, not_false_eq_true, or_false, false_or, or_true, true_or, or_self, ite_true, ite_false, Option.some.injEq, reduceCtorEq, Nat.reduceMod, Nat.reduceDiv, Nat.reduceLeDiff, Nat.reduceEqDiff, Nat.reduceAdd, Nat.reduceMul, Nat.reduceSub, Nat.reduceLT, sw_nil, sw_int, sw_long, sw_ref]
def V13 (μ : PM) : PM := (wI (wI (wI (wR (nw μ 52000720) 51000008 0 (some 52000720)) 51000008 1 (nI 0)) 51000008 2 (-nI 1)) 51000008 3 (nI 0))
theorem V13_l (μ : PM) : (aS (V13 μ)).length = (aS μ).length + 1 := by
  unfold V13
  simp only [aSl_I, aSl_L, aSl_R, aSl_N, Nat.add_assoc, Nat.reduceAdd]
theorem V13_AG {f : Nat → Nat → Int32} {μ ν : PM} (h : AG f μ ν) : AG f (V13 μ) (V13 ν) := (AG_I (by decide) (AG_I (by decide) (AG_I (by decide) (AG_R (AG_N (by decide) h)))))
theorem k13 {d : Nat} {μ : PM} (h : (aS μ).length = 50) : ∀ Q, R d 81 0 [some (.ref 51000008)] [] μ Q = Q none (V13 μ) := by
  intro Q
  unfold V13
  simp (disch := first | assumption | omega) only [r81_0, r81_1, r81_4, r81_5, r81_7, r81_9, r81_9n, r81_12, r81_13, r81_14, r81_17, r81_18, r81_19, r81_22, r81_23, r81_24, r81_27, rI_wI, rL_wL, rR_wR, rI_wL, rI_wR, rL_wI, rL_wR, rR_wI, rR_wL, va_rf_some, va_rf_none, Option.toList_some, Option.toList_none, List.nil_append, List.cons_append, true_and, and_true, false_and, and_false, and_self, if_true, if_false, not_true_eq_false, not_false_eq_true, or_false, false_or, or_true, true_or, or_self, ite_true, ite_false, Option.some.injEq, reduceCtorEq, Nat.reduceMod, Nat.reduceDiv, Nat.reduceLeDiff, Nat.reduceEqDiff, Nat.reduceAdd, Nat.reduceMul, Nat.reduceSub, Nat.reduceLT, sw_nil, sw_int, sw_long, sw_ref, li, lo, nI_m1, ng_eq, nn_eq, en_eq, ng_le, ng_lt, Int32.neg_neg, nI_add, pk_mul, nI_clampO, nI_ltO, nI_leO, nI_eqO, nI_subO, nle_t, nle_f, nlt_t, nlt_f, neq_f, ll, nx, aSl_I, aSl_L, aSl_R, aSl_N, h, vnb0, vnb1, rR_nw]
theorem V13_r (μ : PM) (j : Nat) : rR (V13 μ) 2000010 j = rR μ 2000010 j := by
  unfold V13
  simp only [rI_wI, rL_wL, rR_wR, rI_wL, rI_wR, rL_wI, rL_wR, rR_wI, rR_wL, va_rf_some, va_rf_none, rR_nw, Option.toList_some, Option.toList_none, List.nil_append, List.cons_append, true_and, and_true, false_and, and_false, and_self, if_true, if_false, not_true_eq_false, not_false_eq_true, or_false, false_or, or_true, true_or, or_self, ite_true, ite_false, Option.some.injEq, reduceCtorEq, Nat.reduceMod, Nat.reduceDiv, Nat.reduceLeDiff, Nat.reduceEqDiff, Nat.reduceAdd, Nat.reduceMul, Nat.reduceSub, Nat.reduceLT, sw_nil, sw_int, sw_long, sw_ref]
theorem V13_q (μ : PM) (j : Nat) : rR (V13 μ) 41000006 j = rR μ 41000006 j := by
  unfold V13
  simp only [rI_wI, rL_wL, rR_wR, rI_wL, rI_wR, rL_wI, rL_wR, rR_wI, rR_wL, va_rf_some, va_rf_none, rR_nw, Option.toList_some, Option.toList_none, List.nil_append, List.cons_append, true_and, and_true, false_and, and_false, and_self, if_true, if_false, not_true_eq_false, not_false_eq_true, or_false, false_or, or_true, true_or, or_self, ite_true, ite_false, Option.some.injEq, reduceCtorEq, Nat.reduceMod, Nat.reduceDiv, Nat.reduceLeDiff, Nat.reduceEqDiff, Nat.reduceAdd, Nat.reduceMul, Nat.reduceSub, Nat.reduceLT, sw_nil, sw_int, sw_long, sw_ref]
def V14 (μ : PM) : PM := (wI (wI (wI (wR (nw μ 54000720) 53000008 0 (some 54000720)) 53000008 1 (nI 0)) 53000008 2 (-nI 1)) 53000008 3 (nI 0))
theorem V14_l (μ : PM) : (aS (V14 μ)).length = (aS μ).length + 1 := by
  unfold V14
  simp only [aSl_I, aSl_L, aSl_R, aSl_N, Nat.add_assoc, Nat.reduceAdd]
theorem V14_AG {f : Nat → Nat → Int32} {μ ν : PM} (h : AG f μ ν) : AG f (V14 μ) (V14 ν) := (AG_I (by decide) (AG_I (by decide) (AG_I (by decide) (AG_R (AG_N (by decide) h)))))
theorem k14 {d : Nat} {μ : PM} (h : (aS μ).length = 52) : ∀ Q, R d 81 0 [some (.ref 53000008)] [] μ Q = Q none (V14 μ) := by
  intro Q
  unfold V14
  simp (disch := first | assumption | omega) only [r81_0, r81_1, r81_4, r81_5, r81_7, r81_9, r81_9n, r81_12, r81_13, r81_14, r81_17, r81_18, r81_19, r81_22, r81_23, r81_24, r81_27, rI_wI, rL_wL, rR_wR, rI_wL, rI_wR, rL_wI, rL_wR, rR_wI, rR_wL, va_rf_some, va_rf_none, Option.toList_some, Option.toList_none, List.nil_append, List.cons_append, true_and, and_true, false_and, and_false, and_self, if_true, if_false, not_true_eq_false, not_false_eq_true, or_false, false_or, or_true, true_or, or_self, ite_true, ite_false, Option.some.injEq, reduceCtorEq, Nat.reduceMod, Nat.reduceDiv, Nat.reduceLeDiff, Nat.reduceEqDiff, Nat.reduceAdd, Nat.reduceMul, Nat.reduceSub, Nat.reduceLT, sw_nil, sw_int, sw_long, sw_ref, li, lo, nI_m1, ng_eq, nn_eq, en_eq, ng_le, ng_lt, Int32.neg_neg, nI_add, pk_mul, nI_clampO, nI_ltO, nI_leO, nI_eqO, nI_subO, nle_t, nle_f, nlt_t, nlt_f, neq_f, ll, nx, aSl_I, aSl_L, aSl_R, aSl_N, h, vnb0, vnb1, rR_nw]
theorem V14_r (μ : PM) (j : Nat) : rR (V14 μ) 2000010 j = rR μ 2000010 j := by
  unfold V14
  simp only [rI_wI, rL_wL, rR_wR, rI_wL, rI_wR, rL_wI, rL_wR, rR_wI, rR_wL, va_rf_some, va_rf_none, rR_nw, Option.toList_some, Option.toList_none, List.nil_append, List.cons_append, true_and, and_true, false_and, and_false, and_self, if_true, if_false, not_true_eq_false, not_false_eq_true, or_false, false_or, or_true, true_or, or_self, ite_true, ite_false, Option.some.injEq, reduceCtorEq, Nat.reduceMod, Nat.reduceDiv, Nat.reduceLeDiff, Nat.reduceEqDiff, Nat.reduceAdd, Nat.reduceMul, Nat.reduceSub, Nat.reduceLT, sw_nil, sw_int, sw_long, sw_ref]
theorem V14_q (μ : PM) (j : Nat) : rR (V14 μ) 41000006 j = rR μ 41000006 j := by
  unfold V14
  simp only [rI_wI, rL_wL, rR_wR, rI_wL, rI_wR, rL_wI, rL_wR, rR_wI, rR_wL, va_rf_some, va_rf_none, rR_nw, Option.toList_some, Option.toList_none, List.nil_append, List.cons_append, true_and, and_true, false_and, and_false, and_self, if_true, if_false, not_true_eq_false, not_false_eq_true, or_false, false_or, or_true, true_or, or_self, ite_true, ite_false, Option.some.injEq, reduceCtorEq, Nat.reduceMod, Nat.reduceDiv, Nat.reduceLeDiff, Nat.reduceEqDiff, Nat.reduceAdd, Nat.reduceMul, Nat.reduceSub, Nat.reduceLT, sw_nil, sw_int, sw_long, sw_ref]
def V15 (μ : PM) : PM := (wI (wI (wI (wR (nw μ 56000720) 55000008 0 (some 56000720)) 55000008 1 (nI 0)) 55000008 2 (-nI 1)) 55000008 3 (nI 0))
theorem V15_l (μ : PM) : (aS (V15 μ)).length = (aS μ).length + 1 := by
  unfold V15
  simp only [aSl_I, aSl_L, aSl_R, aSl_N, Nat.add_assoc, Nat.reduceAdd]
theorem V15_AG {f : Nat → Nat → Int32} {μ ν : PM} (h : AG f μ ν) : AG f (V15 μ) (V15 ν) := (AG_I (by decide) (AG_I (by decide) (AG_I (by decide) (AG_R (AG_N (by decide) h)))))
theorem k15 {d : Nat} {μ : PM} (h : (aS μ).length = 54) : ∀ Q, R d 81 0 [some (.ref 55000008)] [] μ Q = Q none (V15 μ) := by
  intro Q
  unfold V15
  simp (disch := first | assumption | omega) only [r81_0, r81_1, r81_4, r81_5, r81_7, r81_9, r81_9n, r81_12, r81_13, r81_14, r81_17, r81_18, r81_19, r81_22, r81_23, r81_24, r81_27, rI_wI, rL_wL, rR_wR, rI_wL, rI_wR, rL_wI, rL_wR, rR_wI, rR_wL, va_rf_some, va_rf_none, Option.toList_some, Option.toList_none, List.nil_append, List.cons_append, true_and, and_true, false_and, and_false, and_self, if_true, if_false, not_true_eq_false, not_false_eq_true, or_false, false_or, or_true, true_or, or_self, ite_true, ite_false, Option.some.injEq, reduceCtorEq, Nat.reduceMod, Nat.reduceDiv, Nat.reduceLeDiff, Nat.reduceEqDiff, Nat.reduceAdd, Nat.reduceMul, Nat.reduceSub, Nat.reduceLT, sw_nil, sw_int, sw_long, sw_ref, li, lo, nI_m1, ng_eq, nn_eq, en_eq, ng_le, ng_lt, Int32.neg_neg, nI_add, pk_mul, nI_clampO, nI_ltO, nI_leO, nI_eqO, nI_subO, nle_t, nle_f, nlt_t, nlt_f, neq_f, ll, nx, aSl_I, aSl_L, aSl_R, aSl_N, h, vnb0, vnb1, rR_nw]
theorem V15_r (μ : PM) (j : Nat) : rR (V15 μ) 2000010 j = rR μ 2000010 j := by
  unfold V15
  simp only [rI_wI, rL_wL, rR_wR, rI_wL, rI_wR, rL_wI, rL_wR, rR_wI, rR_wL, va_rf_some, va_rf_none, rR_nw, Option.toList_some, Option.toList_none, List.nil_append, List.cons_append, true_and, and_true, false_and, and_false, and_self, if_true, if_false, not_true_eq_false, not_false_eq_true, or_false, false_or, or_true, true_or, or_self, ite_true, ite_false, Option.some.injEq, reduceCtorEq, Nat.reduceMod, Nat.reduceDiv, Nat.reduceLeDiff, Nat.reduceEqDiff, Nat.reduceAdd, Nat.reduceMul, Nat.reduceSub, Nat.reduceLT, sw_nil, sw_int, sw_long, sw_ref]
theorem V15_q (μ : PM) (j : Nat) : rR (V15 μ) 41000006 j = rR μ 41000006 j := by
  unfold V15
  simp only [rI_wI, rL_wL, rR_wR, rI_wL, rI_wR, rL_wI, rL_wR, rR_wI, rR_wL, va_rf_some, va_rf_none, rR_nw, Option.toList_some, Option.toList_none, List.nil_append, List.cons_append, true_and, and_true, false_and, and_false, and_self, if_true, if_false, not_true_eq_false, not_false_eq_true, or_false, false_or, or_true, true_or, or_self, ite_true, ite_false, Option.some.injEq, reduceCtorEq, Nat.reduceMod, Nat.reduceDiv, Nat.reduceLeDiff, Nat.reduceEqDiff, Nat.reduceAdd, Nat.reduceMul, Nat.reduceSub, Nat.reduceLT, sw_nil, sw_int, sw_long, sw_ref]
def V16 (μ : PM) : PM := (wI (wI (wI (wR (nw μ 58000720) 57000008 0 (some 58000720)) 57000008 1 (nI 0)) 57000008 2 (-nI 1)) 57000008 3 (nI 0))
theorem V16_l (μ : PM) : (aS (V16 μ)).length = (aS μ).length + 1 := by
  unfold V16
  simp only [aSl_I, aSl_L, aSl_R, aSl_N, Nat.add_assoc, Nat.reduceAdd]
theorem V16_AG {f : Nat → Nat → Int32} {μ ν : PM} (h : AG f μ ν) : AG f (V16 μ) (V16 ν) := (AG_I (by decide) (AG_I (by decide) (AG_I (by decide) (AG_R (AG_N (by decide) h)))))
theorem k16 {d : Nat} {μ : PM} (h : (aS μ).length = 56) : ∀ Q, R d 81 0 [some (.ref 57000008)] [] μ Q = Q none (V16 μ) := by
  intro Q
  unfold V16
  simp (disch := first | assumption | omega) only [r81_0, r81_1, r81_4, r81_5, r81_7, r81_9, r81_9n, r81_12, r81_13, r81_14, r81_17, r81_18, r81_19, r81_22, r81_23, r81_24, r81_27, rI_wI, rL_wL, rR_wR, rI_wL, rI_wR, rL_wI, rL_wR, rR_wI, rR_wL, va_rf_some, va_rf_none, Option.toList_some, Option.toList_none, List.nil_append, List.cons_append, true_and, and_true, false_and, and_false, and_self, if_true, if_false, not_true_eq_false, not_false_eq_true, or_false, false_or, or_true, true_or, or_self, ite_true, ite_false, Option.some.injEq, reduceCtorEq, Nat.reduceMod, Nat.reduceDiv, Nat.reduceLeDiff, Nat.reduceEqDiff, Nat.reduceAdd, Nat.reduceMul, Nat.reduceSub, Nat.reduceLT, sw_nil, sw_int, sw_long, sw_ref, li, lo, nI_m1, ng_eq, nn_eq, en_eq, ng_le, ng_lt, Int32.neg_neg, nI_add, pk_mul, nI_clampO, nI_ltO, nI_leO, nI_eqO, nI_subO, nle_t, nle_f, nlt_t, nlt_f, neq_f, ll, nx, aSl_I, aSl_L, aSl_R, aSl_N, h, vnb0, vnb1, rR_nw]
theorem V16_r (μ : PM) (j : Nat) : rR (V16 μ) 2000010 j = rR μ 2000010 j := by
  unfold V16
  simp only [rI_wI, rL_wL, rR_wR, rI_wL, rI_wR, rL_wI, rL_wR, rR_wI, rR_wL, va_rf_some, va_rf_none, rR_nw, Option.toList_some, Option.toList_none, List.nil_append, List.cons_append, true_and, and_true, false_and, and_false, and_self, if_true, if_false, not_true_eq_false, not_false_eq_true, or_false, false_or, or_true, true_or, or_self, ite_true, ite_false, Option.some.injEq, reduceCtorEq, Nat.reduceMod, Nat.reduceDiv, Nat.reduceLeDiff, Nat.reduceEqDiff, Nat.reduceAdd, Nat.reduceMul, Nat.reduceSub, Nat.reduceLT, sw_nil, sw_int, sw_long, sw_ref]
theorem V16_q (μ : PM) (j : Nat) : rR (V16 μ) 41000006 j = rR μ 41000006 j := by
  unfold V16
  simp only [rI_wI, rL_wL, rR_wR, rI_wL, rI_wR, rL_wI, rL_wR, rR_wI, rR_wL, va_rf_some, va_rf_none, rR_nw, Option.toList_some, Option.toList_none, List.nil_append, List.cons_append, true_and, and_true, false_and, and_false, and_self, if_true, if_false, not_true_eq_false, not_false_eq_true, or_false, false_or, or_true, true_or, or_self, ite_true, ite_false, Option.some.injEq, reduceCtorEq, Nat.reduceMod, Nat.reduceDiv, Nat.reduceLeDiff, Nat.reduceEqDiff, Nat.reduceAdd, Nat.reduceMul, Nat.reduceSub, Nat.reduceLT, sw_nil, sw_int, sw_long, sw_ref]
def V17 (μ : PM) : PM := (wI (wI (wI (wR (nw μ 60000720) 59000008 0 (some 60000720)) 59000008 1 (nI 0)) 59000008 2 (-nI 1)) 59000008 3 (nI 0))
theorem V17_l (μ : PM) : (aS (V17 μ)).length = (aS μ).length + 1 := by
  unfold V17
  simp only [aSl_I, aSl_L, aSl_R, aSl_N, Nat.add_assoc, Nat.reduceAdd]
theorem V17_AG {f : Nat → Nat → Int32} {μ ν : PM} (h : AG f μ ν) : AG f (V17 μ) (V17 ν) := (AG_I (by decide) (AG_I (by decide) (AG_I (by decide) (AG_R (AG_N (by decide) h)))))
theorem k17 {d : Nat} {μ : PM} (h : (aS μ).length = 58) : ∀ Q, R d 81 0 [some (.ref 59000008)] [] μ Q = Q none (V17 μ) := by
  intro Q
  unfold V17
  simp (disch := first | assumption | omega) only [r81_0, r81_1, r81_4, r81_5, r81_7, r81_9, r81_9n, r81_12, r81_13, r81_14, r81_17, r81_18, r81_19, r81_22, r81_23, r81_24, r81_27, rI_wI, rL_wL, rR_wR, rI_wL, rI_wR, rL_wI, rL_wR, rR_wI, rR_wL, va_rf_some, va_rf_none, Option.toList_some, Option.toList_none, List.nil_append, List.cons_append, true_and, and_true, false_and, and_false, and_self, if_true, if_false, not_true_eq_false, not_false_eq_true, or_false, false_or, or_true, true_or, or_self, ite_true, ite_false, Option.some.injEq, reduceCtorEq, Nat.reduceMod, Nat.reduceDiv, Nat.reduceLeDiff, Nat.reduceEqDiff, Nat.reduceAdd, Nat.reduceMul, Nat.reduceSub, Nat.reduceLT, sw_nil, sw_int, sw_long, sw_ref, li, lo, nI_m1, ng_eq, nn_eq, en_eq, ng_le, ng_lt, Int32.neg_neg, nI_add, pk_mul, nI_clampO, nI_ltO, nI_leO, nI_eqO, nI_subO, nle_t, nle_f, nlt_t, nlt_f, neq_f, ll, nx, aSl_I, aSl_L, aSl_R, aSl_N, h, vnb0, vnb1, rR_nw]
theorem V17_r (μ : PM) (j : Nat) : rR (V17 μ) 2000010 j = rR μ 2000010 j := by
  unfold V17
  simp only [rI_wI, rL_wL, rR_wR, rI_wL, rI_wR, rL_wI, rL_wR, rR_wI, rR_wL, va_rf_some, va_rf_none, rR_nw, Option.toList_some, Option.toList_none, List.nil_append, List.cons_append, true_and, and_true, false_and, and_false, and_self, if_true, if_false, not_true_eq_false, not_false_eq_true, or_false, false_or, or_true, true_or, or_self, ite_true, ite_false, Option.some.injEq, reduceCtorEq, Nat.reduceMod, Nat.reduceDiv, Nat.reduceLeDiff, Nat.reduceEqDiff, Nat.reduceAdd, Nat.reduceMul, Nat.reduceSub, Nat.reduceLT, sw_nil, sw_int, sw_long, sw_ref]
theorem V17_q (μ : PM) (j : Nat) : rR (V17 μ) 41000006 j = rR μ 41000006 j := by
  unfold V17
  simp only [rI_wI, rL_wL, rR_wR, rI_wL, rI_wR, rL_wI, rL_wR, rR_wI, rR_wL, va_rf_some, va_rf_none, rR_nw, Option.toList_some, Option.toList_none, List.nil_append, List.cons_append, true_and, and_true, false_and, and_false, and_self, if_true, if_false, not_true_eq_false, not_false_eq_true, or_false, false_or, or_true, true_or, or_self, ite_true, ite_false, Option.some.injEq, reduceCtorEq, Nat.reduceMod, Nat.reduceDiv, Nat.reduceLeDiff, Nat.reduceEqDiff, Nat.reduceAdd, Nat.reduceMul, Nat.reduceSub, Nat.reduceLT, sw_nil, sw_int, sw_long, sw_ref]
def V18 (μ : PM) : PM := (wI (wI (wI (wR (nw μ 62000720) 61000008 0 (some 62000720)) 61000008 1 (nI 0)) 61000008 2 (-nI 1)) 61000008 3 (nI 0))
theorem V18_l (μ : PM) : (aS (V18 μ)).length = (aS μ).length + 1 := by
  unfold V18
  simp only [aSl_I, aSl_L, aSl_R, aSl_N, Nat.add_assoc, Nat.reduceAdd]
theorem V18_AG {f : Nat → Nat → Int32} {μ ν : PM} (h : AG f μ ν) : AG f (V18 μ) (V18 ν) := (AG_I (by decide) (AG_I (by decide) (AG_I (by decide) (AG_R (AG_N (by decide) h)))))
theorem k18 {d : Nat} {μ : PM} (h : (aS μ).length = 60) : ∀ Q, R d 81 0 [some (.ref 61000008)] [] μ Q = Q none (V18 μ) := by
  intro Q
  unfold V18
  simp (disch := first | assumption | omega) only [r81_0, r81_1, r81_4, r81_5, r81_7, r81_9, r81_9n, r81_12, r81_13, r81_14, r81_17, r81_18, r81_19, r81_22, r81_23, r81_24, r81_27, rI_wI, rL_wL, rR_wR, rI_wL, rI_wR, rL_wI, rL_wR, rR_wI, rR_wL, va_rf_some, va_rf_none, Option.toList_some, Option.toList_none, List.nil_append, List.cons_append, true_and, and_true, false_and, and_false, and_self, if_true, if_false, not_true_eq_false, not_false_eq_true, or_false, false_or, or_true, true_or, or_self, ite_true, ite_false, Option.some.injEq, reduceCtorEq, Nat.reduceMod, Nat.reduceDiv, Nat.reduceLeDiff, Nat.reduceEqDiff, Nat.reduceAdd, Nat.reduceMul, Nat.reduceSub, Nat.reduceLT, sw_nil, sw_int, sw_long, sw_ref, li, lo, nI_m1, ng_eq, nn_eq, en_eq, ng_le, ng_lt, Int32.neg_neg, nI_add, pk_mul, nI_clampO, nI_ltO, nI_leO, nI_eqO, nI_subO, nle_t, nle_f, nlt_t, nlt_f, neq_f, ll, nx, aSl_I, aSl_L, aSl_R, aSl_N, h, vnb0, vnb1, rR_nw]
theorem V18_r (μ : PM) (j : Nat) : rR (V18 μ) 2000010 j = rR μ 2000010 j := by
  unfold V18
  simp only [rI_wI, rL_wL, rR_wR, rI_wL, rI_wR, rL_wI, rL_wR, rR_wI, rR_wL, va_rf_some, va_rf_none, rR_nw, Option.toList_some, Option.toList_none, List.nil_append, List.cons_append, true_and, and_true, false_and, and_false, and_self, if_true, if_false, not_true_eq_false, not_false_eq_true, or_false, false_or, or_true, true_or, or_self, ite_true, ite_false, Option.some.injEq, reduceCtorEq, Nat.reduceMod, Nat.reduceDiv, Nat.reduceLeDiff, Nat.reduceEqDiff, Nat.reduceAdd, Nat.reduceMul, Nat.reduceSub, Nat.reduceLT, sw_nil, sw_int, sw_long, sw_ref]
theorem V18_q (μ : PM) (j : Nat) : rR (V18 μ) 41000006 j = rR μ 41000006 j := by
  unfold V18
  simp only [rI_wI, rL_wL, rR_wR, rI_wL, rI_wR, rL_wI, rL_wR, rR_wI, rR_wL, va_rf_some, va_rf_none, rR_nw, Option.toList_some, Option.toList_none, List.nil_append, List.cons_append, true_and, and_true, false_and, and_false, and_self, if_true, if_false, not_true_eq_false, not_false_eq_true, or_false, false_or, or_true, true_or, or_self, ite_true, ite_false, Option.some.injEq, reduceCtorEq, Nat.reduceMod, Nat.reduceDiv, Nat.reduceLeDiff, Nat.reduceEqDiff, Nat.reduceAdd, Nat.reduceMul, Nat.reduceSub, Nat.reduceLT, sw_nil, sw_int, sw_long, sw_ref]
def V19 (μ : PM) : PM := (wI (wI (wI (wR (nw μ 64000720) 63000008 0 (some 64000720)) 63000008 1 (nI 0)) 63000008 2 (-nI 1)) 63000008 3 (nI 0))
theorem V19_l (μ : PM) : (aS (V19 μ)).length = (aS μ).length + 1 := by
  unfold V19
  simp only [aSl_I, aSl_L, aSl_R, aSl_N, Nat.add_assoc, Nat.reduceAdd]
theorem V19_AG {f : Nat → Nat → Int32} {μ ν : PM} (h : AG f μ ν) : AG f (V19 μ) (V19 ν) := (AG_I (by decide) (AG_I (by decide) (AG_I (by decide) (AG_R (AG_N (by decide) h)))))
theorem k19 {d : Nat} {μ : PM} (h : (aS μ).length = 62) : ∀ Q, R d 81 0 [some (.ref 63000008)] [] μ Q = Q none (V19 μ) := by
  intro Q
  unfold V19
  simp (disch := first | assumption | omega) only [r81_0, r81_1, r81_4, r81_5, r81_7, r81_9, r81_9n, r81_12, r81_13, r81_14, r81_17, r81_18, r81_19, r81_22, r81_23, r81_24, r81_27, rI_wI, rL_wL, rR_wR, rI_wL, rI_wR, rL_wI, rL_wR, rR_wI, rR_wL, va_rf_some, va_rf_none, Option.toList_some, Option.toList_none, List.nil_append, List.cons_append, true_and, and_true, false_and, and_false, and_self, if_true, if_false, not_true_eq_false, not_false_eq_true, or_false, false_or, or_true, true_or, or_self, ite_true, ite_false, Option.some.injEq, reduceCtorEq, Nat.reduceMod, Nat.reduceDiv, Nat.reduceLeDiff, Nat.reduceEqDiff, Nat.reduceAdd, Nat.reduceMul, Nat.reduceSub, Nat.reduceLT, sw_nil, sw_int, sw_long, sw_ref, li, lo, nI_m1, ng_eq, nn_eq, en_eq, ng_le, ng_lt, Int32.neg_neg, nI_add, pk_mul, nI_clampO, nI_ltO, nI_leO, nI_eqO, nI_subO, nle_t, nle_f, nlt_t, nlt_f, neq_f, ll, nx, aSl_I, aSl_L, aSl_R, aSl_N, h, vnb0, vnb1, rR_nw]
theorem V19_r (μ : PM) (j : Nat) : rR (V19 μ) 2000010 j = rR μ 2000010 j := by
  unfold V19
  simp only [rI_wI, rL_wL, rR_wR, rI_wL, rI_wR, rL_wI, rL_wR, rR_wI, rR_wL, va_rf_some, va_rf_none, rR_nw, Option.toList_some, Option.toList_none, List.nil_append, List.cons_append, true_and, and_true, false_and, and_false, and_self, if_true, if_false, not_true_eq_false, not_false_eq_true, or_false, false_or, or_true, true_or, or_self, ite_true, ite_false, Option.some.injEq, reduceCtorEq, Nat.reduceMod, Nat.reduceDiv, Nat.reduceLeDiff, Nat.reduceEqDiff, Nat.reduceAdd, Nat.reduceMul, Nat.reduceSub, Nat.reduceLT, sw_nil, sw_int, sw_long, sw_ref]
theorem V19_q (μ : PM) (j : Nat) : rR (V19 μ) 41000006 j = rR μ 41000006 j := by
  unfold V19
  simp only [rI_wI, rL_wL, rR_wR, rI_wL, rI_wR, rL_wI, rL_wR, rR_wI, rR_wL, va_rf_some, va_rf_none, rR_nw, Option.toList_some, Option.toList_none, List.nil_append, List.cons_append, true_and, and_true, false_and, and_false, and_self, if_true, if_false, not_true_eq_false, not_false_eq_true, or_false, false_or, or_true, true_or, or_self, ite_true, ite_false, Option.some.injEq, reduceCtorEq, Nat.reduceMod, Nat.reduceDiv, Nat.reduceLeDiff, Nat.reduceEqDiff, Nat.reduceAdd, Nat.reduceMul, Nat.reduceSub, Nat.reduceLT, sw_nil, sw_int, sw_long, sw_ref]
def V20 (μ : PM) : PM := (wI (wI (wI (wR (nw μ 66000720) 65000008 0 (some 66000720)) 65000008 1 (nI 0)) 65000008 2 (-nI 1)) 65000008 3 (nI 0))
theorem V20_l (μ : PM) : (aS (V20 μ)).length = (aS μ).length + 1 := by
  unfold V20
  simp only [aSl_I, aSl_L, aSl_R, aSl_N, Nat.add_assoc, Nat.reduceAdd]
theorem V20_AG {f : Nat → Nat → Int32} {μ ν : PM} (h : AG f μ ν) : AG f (V20 μ) (V20 ν) := (AG_I (by decide) (AG_I (by decide) (AG_I (by decide) (AG_R (AG_N (by decide) h)))))
theorem k20 {d : Nat} {μ : PM} (h : (aS μ).length = 64) : ∀ Q, R d 81 0 [some (.ref 65000008)] [] μ Q = Q none (V20 μ) := by
  intro Q
  unfold V20
  simp (disch := first | assumption | omega) only [r81_0, r81_1, r81_4, r81_5, r81_7, r81_9, r81_9n, r81_12, r81_13, r81_14, r81_17, r81_18, r81_19, r81_22, r81_23, r81_24, r81_27, rI_wI, rL_wL, rR_wR, rI_wL, rI_wR, rL_wI, rL_wR, rR_wI, rR_wL, va_rf_some, va_rf_none, Option.toList_some, Option.toList_none, List.nil_append, List.cons_append, true_and, and_true, false_and, and_false, and_self, if_true, if_false, not_true_eq_false, not_false_eq_true, or_false, false_or, or_true, true_or, or_self, ite_true, ite_false, Option.some.injEq, reduceCtorEq, Nat.reduceMod, Nat.reduceDiv, Nat.reduceLeDiff, Nat.reduceEqDiff, Nat.reduceAdd, Nat.reduceMul, Nat.reduceSub, Nat.reduceLT, sw_nil, sw_int, sw_long, sw_ref, li, lo, nI_m1, ng_eq, nn_eq, en_eq, ng_le, ng_lt, Int32.neg_neg, nI_add, pk_mul, nI_clampO, nI_ltO, nI_leO, nI_eqO, nI_subO, nle_t, nle_f, nlt_t, nlt_f, neq_f, ll, nx, aSl_I, aSl_L, aSl_R, aSl_N, h, vnb0, vnb1, rR_nw]
theorem V20_r (μ : PM) (j : Nat) : rR (V20 μ) 2000010 j = rR μ 2000010 j := by
  unfold V20
  simp only [rI_wI, rL_wL, rR_wR, rI_wL, rI_wR, rL_wI, rL_wR, rR_wI, rR_wL, va_rf_some, va_rf_none, rR_nw, Option.toList_some, Option.toList_none, List.nil_append, List.cons_append, true_and, and_true, false_and, and_false, and_self, if_true, if_false, not_true_eq_false, not_false_eq_true, or_false, false_or, or_true, true_or, or_self, ite_true, ite_false, Option.some.injEq, reduceCtorEq, Nat.reduceMod, Nat.reduceDiv, Nat.reduceLeDiff, Nat.reduceEqDiff, Nat.reduceAdd, Nat.reduceMul, Nat.reduceSub, Nat.reduceLT, sw_nil, sw_int, sw_long, sw_ref]
theorem V20_q (μ : PM) (j : Nat) : rR (V20 μ) 41000006 j = rR μ 41000006 j := by
  unfold V20
  simp only [rI_wI, rL_wL, rR_wR, rI_wL, rI_wR, rL_wI, rL_wR, rR_wI, rR_wL, va_rf_some, va_rf_none, rR_nw, Option.toList_some, Option.toList_none, List.nil_append, List.cons_append, true_and, and_true, false_and, and_false, and_self, if_true, if_false, not_true_eq_false, not_false_eq_true, or_false, false_or, or_true, true_or, or_self, ite_true, ite_false, Option.some.injEq, reduceCtorEq, Nat.reduceMod, Nat.reduceDiv, Nat.reduceLeDiff, Nat.reduceEqDiff, Nat.reduceAdd, Nat.reduceMul, Nat.reduceSub, Nat.reduceLT, sw_nil, sw_int, sw_long, sw_ref]
def V21 (μ : PM) : PM := (wI (wI (wI (wR (nw μ 68000720) 67000008 0 (some 68000720)) 67000008 1 (nI 0)) 67000008 2 (-nI 1)) 67000008 3 (nI 0))
theorem V21_l (μ : PM) : (aS (V21 μ)).length = (aS μ).length + 1 := by
  unfold V21
  simp only [aSl_I, aSl_L, aSl_R, aSl_N, Nat.add_assoc, Nat.reduceAdd]
theorem V21_AG {f : Nat → Nat → Int32} {μ ν : PM} (h : AG f μ ν) : AG f (V21 μ) (V21 ν) := (AG_I (by decide) (AG_I (by decide) (AG_I (by decide) (AG_R (AG_N (by decide) h)))))
theorem k21 {d : Nat} {μ : PM} (h : (aS μ).length = 66) : ∀ Q, R d 81 0 [some (.ref 67000008)] [] μ Q = Q none (V21 μ) := by
  intro Q
  unfold V21
  simp (disch := first | assumption | omega) only [r81_0, r81_1, r81_4, r81_5, r81_7, r81_9, r81_9n, r81_12, r81_13, r81_14, r81_17, r81_18, r81_19, r81_22, r81_23, r81_24, r81_27, rI_wI, rL_wL, rR_wR, rI_wL, rI_wR, rL_wI, rL_wR, rR_wI, rR_wL, va_rf_some, va_rf_none, Option.toList_some, Option.toList_none, List.nil_append, List.cons_append, true_and, and_true, false_and, and_false, and_self, if_true, if_false, not_true_eq_false, not_false_eq_true, or_false, false_or, or_true, true_or, or_self, ite_true, ite_false, Option.some.injEq, reduceCtorEq, Nat.reduceMod, Nat.reduceDiv, Nat.reduceLeDiff, Nat.reduceEqDiff, Nat.reduceAdd, Nat.reduceMul, Nat.reduceSub, Nat.reduceLT, sw_nil, sw_int, sw_long, sw_ref, li, lo, nI_m1, ng_eq, nn_eq, en_eq, ng_le, ng_lt, Int32.neg_neg, nI_add, pk_mul, nI_clampO, nI_ltO, nI_leO, nI_eqO, nI_subO, nle_t, nle_f, nlt_t, nlt_f, neq_f, ll, nx, aSl_I, aSl_L, aSl_R, aSl_N, h, vnb0, vnb1, rR_nw]
theorem V21_r (μ : PM) (j : Nat) : rR (V21 μ) 2000010 j = rR μ 2000010 j := by
  unfold V21
  simp only [rI_wI, rL_wL, rR_wR, rI_wL, rI_wR, rL_wI, rL_wR, rR_wI, rR_wL, va_rf_some, va_rf_none, rR_nw, Option.toList_some, Option.toList_none, List.nil_append, List.cons_append, true_and, and_true, false_and, and_false, and_self, if_true, if_false, not_true_eq_false, not_false_eq_true, or_false, false_or, or_true, true_or, or_self, ite_true, ite_false, Option.some.injEq, reduceCtorEq, Nat.reduceMod, Nat.reduceDiv, Nat.reduceLeDiff, Nat.reduceEqDiff, Nat.reduceAdd, Nat.reduceMul, Nat.reduceSub, Nat.reduceLT, sw_nil, sw_int, sw_long, sw_ref]
theorem V21_q (μ : PM) (j : Nat) : rR (V21 μ) 41000006 j = rR μ 41000006 j := by
  unfold V21
  simp only [rI_wI, rL_wL, rR_wR, rI_wL, rI_wR, rL_wI, rL_wR, rR_wI, rR_wL, va_rf_some, va_rf_none, rR_nw, Option.toList_some, Option.toList_none, List.nil_append, List.cons_append, true_and, and_true, false_and, and_false, and_self, if_true, if_false, not_true_eq_false, not_false_eq_true, or_false, false_or, or_true, true_or, or_self, ite_true, ite_false, Option.some.injEq, reduceCtorEq, Nat.reduceMod, Nat.reduceDiv, Nat.reduceLeDiff, Nat.reduceEqDiff, Nat.reduceAdd, Nat.reduceMul, Nat.reduceSub, Nat.reduceLT, sw_nil, sw_int, sw_long, sw_ref]
def V22 (μ : PM) : PM := (wI (wI (wI (wR (nw μ 70000720) 69000008 0 (some 70000720)) 69000008 1 (nI 0)) 69000008 2 (-nI 1)) 69000008 3 (nI 0))
theorem V22_l (μ : PM) : (aS (V22 μ)).length = (aS μ).length + 1 := by
  unfold V22
  simp only [aSl_I, aSl_L, aSl_R, aSl_N, Nat.add_assoc, Nat.reduceAdd]
theorem V22_AG {f : Nat → Nat → Int32} {μ ν : PM} (h : AG f μ ν) : AG f (V22 μ) (V22 ν) := (AG_I (by decide) (AG_I (by decide) (AG_I (by decide) (AG_R (AG_N (by decide) h)))))
theorem k22 {d : Nat} {μ : PM} (h : (aS μ).length = 68) : ∀ Q, R d 81 0 [some (.ref 69000008)] [] μ Q = Q none (V22 μ) := by
  intro Q
  unfold V22
  simp (disch := first | assumption | omega) only [r81_0, r81_1, r81_4, r81_5, r81_7, r81_9, r81_9n, r81_12, r81_13, r81_14, r81_17, r81_18, r81_19, r81_22, r81_23, r81_24, r81_27, rI_wI, rL_wL, rR_wR, rI_wL, rI_wR, rL_wI, rL_wR, rR_wI, rR_wL, va_rf_some, va_rf_none, Option.toList_some, Option.toList_none, List.nil_append, List.cons_append, true_and, and_true, false_and, and_false, and_self, if_true, if_false, not_true_eq_false, not_false_eq_true, or_false, false_or, or_true, true_or, or_self, ite_true, ite_false, Option.some.injEq, reduceCtorEq, Nat.reduceMod, Nat.reduceDiv, Nat.reduceLeDiff, Nat.reduceEqDiff, Nat.reduceAdd, Nat.reduceMul, Nat.reduceSub, Nat.reduceLT, sw_nil, sw_int, sw_long, sw_ref, li, lo, nI_m1, ng_eq, nn_eq, en_eq, ng_le, ng_lt, Int32.neg_neg, nI_add, pk_mul, nI_clampO, nI_ltO, nI_leO, nI_eqO, nI_subO, nle_t, nle_f, nlt_t, nlt_f, neq_f, ll, nx, aSl_I, aSl_L, aSl_R, aSl_N, h, vnb0, vnb1, rR_nw]
theorem V22_r (μ : PM) (j : Nat) : rR (V22 μ) 2000010 j = rR μ 2000010 j := by
  unfold V22
  simp only [rI_wI, rL_wL, rR_wR, rI_wL, rI_wR, rL_wI, rL_wR, rR_wI, rR_wL, va_rf_some, va_rf_none, rR_nw, Option.toList_some, Option.toList_none, List.nil_append, List.cons_append, true_and, and_true, false_and, and_false, and_self, if_true, if_false, not_true_eq_false, not_false_eq_true, or_false, false_or, or_true, true_or, or_self, ite_true, ite_false, Option.some.injEq, reduceCtorEq, Nat.reduceMod, Nat.reduceDiv, Nat.reduceLeDiff, Nat.reduceEqDiff, Nat.reduceAdd, Nat.reduceMul, Nat.reduceSub, Nat.reduceLT, sw_nil, sw_int, sw_long, sw_ref]
theorem V22_q (μ : PM) (j : Nat) : rR (V22 μ) 41000006 j = rR μ 41000006 j := by
  unfold V22
  simp only [rI_wI, rL_wL, rR_wR, rI_wL, rI_wR, rL_wI, rL_wR, rR_wI, rR_wL, va_rf_some, va_rf_none, rR_nw, Option.toList_some, Option.toList_none, List.nil_append, List.cons_append, true_and, and_true, false_and, and_false, and_self, if_true, if_false, not_true_eq_false, not_false_eq_true, or_false, false_or, or_true, true_or, or_self, ite_true, ite_false, Option.some.injEq, reduceCtorEq, Nat.reduceMod, Nat.reduceDiv, Nat.reduceLeDiff, Nat.reduceEqDiff, Nat.reduceAdd, Nat.reduceMul, Nat.reduceSub, Nat.reduceLT, sw_nil, sw_int, sw_long, sw_ref]
def V23 (μ : PM) : PM := (wI (wI (wI (wR (nw μ 72000720) 71000008 0 (some 72000720)) 71000008 1 (nI 0)) 71000008 2 (-nI 1)) 71000008 3 (nI 0))
theorem V23_l (μ : PM) : (aS (V23 μ)).length = (aS μ).length + 1 := by
  unfold V23
  simp only [aSl_I, aSl_L, aSl_R, aSl_N, Nat.add_assoc, Nat.reduceAdd]
theorem V23_AG {f : Nat → Nat → Int32} {μ ν : PM} (h : AG f μ ν) : AG f (V23 μ) (V23 ν) := (AG_I (by decide) (AG_I (by decide) (AG_I (by decide) (AG_R (AG_N (by decide) h)))))
theorem k23 {d : Nat} {μ : PM} (h : (aS μ).length = 70) : ∀ Q, R d 81 0 [some (.ref 71000008)] [] μ Q = Q none (V23 μ) := by
  intro Q
  unfold V23
  simp (disch := first | assumption | omega) only [r81_0, r81_1, r81_4, r81_5, r81_7, r81_9, r81_9n, r81_12, r81_13, r81_14, r81_17, r81_18, r81_19, r81_22, r81_23, r81_24, r81_27, rI_wI, rL_wL, rR_wR, rI_wL, rI_wR, rL_wI, rL_wR, rR_wI, rR_wL, va_rf_some, va_rf_none, Option.toList_some, Option.toList_none, List.nil_append, List.cons_append, true_and, and_true, false_and, and_false, and_self, if_true, if_false, not_true_eq_false, not_false_eq_true, or_false, false_or, or_true, true_or, or_self, ite_true, ite_false, Option.some.injEq, reduceCtorEq, Nat.reduceMod, Nat.reduceDiv, Nat.reduceLeDiff, Nat.reduceEqDiff, Nat.reduceAdd, Nat.reduceMul, Nat.reduceSub, Nat.reduceLT, sw_nil, sw_int, sw_long, sw_ref, li, lo, nI_m1, ng_eq, nn_eq, en_eq, ng_le, ng_lt, Int32.neg_neg, nI_add, pk_mul, nI_clampO, nI_ltO, nI_leO, nI_eqO, nI_subO, nle_t, nle_f, nlt_t, nlt_f, neq_f, ll, nx, aSl_I, aSl_L, aSl_R, aSl_N, h, vnb0, vnb1, rR_nw]
theorem V23_r (μ : PM) (j : Nat) : rR (V23 μ) 2000010 j = rR μ 2000010 j := by
  unfold V23
  simp only [rI_wI, rL_wL, rR_wR, rI_wL, rI_wR, rL_wI, rL_wR, rR_wI, rR_wL, va_rf_some, va_rf_none, rR_nw, Option.toList_some, Option.toList_none, List.nil_append, List.cons_append, true_and, and_true, false_and, and_false, and_self, if_true, if_false, not_true_eq_false, not_false_eq_true, or_false, false_or, or_true, true_or, or_self, ite_true, ite_false, Option.some.injEq, reduceCtorEq, Nat.reduceMod, Nat.reduceDiv, Nat.reduceLeDiff, Nat.reduceEqDiff, Nat.reduceAdd, Nat.reduceMul, Nat.reduceSub, Nat.reduceLT, sw_nil, sw_int, sw_long, sw_ref]
theorem V23_q (μ : PM) (j : Nat) : rR (V23 μ) 41000006 j = rR μ 41000006 j := by
  unfold V23
  simp only [rI_wI, rL_wL, rR_wR, rI_wL, rI_wR, rL_wI, rL_wR, rR_wI, rR_wL, va_rf_some, va_rf_none, rR_nw, Option.toList_some, Option.toList_none, List.nil_append, List.cons_append, true_and, and_true, false_and, and_false, and_self, if_true, if_false, not_true_eq_false, not_false_eq_true, or_false, false_or, or_true, true_or, or_self, ite_true, ite_false, Option.some.injEq, reduceCtorEq, Nat.reduceMod, Nat.reduceDiv, Nat.reduceLeDiff, Nat.reduceEqDiff, Nat.reduceAdd, Nat.reduceMul, Nat.reduceSub, Nat.reduceLT, sw_nil, sw_int, sw_long, sw_ref]
def V24 (μ : PM) : PM := (wI (wI (wI (wR (nw μ 74000720) 73000008 0 (some 74000720)) 73000008 1 (nI 0)) 73000008 2 (-nI 1)) 73000008 3 (nI 0))
theorem V24_l (μ : PM) : (aS (V24 μ)).length = (aS μ).length + 1 := by
  unfold V24
  simp only [aSl_I, aSl_L, aSl_R, aSl_N, Nat.add_assoc, Nat.reduceAdd]
theorem V24_AG {f : Nat → Nat → Int32} {μ ν : PM} (h : AG f μ ν) : AG f (V24 μ) (V24 ν) := (AG_I (by decide) (AG_I (by decide) (AG_I (by decide) (AG_R (AG_N (by decide) h)))))
theorem k24 {d : Nat} {μ : PM} (h : (aS μ).length = 72) : ∀ Q, R d 81 0 [some (.ref 73000008)] [] μ Q = Q none (V24 μ) := by
  intro Q
  unfold V24
  simp (disch := first | assumption | omega) only [r81_0, r81_1, r81_4, r81_5, r81_7, r81_9, r81_9n, r81_12, r81_13, r81_14, r81_17, r81_18, r81_19, r81_22, r81_23, r81_24, r81_27, rI_wI, rL_wL, rR_wR, rI_wL, rI_wR, rL_wI, rL_wR, rR_wI, rR_wL, va_rf_some, va_rf_none, Option.toList_some, Option.toList_none, List.nil_append, List.cons_append, true_and, and_true, false_and, and_false, and_self, if_true, if_false, not_true_eq_false, not_false_eq_true, or_false, false_or, or_true, true_or, or_self, ite_true, ite_false, Option.some.injEq, reduceCtorEq, Nat.reduceMod, Nat.reduceDiv, Nat.reduceLeDiff, Nat.reduceEqDiff, Nat.reduceAdd, Nat.reduceMul, Nat.reduceSub, Nat.reduceLT, sw_nil, sw_int, sw_long, sw_ref, li, lo, nI_m1, ng_eq, nn_eq, en_eq, ng_le, ng_lt, Int32.neg_neg, nI_add, pk_mul, nI_clampO, nI_ltO, nI_leO, nI_eqO, nI_subO, nle_t, nle_f, nlt_t, nlt_f, neq_f, ll, nx, aSl_I, aSl_L, aSl_R, aSl_N, h, vnb0, vnb1, rR_nw]
theorem V24_r (μ : PM) (j : Nat) : rR (V24 μ) 2000010 j = rR μ 2000010 j := by
  unfold V24
  simp only [rI_wI, rL_wL, rR_wR, rI_wL, rI_wR, rL_wI, rL_wR, rR_wI, rR_wL, va_rf_some, va_rf_none, rR_nw, Option.toList_some, Option.toList_none, List.nil_append, List.cons_append, true_and, and_true, false_and, and_false, and_self, if_true, if_false, not_true_eq_false, not_false_eq_true, or_false, false_or, or_true, true_or, or_self, ite_true, ite_false, Option.some.injEq, reduceCtorEq, Nat.reduceMod, Nat.reduceDiv, Nat.reduceLeDiff, Nat.reduceEqDiff, Nat.reduceAdd, Nat.reduceMul, Nat.reduceSub, Nat.reduceLT, sw_nil, sw_int, sw_long, sw_ref]
theorem V24_q (μ : PM) (j : Nat) : rR (V24 μ) 41000006 j = rR μ 41000006 j := by
  unfold V24
  simp only [rI_wI, rL_wL, rR_wR, rI_wL, rI_wR, rL_wI, rL_wR, rR_wI, rR_wL, va_rf_some, va_rf_none, rR_nw, Option.toList_some, Option.toList_none, List.nil_append, List.cons_append, true_and, and_true, false_and, and_false, and_self, if_true, if_false, not_true_eq_false, not_false_eq_true, or_false, false_or, or_true, true_or, or_self, ite_true, ite_false, Option.some.injEq, reduceCtorEq, Nat.reduceMod, Nat.reduceDiv, Nat.reduceLeDiff, Nat.reduceEqDiff, Nat.reduceAdd, Nat.reduceMul, Nat.reduceSub, Nat.reduceLT, sw_nil, sw_int, sw_long, sw_ref]
def V25 (μ : PM) : PM := (wI (wI (wI (wR (nw μ 76000720) 75000008 0 (some 76000720)) 75000008 1 (nI 0)) 75000008 2 (-nI 1)) 75000008 3 (nI 0))
theorem V25_l (μ : PM) : (aS (V25 μ)).length = (aS μ).length + 1 := by
  unfold V25
  simp only [aSl_I, aSl_L, aSl_R, aSl_N, Nat.add_assoc, Nat.reduceAdd]
theorem V25_AG {f : Nat → Nat → Int32} {μ ν : PM} (h : AG f μ ν) : AG f (V25 μ) (V25 ν) := (AG_I (by decide) (AG_I (by decide) (AG_I (by decide) (AG_R (AG_N (by decide) h)))))
theorem k25 {d : Nat} {μ : PM} (h : (aS μ).length = 74) : ∀ Q, R d 81 0 [some (.ref 75000008)] [] μ Q = Q none (V25 μ) := by
  intro Q
  unfold V25
  simp (disch := first | assumption | omega) only [r81_0, r81_1, r81_4, r81_5, r81_7, r81_9, r81_9n, r81_12, r81_13, r81_14, r81_17, r81_18, r81_19, r81_22, r81_23, r81_24, r81_27, rI_wI, rL_wL, rR_wR, rI_wL, rI_wR, rL_wI, rL_wR, rR_wI, rR_wL, va_rf_some, va_rf_none, Option.toList_some, Option.toList_none, List.nil_append, List.cons_append, true_and, and_true, false_and, and_false, and_self, if_true, if_false, not_true_eq_false, not_false_eq_true, or_false, false_or, or_true, true_or, or_self, ite_true, ite_false, Option.some.injEq, reduceCtorEq, Nat.reduceMod, Nat.reduceDiv, Nat.reduceLeDiff, Nat.reduceEqDiff, Nat.reduceAdd, Nat.reduceMul, Nat.reduceSub, Nat.reduceLT, sw_nil, sw_int, sw_long, sw_ref, li, lo, nI_m1, ng_eq, nn_eq, en_eq, ng_le, ng_lt, Int32.neg_neg, nI_add, pk_mul, nI_clampO, nI_ltO, nI_leO, nI_eqO, nI_subO, nle_t, nle_f, nlt_t, nlt_f, neq_f, ll, nx, aSl_I, aSl_L, aSl_R, aSl_N, h, vnb0, vnb1, rR_nw]
theorem V25_r (μ : PM) (j : Nat) : rR (V25 μ) 2000010 j = rR μ 2000010 j := by
  unfold V25
  simp only [rI_wI, rL_wL, rR_wR, rI_wL, rI_wR, rL_wI, rL_wR, rR_wI, rR_wL, va_rf_some, va_rf_none, rR_nw, Option.toList_some, Option.toList_none, List.nil_append, List.cons_append, true_and, and_true, false_and, and_false, and_self, if_true, if_false, not_true_eq_false, not_false_eq_true, or_false, false_or, or_true, true_or, or_self, ite_true, ite_false, Option.some.injEq, reduceCtorEq, Nat.reduceMod, Nat.reduceDiv, Nat.reduceLeDiff, Nat.reduceEqDiff, Nat.reduceAdd, Nat.reduceMul, Nat.reduceSub, Nat.reduceLT, sw_nil, sw_int, sw_long, sw_ref]
theorem V25_q (μ : PM) (j : Nat) : rR (V25 μ) 41000006 j = rR μ 41000006 j := by
  unfold V25
  simp only [rI_wI, rL_wL, rR_wR, rI_wL, rI_wR, rL_wI, rL_wR, rR_wI, rR_wL, va_rf_some, va_rf_none, rR_nw, Option.toList_some, Option.toList_none, List.nil_append, List.cons_append, true_and, and_true, false_and, and_false, and_self, if_true, if_false, not_true_eq_false, not_false_eq_true, or_false, false_or, or_true, true_or, or_self, ite_true, ite_false, Option.some.injEq, reduceCtorEq, Nat.reduceMod, Nat.reduceDiv, Nat.reduceLeDiff, Nat.reduceEqDiff, Nat.reduceAdd, Nat.reduceMul, Nat.reduceSub, Nat.reduceLT, sw_nil, sw_int, sw_long, sw_ref]
def V26 (μ : PM) : PM := (wI (wI (wI (wR (nw μ 78000720) 77000008 0 (some 78000720)) 77000008 1 (nI 0)) 77000008 2 (-nI 1)) 77000008 3 (nI 0))
theorem V26_l (μ : PM) : (aS (V26 μ)).length = (aS μ).length + 1 := by
  unfold V26
  simp only [aSl_I, aSl_L, aSl_R, aSl_N, Nat.add_assoc, Nat.reduceAdd]
theorem V26_AG {f : Nat → Nat → Int32} {μ ν : PM} (h : AG f μ ν) : AG f (V26 μ) (V26 ν) := (AG_I (by decide) (AG_I (by decide) (AG_I (by decide) (AG_R (AG_N (by decide) h)))))
theorem k26 {d : Nat} {μ : PM} (h : (aS μ).length = 76) : ∀ Q, R d 81 0 [some (.ref 77000008)] [] μ Q = Q none (V26 μ) := by
  intro Q
  unfold V26
  simp (disch := first | assumption | omega) only [r81_0, r81_1, r81_4, r81_5, r81_7, r81_9, r81_9n, r81_12, r81_13, r81_14, r81_17, r81_18, r81_19, r81_22, r81_23, r81_24, r81_27, rI_wI, rL_wL, rR_wR, rI_wL, rI_wR, rL_wI, rL_wR, rR_wI, rR_wL, va_rf_some, va_rf_none, Option.toList_some, Option.toList_none, List.nil_append, List.cons_append, true_and, and_true, false_and, and_false, and_self, if_true, if_false, not_true_eq_false, not_false_eq_true, or_false, false_or, or_true, true_or, or_self, ite_true, ite_false, Option.some.injEq, reduceCtorEq, Nat.reduceMod, Nat.reduceDiv, Nat.reduceLeDiff, Nat.reduceEqDiff, Nat.reduceAdd, Nat.reduceMul, Nat.reduceSub, Nat.reduceLT, sw_nil, sw_int, sw_long, sw_ref, li, lo, nI_m1, ng_eq, nn_eq, en_eq, ng_le, ng_lt, Int32.neg_neg, nI_add, pk_mul, nI_clampO, nI_ltO, nI_leO, nI_eqO, nI_subO, nle_t, nle_f, nlt_t, nlt_f, neq_f, ll, nx, aSl_I, aSl_L, aSl_R, aSl_N, h, vnb0, vnb1, rR_nw]
theorem V26_r (μ : PM) (j : Nat) : rR (V26 μ) 2000010 j = rR μ 2000010 j := by
  unfold V26
  simp only [rI_wI, rL_wL, rR_wR, rI_wL, rI_wR, rL_wI, rL_wR, rR_wI, rR_wL, va_rf_some, va_rf_none, rR_nw, Option.toList_some, Option.toList_none, List.nil_append, List.cons_append, true_and, and_true, false_and, and_false, and_self, if_true, if_false, not_true_eq_false, not_false_eq_true, or_false, false_or, or_true, true_or, or_self, ite_true, ite_false, Option.some.injEq, reduceCtorEq, Nat.reduceMod, Nat.reduceDiv, Nat.reduceLeDiff, Nat.reduceEqDiff, Nat.reduceAdd, Nat.reduceMul, Nat.reduceSub, Nat.reduceLT, sw_nil, sw_int, sw_long, sw_ref]
theorem V26_q (μ : PM) (j : Nat) : rR (V26 μ) 41000006 j = rR μ 41000006 j := by
  unfold V26
  simp only [rI_wI, rL_wL, rR_wR, rI_wL, rI_wR, rL_wI, rL_wR, rR_wI, rR_wL, va_rf_some, va_rf_none, rR_nw, Option.toList_some, Option.toList_none, List.nil_append, List.cons_append, true_and, and_true, false_and, and_false, and_self, if_true, if_false, not_true_eq_false, not_false_eq_true, or_false, false_or, or_true, true_or, or_self, ite_true, ite_false, Option.some.injEq, reduceCtorEq, Nat.reduceMod, Nat.reduceDiv, Nat.reduceLeDiff, Nat.reduceEqDiff, Nat.reduceAdd, Nat.reduceMul, Nat.reduceSub, Nat.reduceLT, sw_nil, sw_int, sw_long, sw_ref]
def V27 (μ : PM) : PM := (wI (wI (wI (wR (nw μ 80000720) 79000008 0 (some 80000720)) 79000008 1 (nI 0)) 79000008 2 (-nI 1)) 79000008 3 (nI 0))
theorem V27_l (μ : PM) : (aS (V27 μ)).length = (aS μ).length + 1 := by
  unfold V27
  simp only [aSl_I, aSl_L, aSl_R, aSl_N, Nat.add_assoc, Nat.reduceAdd]
theorem V27_AG {f : Nat → Nat → Int32} {μ ν : PM} (h : AG f μ ν) : AG f (V27 μ) (V27 ν) := (AG_I (by decide) (AG_I (by decide) (AG_I (by decide) (AG_R (AG_N (by decide) h)))))
theorem k27 {d : Nat} {μ : PM} (h : (aS μ).length = 78) : ∀ Q, R d 81 0 [some (.ref 79000008)] [] μ Q = Q none (V27 μ) := by
  intro Q
  unfold V27
  simp (disch := first | assumption | omega) only [r81_0, r81_1, r81_4, r81_5, r81_7, r81_9, r81_9n, r81_12, r81_13, r81_14, r81_17, r81_18, r81_19, r81_22, r81_23, r81_24, r81_27, rI_wI, rL_wL, rR_wR, rI_wL, rI_wR, rL_wI, rL_wR, rR_wI, rR_wL, va_rf_some, va_rf_none, Option.toList_some, Option.toList_none, List.nil_append, List.cons_append, true_and, and_true, false_and, and_false, and_self, if_true, if_false, not_true_eq_false, not_false_eq_true, or_false, false_or, or_true, true_or, or_self, ite_true, ite_false, Option.some.injEq, reduceCtorEq, Nat.reduceMod, Nat.reduceDiv, Nat.reduceLeDiff, Nat.reduceEqDiff, Nat.reduceAdd, Nat.reduceMul, Nat.reduceSub, Nat.reduceLT, sw_nil, sw_int, sw_long, sw_ref, li, lo, nI_m1, ng_eq, nn_eq, en_eq, ng_le, ng_lt, Int32.neg_neg, nI_add, pk_mul, nI_clampO, nI_ltO, nI_leO, nI_eqO, nI_subO, nle_t, nle_f, nlt_t, nlt_f, neq_f, ll, nx, aSl_I, aSl_L, aSl_R, aSl_N, h, vnb0, vnb1, rR_nw]
theorem V27_r (μ : PM) (j : Nat) : rR (V27 μ) 2000010 j = rR μ 2000010 j := by
  unfold V27
  simp only [rI_wI, rL_wL, rR_wR, rI_wL, rI_wR, rL_wI, rL_wR, rR_wI, rR_wL, va_rf_some, va_rf_none, rR_nw, Option.toList_some, Option.toList_none, List.nil_append, List.cons_append, true_and, and_true, false_and, and_false, and_self, if_true, if_false, not_true_eq_false, not_false_eq_true, or_false, false_or, or_true, true_or, or_self, ite_true, ite_false, Option.some.injEq, reduceCtorEq, Nat.reduceMod, Nat.reduceDiv, Nat.reduceLeDiff, Nat.reduceEqDiff, Nat.reduceAdd, Nat.reduceMul, Nat.reduceSub, Nat.reduceLT, sw_nil, sw_int, sw_long, sw_ref]
theorem V27_q (μ : PM) (j : Nat) : rR (V27 μ) 41000006 j = rR μ 41000006 j := by
  unfold V27
  simp only [rI_wI, rL_wL, rR_wR, rI_wL, rI_wR, rL_wI, rL_wR, rR_wI, rR_wL, va_rf_some, va_rf_none, rR_nw, Option.toList_some, Option.toList_none, List.nil_append, List.cons_append, true_and, and_true, false_and, and_false, and_self, if_true, if_false, not_true_eq_false, not_false_eq_true, or_false, false_or, or_true, true_or, or_self, ite_true, ite_false, Option.some.injEq, reduceCtorEq, Nat.reduceMod, Nat.reduceDiv, Nat.reduceLeDiff, Nat.reduceEqDiff, Nat.reduceAdd, Nat.reduceMul, Nat.reduceSub, Nat.reduceLT, sw_nil, sw_int, sw_long, sw_ref]
def V28 (μ : PM) : PM := (wI (wI (wI (wR (nw μ 82000720) 81000008 0 (some 82000720)) 81000008 1 (nI 0)) 81000008 2 (-nI 1)) 81000008 3 (nI 0))
theorem V28_l (μ : PM) : (aS (V28 μ)).length = (aS μ).length + 1 := by
  unfold V28
  simp only [aSl_I, aSl_L, aSl_R, aSl_N, Nat.add_assoc, Nat.reduceAdd]
theorem V28_AG {f : Nat → Nat → Int32} {μ ν : PM} (h : AG f μ ν) : AG f (V28 μ) (V28 ν) := (AG_I (by decide) (AG_I (by decide) (AG_I (by decide) (AG_R (AG_N (by decide) h)))))
theorem k28 {d : Nat} {μ : PM} (h : (aS μ).length = 80) : ∀ Q, R d 81 0 [some (.ref 81000008)] [] μ Q = Q none (V28 μ) := by
  intro Q
  unfold V28
  simp (disch := first | assumption | omega) only [r81_0, r81_1, r81_4, r81_5, r81_7, r81_9, r81_9n, r81_12, r81_13, r81_14, r81_17, r81_18, r81_19, r81_22, r81_23, r81_24, r81_27, rI_wI, rL_wL, rR_wR, rI_wL, rI_wR, rL_wI, rL_wR, rR_wI, rR_wL, va_rf_some, va_rf_none, Option.toList_some, Option.toList_none, List.nil_append, List.cons_append, true_and, and_true, false_and, and_false, and_self, if_true, if_false, not_true_eq_false, not_false_eq_true, or_false, false_or, or_true, true_or, or_self, ite_true, ite_false, Option.some.injEq, reduceCtorEq, Nat.reduceMod, Nat.reduceDiv, Nat.reduceLeDiff, Nat.reduceEqDiff, Nat.reduceAdd, Nat.reduceMul, Nat.reduceSub, Nat.reduceLT, sw_nil, sw_int, sw_long, sw_ref, li, lo, nI_m1, ng_eq, nn_eq, en_eq, ng_le, ng_lt, Int32.neg_neg, nI_add, pk_mul, nI_clampO, nI_ltO, nI_leO, nI_eqO, nI_subO, nle_t, nle_f, nlt_t, nlt_f, neq_f, ll, nx, aSl_I, aSl_L, aSl_R, aSl_N, h, vnb0, vnb1, rR_nw]
theorem V28_r (μ : PM) (j : Nat) : rR (V28 μ) 2000010 j = rR μ 2000010 j := by
  unfold V28
  simp only [rI_wI, rL_wL, rR_wR, rI_wL, rI_wR, rL_wI, rL_wR, rR_wI, rR_wL, va_rf_some, va_rf_none, rR_nw, Option.toList_some, Option.toList_none, List.nil_append, List.cons_append, true_and, and_true, false_and, and_false, and_self, if_true, if_false, not_true_eq_false, not_false_eq_true, or_false, false_or, or_true, true_or, or_self, ite_true, ite_false, Option.some.injEq, reduceCtorEq, Nat.reduceMod, Nat.reduceDiv, Nat.reduceLeDiff, Nat.reduceEqDiff, Nat.reduceAdd, Nat.reduceMul, Nat.reduceSub, Nat.reduceLT, sw_nil, sw_int, sw_long, sw_ref]
theorem V28_q (μ : PM) (j : Nat) : rR (V28 μ) 41000006 j = rR μ 41000006 j := by
  unfold V28
  simp only [rI_wI, rL_wL, rR_wR, rI_wL, rI_wR, rL_wI, rL_wR, rR_wI, rR_wL, va_rf_some, va_rf_none, rR_nw, Option.toList_some, Option.toList_none, List.nil_append, List.cons_append, true_and, and_true, false_and, and_false, and_self, if_true, if_false, not_true_eq_false, not_false_eq_true, or_false, false_or, or_true, true_or, or_self, ite_true, ite_false, Option.some.injEq, reduceCtorEq, Nat.reduceMod, Nat.reduceDiv, Nat.reduceLeDiff, Nat.reduceEqDiff, Nat.reduceAdd, Nat.reduceMul, Nat.reduceSub, Nat.reduceLT, sw_nil, sw_int, sw_long, sw_ref]
def V29s0 (μ : PM) : PM := (wR (V9 (nw (wI (wI (wR (nw μ 42002024) 41000006 0 (some 42002024)) 41000006 1 (nI 0)) 41000006 2 (nI 0)) 43000008)) 42002024 0 (some 43000008))
theorem V29s0_l (μ : PM) : (aS (V29s0 μ)).length = (aS μ).length + 3 := by
  unfold V29s0
  simp only [aSl_I, aSl_L, aSl_R, aSl_N, V9_l, Nat.add_assoc, Nat.reduceAdd]
theorem V29s0_AG {f : Nat → Nat → Int32} {μ ν : PM} (h : AG f μ ν) : AG f (V29s0 μ) (V29s0 ν) := (AG_R (V9_AG (AG_N (by decide) (AG_I (by decide) (AG_I (by decide) (AG_R (AG_N (by decide) h)))))))
theorem V29s0_w (μ : PM) : rR (V29s0 μ) 41000006 0 = some 42002024 := by
  unfold V29s0
  simp only [rI_wI, rL_wL, rR_wR, rI_wL, rI_wR, rL_wI, rL_wR, rR_wI, rR_wL, va_rf_some, va_rf_none, rR_nw, Option.toList_some, Option.toList_none, List.nil_append, List.cons_append, true_and, and_true, false_and, and_false, and_self, if_true, if_false, not_true_eq_false, not_false_eq_true, or_false, false_or, or_true, true_or, or_self, ite_true, ite_false, Option.some.injEq, reduceCtorEq, Nat.reduceMod, Nat.reduceDiv, Nat.reduceLeDiff, Nat.reduceEqDiff, Nat.reduceAdd, Nat.reduceMul, Nat.reduceSub, Nat.reduceLT, sw_nil, sw_int, sw_long, sw_ref, V9_q]
theorem V29s0_r (μ : PM) (j : Nat) : rR (V29s0 μ) 2000010 j = rR μ 2000010 j := by
  unfold V29s0
  simp only [rI_wI, rL_wL, rR_wR, rI_wL, rI_wR, rL_wI, rL_wR, rR_wI, rR_wL, va_rf_some, va_rf_none, rR_nw, Option.toList_some, Option.toList_none, List.nil_append, List.cons_append, true_and, and_true, false_and, and_false, and_self, if_true, if_false, not_true_eq_false, not_false_eq_true, or_false, false_or, or_true, true_or, or_self, ite_true, ite_false, Option.some.injEq, reduceCtorEq, Nat.reduceMod, Nat.reduceDiv, Nat.reduceLeDiff, Nat.reduceEqDiff, Nat.reduceAdd, Nat.reduceMul, Nat.reduceSub, Nat.reduceLT, sw_nil, sw_int, sw_long, sw_ref, V9_r]
theorem k29s0 {d : Nat} {μ : PM} (h : (aS μ).length = 40) : ∀ Q, R (d + 1) 63 0 [some (.ref 41000006), none] [] μ Q = R (d + 1) 63 44 [some (.ref 41000006), some (.int (nI 0))] [] (V29s0 μ) Q := by
  intro Q
  have c0 := k9 (d := d) (μ := (nw (wI (wI (wR (nw μ 42002024) 41000006 0 (some 42002024)) 41000006 1 (nI 0)) 41000006 2 (nI 0)) 43000008)) (by simp only [aSl_I, aSl_L, aSl_R, aSl_N, V9_l, h, Nat.reduceAdd])
  have c0 : ∀ Q, R d 81 0 [some (.ref 43000008)] [] (nw (wI (wI (wR (nw μ 42002024) 41000006 0 (some 42002024)) 41000006 1 (nI 0)) 41000006 2 (nI 0)) 43000008) Q = Q none (V9 (nw (wI (wI (wR (nw μ 42002024) 41000006 0 (some 42002024)) 41000006 1 (nI 0)) 41000006 2 (nI 0)) 43000008)) := c0
  unfold V29s0
  simp (disch := first | assumption | omega) only [r63_0, r63_1, r63_4, r63_5, r63_7, r63_10, r63_13, r63_14, r63_15, r63_18, r63_19, r63_20, r63_23, r63_24, r63_25, r63_26, r63_28, r63_31, r63_32, r63_35, r63_36, r63_39, r63_39i, r63_40, r63_43, rI_wI, rL_wL, rR_wR, rI_wL, rI_wR, rL_wI, rL_wR, rR_wI, rR_wL, va_rf_some, va_rf_none, Option.toList_some, Option.toList_none, List.nil_append, List.cons_append, true_and, and_true, false_and, and_false, and_self, if_true, if_false, not_true_eq_false, not_false_eq_true, or_false, false_or, or_true, true_or, or_self, ite_true, ite_false, Option.some.injEq, reduceCtorEq, Nat.reduceMod, Nat.reduceDiv, Nat.reduceLeDiff, Nat.reduceEqDiff, Nat.reduceAdd, Nat.reduceMul, Nat.reduceSub, Nat.reduceLT, sw_nil, sw_int, sw_long, sw_ref, li, lo, nI_m1, ng_eq, nn_eq, en_eq, ng_le, ng_lt, Int32.neg_neg, nI_add, pk_mul, nI_clampO, nI_ltO, nI_leO, nI_eqO, nI_subO, nle_t, nle_f, nlt_t, nlt_f, neq_f, ll, nx, aSl_I, aSl_L, aSl_R, aSl_N, V9_l, h, vnb0, vnb1, rR_nw, c0, V9_q]
def V29s1 (μ : PM) : PM := (wR (V10 (nw μ 45000008)) 42002024 1 (some 45000008))
theorem V29s1_l (μ : PM) : (aS (V29s1 μ)).length = (aS μ).length + 2 := by
  unfold V29s1
  simp only [aSl_I, aSl_L, aSl_R, aSl_N, V10_l, Nat.add_assoc, Nat.reduceAdd]
theorem V29s1_AG {f : Nat → Nat → Int32} {μ ν : PM} (h : AG f μ ν) : AG f (V29s1 μ) (V29s1 ν) := (AG_R (V10_AG (AG_N (by decide) h)))
theorem V29s1_w (μ : PM) : rR (V29s1 μ) 41000006 0 = rR μ 41000006 0 := by
  unfold V29s1
  simp only [rI_wI, rL_wL, rR_wR, rI_wL, rI_wR, rL_wI, rL_wR, rR_wI, rR_wL, va_rf_some, va_rf_none, rR_nw, Option.toList_some, Option.toList_none, List.nil_append, List.cons_append, true_and, and_true, false_and, and_false, and_self, if_true, if_false, not_true_eq_false, not_false_eq_true, or_false, false_or, or_true, true_or, or_self, ite_true, ite_false, Option.some.injEq, reduceCtorEq, Nat.reduceMod, Nat.reduceDiv, Nat.reduceLeDiff, Nat.reduceEqDiff, Nat.reduceAdd, Nat.reduceMul, Nat.reduceSub, Nat.reduceLT, sw_nil, sw_int, sw_long, sw_ref, V10_q]
theorem V29s1_r (μ : PM) (j : Nat) : rR (V29s1 μ) 2000010 j = rR μ 2000010 j := by
  unfold V29s1
  simp only [rI_wI, rL_wL, rR_wR, rI_wL, rI_wR, rL_wI, rL_wR, rR_wI, rR_wL, va_rf_some, va_rf_none, rR_nw, Option.toList_some, Option.toList_none, List.nil_append, List.cons_append, true_and, and_true, false_and, and_false, and_self, if_true, if_false, not_true_eq_false, not_false_eq_true, or_false, false_or, or_true, true_or, or_self, ite_true, ite_false, Option.some.injEq, reduceCtorEq, Nat.reduceMod, Nat.reduceDiv, Nat.reduceLeDiff, Nat.reduceEqDiff, Nat.reduceAdd, Nat.reduceMul, Nat.reduceSub, Nat.reduceLT, sw_nil, sw_int, sw_long, sw_ref, V10_r]
theorem k29s1 {d : Nat} {μ : PM} (h : (aS μ).length = 43) (hr : rR μ 41000006 0 = some 42002024) : ∀ Q, R (d + 1) 63 44 [some (.ref 41000006), some (.int (nI 0))] [] μ Q = R (d + 1) 63 44 [some (.ref 41000006), some (.int (nI 1))] [] (V29s1 μ) Q := by
  intro Q
  have c0 := k10 (d := d) (μ := (nw μ 45000008)) (by simp only [aSl_I, aSl_L, aSl_R, aSl_N, V10_l, h, Nat.reduceAdd])
  have c0 : ∀ Q, R d 81 0 [some (.ref 45000008)] [] (nw μ 45000008) Q = Q none (V10 (nw μ 45000008)) := c0
  unfold V29s1
  rw [r63_44]
  simp (disch := first | assumption | omega) only [r63_47, r63_25, r63_26, r63_28, r63_31, r63_32, r63_35, r63_36, r63_39, r63_39i, r63_40, r63_43, rI_wI, rL_wL, rR_wR, rI_wL, rI_wR, rL_wI, rL_wR, rR_wI, rR_wL, va_rf_some, va_rf_none, Option.toList_some, Option.toList_none, List.nil_append, List.cons_append, true_and, and_true, false_and, and_false, and_self, if_true, if_false, not_true_eq_false, not_false_eq_true, or_false, false_or, or_true, true_or, or_self, ite_true, ite_false, Option.some.injEq, reduceCtorEq, Nat.reduceMod, Nat.reduceDiv, Nat.reduceLeDiff, Nat.reduceEqDiff, Nat.reduceAdd, Nat.reduceMul, Nat.reduceSub, Nat.reduceLT, sw_nil, sw_int, sw_long, sw_ref, li, lo, nI_m1, ng_eq, nn_eq, en_eq, ng_le, ng_lt, Int32.neg_neg, nI_add, pk_mul, nI_clampO, nI_ltO, nI_leO, nI_eqO, nI_subO, nle_t, nle_f, nlt_t, nlt_f, neq_f, ll, nx, aSl_I, aSl_L, aSl_R, aSl_N, V10_l, h, hr, vnb0, vnb1, rR_nw, c0, V10_q]
def V29s2 (μ : PM) : PM := (wR (V11 (nw μ 47000008)) 42002024 2 (some 47000008))
theorem V29s2_l (μ : PM) : (aS (V29s2 μ)).length = (aS μ).length + 2 := by
  unfold V29s2
  simp only [aSl_I, aSl_L, aSl_R, aSl_N, V11_l, Nat.add_assoc, Nat.reduceAdd]
theorem V29s2_AG {f : Nat → Nat → Int32} {μ ν : PM} (h : AG f μ ν) : AG f (V29s2 μ) (V29s2 ν) := (AG_R (V11_AG (AG_N (by decide) h)))
theorem V29s2_w (μ : PM) : rR (V29s2 μ) 41000006 0 = rR μ 41000006 0 := by
  unfold V29s2
  simp only [rI_wI, rL_wL, rR_wR, rI_wL, rI_wR, rL_wI, rL_wR, rR_wI, rR_wL, va_rf_some, va_rf_none, rR_nw, Option.toList_some, Option.toList_none, List.nil_append, List.cons_append, true_and, and_true, false_and, and_false, and_self, if_true, if_false, not_true_eq_false, not_false_eq_true, or_false, false_or, or_true, true_or, or_self, ite_true, ite_false, Option.some.injEq, reduceCtorEq, Nat.reduceMod, Nat.reduceDiv, Nat.reduceLeDiff, Nat.reduceEqDiff, Nat.reduceAdd, Nat.reduceMul, Nat.reduceSub, Nat.reduceLT, sw_nil, sw_int, sw_long, sw_ref, V11_q]
theorem V29s2_r (μ : PM) (j : Nat) : rR (V29s2 μ) 2000010 j = rR μ 2000010 j := by
  unfold V29s2
  simp only [rI_wI, rL_wL, rR_wR, rI_wL, rI_wR, rL_wI, rL_wR, rR_wI, rR_wL, va_rf_some, va_rf_none, rR_nw, Option.toList_some, Option.toList_none, List.nil_append, List.cons_append, true_and, and_true, false_and, and_false, and_self, if_true, if_false, not_true_eq_false, not_false_eq_true, or_false, false_or, or_true, true_or, or_self, ite_true, ite_false, Option.some.injEq, reduceCtorEq, Nat.reduceMod, Nat.reduceDiv, Nat.reduceLeDiff, Nat.reduceEqDiff, Nat.reduceAdd, Nat.reduceMul, Nat.reduceSub, Nat.reduceLT, sw_nil, sw_int, sw_long, sw_ref, V11_r]
theorem k29s2 {d : Nat} {μ : PM} (h : (aS μ).length = 45) (hr : rR μ 41000006 0 = some 42002024) : ∀ Q, R (d + 1) 63 44 [some (.ref 41000006), some (.int (nI 1))] [] μ Q = R (d + 1) 63 44 [some (.ref 41000006), some (.int (nI 2))] [] (V29s2 μ) Q := by
  intro Q
  have c0 := k11 (d := d) (μ := (nw μ 47000008)) (by simp only [aSl_I, aSl_L, aSl_R, aSl_N, V11_l, h, Nat.reduceAdd])
  have c0 : ∀ Q, R d 81 0 [some (.ref 47000008)] [] (nw μ 47000008) Q = Q none (V11 (nw μ 47000008)) := c0
  unfold V29s2
  rw [r63_44]
  simp (disch := first | assumption | omega) only [r63_47, r63_25, r63_26, r63_28, r63_31, r63_32, r63_35, r63_36, r63_39, r63_39i, r63_40, r63_43, rI_wI, rL_wL, rR_wR, rI_wL, rI_wR, rL_wI, rL_wR, rR_wI, rR_wL, va_rf_some, va_rf_none, Option.toList_some, Option.toList_none, List.nil_append, List.cons_append, true_and, and_true, false_and, and_false, and_self, if_true, if_false, not_true_eq_false, not_false_eq_true, or_false, false_or, or_true, true_or, or_self, ite_true, ite_false, Option.some.injEq, reduceCtorEq, Nat.reduceMod, Nat.reduceDiv, Nat.reduceLeDiff, Nat.reduceEqDiff, Nat.reduceAdd, Nat.reduceMul, Nat.reduceSub, Nat.reduceLT, sw_nil, sw_int, sw_long, sw_ref, li, lo, nI_m1, ng_eq, nn_eq, en_eq, ng_le, ng_lt, Int32.neg_neg, nI_add, pk_mul, nI_clampO, nI_ltO, nI_leO, nI_eqO, nI_subO, nle_t, nle_f, nlt_t, nlt_f, neq_f, ll, nx, aSl_I, aSl_L, aSl_R, aSl_N, V11_l, h, hr, vnb0, vnb1, rR_nw, c0, V11_q]
def V29s3 (μ : PM) : PM := (wR (V12 (nw μ 49000008)) 42002024 3 (some 49000008))
theorem V29s3_l (μ : PM) : (aS (V29s3 μ)).length = (aS μ).length + 2 := by
  unfold V29s3
  simp only [aSl_I, aSl_L, aSl_R, aSl_N, V12_l, Nat.add_assoc, Nat.reduceAdd]
theorem V29s3_AG {f : Nat → Nat → Int32} {μ ν : PM} (h : AG f μ ν) : AG f (V29s3 μ) (V29s3 ν) := (AG_R (V12_AG (AG_N (by decide) h)))
theorem V29s3_w (μ : PM) : rR (V29s3 μ) 41000006 0 = rR μ 41000006 0 := by
  unfold V29s3
  simp only [rI_wI, rL_wL, rR_wR, rI_wL, rI_wR, rL_wI, rL_wR, rR_wI, rR_wL, va_rf_some, va_rf_none, rR_nw, Option.toList_some, Option.toList_none, List.nil_append, List.cons_append, true_and, and_true, false_and, and_false, and_self, if_true, if_false, not_true_eq_false, not_false_eq_true, or_false, false_or, or_true, true_or, or_self, ite_true, ite_false, Option.some.injEq, reduceCtorEq, Nat.reduceMod, Nat.reduceDiv, Nat.reduceLeDiff, Nat.reduceEqDiff, Nat.reduceAdd, Nat.reduceMul, Nat.reduceSub, Nat.reduceLT, sw_nil, sw_int, sw_long, sw_ref, V12_q]
theorem V29s3_r (μ : PM) (j : Nat) : rR (V29s3 μ) 2000010 j = rR μ 2000010 j := by
  unfold V29s3
  simp only [rI_wI, rL_wL, rR_wR, rI_wL, rI_wR, rL_wI, rL_wR, rR_wI, rR_wL, va_rf_some, va_rf_none, rR_nw, Option.toList_some, Option.toList_none, List.nil_append, List.cons_append, true_and, and_true, false_and, and_false, and_self, if_true, if_false, not_true_eq_false, not_false_eq_true, or_false, false_or, or_true, true_or, or_self, ite_true, ite_false, Option.some.injEq, reduceCtorEq, Nat.reduceMod, Nat.reduceDiv, Nat.reduceLeDiff, Nat.reduceEqDiff, Nat.reduceAdd, Nat.reduceMul, Nat.reduceSub, Nat.reduceLT, sw_nil, sw_int, sw_long, sw_ref, V12_r]
theorem k29s3 {d : Nat} {μ : PM} (h : (aS μ).length = 47) (hr : rR μ 41000006 0 = some 42002024) : ∀ Q, R (d + 1) 63 44 [some (.ref 41000006), some (.int (nI 2))] [] μ Q = R (d + 1) 63 44 [some (.ref 41000006), some (.int (nI 3))] [] (V29s3 μ) Q := by
  intro Q
  have c0 := k12 (d := d) (μ := (nw μ 49000008)) (by simp only [aSl_I, aSl_L, aSl_R, aSl_N, V12_l, h, Nat.reduceAdd])
  have c0 : ∀ Q, R d 81 0 [some (.ref 49000008)] [] (nw μ 49000008) Q = Q none (V12 (nw μ 49000008)) := c0
  unfold V29s3
  rw [r63_44]
  simp (disch := first | assumption | omega) only [r63_47, r63_25, r63_26, r63_28, r63_31, r63_32, r63_35, r63_36, r63_39, r63_39i, r63_40, r63_43, rI_wI, rL_wL, rR_wR, rI_wL, rI_wR, rL_wI, rL_wR, rR_wI, rR_wL, va_rf_some, va_rf_none, Option.toList_some, Option.toList_none, List.nil_append, List.cons_append, true_and, and_true, false_and, and_false, and_self, if_true, if_false, not_true_eq_false, not_false_eq_true, or_false, false_or, or_true, true_or, or_self, ite_true, ite_false, Option.some.injEq, reduceCtorEq, Nat.reduceMod, Nat.reduceDiv, Nat.reduceLeDiff, Nat.reduceEqDiff, Nat.reduceAdd, Nat.reduceMul, Nat.reduceSub, Nat.reduceLT, sw_nil, sw_int, sw_long, sw_ref, li, lo, nI_m1, ng_eq, nn_eq, en_eq, ng_le, ng_lt, Int32.neg_neg, nI_add, pk_mul, nI_clampO, nI_ltO, nI_leO, nI_eqO, nI_subO, nle_t, nle_f, nlt_t, nlt_f, neq_f, ll, nx, aSl_I, aSl_L, aSl_R, aSl_N, V12_l, h, hr, vnb0, vnb1, rR_nw, c0, V12_q]
def V29s4 (μ : PM) : PM := (wR (V13 (nw μ 51000008)) 42002024 4 (some 51000008))
theorem V29s4_l (μ : PM) : (aS (V29s4 μ)).length = (aS μ).length + 2 := by
  unfold V29s4
  simp only [aSl_I, aSl_L, aSl_R, aSl_N, V13_l, Nat.add_assoc, Nat.reduceAdd]
theorem V29s4_AG {f : Nat → Nat → Int32} {μ ν : PM} (h : AG f μ ν) : AG f (V29s4 μ) (V29s4 ν) := (AG_R (V13_AG (AG_N (by decide) h)))
theorem V29s4_w (μ : PM) : rR (V29s4 μ) 41000006 0 = rR μ 41000006 0 := by
  unfold V29s4
  simp only [rI_wI, rL_wL, rR_wR, rI_wL, rI_wR, rL_wI, rL_wR, rR_wI, rR_wL, va_rf_some, va_rf_none, rR_nw, Option.toList_some, Option.toList_none, List.nil_append, List.cons_append, true_and, and_true, false_and, and_false, and_self, if_true, if_false, not_true_eq_false, not_false_eq_true, or_false, false_or, or_true, true_or, or_self, ite_true, ite_false, Option.some.injEq, reduceCtorEq, Nat.reduceMod, Nat.reduceDiv, Nat.reduceLeDiff, Nat.reduceEqDiff, Nat.reduceAdd, Nat.reduceMul, Nat.reduceSub, Nat.reduceLT, sw_nil, sw_int, sw_long, sw_ref, V13_q]
theorem V29s4_r (μ : PM) (j : Nat) : rR (V29s4 μ) 2000010 j = rR μ 2000010 j := by
  unfold V29s4
  simp only [rI_wI, rL_wL, rR_wR, rI_wL, rI_wR, rL_wI, rL_wR, rR_wI, rR_wL, va_rf_some, va_rf_none, rR_nw, Option.toList_some, Option.toList_none, List.nil_append, List.cons_append, true_and, and_true, false_and, and_false, and_self, if_true, if_false, not_true_eq_false, not_false_eq_true, or_false, false_or, or_true, true_or, or_self, ite_true, ite_false, Option.some.injEq, reduceCtorEq, Nat.reduceMod, Nat.reduceDiv, Nat.reduceLeDiff, Nat.reduceEqDiff, Nat.reduceAdd, Nat.reduceMul, Nat.reduceSub, Nat.reduceLT, sw_nil, sw_int, sw_long, sw_ref, V13_r]
theorem k29s4 {d : Nat} {μ : PM} (h : (aS μ).length = 49) (hr : rR μ 41000006 0 = some 42002024) : ∀ Q, R (d + 1) 63 44 [some (.ref 41000006), some (.int (nI 3))] [] μ Q = R (d + 1) 63 44 [some (.ref 41000006), some (.int (nI 4))] [] (V29s4 μ) Q := by
  intro Q
  have c0 := k13 (d := d) (μ := (nw μ 51000008)) (by simp only [aSl_I, aSl_L, aSl_R, aSl_N, V13_l, h, Nat.reduceAdd])
  have c0 : ∀ Q, R d 81 0 [some (.ref 51000008)] [] (nw μ 51000008) Q = Q none (V13 (nw μ 51000008)) := c0
  unfold V29s4
  rw [r63_44]
  simp (disch := first | assumption | omega) only [r63_47, r63_25, r63_26, r63_28, r63_31, r63_32, r63_35, r63_36, r63_39, r63_39i, r63_40, r63_43, rI_wI, rL_wL, rR_wR, rI_wL, rI_wR, rL_wI, rL_wR, rR_wI, rR_wL, va_rf_some, va_rf_none, Option.toList_some, Option.toList_none, List.nil_append, List.cons_append, true_and, and_true, false_and, and_false, and_self, if_true, if_false, not_true_eq_false, not_false_eq_true, or_false, false_or, or_true, true_or, or_self, ite_true, ite_false, Option.some.injEq, reduceCtorEq, Nat.reduceMod, Nat.reduceDiv, Nat.reduceLeDiff, Nat.reduceEqDiff, Nat.reduceAdd, Nat.reduceMul, Nat.reduceSub, Nat.reduceLT, sw_nil, sw_int, sw_long, sw_ref, li, lo, nI_m1, ng_eq, nn_eq, en_eq, ng_le, ng_lt, Int32.neg_neg, nI_add, pk_mul, nI_clampO, nI_ltO, nI_leO, nI_eqO, nI_subO, nle_t, nle_f, nlt_t, nlt_f, neq_f, ll, nx, aSl_I, aSl_L, aSl_R, aSl_N, V13_l, h, hr, vnb0, vnb1, rR_nw, c0, V13_q]
def V29s5 (μ : PM) : PM := (wR (V14 (nw μ 53000008)) 42002024 5 (some 53000008))
theorem V29s5_l (μ : PM) : (aS (V29s5 μ)).length = (aS μ).length + 2 := by
  unfold V29s5
  simp only [aSl_I, aSl_L, aSl_R, aSl_N, V14_l, Nat.add_assoc, Nat.reduceAdd]
theorem V29s5_AG {f : Nat → Nat → Int32} {μ ν : PM} (h : AG f μ ν) : AG f (V29s5 μ) (V29s5 ν) := (AG_R (V14_AG (AG_N (by decide) h)))
theorem V29s5_w (μ : PM) : rR (V29s5 μ) 41000006 0 = rR μ 41000006 0 := by
  unfold V29s5
  simp only [rI_wI, rL_wL, rR_wR, rI_wL, rI_wR, rL_wI, rL_wR, rR_wI, rR_wL, va_rf_some, va_rf_none, rR_nw, Option.toList_some, Option.toList_none, List.nil_append, List.cons_append, true_and, and_true, false_and, and_false, and_self, if_true, if_false, not_true_eq_false, not_false_eq_true, or_false, false_or, or_true, true_or, or_self, ite_true, ite_false, Option.some.injEq, reduceCtorEq, Nat.reduceMod, Nat.reduceDiv, Nat.reduceLeDiff, Nat.reduceEqDiff, Nat.reduceAdd, Nat.reduceMul, Nat.reduceSub, Nat.reduceLT, sw_nil, sw_int, sw_long, sw_ref, V14_q]
theorem V29s5_r (μ : PM) (j : Nat) : rR (V29s5 μ) 2000010 j = rR μ 2000010 j := by
  unfold V29s5
  simp only [rI_wI, rL_wL, rR_wR, rI_wL, rI_wR, rL_wI, rL_wR, rR_wI, rR_wL, va_rf_some, va_rf_none, rR_nw, Option.toList_some, Option.toList_none, List.nil_append, List.cons_append, true_and, and_true, false_and, and_false, and_self, if_true, if_false, not_true_eq_false, not_false_eq_true, or_false, false_or, or_true, true_or, or_self, ite_true, ite_false, Option.some.injEq, reduceCtorEq, Nat.reduceMod, Nat.reduceDiv, Nat.reduceLeDiff, Nat.reduceEqDiff, Nat.reduceAdd, Nat.reduceMul, Nat.reduceSub, Nat.reduceLT, sw_nil, sw_int, sw_long, sw_ref, V14_r]
theorem k29s5 {d : Nat} {μ : PM} (h : (aS μ).length = 51) (hr : rR μ 41000006 0 = some 42002024) : ∀ Q, R (d + 1) 63 44 [some (.ref 41000006), some (.int (nI 4))] [] μ Q = R (d + 1) 63 44 [some (.ref 41000006), some (.int (nI 5))] [] (V29s5 μ) Q := by
  intro Q
  have c0 := k14 (d := d) (μ := (nw μ 53000008)) (by simp only [aSl_I, aSl_L, aSl_R, aSl_N, V14_l, h, Nat.reduceAdd])
  have c0 : ∀ Q, R d 81 0 [some (.ref 53000008)] [] (nw μ 53000008) Q = Q none (V14 (nw μ 53000008)) := c0
  unfold V29s5
  rw [r63_44]
  simp (disch := first | assumption | omega) only [r63_47, r63_25, r63_26, r63_28, r63_31, r63_32, r63_35, r63_36, r63_39, r63_39i, r63_40, r63_43, rI_wI, rL_wL, rR_wR, rI_wL, rI_wR, rL_wI, rL_wR, rR_wI, rR_wL, va_rf_some, va_rf_none, Option.toList_some, Option.toList_none, List.nil_append, List.cons_append, true_and, and_true, false_and, and_false, and_self, if_true, if_false, not_true_eq_false, not_false_eq_true, or_false, false_or, or_true, true_or, or_self, ite_true, ite_false, Option.some.injEq, reduceCtorEq, Nat.reduceMod, Nat.reduceDiv, Nat.reduceLeDiff, Nat.reduceEqDiff, Nat.reduceAdd, Nat.reduceMul, Nat.reduceSub, Nat.reduceLT, sw_nil, sw_int, sw_long, sw_ref, li, lo, nI_m1, ng_eq, nn_eq, en_eq, ng_le, ng_lt, Int32.neg_neg, nI_add, pk_mul, nI_clampO, nI_ltO, nI_leO, nI_eqO, nI_subO, nle_t, nle_f, nlt_t, nlt_f, neq_f, ll, nx, aSl_I, aSl_L, aSl_R, aSl_N, V14_l, h, hr, vnb0, vnb1, rR_nw, c0, V14_q]
def V29s6 (μ : PM) : PM := (wR (V15 (nw μ 55000008)) 42002024 6 (some 55000008))
theorem V29s6_l (μ : PM) : (aS (V29s6 μ)).length = (aS μ).length + 2 := by
  unfold V29s6
  simp only [aSl_I, aSl_L, aSl_R, aSl_N, V15_l, Nat.add_assoc, Nat.reduceAdd]
theorem V29s6_AG {f : Nat → Nat → Int32} {μ ν : PM} (h : AG f μ ν) : AG f (V29s6 μ) (V29s6 ν) := (AG_R (V15_AG (AG_N (by decide) h)))
theorem V29s6_w (μ : PM) : rR (V29s6 μ) 41000006 0 = rR μ 41000006 0 := by
  unfold V29s6
  simp only [rI_wI, rL_wL, rR_wR, rI_wL, rI_wR, rL_wI, rL_wR, rR_wI, rR_wL, va_rf_some, va_rf_none, rR_nw, Option.toList_some, Option.toList_none, List.nil_append, List.cons_append, true_and, and_true, false_and, and_false, and_self, if_true, if_false, not_true_eq_false, not_false_eq_true, or_false, false_or, or_true, true_or, or_self, ite_true, ite_false, Option.some.injEq, reduceCtorEq, Nat.reduceMod, Nat.reduceDiv, Nat.reduceLeDiff, Nat.reduceEqDiff, Nat.reduceAdd, Nat.reduceMul, Nat.reduceSub, Nat.reduceLT, sw_nil, sw_int, sw_long, sw_ref, V15_q]
theorem V29s6_r (μ : PM) (j : Nat) : rR (V29s6 μ) 2000010 j = rR μ 2000010 j := by
  unfold V29s6
  simp only [rI_wI, rL_wL, rR_wR, rI_wL, rI_wR, rL_wI, rL_wR, rR_wI, rR_wL, va_rf_some, va_rf_none, rR_nw, Option.toList_some, Option.toList_none, List.nil_append, List.cons_append, true_and, and_true, false_and, and_false, and_self, if_true, if_false, not_true_eq_false, not_false_eq_true, or_false, false_or, or_true, true_or, or_self, ite_true, ite_false, Option.some.injEq, reduceCtorEq, Nat.reduceMod, Nat.reduceDiv, Nat.reduceLeDiff, Nat.reduceEqDiff, Nat.reduceAdd, Nat.reduceMul, Nat.reduceSub, Nat.reduceLT, sw_nil, sw_int, sw_long, sw_ref, V15_r]
theorem k29s6 {d : Nat} {μ : PM} (h : (aS μ).length = 53) (hr : rR μ 41000006 0 = some 42002024) : ∀ Q, R (d + 1) 63 44 [some (.ref 41000006), some (.int (nI 5))] [] μ Q = R (d + 1) 63 44 [some (.ref 41000006), some (.int (nI 6))] [] (V29s6 μ) Q := by
  intro Q
  have c0 := k15 (d := d) (μ := (nw μ 55000008)) (by simp only [aSl_I, aSl_L, aSl_R, aSl_N, V15_l, h, Nat.reduceAdd])
  have c0 : ∀ Q, R d 81 0 [some (.ref 55000008)] [] (nw μ 55000008) Q = Q none (V15 (nw μ 55000008)) := c0
  unfold V29s6
  rw [r63_44]
  simp (disch := first | assumption | omega) only [r63_47, r63_25, r63_26, r63_28, r63_31, r63_32, r63_35, r63_36, r63_39, r63_39i, r63_40, r63_43, rI_wI, rL_wL, rR_wR, rI_wL, rI_wR, rL_wI, rL_wR, rR_wI, rR_wL, va_rf_some, va_rf_none, Option.toList_some, Option.toList_none, List.nil_append, List.cons_append, true_and, and_true, false_and, and_false, and_self, if_true, if_false, not_true_eq_false, not_false_eq_true, or_false, false_or, or_true, true_or, or_self, ite_true, ite_false, Option.some.injEq, reduceCtorEq, Nat.reduceMod, Nat.reduceDiv, Nat.reduceLeDiff, Nat.reduceEqDiff, Nat.reduceAdd, Nat.reduceMul, Nat.reduceSub, Nat.reduceLT, sw_nil, sw_int, sw_long, sw_ref, li, lo, nI_m1, ng_eq, nn_eq, en_eq, ng_le, ng_lt, Int32.neg_neg, nI_add, pk_mul, nI_clampO, nI_ltO, nI_leO, nI_eqO, nI_subO, nle_t, nle_f, nlt_t, nlt_f, neq_f, ll, nx, aSl_I, aSl_L, aSl_R, aSl_N, V15_l, h, hr, vnb0, vnb1, rR_nw, c0, V15_q]
def V29s7 (μ : PM) : PM := (wR (V16 (nw μ 57000008)) 42002024 7 (some 57000008))
theorem V29s7_l (μ : PM) : (aS (V29s7 μ)).length = (aS μ).length + 2 := by
  unfold V29s7
  simp only [aSl_I, aSl_L, aSl_R, aSl_N, V16_l, Nat.add_assoc, Nat.reduceAdd]
theorem V29s7_AG {f : Nat → Nat → Int32} {μ ν : PM} (h : AG f μ ν) : AG f (V29s7 μ) (V29s7 ν) := (AG_R (V16_AG (AG_N (by decide) h)))
theorem V29s7_w (μ : PM) : rR (V29s7 μ) 41000006 0 = rR μ 41000006 0 := by
  unfold V29s7
  simp only [rI_wI, rL_wL, rR_wR, rI_wL, rI_wR, rL_wI, rL_wR, rR_wI, rR_wL, va_rf_some, va_rf_none, rR_nw, Option.toList_some, Option.toList_none, List.nil_append, List.cons_append, true_and, and_true, false_and, and_false, and_self, if_true, if_false, not_true_eq_false, not_false_eq_true, or_false, false_or, or_true, true_or, or_self, ite_true, ite_false, Option.some.injEq, reduceCtorEq, Nat.reduceMod, Nat.reduceDiv, Nat.reduceLeDiff, Nat.reduceEqDiff, Nat.reduceAdd, Nat.reduceMul, Nat.reduceSub, Nat.reduceLT, sw_nil, sw_int, sw_long, sw_ref, V16_q]
theorem V29s7_r (μ : PM) (j : Nat) : rR (V29s7 μ) 2000010 j = rR μ 2000010 j := by
  unfold V29s7
  simp only [rI_wI, rL_wL, rR_wR, rI_wL, rI_wR, rL_wI, rL_wR, rR_wI, rR_wL, va_rf_some, va_rf_none, rR_nw, Option.toList_some, Option.toList_none, List.nil_append, List.cons_append, true_and, and_true, false_and, and_false, and_self, if_true, if_false, not_true_eq_false, not_false_eq_true, or_false, false_or, or_true, true_or, or_self, ite_true, ite_false, Option.some.injEq, reduceCtorEq, Nat.reduceMod, Nat.reduceDiv, Nat.reduceLeDiff, Nat.reduceEqDiff, Nat.reduceAdd, Nat.reduceMul, Nat.reduceSub, Nat.reduceLT, sw_nil, sw_int, sw_long, sw_ref, V16_r]
theorem k29s7 {d : Nat} {μ : PM} (h : (aS μ).length = 55) (hr : rR μ 41000006 0 = some 42002024) : ∀ Q, R (d + 1) 63 44 [some (.ref 41000006), some (.int (nI 6))] [] μ Q = R (d + 1) 63 44 [some (.ref 41000006), some (.int (nI 7))] [] (V29s7 μ) Q := by
  intro Q
  have c0 := k16 (d := d) (μ := (nw μ 57000008)) (by simp only [aSl_I, aSl_L, aSl_R, aSl_N, V16_l, h, Nat.reduceAdd])
  have c0 : ∀ Q, R d 81 0 [some (.ref 57000008)] [] (nw μ 57000008) Q = Q none (V16 (nw μ 57000008)) := c0
  unfold V29s7
  rw [r63_44]
  simp (disch := first | assumption | omega) only [r63_47, r63_25, r63_26, r63_28, r63_31, r63_32, r63_35, r63_36, r63_39, r63_39i, r63_40, r63_43, rI_wI, rL_wL, rR_wR, rI_wL, rI_wR, rL_wI, rL_wR, rR_wI, rR_wL, va_rf_some, va_rf_none, Option.toList_some, Option.toList_none, List.nil_append, List.cons_append, true_and, and_true, false_and, and_false, and_self, if_true, if_false, not_true_eq_false, not_false_eq_true, or_false, false_or, or_true, true_or, or_self, ite_true, ite_false, Option.some.injEq, reduceCtorEq, Nat.reduceMod, Nat.reduceDiv, Nat.reduceLeDiff, Nat.reduceEqDiff, Nat.reduceAdd, Nat.reduceMul, Nat.reduceSub, Nat.reduceLT, sw_nil, sw_int, sw_long, sw_ref, li, lo, nI_m1, ng_eq, nn_eq, en_eq, ng_le, ng_lt, Int32.neg_neg, nI_add, pk_mul, nI_clampO, nI_ltO, nI_leO, nI_eqO, nI_subO, nle_t, nle_f, nlt_t, nlt_f, neq_f, ll, nx, aSl_I, aSl_L, aSl_R, aSl_N, V16_l, h, hr, vnb0, vnb1, rR_nw, c0, V16_q]
def V29s8 (μ : PM) : PM := (wR (V17 (nw μ 59000008)) 42002024 8 (some 59000008))
theorem V29s8_l (μ : PM) : (aS (V29s8 μ)).length = (aS μ).length + 2 := by
  unfold V29s8
  simp only [aSl_I, aSl_L, aSl_R, aSl_N, V17_l, Nat.add_assoc, Nat.reduceAdd]
theorem V29s8_AG {f : Nat → Nat → Int32} {μ ν : PM} (h : AG f μ ν) : AG f (V29s8 μ) (V29s8 ν) := (AG_R (V17_AG (AG_N (by decide) h)))
theorem V29s8_w (μ : PM) : rR (V29s8 μ) 41000006 0 = rR μ 41000006 0 := by
  unfold V29s8
  simp only [rI_wI, rL_wL, rR_wR, rI_wL, rI_wR, rL_wI, rL_wR, rR_wI, rR_wL, va_rf_some, va_rf_none, rR_nw, Option.toList_some, Option.toList_none, List.nil_append, List.cons_append, true_and, and_true, false_and, and_false, and_self, if_true, if_false, not_true_eq_false, not_false_eq_true, or_false, false_or, or_true, true_or, or_self, ite_true, ite_false, Option.some.injEq, reduceCtorEq, Nat.reduceMod, Nat.reduceDiv, Nat.reduceLeDiff, Nat.reduceEqDiff, Nat.reduceAdd, Nat.reduceMul, Nat.reduceSub, Nat.reduceLT, sw_nil, sw_int, sw_long, sw_ref, V17_q]
theorem V29s8_r (μ : PM) (j : Nat) : rR (V29s8 μ) 2000010 j = rR μ 2000010 j := by
  unfold V29s8
  simp only [rI_wI, rL_wL, rR_wR, rI_wL, rI_wR, rL_wI, rL_wR, rR_wI, rR_wL, va_rf_some, va_rf_none, rR_nw, Option.toList_some, Option.toList_none, List.nil_append, List.cons_append, true_and, and_true, false_and, and_false, and_self, if_true, if_false, not_true_eq_false, not_false_eq_true, or_false, false_or, or_true, true_or, or_self, ite_true, ite_false, Option.some.injEq, reduceCtorEq, Nat.reduceMod, Nat.reduceDiv, Nat.reduceLeDiff, Nat.reduceEqDiff, Nat.reduceAdd, Nat.reduceMul, Nat.reduceSub, Nat.reduceLT, sw_nil, sw_int, sw_long, sw_ref, V17_r]
theorem k29s8 {d : Nat} {μ : PM} (h : (aS μ).length = 57) (hr : rR μ 41000006 0 = some 42002024) : ∀ Q, R (d + 1) 63 44 [some (.ref 41000006), some (.int (nI 7))] [] μ Q = R (d + 1) 63 44 [some (.ref 41000006), some (.int (nI 8))] [] (V29s8 μ) Q := by
  intro Q
  have c0 := k17 (d := d) (μ := (nw μ 59000008)) (by simp only [aSl_I, aSl_L, aSl_R, aSl_N, V17_l, h, Nat.reduceAdd])
  have c0 : ∀ Q, R d 81 0 [some (.ref 59000008)] [] (nw μ 59000008) Q = Q none (V17 (nw μ 59000008)) := c0
  unfold V29s8
  rw [r63_44]
  simp (disch := first | assumption | omega) only [r63_47, r63_25, r63_26, r63_28, r63_31, r63_32, r63_35, r63_36, r63_39, r63_39i, r63_40, r63_43, rI_wI, rL_wL, rR_wR, rI_wL, rI_wR, rL_wI, rL_wR, rR_wI, rR_wL, va_rf_some, va_rf_none, Option.toList_some, Option.toList_none, List.nil_append, List.cons_append, true_and, and_true, false_and, and_false, and_self, if_true, if_false, not_true_eq_false, not_false_eq_true, or_false, false_or, or_true, true_or, or_self, ite_true, ite_false, Option.some.injEq, reduceCtorEq, Nat.reduceMod, Nat.reduceDiv, Nat.reduceLeDiff, Nat.reduceEqDiff, Nat.reduceAdd, Nat.reduceMul, Nat.reduceSub, Nat.reduceLT, sw_nil, sw_int, sw_long, sw_ref, li, lo, nI_m1, ng_eq, nn_eq, en_eq, ng_le, ng_lt, Int32.neg_neg, nI_add, pk_mul, nI_clampO, nI_ltO, nI_leO, nI_eqO, nI_subO, nle_t, nle_f, nlt_t, nlt_f, neq_f, ll, nx, aSl_I, aSl_L, aSl_R, aSl_N, V17_l, h, hr, vnb0, vnb1, rR_nw, c0, V17_q]
def V29s9 (μ : PM) : PM := (wR (V18 (nw μ 61000008)) 42002024 9 (some 61000008))
theorem V29s9_l (μ : PM) : (aS (V29s9 μ)).length = (aS μ).length + 2 := by
  unfold V29s9
  simp only [aSl_I, aSl_L, aSl_R, aSl_N, V18_l, Nat.add_assoc, Nat.reduceAdd]
theorem V29s9_AG {f : Nat → Nat → Int32} {μ ν : PM} (h : AG f μ ν) : AG f (V29s9 μ) (V29s9 ν) := (AG_R (V18_AG (AG_N (by decide) h)))
theorem V29s9_w (μ : PM) : rR (V29s9 μ) 41000006 0 = rR μ 41000006 0 := by
  unfold V29s9
  simp only [rI_wI, rL_wL, rR_wR, rI_wL, rI_wR, rL_wI, rL_wR, rR_wI, rR_wL, va_rf_some, va_rf_none, rR_nw, Option.toList_some, Option.toList_none, List.nil_append, List.cons_append, true_and, and_true, false_and, and_false, and_self, if_true, if_false, not_true_eq_false, not_false_eq_true, or_false, false_or, or_true, true_or, or_self, ite_true, ite_false, Option.some.injEq, reduceCtorEq, Nat.reduceMod, Nat.reduceDiv, Nat.reduceLeDiff, Nat.reduceEqDiff, Nat.reduceAdd, Nat.reduceMul, Nat.reduceSub, Nat.reduceLT, sw_nil, sw_int, sw_long, sw_ref, V18_q]
theorem V29s9_r (μ : PM) (j : Nat) : rR (V29s9 μ) 2000010 j = rR μ 2000010 j := by
  unfold V29s9
  simp only [rI_wI, rL_wL, rR_wR, rI_wL, rI_wR, rL_wI, rL_wR, rR_wI, rR_wL, va_rf_some, va_rf_none, rR_nw, Option.toList_some, Option.toList_none, List.nil_append, List.cons_append, true_and, and_true, false_and, and_false, and_self, if_true, if_false, not_true_eq_false, not_false_eq_true, or_false, false_or, or_true, true_or, or_self, ite_true, ite_false, Option.some.injEq, reduceCtorEq, Nat.reduceMod, Nat.reduceDiv, Nat.reduceLeDiff, Nat.reduceEqDiff, Nat.reduceAdd, Nat.reduceMul, Nat.reduceSub, Nat.reduceLT, sw_nil, sw_int, sw_long, sw_ref, V18_r]
theorem k29s9 {d : Nat} {μ : PM} (h : (aS μ).length = 59) (hr : rR μ 41000006 0 = some 42002024) : ∀ Q, R (d + 1) 63 44 [some (.ref 41000006), some (.int (nI 8))] [] μ Q = R (d + 1) 63 44 [some (.ref 41000006), some (.int (nI 9))] [] (V29s9 μ) Q := by
  intro Q
  have c0 := k18 (d := d) (μ := (nw μ 61000008)) (by simp only [aSl_I, aSl_L, aSl_R, aSl_N, V18_l, h, Nat.reduceAdd])
  have c0 : ∀ Q, R d 81 0 [some (.ref 61000008)] [] (nw μ 61000008) Q = Q none (V18 (nw μ 61000008)) := c0
  unfold V29s9
  rw [r63_44]
  simp (disch := first | assumption | omega) only [r63_47, r63_25, r63_26, r63_28, r63_31, r63_32, r63_35, r63_36, r63_39, r63_39i, r63_40, r63_43, rI_wI, rL_wL, rR_wR, rI_wL, rI_wR, rL_wI, rL_wR, rR_wI, rR_wL, va_rf_some, va_rf_none, Option.toList_some, Option.toList_none, List.nil_append, List.cons_append, true_and, and_true, false_and, and_false, and_self, if_true, if_false, not_true_eq_false, not_false_eq_true, or_false, false_or, or_true, true_or, or_self, ite_true, ite_false, Option.some.injEq, reduceCtorEq, Nat.reduceMod, Nat.reduceDiv, Nat.reduceLeDiff, Nat.reduceEqDiff, Nat.reduceAdd, Nat.reduceMul, Nat.reduceSub, Nat.reduceLT, sw_nil, sw_int, sw_long, sw_ref, li, lo, nI_m1, ng_eq, nn_eq, en_eq, ng_le, ng_lt, Int32.neg_neg, nI_add, pk_mul, nI_clampO, nI_ltO, nI_leO, nI_eqO, nI_subO, nle_t, nle_f, nlt_t, nlt_f, neq_f, ll, nx, aSl_I, aSl_L, aSl_R, aSl_N, V18_l, h, hr, vnb0, vnb1, rR_nw, c0, V18_q]
def V29s10 (μ : PM) : PM := (wR (V19 (nw μ 63000008)) 42002024 10 (some 63000008))
theorem V29s10_l (μ : PM) : (aS (V29s10 μ)).length = (aS μ).length + 2 := by
  unfold V29s10
  simp only [aSl_I, aSl_L, aSl_R, aSl_N, V19_l, Nat.add_assoc, Nat.reduceAdd]
theorem V29s10_AG {f : Nat → Nat → Int32} {μ ν : PM} (h : AG f μ ν) : AG f (V29s10 μ) (V29s10 ν) := (AG_R (V19_AG (AG_N (by decide) h)))
theorem V29s10_w (μ : PM) : rR (V29s10 μ) 41000006 0 = rR μ 41000006 0 := by
  unfold V29s10
  simp only [rI_wI, rL_wL, rR_wR, rI_wL, rI_wR, rL_wI, rL_wR, rR_wI, rR_wL, va_rf_some, va_rf_none, rR_nw, Option.toList_some, Option.toList_none, List.nil_append, List.cons_append, true_and, and_true, false_and, and_false, and_self, if_true, if_false, not_true_eq_false, not_false_eq_true, or_false, false_or, or_true, true_or, or_self, ite_true, ite_false, Option.some.injEq, reduceCtorEq, Nat.reduceMod, Nat.reduceDiv, Nat.reduceLeDiff, Nat.reduceEqDiff, Nat.reduceAdd, Nat.reduceMul, Nat.reduceSub, Nat.reduceLT, sw_nil, sw_int, sw_long, sw_ref, V19_q]
theorem V29s10_r (μ : PM) (j : Nat) : rR (V29s10 μ) 2000010 j = rR μ 2000010 j := by
  unfold V29s10
  simp only [rI_wI, rL_wL, rR_wR, rI_wL, rI_wR, rL_wI, rL_wR, rR_wI, rR_wL, va_rf_some, va_rf_none, rR_nw, Option.toList_some, Option.toList_none, List.nil_append, List.cons_append, true_and, and_true, false_and, and_false, and_self, if_true, if_false, not_true_eq_false, not_false_eq_true, or_false, false_or, or_true, true_or, or_self, ite_true, ite_false, Option.some.injEq, reduceCtorEq, Nat.reduceMod, Nat.reduceDiv, Nat.reduceLeDiff, Nat.reduceEqDiff, Nat.reduceAdd, Nat.reduceMul, Nat.reduceSub, Nat.reduceLT, sw_nil, sw_int, sw_long, sw_ref, V19_r]
theorem k29s10 {d : Nat} {μ : PM} (h : (aS μ).length = 61) (hr : rR μ 41000006 0 = some 42002024) : ∀ Q, R (d + 1) 63 44 [some (.ref 41000006), some (.int (nI 9))] [] μ Q = R (d + 1) 63 44 [some (.ref 41000006), some (.int (nI 10))] [] (V29s10 μ) Q := by
  intro Q
  have c0 := k19 (d := d) (μ := (nw μ 63000008)) (by simp only [aSl_I, aSl_L, aSl_R, aSl_N, V19_l, h, Nat.reduceAdd])
  have c0 : ∀ Q, R d 81 0 [some (.ref 63000008)] [] (nw μ 63000008) Q = Q none (V19 (nw μ 63000008)) := c0
  unfold V29s10
  rw [r63_44]
  simp (disch := first | assumption | omega) only [r63_47, r63_25, r63_26, r63_28, r63_31, r63_32, r63_35, r63_36, r63_39, r63_39i, r63_40, r63_43, rI_wI, rL_wL, rR_wR, rI_wL, rI_wR, rL_wI, rL_wR, rR_wI, rR_wL, va_rf_some, va_rf_none, Option.toList_some, Option.toList_none, List.nil_append, List.cons_append, true_and, and_true, false_and, and_false, and_self, if_true, if_false, not_true_eq_false, not_false_eq_true, or_false, false_or, or_true, true_or, or_self, ite_true, ite_false, Option.some.injEq, reduceCtorEq, Nat.reduceMod, Nat.reduceDiv, Nat.reduceLeDiff, Nat.reduceEqDiff, Nat.reduceAdd, Nat.reduceMul, Nat.reduceSub, Nat.reduceLT, sw_nil, sw_int, sw_long, sw_ref, li, lo, nI_m1, ng_eq, nn_eq, en_eq, ng_le, ng_lt, Int32.neg_neg, nI_add, pk_mul, nI_clampO, nI_ltO, nI_leO, nI_eqO, nI_subO, nle_t, nle_f, nlt_t, nlt_f, neq_f, ll, nx, aSl_I, aSl_L, aSl_R, aSl_N, V19_l, h, hr, vnb0, vnb1, rR_nw, c0, V19_q]
def V29s11 (μ : PM) : PM := (wR (V20 (nw μ 65000008)) 42002024 11 (some 65000008))
theorem V29s11_l (μ : PM) : (aS (V29s11 μ)).length = (aS μ).length + 2 := by
  unfold V29s11
  simp only [aSl_I, aSl_L, aSl_R, aSl_N, V20_l, Nat.add_assoc, Nat.reduceAdd]
theorem V29s11_AG {f : Nat → Nat → Int32} {μ ν : PM} (h : AG f μ ν) : AG f (V29s11 μ) (V29s11 ν) := (AG_R (V20_AG (AG_N (by decide) h)))
theorem V29s11_w (μ : PM) : rR (V29s11 μ) 41000006 0 = rR μ 41000006 0 := by
  unfold V29s11
  simp only [rI_wI, rL_wL, rR_wR, rI_wL, rI_wR, rL_wI, rL_wR, rR_wI, rR_wL, va_rf_some, va_rf_none, rR_nw, Option.toList_some, Option.toList_none, List.nil_append, List.cons_append, true_and, and_true, false_and, and_false, and_self, if_true, if_false, not_true_eq_false, not_false_eq_true, or_false, false_or, or_true, true_or, or_self, ite_true, ite_false, Option.some.injEq, reduceCtorEq, Nat.reduceMod, Nat.reduceDiv, Nat.reduceLeDiff, Nat.reduceEqDiff, Nat.reduceAdd, Nat.reduceMul, Nat.reduceSub, Nat.reduceLT, sw_nil, sw_int, sw_long, sw_ref, V20_q]
theorem V29s11_r (μ : PM) (j : Nat) : rR (V29s11 μ) 2000010 j = rR μ 2000010 j := by
  unfold V29s11
  simp only [rI_wI, rL_wL, rR_wR, rI_wL, rI_wR, rL_wI, rL_wR, rR_wI, rR_wL, va_rf_some, va_rf_none, rR_nw, Option.toList_some, Option.toList_none, List.nil_append, List.cons_append, true_and, and_true, false_and, and_false, and_self, if_true, if_false, not_true_eq_false, not_false_eq_true, or_false, false_or, or_true, true_or, or_self, ite_true, ite_false, Option.some.injEq, reduceCtorEq, Nat.reduceMod, Nat.reduceDiv, Nat.reduceLeDiff, Nat.reduceEqDiff, Nat.reduceAdd, Nat.reduceMul, Nat.reduceSub, Nat.reduceLT, sw_nil, sw_int, sw_long, sw_ref, V20_r]
theorem k29s11 {d : Nat} {μ : PM} (h : (aS μ).length = 63) (hr : rR μ 41000006 0 = some 42002024) : ∀ Q, R (d + 1) 63 44 [some (.ref 41000006), some (.int (nI 10))] [] μ Q = R (d + 1) 63 44 [some (.ref 41000006), some (.int (nI 11))] [] (V29s11 μ) Q := by
  intro Q
  have c0 := k20 (d := d) (μ := (nw μ 65000008)) (by simp only [aSl_I, aSl_L, aSl_R, aSl_N, V20_l, h, Nat.reduceAdd])
  have c0 : ∀ Q, R d 81 0 [some (.ref 65000008)] [] (nw μ 65000008) Q = Q none (V20 (nw μ 65000008)) := c0
  unfold V29s11
  rw [r63_44]
  simp (disch := first | assumption | omega) only [r63_47, r63_25, r63_26, r63_28, r63_31, r63_32, r63_35, r63_36, r63_39, r63_39i, r63_40, r63_43, rI_wI, rL_wL, rR_wR, rI_wL, rI_wR, rL_wI, rL_wR, rR_wI, rR_wL, va_rf_some, va_rf_none, Option.toList_some, Option.toList_none, List.nil_append, List.cons_append, true_and, and_true, false_and, and_false, and_self, if_true, if_false, not_true_eq_false, not_false_eq_true, or_false, false_or, or_true, true_or, or_self, ite_true, ite_false, Option.some.injEq, reduceCtorEq, Nat.reduceMod, Nat.reduceDiv, Nat.reduceLeDiff, Nat.reduceEqDiff, Nat.reduceAdd, Nat.reduceMul, Nat.reduceSub, Nat.reduceLT, sw_nil, sw_int, sw_long, sw_ref, li, lo, nI_m1, ng_eq, nn_eq, en_eq, ng_le, ng_lt, Int32.neg_neg, nI_add, pk_mul, nI_clampO, nI_ltO, nI_leO, nI_eqO, nI_subO, nle_t, nle_f, nlt_t, nlt_f, neq_f, ll, nx, aSl_I, aSl_L, aSl_R, aSl_N, V20_l, h, hr, vnb0, vnb1, rR_nw, c0, V20_q]
def V29s12 (μ : PM) : PM := (wR (V21 (nw μ 67000008)) 42002024 12 (some 67000008))
theorem V29s12_l (μ : PM) : (aS (V29s12 μ)).length = (aS μ).length + 2 := by
  unfold V29s12
  simp only [aSl_I, aSl_L, aSl_R, aSl_N, V21_l, Nat.add_assoc, Nat.reduceAdd]
theorem V29s12_AG {f : Nat → Nat → Int32} {μ ν : PM} (h : AG f μ ν) : AG f (V29s12 μ) (V29s12 ν) := (AG_R (V21_AG (AG_N (by decide) h)))
theorem V29s12_w (μ : PM) : rR (V29s12 μ) 41000006 0 = rR μ 41000006 0 := by
  unfold V29s12
  simp only [rI_wI, rL_wL, rR_wR, rI_wL, rI_wR, rL_wI, rL_wR, rR_wI, rR_wL, va_rf_some, va_rf_none, rR_nw, Option.toList_some, Option.toList_none, List.nil_append, List.cons_append, true_and, and_true, false_and, and_false, and_self, if_true, if_false, not_true_eq_false, not_false_eq_true, or_false, false_or, or_true, true_or, or_self, ite_true, ite_false, Option.some.injEq, reduceCtorEq, Nat.reduceMod, Nat.reduceDiv, Nat.reduceLeDiff, Nat.reduceEqDiff, Nat.reduceAdd, Nat.reduceMul, Nat.reduceSub, Nat.reduceLT, sw_nil, sw_int, sw_long, sw_ref, V21_q]
theorem V29s12_r (μ : PM) (j : Nat) : rR (V29s12 μ) 2000010 j = rR μ 2000010 j := by
  unfold V29s12
  simp only [rI_wI, rL_wL, rR_wR, rI_wL, rI_wR, rL_wI, rL_wR, rR_wI, rR_wL, va_rf_some, va_rf_none, rR_nw, Option.toList_some, Option.toList_none, List.nil_append, List.cons_append, true_and, and_true, false_and, and_false, and_self, if_true, if_false, not_true_eq_false, not_false_eq_true, or_false, false_or, or_true, true_or, or_self, ite_true, ite_false, Option.some.injEq, reduceCtorEq, Nat.reduceMod, Nat.reduceDiv, Nat.reduceLeDiff, Nat.reduceEqDiff, Nat.reduceAdd, Nat.reduceMul, Nat.reduceSub, Nat.reduceLT, sw_nil, sw_int, sw_long, sw_ref, V21_r]
theorem k29s12 {d : Nat} {μ : PM} (h : (aS μ).length = 65) (hr : rR μ 41000006 0 = some 42002024) : ∀ Q, R (d + 1) 63 44 [some (.ref 41000006), some (.int (nI 11))] [] μ Q = R (d + 1) 63 44 [some (.ref 41000006), some (.int (nI 12))] [] (V29s12 μ) Q := by
  intro Q
  have c0 := k21 (d := d) (μ := (nw μ 67000008)) (by simp only [aSl_I, aSl_L, aSl_R, aSl_N, V21_l, h, Nat.reduceAdd])
  have c0 : ∀ Q, R d 81 0 [some (.ref 67000008)] [] (nw μ 67000008) Q = Q none (V21 (nw μ 67000008)) := c0
  unfold V29s12
  rw [r63_44]
  simp (disch := first | assumption | omega) only [r63_47, r63_25, r63_26, r63_28, r63_31, r63_32, r63_35, r63_36, r63_39, r63_39i, r63_40, r63_43, rI_wI, rL_wL, rR_wR, rI_wL, rI_wR, rL_wI, rL_wR, rR_wI, rR_wL, va_rf_some, va_rf_none, Option.toList_some, Option.toList_none, List.nil_append, List.cons_append, true_and, and_true, false_and, and_false, and_self, if_true, if_false, not_true_eq_false, not_false_eq_true, or_false, false_or, or_true, true_or, or_self, ite_true, ite_false, Option.some.injEq, reduceCtorEq, Nat.reduceMod, Nat.reduceDiv, Nat.reduceLeDiff, Nat.reduceEqDiff, Nat.reduceAdd, Nat.reduceMul, Nat.reduceSub, Nat.reduceLT, sw_nil, sw_int, sw_long, sw_ref, li, lo, nI_m1, ng_eq, nn_eq, en_eq, ng_le, ng_lt, Int32.neg_neg, nI_add, pk_mul, nI_clampO, nI_ltO, nI_leO, nI_eqO, nI_subO, nle_t, nle_f, nlt_t, nlt_f, neq_f, ll, nx, aSl_I, aSl_L, aSl_R, aSl_N, V21_l, h, hr, vnb0, vnb1, rR_nw, c0, V21_q]
def V29s13 (μ : PM) : PM := (wR (V22 (nw μ 69000008)) 42002024 13 (some 69000008))
theorem V29s13_l (μ : PM) : (aS (V29s13 μ)).length = (aS μ).length + 2 := by
  unfold V29s13
  simp only [aSl_I, aSl_L, aSl_R, aSl_N, V22_l, Nat.add_assoc, Nat.reduceAdd]
theorem V29s13_AG {f : Nat → Nat → Int32} {μ ν : PM} (h : AG f μ ν) : AG f (V29s13 μ) (V29s13 ν) := (AG_R (V22_AG (AG_N (by decide) h)))
theorem V29s13_w (μ : PM) : rR (V29s13 μ) 41000006 0 = rR μ 41000006 0 := by
  unfold V29s13
  simp only [rI_wI, rL_wL, rR_wR, rI_wL, rI_wR, rL_wI, rL_wR, rR_wI, rR_wL, va_rf_some, va_rf_none, rR_nw, Option.toList_some, Option.toList_none, List.nil_append, List.cons_append, true_and, and_true, false_and, and_false, and_self, if_true, if_false, not_true_eq_false, not_false_eq_true, or_false, false_or, or_true, true_or, or_self, ite_true, ite_false, Option.some.injEq, reduceCtorEq, Nat.reduceMod, Nat.reduceDiv, Nat.reduceLeDiff, Nat.reduceEqDiff, Nat.reduceAdd, Nat.reduceMul, Nat.reduceSub, Nat.reduceLT, sw_nil, sw_int, sw_long, sw_ref, V22_q]
theorem V29s13_r (μ : PM) (j : Nat) : rR (V29s13 μ) 2000010 j = rR μ 2000010 j := by
  unfold V29s13
  simp only [rI_wI, rL_wL, rR_wR, rI_wL, rI_wR, rL_wI, rL_wR, rR_wI, rR_wL, va_rf_some, va_rf_none, rR_nw, Option.toList_some, Option.toList_none, List.nil_append, List.cons_append, true_and, and_true, false_and, and_false, and_self, if_true, if_false, not_true_eq_false, not_false_eq_true, or_false, false_or, or_true, true_or, or_self, ite_true, ite_false, Option.some.injEq, reduceCtorEq, Nat.reduceMod, Nat.reduceDiv, Nat.reduceLeDiff, Nat.reduceEqDiff, Nat.reduceAdd, Nat.reduceMul, Nat.reduceSub, Nat.reduceLT, sw_nil, sw_int, sw_long, sw_ref, V22_r]
theorem k29s13 {d : Nat} {μ : PM} (h : (aS μ).length = 67) (hr : rR μ 41000006 0 = some 42002024) : ∀ Q, R (d + 1) 63 44 [some (.ref 41000006), some (.int (nI 12))] [] μ Q = R (d + 1) 63 44 [some (.ref 41000006), some (.int (nI 13))] [] (V29s13 μ) Q := by
  intro Q
  have c0 := k22 (d := d) (μ := (nw μ 69000008)) (by simp only [aSl_I, aSl_L, aSl_R, aSl_N, V22_l, h, Nat.reduceAdd])
  have c0 : ∀ Q, R d 81 0 [some (.ref 69000008)] [] (nw μ 69000008) Q = Q none (V22 (nw μ 69000008)) := c0
  unfold V29s13
  rw [r63_44]
  simp (disch := first | assumption | omega) only [r63_47, r63_25, r63_26, r63_28, r63_31, r63_32, r63_35, r63_36, r63_39, r63_39i, r63_40, r63_43, rI_wI, rL_wL, rR_wR, rI_wL, rI_wR, rL_wI, rL_wR, rR_wI, rR_wL, va_rf_some, va_rf_none, Option.toList_some, Option.toList_none, List.nil_append, List.cons_append, true_and, and_true, false_and, and_false, and_self, if_true, if_false, not_true_eq_false, not_false_eq_true, or_false, false_or, or_true, true_or, or_self, ite_true, ite_false, Option.some.injEq, reduceCtorEq, Nat.reduceMod, Nat.reduceDiv, Nat.reduceLeDiff, Nat.reduceEqDiff, Nat.reduceAdd, Nat.reduceMul, Nat.reduceSub, Nat.reduceLT, sw_nil, sw_int, sw_long, sw_ref, li, lo, nI_m1, ng_eq, nn_eq, en_eq, ng_le, ng_lt, Int32.neg_neg, nI_add, pk_mul, nI_clampO, nI_ltO, nI_leO, nI_eqO, nI_subO, nle_t, nle_f, nlt_t, nlt_f, neq_f, ll, nx, aSl_I, aSl_L, aSl_R, aSl_N, V22_l, h, hr, vnb0, vnb1, rR_nw, c0, V22_q]
def V29s14 (μ : PM) : PM := (wR (V23 (nw μ 71000008)) 42002024 14 (some 71000008))
theorem V29s14_l (μ : PM) : (aS (V29s14 μ)).length = (aS μ).length + 2 := by
  unfold V29s14
  simp only [aSl_I, aSl_L, aSl_R, aSl_N, V23_l, Nat.add_assoc, Nat.reduceAdd]
theorem V29s14_AG {f : Nat → Nat → Int32} {μ ν : PM} (h : AG f μ ν) : AG f (V29s14 μ) (V29s14 ν) := (AG_R (V23_AG (AG_N (by decide) h)))
theorem V29s14_w (μ : PM) : rR (V29s14 μ) 41000006 0 = rR μ 41000006 0 := by
  unfold V29s14
  simp only [rI_wI, rL_wL, rR_wR, rI_wL, rI_wR, rL_wI, rL_wR, rR_wI, rR_wL, va_rf_some, va_rf_none, rR_nw, Option.toList_some, Option.toList_none, List.nil_append, List.cons_append, true_and, and_true, false_and, and_false, and_self, if_true, if_false, not_true_eq_false, not_false_eq_true, or_false, false_or, or_true, true_or, or_self, ite_true, ite_false, Option.some.injEq, reduceCtorEq, Nat.reduceMod, Nat.reduceDiv, Nat.reduceLeDiff, Nat.reduceEqDiff, Nat.reduceAdd, Nat.reduceMul, Nat.reduceSub, Nat.reduceLT, sw_nil, sw_int, sw_long, sw_ref, V23_q]
theorem V29s14_r (μ : PM) (j : Nat) : rR (V29s14 μ) 2000010 j = rR μ 2000010 j := by
  unfold V29s14
  simp only [rI_wI, rL_wL, rR_wR, rI_wL, rI_wR, rL_wI, rL_wR, rR_wI, rR_wL, va_rf_some, va_rf_none, rR_nw, Option.toList_some, Option.toList_none, List.nil_append, List.cons_append, true_and, and_true, false_and, and_false, and_self, if_true, if_false, not_true_eq_false, not_false_eq_true, or_false, false_or, or_true, true_or, or_self, ite_true, ite_false, Option.some.injEq, reduceCtorEq, Nat.reduceMod, Nat.reduceDiv, Nat.reduceLeDiff, Nat.reduceEqDiff, Nat.reduceAdd, Nat.reduceMul, Nat.reduceSub, Nat.reduceLT, sw_nil, sw_int, sw_long, sw_ref, V23_r]
theorem k29s14 {d : Nat} {μ : PM} (h : (aS μ).length = 69) (hr : rR μ 41000006 0 = some 42002024) : ∀ Q, R (d + 1) 63 44 [some (.ref 41000006), some (.int (nI 13))] [] μ Q = R (d + 1) 63 44 [some (.ref 41000006), some (.int (nI 14))] [] (V29s14 μ) Q := by
  intro Q
  have c0 := k23 (d := d) (μ := (nw μ 71000008)) (by simp only [aSl_I, aSl_L, aSl_R, aSl_N, V23_l, h, Nat.reduceAdd])
  have c0 : ∀ Q, R d 81 0 [some (.ref 71000008)] [] (nw μ 71000008) Q = Q none (V23 (nw μ 71000008)) := c0
  unfold V29s14
  rw [r63_44]
  simp (disch := first | assumption | omega) only [r63_47, r63_25, r63_26, r63_28, r63_31, r63_32, r63_35, r63_36, r63_39, r63_39i, r63_40, r63_43, rI_wI, rL_wL, rR_wR, rI_wL, rI_wR, rL_wI, rL_wR, rR_wI, rR_wL, va_rf_some, va_rf_none, Option.toList_some, Option.toList_none, List.nil_append, List.cons_append, true_and, and_true, false_and, and_false, and_self, if_true, if_false, not_true_eq_false, not_false_eq_true, or_false, false_or, or_true, true_or, or_self, ite_true, ite_false, Option.some.injEq, reduceCtorEq, Nat.reduceMod, Nat.reduceDiv, Nat.reduceLeDiff, Nat.reduceEqDiff, Nat.reduceAdd, Nat.reduceMul, Nat.reduceSub, Nat.reduceLT, sw_nil, sw_int, sw_long, sw_ref, li, lo, nI_m1, ng_eq, nn_eq, en_eq, ng_le, ng_lt, Int32.neg_neg, nI_add, pk_mul, nI_clampO, nI_ltO, nI_leO, nI_eqO, nI_subO, nle_t, nle_f, nlt_t, nlt_f, neq_f, ll, nx, aSl_I, aSl_L, aSl_R, aSl_N, V23_l, h, hr, vnb0, vnb1, rR_nw, c0, V23_q]
def V29s15 (μ : PM) : PM := (wR (V24 (nw μ 73000008)) 42002024 15 (some 73000008))
theorem V29s15_l (μ : PM) : (aS (V29s15 μ)).length = (aS μ).length + 2 := by
  unfold V29s15
  simp only [aSl_I, aSl_L, aSl_R, aSl_N, V24_l, Nat.add_assoc, Nat.reduceAdd]
theorem V29s15_AG {f : Nat → Nat → Int32} {μ ν : PM} (h : AG f μ ν) : AG f (V29s15 μ) (V29s15 ν) := (AG_R (V24_AG (AG_N (by decide) h)))
theorem V29s15_w (μ : PM) : rR (V29s15 μ) 41000006 0 = rR μ 41000006 0 := by
  unfold V29s15
  simp only [rI_wI, rL_wL, rR_wR, rI_wL, rI_wR, rL_wI, rL_wR, rR_wI, rR_wL, va_rf_some, va_rf_none, rR_nw, Option.toList_some, Option.toList_none, List.nil_append, List.cons_append, true_and, and_true, false_and, and_false, and_self, if_true, if_false, not_true_eq_false, not_false_eq_true, or_false, false_or, or_true, true_or, or_self, ite_true, ite_false, Option.some.injEq, reduceCtorEq, Nat.reduceMod, Nat.reduceDiv, Nat.reduceLeDiff, Nat.reduceEqDiff, Nat.reduceAdd, Nat.reduceMul, Nat.reduceSub, Nat.reduceLT, sw_nil, sw_int, sw_long, sw_ref, V24_q]
theorem V29s15_r (μ : PM) (j : Nat) : rR (V29s15 μ) 2000010 j = rR μ 2000010 j := by
  unfold V29s15
  simp only [rI_wI, rL_wL, rR_wR, rI_wL, rI_wR, rL_wI, rL_wR, rR_wI, rR_wL, va_rf_some, va_rf_none, rR_nw, Option.toList_some, Option.toList_none, List.nil_append, List.cons_append, true_and, and_true, false_and, and_false, and_self, if_true, if_false, not_true_eq_false, not_false_eq_true, or_false, false_or, or_true, true_or, or_self, ite_true, ite_false, Option.some.injEq, reduceCtorEq, Nat.reduceMod, Nat.reduceDiv, Nat.reduceLeDiff, Nat.reduceEqDiff, Nat.reduceAdd, Nat.reduceMul, Nat.reduceSub, Nat.reduceLT, sw_nil, sw_int, sw_long, sw_ref, V24_r]
theorem k29s15 {d : Nat} {μ : PM} (h : (aS μ).length = 71) (hr : rR μ 41000006 0 = some 42002024) : ∀ Q, R (d + 1) 63 44 [some (.ref 41000006), some (.int (nI 14))] [] μ Q = R (d + 1) 63 44 [some (.ref 41000006), some (.int (nI 15))] [] (V29s15 μ) Q := by
  intro Q
  have c0 := k24 (d := d) (μ := (nw μ 73000008)) (by simp only [aSl_I, aSl_L, aSl_R, aSl_N, V24_l, h, Nat.reduceAdd])
  have c0 : ∀ Q, R d 81 0 [some (.ref 73000008)] [] (nw μ 73000008) Q = Q none (V24 (nw μ 73000008)) := c0
  unfold V29s15
  rw [r63_44]
  simp (disch := first | assumption | omega) only [r63_47, r63_25, r63_26, r63_28, r63_31, r63_32, r63_35, r63_36, r63_39, r63_39i, r63_40, r63_43, rI_wI, rL_wL, rR_wR, rI_wL, rI_wR, rL_wI, rL_wR, rR_wI, rR_wL, va_rf_some, va_rf_none, Option.toList_some, Option.toList_none, List.nil_append, List.cons_append, true_and, and_true, false_and, and_false, and_self, if_true, if_false, not_true_eq_false, not_false_eq_true, or_false, false_or, or_true, true_or, or_self, ite_true, ite_false, Option.some.injEq, reduceCtorEq, Nat.reduceMod, Nat.reduceDiv, Nat.reduceLeDiff, Nat.reduceEqDiff, Nat.reduceAdd, Nat.reduceMul, Nat.reduceSub, Nat.reduceLT, sw_nil, sw_int, sw_long, sw_ref, li, lo, nI_m1, ng_eq, nn_eq, en_eq, ng_le, ng_lt, Int32.neg_neg, nI_add, pk_mul, nI_clampO, nI_ltO, nI_leO, nI_eqO, nI_subO, nle_t, nle_f, nlt_t, nlt_f, neq_f, ll, nx, aSl_I, aSl_L, aSl_R, aSl_N, V24_l, h, hr, vnb0, vnb1, rR_nw, c0, V24_q]
def V29s16 (μ : PM) : PM := (wR (V25 (nw μ 75000008)) 42002024 16 (some 75000008))
theorem V29s16_l (μ : PM) : (aS (V29s16 μ)).length = (aS μ).length + 2 := by
  unfold V29s16
  simp only [aSl_I, aSl_L, aSl_R, aSl_N, V25_l, Nat.add_assoc, Nat.reduceAdd]
theorem V29s16_AG {f : Nat → Nat → Int32} {μ ν : PM} (h : AG f μ ν) : AG f (V29s16 μ) (V29s16 ν) := (AG_R (V25_AG (AG_N (by decide) h)))
theorem V29s16_w (μ : PM) : rR (V29s16 μ) 41000006 0 = rR μ 41000006 0 := by
  unfold V29s16
  simp only [rI_wI, rL_wL, rR_wR, rI_wL, rI_wR, rL_wI, rL_wR, rR_wI, rR_wL, va_rf_some, va_rf_none, rR_nw, Option.toList_some, Option.toList_none, List.nil_append, List.cons_append, true_and, and_true, false_and, and_false, and_self, if_true, if_false, not_true_eq_false, not_false_eq_true, or_false, false_or, or_true, true_or, or_self, ite_true, ite_false, Option.some.injEq, reduceCtorEq, Nat.reduceMod, Nat.reduceDiv, Nat.reduceLeDiff, Nat.reduceEqDiff, Nat.reduceAdd, Nat.reduceMul, Nat.reduceSub, Nat.reduceLT, sw_nil, sw_int, sw_long, sw_ref, V25_q]
theorem V29s16_r (μ : PM) (j : Nat) : rR (V29s16 μ) 2000010 j = rR μ 2000010 j := by
  unfold V29s16
  simp only [rI_wI, rL_wL, rR_wR, rI_wL, rI_wR, rL_wI, rL_wR, rR_wI, rR_wL, va_rf_some, va_rf_none, rR_nw, Option.toList_some, Option.toList_none, List.nil_append, List.cons_append, true_and, and_true, false_and, and_false, and_self, if_true, if_false, not_true_eq_false, not_false_eq_true, or_false, false_or, or_true, true_or, or_self, ite_true, ite_false, Option.some.injEq, reduceCtorEq, Nat.reduceMod, Nat.reduceDiv, Nat.reduceLeDiff, Nat.reduceEqDiff, Nat.reduceAdd, Nat.reduceMul, Nat.reduceSub, Nat.reduceLT, sw_nil, sw_int, sw_long, sw_ref, V25_r]
theorem k29s16 {d : Nat} {μ : PM} (h : (aS μ).length = 73) (hr : rR μ 41000006 0 = some 42002024) : ∀ Q, R (d + 1) 63 44 [some (.ref 41000006), some (.int (nI 15))] [] μ Q = R (d + 1) 63 44 [some (.ref 41000006), some (.int (nI 16))] [] (V29s16 μ) Q := by
  intro Q
  have c0 := k25 (d := d) (μ := (nw μ 75000008)) (by simp only [aSl_I, aSl_L, aSl_R, aSl_N, V25_l, h, Nat.reduceAdd])
  have c0 : ∀ Q, R d 81 0 [some (.ref 75000008)] [] (nw μ 75000008) Q = Q none (V25 (nw μ 75000008)) := c0
  unfold V29s16
  rw [r63_44]
  simp (disch := first | assumption | omega) only [r63_47, r63_25, r63_26, r63_28, r63_31, r63_32, r63_35, r63_36, r63_39, r63_39i, r63_40, r63_43, rI_wI, rL_wL, rR_wR, rI_wL, rI_wR, rL_wI, rL_wR, rR_wI, rR_wL, va_rf_some, va_rf_none, Option.toList_some, Option.toList_none, List.nil_append, List.cons_append, true_and, and_true, false_and, and_false, and_self, if_true, if_false, not_true_eq_false, not_false_eq_true, or_false, false_or, or_true, true_or, or_self, ite_true, ite_false, Option.some.injEq, reduceCtorEq, Nat.reduceMod, Nat.reduceDiv, Nat.reduceLeDiff, Nat.reduceEqDiff, Nat.reduceAdd, Nat.reduceMul, Nat.reduceSub, Nat.reduceLT, sw_nil, sw_int, sw_long, sw_ref, li, lo, nI_m1, ng_eq, nn_eq, en_eq, ng_le, ng_lt, Int32.neg_neg, nI_add, pk_mul, nI_clampO, nI_ltO, nI_leO, nI_eqO, nI_subO, nle_t, nle_f, nlt_t, nlt_f, neq_f, ll, nx, aSl_I, aSl_L, aSl_R, aSl_N, V25_l, h, hr, vnb0, vnb1, rR_nw, c0, V25_q]
def V29s17 (μ : PM) : PM := (wR (V26 (nw μ 77000008)) 42002024 17 (some 77000008))
theorem V29s17_l (μ : PM) : (aS (V29s17 μ)).length = (aS μ).length + 2 := by
  unfold V29s17
  simp only [aSl_I, aSl_L, aSl_R, aSl_N, V26_l, Nat.add_assoc, Nat.reduceAdd]
theorem V29s17_AG {f : Nat → Nat → Int32} {μ ν : PM} (h : AG f μ ν) : AG f (V29s17 μ) (V29s17 ν) := (AG_R (V26_AG (AG_N (by decide) h)))
theorem V29s17_w (μ : PM) : rR (V29s17 μ) 41000006 0 = rR μ 41000006 0 := by
  unfold V29s17
  simp only [rI_wI, rL_wL, rR_wR, rI_wL, rI_wR, rL_wI, rL_wR, rR_wI, rR_wL, va_rf_some, va_rf_none, rR_nw, Option.toList_some, Option.toList_none, List.nil_append, List.cons_append, true_and, and_true, false_and, and_false, and_self, if_true, if_false, not_true_eq_false, not_false_eq_true, or_false, false_or, or_true, true_or, or_self, ite_true, ite_false, Option.some.injEq, reduceCtorEq, Nat.reduceMod, Nat.reduceDiv, Nat.reduceLeDiff, Nat.reduceEqDiff, Nat.reduceAdd, Nat.reduceMul, Nat.reduceSub, Nat.reduceLT, sw_nil, sw_int, sw_long, sw_ref, V26_q]
theorem V29s17_r (μ : PM) (j : Nat) : rR (V29s17 μ) 2000010 j = rR μ 2000010 j := by
  unfold V29s17
  simp only [rI_wI, rL_wL, rR_wR, rI_wL, rI_wR, rL_wI, rL_wR, rR_wI, rR_wL, va_rf_some, va_rf_none, rR_nw, Option.toList_some, Option.toList_none, List.nil_append, List.cons_append, true_and, and_true, false_and, and_false, and_self, if_true, if_false, not_true_eq_false, not_false_eq_true, or_false, false_or, or_true, true_or, or_self, ite_true, ite_false, Option.some.injEq, reduceCtorEq, Nat.reduceMod, Nat.reduceDiv, Nat.reduceLeDiff, Nat.reduceEqDiff, Nat.reduceAdd, Nat.reduceMul, Nat.reduceSub, Nat.reduceLT, sw_nil, sw_int, sw_long, sw_ref, V26_r]
theorem k29s17 {d : Nat} {μ : PM} (h : (aS μ).length = 75) (hr : rR μ 41000006 0 = some 42002024) : ∀ Q, R (d + 1) 63 44 [some (.ref 41000006), some (.int (nI 16))] [] μ Q = R (d + 1) 63 44 [some (.ref 41000006), some (.int (nI 17))] [] (V29s17 μ) Q := by
  intro Q
  have c0 := k26 (d := d) (μ := (nw μ 77000008)) (by simp only [aSl_I, aSl_L, aSl_R, aSl_N, V26_l, h, Nat.reduceAdd])
  have c0 : ∀ Q, R d 81 0 [some (.ref 77000008)] [] (nw μ 77000008) Q = Q none (V26 (nw μ 77000008)) := c0
  unfold V29s17
  rw [r63_44]
  simp (disch := first | assumption | omega) only [r63_47, r63_25, r63_26, r63_28, r63_31, r63_32, r63_35, r63_36, r63_39, r63_39i, r63_40, r63_43, rI_wI, rL_wL, rR_wR, rI_wL, rI_wR, rL_wI, rL_wR, rR_wI, rR_wL, va_rf_some, va_rf_none, Option.toList_some, Option.toList_none, List.nil_append, List.cons_append, true_and, and_true, false_and, and_false, and_self, if_true, if_false, not_true_eq_false, not_false_eq_true, or_false, false_or, or_true, true_or, or_self, ite_true, ite_false, Option.some.injEq, reduceCtorEq, Nat.reduceMod, Nat.reduceDiv, Nat.reduceLeDiff, Nat.reduceEqDiff, Nat.reduceAdd, Nat.reduceMul, Nat.reduceSub, Nat.reduceLT, sw_nil, sw_int, sw_long, sw_ref, li, lo, nI_m1, ng_eq, nn_eq, en_eq, ng_le, ng_lt, Int32.neg_neg, nI_add, pk_mul, nI_clampO, nI_ltO, nI_leO, nI_eqO, nI_subO, nle_t, nle_f, nlt_t, nlt_f, neq_f, ll, nx, aSl_I, aSl_L, aSl_R, aSl_N, V26_l, h, hr, vnb0, vnb1, rR_nw, c0, V26_q]
def V29s18 (μ : PM) : PM := (wR (V27 (nw μ 79000008)) 42002024 18 (some 79000008))
theorem V29s18_l (μ : PM) : (aS (V29s18 μ)).length = (aS μ).length + 2 := by
  unfold V29s18
  simp only [aSl_I, aSl_L, aSl_R, aSl_N, V27_l, Nat.add_assoc, Nat.reduceAdd]
theorem V29s18_AG {f : Nat → Nat → Int32} {μ ν : PM} (h : AG f μ ν) : AG f (V29s18 μ) (V29s18 ν) := (AG_R (V27_AG (AG_N (by decide) h)))
theorem V29s18_w (μ : PM) : rR (V29s18 μ) 41000006 0 = rR μ 41000006 0 := by
  unfold V29s18
  simp only [rI_wI, rL_wL, rR_wR, rI_wL, rI_wR, rL_wI, rL_wR, rR_wI, rR_wL, va_rf_some, va_rf_none, rR_nw, Option.toList_some, Option.toList_none, List.nil_append, List.cons_append, true_and, and_true, false_and, and_false, and_self, if_true, if_false, not_true_eq_false, not_false_eq_true, or_false, false_or, or_true, true_or, or_self, ite_true, ite_false, Option.some.injEq, reduceCtorEq, Nat.reduceMod, Nat.reduceDiv, Nat.reduceLeDiff, Nat.reduceEqDiff, Nat.reduceAdd, Nat.reduceMul, Nat.reduceSub, Nat.reduceLT, sw_nil, sw_int, sw_long, sw_ref, V27_q]
theorem V29s18_r (μ : PM) (j : Nat) : rR (V29s18 μ) 2000010 j = rR μ 2000010 j := by
  unfold V29s18
  simp only [rI_wI, rL_wL, rR_wR, rI_wL, rI_wR, rL_wI, rL_wR, rR_wI, rR_wL, va_rf_some, va_rf_none, rR_nw, Option.toList_some, Option.toList_none, List.nil_append, List.cons_append, true_and, and_true, false_and, and_false, and_self, if_true, if_false, not_true_eq_false, not_false_eq_true, or_false, false_or, or_true, true_or, or_self, ite_true, ite_false, Option.some.injEq, reduceCtorEq, Nat.reduceMod, Nat.reduceDiv, Nat.reduceLeDiff, Nat.reduceEqDiff, Nat.reduceAdd, Nat.reduceMul, Nat.reduceSub, Nat.reduceLT, sw_nil, sw_int, sw_long, sw_ref, V27_r]
theorem k29s18 {d : Nat} {μ : PM} (h : (aS μ).length = 77) (hr : rR μ 41000006 0 = some 42002024) : ∀ Q, R (d + 1) 63 44 [some (.ref 41000006), some (.int (nI 17))] [] μ Q = R (d + 1) 63 44 [some (.ref 41000006), some (.int (nI 18))] [] (V29s18 μ) Q := by
  intro Q
  have c0 := k27 (d := d) (μ := (nw μ 79000008)) (by simp only [aSl_I, aSl_L, aSl_R, aSl_N, V27_l, h, Nat.reduceAdd])
  have c0 : ∀ Q, R d 81 0 [some (.ref 79000008)] [] (nw μ 79000008) Q = Q none (V27 (nw μ 79000008)) := c0
  unfold V29s18
  rw [r63_44]
  simp (disch := first | assumption | omega) only [r63_47, r63_25, r63_26, r63_28, r63_31, r63_32, r63_35, r63_36, r63_39, r63_39i, r63_40, r63_43, rI_wI, rL_wL, rR_wR, rI_wL, rI_wR, rL_wI, rL_wR, rR_wI, rR_wL, va_rf_some, va_rf_none, Option.toList_some, Option.toList_none, List.nil_append, List.cons_append, true_and, and_true, false_and, and_false, and_self, if_true, if_false, not_true_eq_false, not_false_eq_true, or_false, false_or, or_true, true_or, or_self, ite_true, ite_false, Option.some.injEq, reduceCtorEq, Nat.reduceMod, Nat.reduceDiv, Nat.reduceLeDiff, Nat.reduceEqDiff, Nat.reduceAdd, Nat.reduceMul, Nat.reduceSub, Nat.reduceLT, sw_nil, sw_int, sw_long, sw_ref, li, lo, nI_m1, ng_eq, nn_eq, en_eq, ng_le, ng_lt, Int32.neg_neg, nI_add, pk_mul, nI_clampO, nI_ltO, nI_leO, nI_eqO, nI_subO, nle_t, nle_f, nlt_t, nlt_f, neq_f, ll, nx, aSl_I, aSl_L, aSl_R, aSl_N, V27_l, h, hr, vnb0, vnb1, rR_nw, c0, V27_q]
def V29s19 (μ : PM) : PM := (wR (V28 (nw μ 81000008)) 42002024 19 (some 81000008))
theorem V29s19_l (μ : PM) : (aS (V29s19 μ)).length = (aS μ).length + 2 := by
  unfold V29s19
  simp only [aSl_I, aSl_L, aSl_R, aSl_N, V28_l, Nat.add_assoc, Nat.reduceAdd]
theorem V29s19_AG {f : Nat → Nat → Int32} {μ ν : PM} (h : AG f μ ν) : AG f (V29s19 μ) (V29s19 ν) := (AG_R (V28_AG (AG_N (by decide) h)))
theorem V29s19_w (μ : PM) : rR (V29s19 μ) 41000006 0 = rR μ 41000006 0 := by
  unfold V29s19
  simp only [rI_wI, rL_wL, rR_wR, rI_wL, rI_wR, rL_wI, rL_wR, rR_wI, rR_wL, va_rf_some, va_rf_none, rR_nw, Option.toList_some, Option.toList_none, List.nil_append, List.cons_append, true_and, and_true, false_and, and_false, and_self, if_true, if_false, not_true_eq_false, not_false_eq_true, or_false, false_or, or_true, true_or, or_self, ite_true, ite_false, Option.some.injEq, reduceCtorEq, Nat.reduceMod, Nat.reduceDiv, Nat.reduceLeDiff, Nat.reduceEqDiff, Nat.reduceAdd, Nat.reduceMul, Nat.reduceSub, Nat.reduceLT, sw_nil, sw_int, sw_long, sw_ref, V28_q]
theorem V29s19_r (μ : PM) (j : Nat) : rR (V29s19 μ) 2000010 j = rR μ 2000010 j := by
  unfold V29s19
  simp only [rI_wI, rL_wL, rR_wR, rI_wL, rI_wR, rL_wI, rL_wR, rR_wI, rR_wL, va_rf_some, va_rf_none, rR_nw, Option.toList_some, Option.toList_none, List.nil_append, List.cons_append, true_and, and_true, false_and, and_false, and_self, if_true, if_false, not_true_eq_false, not_false_eq_true, or_false, false_or, or_true, true_or, or_self, ite_true, ite_false, Option.some.injEq, reduceCtorEq, Nat.reduceMod, Nat.reduceDiv, Nat.reduceLeDiff, Nat.reduceEqDiff, Nat.reduceAdd, Nat.reduceMul, Nat.reduceSub, Nat.reduceLT, sw_nil, sw_int, sw_long, sw_ref, V28_r]
theorem k29s19 {d : Nat} {μ : PM} (h : (aS μ).length = 79) (hr : rR μ 41000006 0 = some 42002024) : ∀ Q, R (d + 1) 63 44 [some (.ref 41000006), some (.int (nI 18))] [] μ Q = R (d + 1) 63 44 [some (.ref 41000006), some (.int (nI 19))] [] (V29s19 μ) Q := by
  intro Q
  have c0 := k28 (d := d) (μ := (nw μ 81000008)) (by simp only [aSl_I, aSl_L, aSl_R, aSl_N, V28_l, h, Nat.reduceAdd])
  have c0 : ∀ Q, R d 81 0 [some (.ref 81000008)] [] (nw μ 81000008) Q = Q none (V28 (nw μ 81000008)) := c0
  unfold V29s19
  rw [r63_44]
  simp (disch := first | assumption | omega) only [r63_47, r63_25, r63_26, r63_28, r63_31, r63_32, r63_35, r63_36, r63_39, r63_39i, r63_40, r63_43, rI_wI, rL_wL, rR_wR, rI_wL, rI_wR, rL_wI, rL_wR, rR_wI, rR_wL, va_rf_some, va_rf_none, Option.toList_some, Option.toList_none, List.nil_append, List.cons_append, true_and, and_true, false_and, and_false, and_self, if_true, if_false, not_true_eq_false, not_false_eq_true, or_false, false_or, or_true, true_or, or_self, ite_true, ite_false, Option.some.injEq, reduceCtorEq, Nat.reduceMod, Nat.reduceDiv, Nat.reduceLeDiff, Nat.reduceEqDiff, Nat.reduceAdd, Nat.reduceMul, Nat.reduceSub, Nat.reduceLT, sw_nil, sw_int, sw_long, sw_ref, li, lo, nI_m1, ng_eq, nn_eq, en_eq, ng_le, ng_lt, Int32.neg_neg, nI_add, pk_mul, nI_clampO, nI_ltO, nI_leO, nI_eqO, nI_subO, nle_t, nle_f, nlt_t, nlt_f, neq_f, ll, nx, aSl_I, aSl_L, aSl_R, aSl_N, V28_l, h, hr, vnb0, vnb1, rR_nw, c0, V28_q]
def V29s20 (μ : PM) : PM := μ
theorem V29s20_l (μ : PM) : (aS (V29s20 μ)).length = (aS μ).length + 0 := rfl
theorem V29s20_AG {f : Nat → Nat → Int32} {μ ν : PM} (h : AG f μ ν) : AG f (V29s20 μ) (V29s20 ν) := h
theorem V29s20_w (μ : PM) : rR (V29s20 μ) 41000006 0 = rR μ 41000006 0 := rfl
theorem V29s20_r (μ : PM) (j : Nat) : rR (V29s20 μ) 2000010 j = rR μ 2000010 j := rfl
theorem k29s20 {d : Nat} {μ : PM} (h : (aS μ).length = 81) : ∀ Q, R (d + 1) 63 44 [some (.ref 41000006), some (.int (nI 19))] [] μ Q = Q none (V29s20 μ) := by
  intro Q
  unfold V29s20
  simp (disch := first | assumption | omega) only [r63_44, r63_47, r63_25, r63_26, r63_28, r63_50, rI_wI, rL_wL, rR_wR, rI_wL, rI_wR, rL_wI, rL_wR, rR_wI, rR_wL, va_rf_some, va_rf_none, Option.toList_some, Option.toList_none, List.nil_append, List.cons_append, true_and, and_true, false_and, and_false, and_self, if_true, if_false, not_true_eq_false, not_false_eq_true, or_false, false_or, or_true, true_or, or_self, ite_true, ite_false, Option.some.injEq, reduceCtorEq, Nat.reduceMod, Nat.reduceDiv, Nat.reduceLeDiff, Nat.reduceEqDiff, Nat.reduceAdd, Nat.reduceMul, Nat.reduceSub, Nat.reduceLT, sw_nil, sw_int, sw_long, sw_ref, li, lo, nI_m1, ng_eq, nn_eq, en_eq, ng_le, ng_lt, Int32.neg_neg, nI_add, pk_mul, nI_clampO, nI_ltO, nI_leO, nI_eqO, nI_subO, nle_t, nle_f, nlt_t, nlt_f, neq_f, ll, nx, aSl_I, aSl_L, aSl_R, aSl_N, h, vnb0, vnb1, rR_nw]
def V29 (μ : PM) : PM := (V29s20 (V29s19 (V29s18 (V29s17 (V29s16 (V29s15 (V29s14 (V29s13 (V29s12 (V29s11 (V29s10 (V29s9 (V29s8 (V29s7 (V29s6 (V29s5 (V29s4 (V29s3 (V29s2 (V29s1 (V29s0 μ)))))))))))))))))))))
theorem V29_l (μ : PM) : (aS (V29 μ)).length = (aS μ).length + 41 := by
  unfold V29
  simp only [V29s0_l, V29s1_l, V29s2_l, V29s3_l, V29s4_l, V29s5_l, V29s6_l, V29s7_l, V29s8_l, V29s9_l, V29s10_l, V29s11_l, V29s12_l, V29s13_l, V29s14_l, V29s15_l, V29s16_l, V29s17_l, V29s18_l, V29s19_l, V29s20_l, Nat.add_assoc, Nat.reduceAdd]
theorem V29_AG {f : Nat → Nat → Int32} {μ ν : PM} (h : AG f μ ν) : AG f (V29 μ) (V29 ν) := (V29s20_AG (V29s19_AG (V29s18_AG (V29s17_AG (V29s16_AG (V29s15_AG (V29s14_AG (V29s13_AG (V29s12_AG (V29s11_AG (V29s10_AG (V29s9_AG (V29s8_AG (V29s7_AG (V29s6_AG (V29s5_AG (V29s4_AG (V29s3_AG (V29s2_AG (V29s1_AG (V29s0_AG h)))))))))))))))))))))
theorem V29_r (μ : PM) (j : Nat) : rR (V29 μ) 2000010 j = rR μ 2000010 j := by
  unfold V29
  rw [V29s20_r, V29s19_r, V29s18_r, V29s17_r, V29s16_r, V29s15_r, V29s14_r, V29s13_r, V29s12_r, V29s11_r, V29s10_r, V29s9_r, V29s8_r, V29s7_r, V29s6_r, V29s5_r, V29s4_r, V29s3_r, V29s2_r, V29s1_r, V29s0_r]
theorem k29 {d : Nat} {μ : PM} (h : (aS μ).length = 40) : ∀ Q, R (d + 1) 63 0 [some (.ref 41000006), none] [] μ Q = Q none (V29 μ) := by
  intro Q
  have h0 : (aS μ).length = 40 := by exact h
  have h1 : (aS (V29s0 μ)).length = 43 := by simp only [V29s0_l, V29s1_l, V29s2_l, V29s3_l, V29s4_l, V29s5_l, V29s6_l, V29s7_l, V29s8_l, V29s9_l, V29s10_l, V29s11_l, V29s12_l, V29s13_l, V29s14_l, V29s15_l, V29s16_l, V29s17_l, V29s18_l, V29s19_l, V29s20_l, h, Nat.reduceAdd]
  have w1 : rR (V29s0 μ) 41000006 0 = some 42002024 := by rw [V29s0_w]
  have h2 : (aS (V29s1 (V29s0 μ))).length = 45 := by simp only [V29s0_l, V29s1_l, V29s2_l, V29s3_l, V29s4_l, V29s5_l, V29s6_l, V29s7_l, V29s8_l, V29s9_l, V29s10_l, V29s11_l, V29s12_l, V29s13_l, V29s14_l, V29s15_l, V29s16_l, V29s17_l, V29s18_l, V29s19_l, V29s20_l, h, Nat.reduceAdd]
  have w2 : rR (V29s1 (V29s0 μ)) 41000006 0 = some 42002024 := by rw [V29s1_w, V29s0_w]
  have h3 : (aS (V29s2 (V29s1 (V29s0 μ)))).length = 47 := by simp only [V29s0_l, V29s1_l, V29s2_l, V29s3_l, V29s4_l, V29s5_l, V29s6_l, V29s7_l, V29s8_l, V29s9_l, V29s10_l, V29s11_l, V29s12_l, V29s13_l, V29s14_l, V29s15_l, V29s16_l, V29s17_l, V29s18_l, V29s19_l, V29s20_l, h, Nat.reduceAdd]
  have w3 : rR (V29s2 (V29s1 (V29s0 μ))) 41000006 0 = some 42002024 := by rw [V29s2_w, V29s1_w, V29s0_w]
  have h4 : (aS (V29s3 (V29s2 (V29s1 (V29s0 μ))))).length = 49 := by simp only [V29s0_l, V29s1_l, V29s2_l, V29s3_l, V29s4_l, V29s5_l, V29s6_l, V29s7_l, V29s8_l, V29s9_l, V29s10_l, V29s11_l, V29s12_l, V29s13_l, V29s14_l, V29s15_l, V29s16_l, V29s17_l, V29s18_l, V29s19_l, V29s20_l, h, Nat.reduceAdd]
  have w4 : rR (V29s3 (V29s2 (V29s1 (V29s0 μ)))) 41000006 0 = some 42002024 := by rw [V29s3_w, V29s2_w, V29s1_w, V29s0_w]
  have h5 : (aS (V29s4 (V29s3 (V29s2 (V29s1 (V29s0 μ)))))).length = 51 := by simp only [V29s0_l, V29s1_l, V29s2_l, V29s3_l, V29s4_l, V29s5_l, V29s6_l, V29s7_l, V29s8_l, V29s9_l, V29s10_l, V29s11_l, V29s12_l, V29s13_l, V29s14_l, V29s15_l, V29s16_l, V29s17_l, V29s18_l, V29s19_l, V29s20_l, h, Nat.reduceAdd]
  have w5 : rR (V29s4 (V29s3 (V29s2 (V29s1 (V29s0 μ))))) 41000006 0 = some 42002024 := by rw [V29s4_w, V29s3_w, V29s2_w, V29s1_w, V29s0_w]
  have h6 : (aS (V29s5 (V29s4 (V29s3 (V29s2 (V29s1 (V29s0 μ))))))).length = 53 := by simp only [V29s0_l, V29s1_l, V29s2_l, V29s3_l, V29s4_l, V29s5_l, V29s6_l, V29s7_l, V29s8_l, V29s9_l, V29s10_l, V29s11_l, V29s12_l, V29s13_l, V29s14_l, V29s15_l, V29s16_l, V29s17_l, V29s18_l, V29s19_l, V29s20_l, h, Nat.reduceAdd]
  have w6 : rR (V29s5 (V29s4 (V29s3 (V29s2 (V29s1 (V29s0 μ)))))) 41000006 0 = some 42002024 := by rw [V29s5_w, V29s4_w, V29s3_w, V29s2_w, V29s1_w, V29s0_w]
  have h7 : (aS (V29s6 (V29s5 (V29s4 (V29s3 (V29s2 (V29s1 (V29s0 μ)))))))).length = 55 := by simp only [V29s0_l, V29s1_l, V29s2_l, V29s3_l, V29s4_l, V29s5_l, V29s6_l, V29s7_l, V29s8_l, V29s9_l, V29s10_l, V29s11_l, V29s12_l, V29s13_l, V29s14_l, V29s15_l, V29s16_l, V29s17_l, V29s18_l, V29s19_l, V29s20_l, h, Nat.reduceAdd]
  have w7 : rR (V29s6 (V29s5 (V29s4 (V29s3 (V29s2 (V29s1 (V29s0 μ))))))) 41000006 0 = some 42002024 := by rw [V29s6_w, V29s5_w, V29s4_w, V29s3_w, V29s2_w, V29s1_w, V29s0_w]
  have h8 : (aS (V29s7 (V29s6 (V29s5 (V29s4 (V29s3 (V29s2 (V29s1 (V29s0 μ))))))))).length = 57 := by simp only [V29s0_l, V29s1_l, V29s2_l, V29s3_l, V29s4_l, V29s5_l, V29s6_l, V29s7_l, V29s8_l, V29s9_l, V29s10_l, V29s11_l, V29s12_l, V29s13_l, V29s14_l, V29s15_l, V29s16_l, V29s17_l, V29s18_l, V29s19_l, V29s20_l, h, Nat.reduceAdd]
  have w8 : rR (V29s7 (V29s6 (V29s5 (V29s4 (V29s3 (V29s2 (V29s1 (V29s0 μ)))))))) 41000006 0 = some 42002024 := by rw [V29s7_w, V29s6_w, V29s5_w, V29s4_w, V29s3_w, V29s2_w, V29s1_w, V29s0_w]
  have h9 : (aS (V29s8 (V29s7 (V29s6 (V29s5 (V29s4 (V29s3 (V29s2 (V29s1 (V29s0 μ)))))))))).length = 59 := by simp only [V29s0_l, V29s1_l, V29s2_l, V29s3_l, V29s4_l, V29s5_l, V29s6_l, V29s7_l, V29s8_l, V29s9_l, V29s10_l, V29s11_l, V29s12_l, V29s13_l, V29s14_l, V29s15_l, V29s16_l, V29s17_l, V29s18_l, V29s19_l, V29s20_l, h, Nat.reduceAdd]
  have w9 : rR (V29s8 (V29s7 (V29s6 (V29s5 (V29s4 (V29s3 (V29s2 (V29s1 (V29s0 μ))))))))) 41000006 0 = some 42002024 := by rw [V29s8_w, V29s7_w, V29s6_w, V29s5_w, V29s4_w, V29s3_w, V29s2_w, V29s1_w, V29s0_w]
  have h10 : (aS (V29s9 (V29s8 (V29s7 (V29s6 (V29s5 (V29s4 (V29s3 (V29s2 (V29s1 (V29s0 μ))))))))))).length = 61 := by simp only [V29s0_l, V29s1_l, V29s2_l, V29s3_l, V29s4_l, V29s5_l, V29s6_l, V29s7_l, V29s8_l, V29s9_l, V29s10_l, V29s11_l, V29s12_l, V29s13_l, V29s14_l, V29s15_l, V29s16_l, V29s17_l, V29s18_l, V29s19_l, V29s20_l, h, Nat.reduceAdd]
  have w10 : rR (V29s9 (V29s8 (V29s7 (V29s6 (V29s5 (V29s4 (V29s3 (V29s2 (V29s1 (V29s0 μ)))))))))) 41000006 0 = some 42002024 := by rw [V29s9_w, V29s8_w, V29s7_w, V29s6_w, V29s5_w, V29s4_w, V29s3_w, V29s2_w, V29s1_w, V29s0_w]
  have h11 : (aS (V29s10 (V29s9 (V29s8 (V29s7 (V29s6 (V29s5 (V29s4 (V29s3 (V29s2 (V29s1 (V29s0 μ)))))))))))).length = 63 := by simp only [V29s0_l, V29s1_l, V29s2_l, V29s3_l, V29s4_l, V29s5_l, V29s6_l, V29s7_l, V29s8_l, V29s9_l, V29s10_l, V29s11_l, V29s12_l, V29s13_l, V29s14_l, V29s15_l, V29s16_l, V29s17_l, V29s18_l, V29s19_l, V29s20_l, h, Nat.reduceAdd]
  have w11 : rR (V29s10 (V29s9 (V29s8 (V29s7 (V29s6 (V29s5 (V29s4 (V29s3 (V29s2 (V29s1 (V29s0 μ))))))))))) 41000006 0 = some 42002024 := by rw [V29s10_w, V29s9_w, V29s8_w, V29s7_w, V29s6_w, V29s5_w, V29s4_w, V29s3_w, V29s2_w, V29s1_w, V29s0_w]
  have h12 : (aS (V29s11 (V29s10 (V29s9 (V29s8 (V29s7 (V29s6 (V29s5 (V29s4 (V29s3 (V29s2 (V29s1 (V29s0 μ))))))))))))).length = 65 := by simp only [V29s0_l, V29s1_l, V29s2_l, V29s3_l, V29s4_l, V29s5_l, V29s6_l, V29s7_l, V29s8_l, V29s9_l, V29s10_l, V29s11_l, V29s12_l, V29s13_l, V29s14_l, V29s15_l, V29s16_l, V29s17_l, V29s18_l, V29s19_l, V29s20_l, h, Nat.reduceAdd]
  have w12 : rR (V29s11 (V29s10 (V29s9 (V29s8 (V29s7 (V29s6 (V29s5 (V29s4 (V29s3 (V29s2 (V29s1 (V29s0 μ)))))))))))) 41000006 0 = some 42002024 := by rw [V29s11_w, V29s10_w, V29s9_w, V29s8_w, V29s7_w, V29s6_w, V29s5_w, V29s4_w, V29s3_w, V29s2_w, V29s1_w, V29s0_w]
  have h13 : (aS (V29s12 (V29s11 (V29s10 (V29s9 (V29s8 (V29s7 (V29s6 (V29s5 (V29s4 (V29s3 (V29s2 (V29s1 (V29s0 μ)))))))))))))).length = 67 := by simp only [V29s0_l, V29s1_l, V29s2_l, V29s3_l, V29s4_l, V29s5_l, V29s6_l, V29s7_l, V29s8_l, V29s9_l, V29s10_l, V29s11_l, V29s12_l, V29s13_l, V29s14_l, V29s15_l, V29s16_l, V29s17_l, V29s18_l, V29s19_l, V29s20_l, h, Nat.reduceAdd]
  have w13 : rR (V29s12 (V29s11 (V29s10 (V29s9 (V29s8 (V29s7 (V29s6 (V29s5 (V29s4 (V29s3 (V29s2 (V29s1 (V29s0 μ))))))))))))) 41000006 0 = some 42002024 := by rw [V29s12_w, V29s11_w, V29s10_w, V29s9_w, V29s8_w, V29s7_w, V29s6_w, V29s5_w, V29s4_w, V29s3_w, V29s2_w, V29s1_w, V29s0_w]
  have h14 : (aS (V29s13 (V29s12 (V29s11 (V29s10 (V29s9 (V29s8 (V29s7 (V29s6 (V29s5 (V29s4 (V29s3 (V29s2 (V29s1 (V29s0 μ))))))))))))))).length = 69 := by simp only [V29s0_l, V29s1_l, V29s2_l, V29s3_l, V29s4_l, V29s5_l, V29s6_l, V29s7_l, V29s8_l, V29s9_l, V29s10_l, V29s11_l, V29s12_l, V29s13_l, V29s14_l, V29s15_l, V29s16_l, V29s17_l, V29s18_l, V29s19_l, V29s20_l, h, Nat.reduceAdd]
  have w14 : rR (V29s13 (V29s12 (V29s11 (V29s10 (V29s9 (V29s8 (V29s7 (V29s6 (V29s5 (V29s4 (V29s3 (V29s2 (V29s1 (V29s0 μ)))))))))))))) 41000006 0 = some 42002024 := by rw [V29s13_w, V29s12_w, V29s11_w, V29s10_w, V29s9_w, V29s8_w, V29s7_w, V29s6_w, V29s5_w, V29s4_w, V29s3_w, V29s2_w, V29s1_w, V29s0_w]
  have h15 : (aS (V29s14 (V29s13 (V29s12 (V29s11 (V29s10 (V29s9 (V29s8 (V29s7 (V29s6 (V29s5 (V29s4 (V29s3 (V29s2 (V29s1 (V29s0 μ)))))))))))))))).length = 71 := by simp only [V29s0_l, V29s1_l, V29s2_l, V29s3_l, V29s4_l, V29s5_l, V29s6_l, V29s7_l, V29s8_l, V29s9_l, V29s10_l, V29s11_l, V29s12_l, V29s13_l, V29s14_l, V29s15_l, V29s16_l, V29s17_l, V29s18_l, V29s19_l, V29s20_l, h, Nat.reduceAdd]
  have w15 : rR (V29s14 (V29s13 (V29s12 (V29s11 (V29s10 (V29s9 (V29s8 (V29s7 (V29s6 (V29s5 (V29s4 (V29s3 (V29s2 (V29s1 (V29s0 μ))))))))))))))) 41000006 0 = some 42002024 := by rw [V29s14_w, V29s13_w, V29s12_w, V29s11_w, V29s10_w, V29s9_w, V29s8_w, V29s7_w, V29s6_w, V29s5_w, V29s4_w, V29s3_w, V29s2_w, V29s1_w, V29s0_w]
  have h16 : (aS (V29s15 (V29s14 (V29s13 (V29s12 (V29s11 (V29s10 (V29s9 (V29s8 (V29s7 (V29s6 (V29s5 (V29s4 (V29s3 (V29s2 (V29s1 (V29s0 μ))))))))))))))))).length = 73 := by simp only [V29s0_l, V29s1_l, V29s2_l, V29s3_l, V29s4_l, V29s5_l, V29s6_l, V29s7_l, V29s8_l, V29s9_l, V29s10_l, V29s11_l, V29s12_l, V29s13_l, V29s14_l, V29s15_l, V29s16_l, V29s17_l, V29s18_l, V29s19_l, V29s20_l, h, Nat.reduceAdd]
  have w16 : rR (V29s15 (V29s14 (V29s13 (V29s12 (V29s11 (V29s10 (V29s9 (V29s8 (V29s7 (V29s6 (V29s5 (V29s4 (V29s3 (V29s2 (V29s1 (V29s0 μ)))))))))))))))) 41000006 0 = some 42002024 := by rw [V29s15_w, V29s14_w, V29s13_w, V29s12_w, V29s11_w, V29s10_w, V29s9_w, V29s8_w, V29s7_w, V29s6_w, V29s5_w, V29s4_w, V29s3_w, V29s2_w, V29s1_w, V29s0_w]
  have h17 : (aS (V29s16 (V29s15 (V29s14 (V29s13 (V29s12 (V29s11 (V29s10 (V29s9 (V29s8 (V29s7 (V29s6 (V29s5 (V29s4 (V29s3 (V29s2 (V29s1 (V29s0 μ)))))))))))))))))).length = 75 := by simp only [V29s0_l, V29s1_l, V29s2_l, V29s3_l, V29s4_l, V29s5_l, V29s6_l, V29s7_l, V29s8_l, V29s9_l, V29s10_l, V29s11_l, V29s12_l, V29s13_l, V29s14_l, V29s15_l, V29s16_l, V29s17_l, V29s18_l, V29s19_l, V29s20_l, h, Nat.reduceAdd]
  have w17 : rR (V29s16 (V29s15 (V29s14 (V29s13 (V29s12 (V29s11 (V29s10 (V29s9 (V29s8 (V29s7 (V29s6 (V29s5 (V29s4 (V29s3 (V29s2 (V29s1 (V29s0 μ))))))))))))))))) 41000006 0 = some 42002024 := by rw [V29s16_w, V29s15_w, V29s14_w, V29s13_w, V29s12_w, V29s11_w, V29s10_w, V29s9_w, V29s8_w, V29s7_w, V29s6_w, V29s5_w, V29s4_w, V29s3_w, V29s2_w, V29s1_w, V29s0_w]
  have h18 : (aS (V29s17 (V29s16 (V29s15 (V29s14 (V29s13 (V29s12 (V29s11 (V29s10 (V29s9 (V29s8 (V29s7 (V29s6 (V29s5 (V29s4 (V29s3 (V29s2 (V29s1 (V29s0 μ))))))))))))))))))).length = 77 := by simp only [V29s0_l, V29s1_l, V29s2_l, V29s3_l, V29s4_l, V29s5_l, V29s6_l, V29s7_l, V29s8_l, V29s9_l, V29s10_l, V29s11_l, V29s12_l, V29s13_l, V29s14_l, V29s15_l, V29s16_l, V29s17_l, V29s18_l, V29s19_l, V29s20_l, h, Nat.reduceAdd]
  have w18 : rR (V29s17 (V29s16 (V29s15 (V29s14 (V29s13 (V29s12 (V29s11 (V29s10 (V29s9 (V29s8 (V29s7 (V29s6 (V29s5 (V29s4 (V29s3 (V29s2 (V29s1 (V29s0 μ)))))))))))))))))) 41000006 0 = some 42002024 := by rw [V29s17_w, V29s16_w, V29s15_w, V29s14_w, V29s13_w, V29s12_w, V29s11_w, V29s10_w, V29s9_w, V29s8_w, V29s7_w, V29s6_w, V29s5_w, V29s4_w, V29s3_w, V29s2_w, V29s1_w, V29s0_w]
  have h19 : (aS (V29s18 (V29s17 (V29s16 (V29s15 (V29s14 (V29s13 (V29s12 (V29s11 (V29s10 (V29s9 (V29s8 (V29s7 (V29s6 (V29s5 (V29s4 (V29s3 (V29s2 (V29s1 (V29s0 μ)))))))))))))))))))).length = 79 := by simp only [V29s0_l, V29s1_l, V29s2_l, V29s3_l, V29s4_l, V29s5_l, V29s6_l, V29s7_l, V29s8_l, V29s9_l, V29s10_l, V29s11_l, V29s12_l, V29s13_l, V29s14_l, V29s15_l, V29s16_l, V29s17_l, V29s18_l, V29s19_l, V29s20_l, h, Nat.reduceAdd]
  have w19 : rR (V29s18 (V29s17 (V29s16 (V29s15 (V29s14 (V29s13 (V29s12 (V29s11 (V29s10 (V29s9 (V29s8 (V29s7 (V29s6 (V29s5 (V29s4 (V29s3 (V29s2 (V29s1 (V29s0 μ))))))))))))))))))) 41000006 0 = some 42002024 := by rw [V29s18_w, V29s17_w, V29s16_w, V29s15_w, V29s14_w, V29s13_w, V29s12_w, V29s11_w, V29s10_w, V29s9_w, V29s8_w, V29s7_w, V29s6_w, V29s5_w, V29s4_w, V29s3_w, V29s2_w, V29s1_w, V29s0_w]
  have h20 : (aS (V29s19 (V29s18 (V29s17 (V29s16 (V29s15 (V29s14 (V29s13 (V29s12 (V29s11 (V29s10 (V29s9 (V29s8 (V29s7 (V29s6 (V29s5 (V29s4 (V29s3 (V29s2 (V29s1 (V29s0 μ))))))))))))))))))))).length = 81 := by simp only [V29s0_l, V29s1_l, V29s2_l, V29s3_l, V29s4_l, V29s5_l, V29s6_l, V29s7_l, V29s8_l, V29s9_l, V29s10_l, V29s11_l, V29s12_l, V29s13_l, V29s14_l, V29s15_l, V29s16_l, V29s17_l, V29s18_l, V29s19_l, V29s20_l, h, Nat.reduceAdd]
  rw [k29s0 h0 Q, k29s1 h1 w1 Q, k29s2 h2 w2 Q, k29s3 h3 w3 Q, k29s4 h4 w4 Q, k29s5 h5 w5 Q, k29s6 h6 w6 Q, k29s7 h7 w7 Q, k29s8 h8 w8 Q, k29s9 h9 w9 Q, k29s10 h10 w10 Q, k29s11 h11 w11 Q, k29s12 h12 w12 Q, k29s13 h13 w13 Q, k29s14 h14 w14 Q, k29s15 h15 w15 Q, k29s16 h16 w16 Q, k29s17 h17 w17 Q, k29s18 h18 w18 Q, k29s19 h19 w19 Q, k29s20 h20 Q]
  rfl
def V30 (μ : PM) : PM := (wL (wL μ 92000000 0 (lN 0)) 92000000 1 (lN 1))
theorem V30_l (μ : PM) : (aS (V30 μ)).length = (aS μ).length + 0 := rfl
theorem V30_AG {f : Nat → Nat → Int32} {μ ν : PM} (h : AG f μ ν) : AG f (V30 μ) (V30 ν) := (AG_L (AG_L h))
theorem k30 {d : Nat} {μ : PM} (h : (aS μ).length = 91) : ∀ Q, R d 0 0 [some (.ref 92000000)] [] μ Q = Q none (V30 μ) := by
  intro Q
  unfold V30
  simp (disch := first | assumption | omega) only [r0_0, r0_1, r0_4, r0_5, r0_6, r0_9, r0_10, r0_11, r0_14, rI_wI, rL_wL, rR_wR, rI_wL, rI_wR, rL_wI, rL_wR, rR_wI, rR_wL, va_rf_some, va_rf_none, Option.toList_some, Option.toList_none, List.nil_append, List.cons_append, true_and, and_true, false_and, and_false, and_self, if_true, if_false, not_true_eq_false, not_false_eq_true, or_false, false_or, or_true, true_or, or_self, ite_true, ite_false, Option.some.injEq, reduceCtorEq, Nat.reduceMod, Nat.reduceDiv, Nat.reduceLeDiff, Nat.reduceEqDiff, Nat.reduceAdd, Nat.reduceMul, Nat.reduceSub, Nat.reduceLT, sw_nil, sw_int, sw_long, sw_ref, li, lo, nI_m1, ng_eq, nn_eq, en_eq, ng_le, ng_lt, Int32.neg_neg, nI_add, pk_mul, nI_clampO, nI_ltO, nI_leO, nI_eqO, nI_subO, nle_t, nle_f, nlt_t, nlt_f, neq_f, ll, nx, aSl_I, aSl_L, aSl_R, aSl_N, h, vnb0, vnb1, rR_nw]
theorem V30_r (μ : PM) (j : Nat) : rR (V30 μ) 2000010 j = rR μ 2000010 j := by
  unfold V30
  simp only [rI_wI, rL_wL, rR_wR, rI_wL, rI_wR, rL_wI, rL_wR, rR_wI, rR_wL, va_rf_some, va_rf_none, rR_nw, Option.toList_some, Option.toList_none, List.nil_append, List.cons_append, true_and, and_true, false_and, and_false, and_self, if_true, if_false, not_true_eq_false, not_false_eq_true, or_false, false_or, or_true, true_or, or_self, ite_true, ite_false, Option.some.injEq, reduceCtorEq, Nat.reduceMod, Nat.reduceDiv, Nat.reduceLeDiff, Nat.reduceEqDiff, Nat.reduceAdd, Nat.reduceMul, Nat.reduceSub, Nat.reduceLT, sw_nil, sw_int, sw_long, sw_ref]
def V31 (μ : PM) : PM := (wL (wL μ 93000000 0 (lN 0)) 93000000 1 (lN 1))
theorem V31_l (μ : PM) : (aS (V31 μ)).length = (aS μ).length + 0 := rfl
theorem V31_AG {f : Nat → Nat → Int32} {μ ν : PM} (h : AG f μ ν) : AG f (V31 μ) (V31 ν) := (AG_L (AG_L h))
theorem k31 {d : Nat} {μ : PM} (h : (aS μ).length = 92) : ∀ Q, R d 0 0 [some (.ref 93000000)] [] μ Q = Q none (V31 μ) := by
  intro Q
  unfold V31
  simp (disch := first | assumption | omega) only [r0_0, r0_1, r0_4, r0_5, r0_6, r0_9, r0_10, r0_11, r0_14, rI_wI, rL_wL, rR_wR, rI_wL, rI_wR, rL_wI, rL_wR, rR_wI, rR_wL, va_rf_some, va_rf_none, Option.toList_some, Option.toList_none, List.nil_append, List.cons_append, true_and, and_true, false_and, and_false, and_self, if_true, if_false, not_true_eq_false, not_false_eq_true, or_false, false_or, or_true, true_or, or_self, ite_true, ite_false, Option.some.injEq, reduceCtorEq, Nat.reduceMod, Nat.reduceDiv, Nat.reduceLeDiff, Nat.reduceEqDiff, Nat.reduceAdd, Nat.reduceMul, Nat.reduceSub, Nat.reduceLT, sw_nil, sw_int, sw_long, sw_ref, li, lo, nI_m1, ng_eq, nn_eq, en_eq, ng_le, ng_lt, Int32.neg_neg, nI_add, pk_mul, nI_clampO, nI_ltO, nI_leO, nI_eqO, nI_subO, nle_t, nle_f, nlt_t, nlt_f, neq_f, ll, nx, aSl_I, aSl_L, aSl_R, aSl_N, h, vnb0, vnb1, rR_nw]
theorem V31_r (μ : PM) (j : Nat) : rR (V31 μ) 2000010 j = rR μ 2000010 j := by
  unfold V31
  simp only [rI_wI, rL_wL, rR_wR, rI_wL, rI_wR, rL_wI, rL_wR, rR_wI, rR_wL, va_rf_some, va_rf_none, rR_nw, Option.toList_some, Option.toList_none, List.nil_append, List.cons_append, true_and, and_true, false_and, and_false, and_self, if_true, if_false, not_true_eq_false, not_false_eq_true, or_false, false_or, or_true, true_or, or_self, ite_true, ite_false, Option.some.injEq, reduceCtorEq, Nat.reduceMod, Nat.reduceDiv, Nat.reduceLeDiff, Nat.reduceEqDiff, Nat.reduceAdd, Nat.reduceMul, Nat.reduceSub, Nat.reduceLT, sw_nil, sw_int, sw_long, sw_ref]
def V32 (μ : PM) : PM := (wI (wR (V31 (nw (wI (wI (wI (wR (V30 (nw (wR (nw (wR (nw (wR (nw (wR (nw (wR (nw (wR (nw μ 86089620) 85000004 0 (some 86089620)) 87089621) 85000004 1 (some 87089621)) 88089621) 85000004 2 (some 88089621)) 89089620) 85000004 3 (some 89089620)) 90004920) 85000004 4 (some 90004920)) 91004920) 85000004 5 (some 91004920)) 92000000)) 85000004 6 (some 92000000)) 85000004 7 (nI 0)) 85000004 8 (nI 0)) 85000004 9 (nI 0)) 93000000)) 85000004 10 (some 93000000)) 85000004 11 (nI 0))
theorem V32_l (μ : PM) : (aS (V32 μ)).length = (aS μ).length + 8 := by
  unfold V32
  simp only [aSl_I, aSl_L, aSl_R, aSl_N, V30_l, V31_l, Nat.add_assoc, Nat.reduceAdd]
theorem V32_AG {f : Nat → Nat → Int32} {μ ν : PM} (h : AG f μ ν) : AG f (V32 μ) (V32 ν) := (AG_I (by decide) (AG_R (V31_AG (AG_N (by decide) (AG_I (by decide) (AG_I (by decide) (AG_I (by decide) (AG_R (V30_AG (AG_N (by decide) (AG_R (AG_N (by decide) (AG_R (AG_N (by decide) (AG_R (AG_N (by decide) (AG_R (AG_N (by decide) (AG_R (AG_N (by decide) (AG_R (AG_N (by decide) h))))))))))))))))))))))
theorem k32 {d : Nat} {μ : PM} (h : (aS μ).length = 84) : ∀ Q, R (d + 1) 38 0 [some (.ref 85000004)] [] μ Q = Q none (V32 μ) := by
  intro Q
  have c0 := k30 (d := d) (μ := (nw (wR (nw (wR (nw (wR (nw (wR (nw (wR (nw (wR (nw μ 86089620) 85000004 0 (some 86089620)) 87089621) 85000004 1 (some 87089621)) 88089621) 85000004 2 (some 88089621)) 89089620) 85000004 3 (some 89089620)) 90004920) 85000004 4 (some 90004920)) 91004920) 85000004 5 (some 91004920)) 92000000)) (by simp only [aSl_I, aSl_L, aSl_R, aSl_N, V30_l, V31_l, h, Nat.reduceAdd])
  have c0 : ∀ Q, R d 0 0 [some (.ref 92000000)] [] (nw (wR (nw (wR (nw (wR (nw (wR (nw (wR (nw (wR (nw μ 86089620) 85000004 0 (some 86089620)) 87089621) 85000004 1 (some 87089621)) 88089621) 85000004 2 (some 88089621)) 89089620) 85000004 3 (some 89089620)) 90004920) 85000004 4 (some 90004920)) 91004920) 85000004 5 (some 91004920)) 92000000) Q = Q none (V30 (nw (wR (nw (wR (nw (wR (nw (wR (nw (wR (nw (wR (nw μ 86089620) 85000004 0 (some 86089620)) 87089621) 85000004 1 (some 87089621)) 88089621) 85000004 2 (some 88089621)) 89089620) 85000004 3 (some 89089620)) 90004920) 85000004 4 (some 90004920)) 91004920) 85000004 5 (some 91004920)) 92000000)) := c0
  have c1 := k31 (d := d) (μ := (nw (wI (wI (wI (wR (V30 (nw (wR (nw (wR (nw (wR (nw (wR (nw (wR (nw (wR (nw μ 86089620) 85000004 0 (some 86089620)) 87089621) 85000004 1 (some 87089621)) 88089621) 85000004 2 (some 88089621)) 89089620) 85000004 3 (some 89089620)) 90004920) 85000004 4 (some 90004920)) 91004920) 85000004 5 (some 91004920)) 92000000)) 85000004 6 (some 92000000)) 85000004 7 (nI 0)) 85000004 8 (nI 0)) 85000004 9 (nI 0)) 93000000)) (by simp only [aSl_I, aSl_L, aSl_R, aSl_N, V30_l, V31_l, h, Nat.reduceAdd])
  have c1 : ∀ Q, R d 0 0 [some (.ref 93000000)] [] (nw (wI (wI (wI (wR (V30 (nw (wR (nw (wR (nw (wR (nw (wR (nw (wR (nw (wR (nw μ 86089620) 85000004 0 (some 86089620)) 87089621) 85000004 1 (some 87089621)) 88089621) 85000004 2 (some 88089621)) 89089620) 85000004 3 (some 89089620)) 90004920) 85000004 4 (some 90004920)) 91004920) 85000004 5 (some 91004920)) 92000000)) 85000004 6 (some 92000000)) 85000004 7 (nI 0)) 85000004 8 (nI 0)) 85000004 9 (nI 0)) 93000000) Q = Q none (V31 (nw (wI (wI (wI (wR (V30 (nw (wR (nw (wR (nw (wR (nw (wR (nw (wR (nw (wR (nw μ 86089620) 85000004 0 (some 86089620)) 87089621) 85000004 1 (some 87089621)) 88089621) 85000004 2 (some 88089621)) 89089620) 85000004 3 (some 89089620)) 90004920) 85000004 4 (some 90004920)) 91004920) 85000004 5 (some 91004920)) 92000000)) 85000004 6 (some 92000000)) 85000004 7 (nI 0)) 85000004 8 (nI 0)) 85000004 9 (nI 0)) 93000000)) := c1
  unfold V32
  simp (disch := first | assumption | omega) only [r38_0, r38_1, r38_4, r38_5, r38_8, r38_10, r38_10n, r38_13, r38_14, r38_17, r38_19, r38_19n, r38_22, r38_23, r38_26, r38_28, r38_28n, r38_31, r38_32, r38_35, r38_37, r38_37n, r38_40, r38_41, r38_43, r38_45, r38_45n, r38_48, r38_49, r38_51, r38_53, r38_53n, r38_56, r38_57, r38_60, r38_60i, r38_61, r38_64, r38_64n, r38_67, r38_68, r38_69, r38_72, r38_73, r38_74, r38_77, r38_78, r38_79, r38_82, r38_83, r38_86, r38_86i, r38_87, r38_90, r38_90n, r38_93, r38_94, r38_95, r38_98, rI_wI, rL_wL, rR_wR, rI_wL, rI_wR, rL_wI, rL_wR, rR_wI, rR_wL, va_rf_some, va_rf_none, Option.toList_some, Option.toList_none, List.nil_append, List.cons_append, true_and, and_true, false_and, and_false, and_self, if_true, if_false, not_true_eq_false, not_false_eq_true, or_false, false_or, or_true, true_or, or_self, ite_true, ite_false, Option.some.injEq, reduceCtorEq, Nat.reduceMod, Nat.reduceDiv, Nat.reduceLeDiff, Nat.reduceEqDiff, Nat.reduceAdd, Nat.reduceMul, Nat.reduceSub, Nat.reduceLT, sw_nil, sw_int, sw_long, sw_ref, li, lo, nI_m1, ng_eq, nn_eq, en_eq, ng_le, ng_lt, Int32.neg_neg, nI_add, pk_mul, nI_clampO, nI_ltO, nI_leO, nI_eqO, nI_subO, nle_t, nle_f, nlt_t, nlt_f, neq_f, ll, nx, aSl_I, aSl_L, aSl_R, aSl_N, V30_l, V31_l, h, vnb0, vnb1, rR_nw, c0, c1]
theorem V32_r (μ : PM) (j : Nat) : rR (V32 μ) 2000010 j = rR μ 2000010 j := by
  unfold V32
  simp only [rI_wI, rL_wL, rR_wR, rI_wL, rI_wR, rL_wI, rL_wR, rR_wI, rR_wL, va_rf_some, va_rf_none, rR_nw, Option.toList_some, Option.toList_none, List.nil_append, List.cons_append, true_and, and_true, false_and, and_false, and_self, if_true, if_false, not_true_eq_false, not_false_eq_true, or_false, false_or, or_true, true_or, or_self, ite_true, ite_false, Option.some.injEq, reduceCtorEq, Nat.reduceMod, Nat.reduceDiv, Nat.reduceLeDiff, Nat.reduceEqDiff, Nat.reduceAdd, Nat.reduceMul, Nat.reduceSub, Nat.reduceLT, sw_nil, sw_int, sw_long, sw_ref, V30_r, V31_r]
def V33 (μ : PM) : PM := (wL (wL μ 94000000 0 (lN 0)) 94000000 1 (lN 1))
theorem V33_l (μ : PM) : (aS (V33 μ)).length = (aS μ).length + 0 := rfl
theorem V33_AG {f : Nat → Nat → Int32} {μ ν : PM} (h : AG f μ ν) : AG f (V33 μ) (V33 ν) := (AG_L (AG_L h))
theorem k33 {d : Nat} {μ : PM} (h : (aS μ).length = 93) : ∀ Q, R d 0 0 [some (.ref 94000000)] [] μ Q = Q none (V33 μ) := by
  intro Q
  unfold V33
  simp (disch := first | assumption | omega) only [r0_0, r0_1, r0_4, r0_5, r0_6, r0_9, r0_10, r0_11, r0_14, rI_wI, rL_wL, rR_wR, rI_wL, rI_wR, rL_wI, rL_wR, rR_wI, rR_wL, va_rf_some, va_rf_none, Option.toList_some, Option.toList_none, List.nil_append, List.cons_append, true_and, and_true, false_and, and_false, and_self, if_true, if_false, not_true_eq_false, not_false_eq_true, or_false, false_or, or_true, true_or, or_self, ite_true, ite_false, Option.some.injEq, reduceCtorEq, Nat.reduceMod, Nat.reduceDiv, Nat.reduceLeDiff, Nat.reduceEqDiff, Nat.reduceAdd, Nat.reduceMul, Nat.reduceSub, Nat.reduceLT, sw_nil, sw_int, sw_long, sw_ref, li, lo, nI_m1, ng_eq, nn_eq, en_eq, ng_le, ng_lt, Int32.neg_neg, nI_add, pk_mul, nI_clampO, nI_ltO, nI_leO, nI_eqO, nI_subO, nle_t, nle_f, nlt_t, nlt_f, neq_f, ll, nx, aSl_I, aSl_L, aSl_R, aSl_N, h, vnb0, vnb1, rR_nw]
theorem V33_r (μ : PM) (j : Nat) : rR (V33 μ) 2000010 j = rR μ 2000010 j := by
  unfold V33
  simp only [rI_wI, rL_wL, rR_wR, rI_wL, rI_wR, rL_wI, rL_wR, rR_wI, rR_wL, va_rf_some, va_rf_none, rR_nw, Option.toList_some, Option.toList_none, List.nil_append, List.cons_append, true_and, and_true, false_and, and_false, and_self, if_true, if_false, not_true_eq_false, not_false_eq_true, or_false, false_or, or_true, true_or, or_self, ite_true, ite_false, Option.some.injEq, reduceCtorEq, Nat.reduceMod, Nat.reduceDiv, Nat.reduceLeDiff, Nat.reduceEqDiff, Nat.reduceAdd, Nat.reduceMul, Nat.reduceSub, Nat.reduceLT, sw_nil, sw_int, sw_long, sw_ref]
def V34 (μ : PM) : PM := (wL (wL μ 95000000 0 (lN 0)) 95000000 1 (lN 1))
theorem V34_l (μ : PM) : (aS (V34 μ)).length = (aS μ).length + 0 := rfl
theorem V34_AG {f : Nat → Nat → Int32} {μ ν : PM} (h : AG f μ ν) : AG f (V34 μ) (V34 ν) := (AG_L (AG_L h))
theorem k34 {d : Nat} {μ : PM} (h : (aS μ).length = 94) : ∀ Q, R d 0 0 [some (.ref 95000000)] [] μ Q = Q none (V34 μ) := by
  intro Q
  unfold V34
  simp (disch := first | assumption | omega) only [r0_0, r0_1, r0_4, r0_5, r0_6, r0_9, r0_10, r0_11, r0_14, rI_wI, rL_wL, rR_wR, rI_wL, rI_wR, rL_wI, rL_wR, rR_wI, rR_wL, va_rf_some, va_rf_none, Option.toList_some, Option.toList_none, List.nil_append, List.cons_append, true_and, and_true, false_and, and_false, and_self, if_true, if_false, not_true_eq_false, not_false_eq_true, or_false, false_or, or_true, true_or, or_self, ite_true, ite_false, Option.some.injEq, reduceCtorEq, Nat.reduceMod, Nat.reduceDiv, Nat.reduceLeDiff, Nat.reduceEqDiff, Nat.reduceAdd, Nat.reduceMul, Nat.reduceSub, Nat.reduceLT, sw_nil, sw_int, sw_long, sw_ref, li, lo, nI_m1, ng_eq, nn_eq, en_eq, ng_le, ng_lt, Int32.neg_neg, nI_add, pk_mul, nI_clampO, nI_ltO, nI_leO, nI_eqO, nI_subO, nle_t, nle_f, nlt_t, nlt_f, neq_f, ll, nx, aSl_I, aSl_L, aSl_R, aSl_N, h, vnb0, vnb1, rR_nw]
theorem V34_r (μ : PM) (j : Nat) : rR (V34 μ) 2000010 j = rR μ 2000010 j := by
  unfold V34
  simp only [rI_wI, rL_wL, rR_wR, rI_wL, rI_wR, rL_wI, rL_wR, rR_wI, rR_wL, va_rf_some, va_rf_none, rR_nw, Option.toList_some, Option.toList_none, List.nil_append, List.cons_append, true_and, and_true, false_and, and_false, and_self, if_true, if_false, not_true_eq_false, not_false_eq_true, or_false, false_or, or_true, true_or, or_self, ite_true, ite_false, Option.some.injEq, reduceCtorEq, Nat.reduceMod, Nat.reduceDiv, Nat.reduceLeDiff, Nat.reduceEqDiff, Nat.reduceAdd, Nat.reduceMul, Nat.reduceSub, Nat.reduceLT, sw_nil, sw_int, sw_long, sw_ref]
def V35 (μ : PM) : PM := (wI (wI (wI (wR (nw μ 103000720) 102000008 0 (some 103000720)) 102000008 1 (nI 0)) 102000008 2 (-nI 1)) 102000008 3 (nI 0))
theorem V35_l (μ : PM) : (aS (V35 μ)).length = (aS μ).length + 1 := by
  unfold V35
  simp only [aSl_I, aSl_L, aSl_R, aSl_N, Nat.add_assoc, Nat.reduceAdd]
theorem V35_AG {f : Nat → Nat → Int32} {μ ν : PM} (h : AG f μ ν) : AG f (V35 μ) (V35 ν) := (AG_I (by decide) (AG_I (by decide) (AG_I (by decide) (AG_R (AG_N (by decide) h)))))
theorem k35 {d : Nat} {μ : PM} (h : (aS μ).length = 101) : ∀ Q, R d 81 0 [some (.ref 102000008)] [] μ Q = Q none (V35 μ) := by
  intro Q
  unfold V35
  simp (disch := first | assumption | omega) only [r81_0, r81_1, r81_4, r81_5, r81_7, r81_9, r81_9n, r81_12, r81_13, r81_14, r81_17, r81_18, r81_19, r81_22, r81_23, r81_24, r81_27, rI_wI, rL_wL, rR_wR, rI_wL, rI_wR, rL_wI, rL_wR, rR_wI, rR_wL, va_rf_some, va_rf_none, Option.toList_some, Option.toList_none, List.nil_append, List.cons_append, true_and, and_true, false_and, and_false, and_self, if_true, if_false, not_true_eq_false, not_false_eq_true, or_false, false_or, or_true, true_or, or_self, ite_true, ite_false, Option.some.injEq, reduceCtorEq, Nat.reduceMod, Nat.reduceDiv, Nat.reduceLeDiff, Nat.reduceEqDiff, Nat.reduceAdd, Nat.reduceMul, Nat.reduceSub, Nat.reduceLT, sw_nil, sw_int, sw_long, sw_ref, li, lo, nI_m1, ng_eq, nn_eq, en_eq, ng_le, ng_lt, Int32.neg_neg, nI_add, pk_mul, nI_clampO, nI_ltO, nI_leO, nI_eqO, nI_subO, nle_t, nle_f, nlt_t, nlt_f, neq_f, ll, nx, aSl_I, aSl_L, aSl_R, aSl_N, h, vnb0, vnb1, rR_nw]
theorem V35_r (μ : PM) (j : Nat) : rR (V35 μ) 2000010 j = rR μ 2000010 j := by
  unfold V35
  simp only [rI_wI, rL_wL, rR_wR, rI_wL, rI_wR, rL_wI, rL_wR, rR_wI, rR_wL, va_rf_some, va_rf_none, rR_nw, Option.toList_some, Option.toList_none, List.nil_append, List.cons_append, true_and, and_true, false_and, and_false, and_self, if_true, if_false, not_true_eq_false, not_false_eq_true, or_false, false_or, or_true, true_or, or_self, ite_true, ite_false, Option.some.injEq, reduceCtorEq, Nat.reduceMod, Nat.reduceDiv, Nat.reduceLeDiff, Nat.reduceEqDiff, Nat.reduceAdd, Nat.reduceMul, Nat.reduceSub, Nat.reduceLT, sw_nil, sw_int, sw_long, sw_ref]
theorem V35_q (μ : PM) (j : Nat) : rR (V35 μ) 41000006 j = rR μ 41000006 j := by
  unfold V35
  simp only [rI_wI, rL_wL, rR_wR, rI_wL, rI_wR, rL_wI, rL_wR, rR_wI, rR_wL, va_rf_some, va_rf_none, rR_nw, Option.toList_some, Option.toList_none, List.nil_append, List.cons_append, true_and, and_true, false_and, and_false, and_self, if_true, if_false, not_true_eq_false, not_false_eq_true, or_false, false_or, or_true, true_or, or_self, ite_true, ite_false, Option.some.injEq, reduceCtorEq, Nat.reduceMod, Nat.reduceDiv, Nat.reduceLeDiff, Nat.reduceEqDiff, Nat.reduceAdd, Nat.reduceMul, Nat.reduceSub, Nat.reduceLT, sw_nil, sw_int, sw_long, sw_ref]
def V36 (μ : PM) : PM := (wI (wI (wI (wR (nw μ 105000720) 104000008 0 (some 105000720)) 104000008 1 (nI 0)) 104000008 2 (-nI 1)) 104000008 3 (nI 0))
theorem V36_l (μ : PM) : (aS (V36 μ)).length = (aS μ).length + 1 := by
  unfold V36
  simp only [aSl_I, aSl_L, aSl_R, aSl_N, Nat.add_assoc, Nat.reduceAdd]
theorem V36_AG {f : Nat → Nat → Int32} {μ ν : PM} (h : AG f μ ν) : AG f (V36 μ) (V36 ν) := (AG_I (by decide) (AG_I (by decide) (AG_I (by decide) (AG_R (AG_N (by decide) h)))))
theorem k36 {d : Nat} {μ : PM} (h : (aS μ).length = 103) : ∀ Q, R d 81 0 [some (.ref 104000008)] [] μ Q = Q none (V36 μ) := by
  intro Q
  unfold V36
  simp (disch := first | assumption | omega) only [r81_0, r81_1, r81_4, r81_5, r81_7, r81_9, r81_9n, r81_12, r81_13, r81_14, r81_17, r81_18, r81_19, r81_22, r81_23, r81_24, r81_27, rI_wI, rL_wL, rR_wR, rI_wL, rI_wR, rL_wI, rL_wR, rR_wI, rR_wL, va_rf_some, va_rf_none, Option.toList_some, Option.toList_none, List.nil_append, List.cons_append, true_and, and_true, false_and, and_false, and_self, if_true, if_false, not_true_eq_false, not_false_eq_true, or_false, false_or, or_true, true_or, or_self, ite_true, ite_false, Option.some.injEq, reduceCtorEq, Nat.reduceMod, Nat.reduceDiv, Nat.reduceLeDiff, Nat.reduceEqDiff, Nat.reduceAdd, Nat.reduceMul, Nat.reduceSub, Nat.reduceLT, sw_nil, sw_int, sw_long, sw_ref, li, lo, nI_m1, ng_eq, nn_eq, en_eq, ng_le, ng_lt, Int32.neg_neg, nI_add, pk_mul, nI_clampO, nI_ltO, nI_leO, nI_eqO, nI_subO, nle_t, nle_f, nlt_t, nlt_f, neq_f, ll, nx, aSl_I, aSl_L, aSl_R, aSl_N, h, vnb0, vnb1, rR_nw]
theorem V36_r (μ : PM) (j : Nat) : rR (V36 μ) 2000010 j = rR μ 2000010 j := by
  unfold V36
  simp only [rI_wI, rL_wL, rR_wR, rI_wL, rI_wR, rL_wI, rL_wR, rR_wI, rR_wL, va_rf_some, va_rf_none, rR_nw, Option.toList_some, Option.toList_none, List.nil_append, List.cons_append, true_and, and_true, false_and, and_false, and_self, if_true, if_false, not_true_eq_false, not_false_eq_true, or_false, false_or, or_true, true_or, or_self, ite_true, ite_false, Option.some.injEq, reduceCtorEq, Nat.reduceMod, Nat.reduceDiv, Nat.reduceLeDiff, Nat.reduceEqDiff, Nat.reduceAdd, Nat.reduceMul, Nat.reduceSub, Nat.reduceLT, sw_nil, sw_int, sw_long, sw_ref]
theorem V36_q (μ : PM) (j : Nat) : rR (V36 μ) 41000006 j = rR μ 41000006 j := by
  unfold V36
  simp only [rI_wI, rL_wL, rR_wR, rI_wL, rI_wR, rL_wI, rL_wR, rR_wI, rR_wL, va_rf_some, va_rf_none, rR_nw, Option.toList_some, Option.toList_none, List.nil_append, List.cons_append, true_and, and_true, false_and, and_false, and_self, if_true, if_false, not_true_eq_false, not_false_eq_true, or_false, false_or, or_true, true_or, or_self, ite_true, ite_false, Option.some.injEq, reduceCtorEq, Nat.reduceMod, Nat.reduceDiv, Nat.reduceLeDiff, Nat.reduceEqDiff, Nat.reduceAdd, Nat.reduceMul, Nat.reduceSub, Nat.reduceLT, sw_nil, sw_int, sw_long, sw_ref]
def V37 (μ : PM) : PM := (wI (wI (wI (wR (nw μ 107000720) 106000008 0 (some 107000720)) 106000008 1 (nI 0)) 106000008 2 (-nI 1)) 106000008 3 (nI 0))
theorem V37_l (μ : PM) : (aS (V37 μ)).length = (aS μ).length + 1 := by
  unfold V37
  simp only [aSl_I, aSl_L, aSl_R, aSl_N, Nat.add_assoc, Nat.reduceAdd]
theorem V37_AG {f : Nat → Nat → Int32} {μ ν : PM} (h : AG f μ ν) : AG f (V37 μ) (V37 ν) := (AG_I (by decide) (AG_I (by decide) (AG_I (by decide) (AG_R (AG_N (by decide) h)))))
theorem k37 {d : Nat} {μ : PM} (h : (aS μ).length = 105) : ∀ Q, R d 81 0 [some (.ref 106000008)] [] μ Q = Q none (V37 μ) := by
  intro Q
  unfold V37
  simp (disch := first | assumption | omega) only [r81_0, r81_1, r81_4, r81_5, r81_7, r81_9, r81_9n, r81_12, r81_13, r81_14, r81_17, r81_18, r81_19, r81_22, r81_23, r81_24, r81_27, rI_wI, rL_wL, rR_wR, rI_wL, rI_wR, rL_wI, rL_wR, rR_wI, rR_wL, va_rf_some, va_rf_none, Option.toList_some, Option.toList_none, List.nil_append, List.cons_append, true_and, and_true, false_and, and_false, and_self, if_true, if_false, not_true_eq_false, not_false_eq_true, or_false, false_or, or_true, true_or, or_self, ite_true, ite_false, Option.some.injEq, reduceCtorEq, Nat.reduceMod, Nat.reduceDiv, Nat.reduceLeDiff, Nat.reduceEqDiff, Nat.reduceAdd, Nat.reduceMul, Nat.reduceSub, Nat.reduceLT, sw_nil, sw_int, sw_long, sw_ref, li, lo, nI_m1, ng_eq, nn_eq, en_eq, ng_le, ng_lt, Int32.neg_neg, nI_add, pk_mul, nI_clampO, nI_ltO, nI_leO, nI_eqO, nI_subO, nle_t, nle_f, nlt_t, nlt_f, neq_f, ll, nx, aSl_I, aSl_L, aSl_R, aSl_N, h, vnb0, vnb1, rR_nw]
theorem V37_r (μ : PM) (j : Nat) : rR (V37 μ) 2000010 j = rR μ 2000010 j := by
  unfold V37
  simp only [rI_wI, rL_wL, rR_wR, rI_wL, rI_wR, rL_wI, rL_wR, rR_wI, rR_wL, va_rf_some, va_rf_none, rR_nw, Option.toList_some, Option.toList_none, List.nil_append, List.cons_append, true_and, and_true, false_and, and_false, and_self, if_true, if_false, not_true_eq_false, not_false_eq_true, or_false, false_or, or_true, true_or, or_self, ite_true, ite_false, Option.some.injEq, reduceCtorEq, Nat.reduceMod, Nat.reduceDiv, Nat.reduceLeDiff, Nat.reduceEqDiff, Nat.reduceAdd, Nat.reduceMul, Nat.reduceSub, Nat.reduceLT, sw_nil, sw_int, sw_long, sw_ref]
theorem V37_q (μ : PM) (j : Nat) : rR (V37 μ) 41000006 j = rR μ 41000006 j := by
  unfold V37
  simp only [rI_wI, rL_wL, rR_wR, rI_wL, rI_wR, rL_wI, rL_wR, rR_wI, rR_wL, va_rf_some, va_rf_none, rR_nw, Option.toList_some, Option.toList_none, List.nil_append, List.cons_append, true_and, and_true, false_and, and_false, and_self, if_true, if_false, not_true_eq_false, not_false_eq_true, or_false, false_or, or_true, true_or, or_self, ite_true, ite_false, Option.some.injEq, reduceCtorEq, Nat.reduceMod, Nat.reduceDiv, Nat.reduceLeDiff, Nat.reduceEqDiff, Nat.reduceAdd, Nat.reduceMul, Nat.reduceSub, Nat.reduceLT, sw_nil, sw_int, sw_long, sw_ref]
def V38 (μ : PM) : PM := (wI (wI (wI (wR (nw μ 109000720) 108000008 0 (some 109000720)) 108000008 1 (nI 0)) 108000008 2 (-nI 1)) 108000008 3 (nI 0))
theorem V38_l (μ : PM) : (aS (V38 μ)).length = (aS μ).length + 1 := by
  unfold V38
  simp only [aSl_I, aSl_L, aSl_R, aSl_N, Nat.add_assoc, Nat.reduceAdd]
theorem V38_AG {f : Nat → Nat → Int32} {μ ν : PM} (h : AG f μ ν) : AG f (V38 μ) (V38 ν) := (AG_I (by decide) (AG_I (by decide) (AG_I (by decide) (AG_R (AG_N (by decide) h)))))
theorem k38 {d : Nat} {μ : PM} (h : (aS μ).length = 107) : ∀ Q, R d 81 0 [some (.ref 108000008)] [] μ Q = Q none (V38 μ) := by
  intro Q
  unfold V38
  simp (disch := first | assumption | omega) only [r81_0, r81_1, r81_4, r81_5, r81_7, r81_9, r81_9n, r81_12, r81_13, r81_14, r81_17, r81_18, r81_19, r81_22, r81_23, r81_24, r81_27, rI_wI, rL_wL, rR_wR, rI_wL, rI_wR, rL_wI, rL_wR, rR_wI, rR_wL, va_rf_some, va_rf_none, Option.toList_some, Option.toList_none, List.nil_append, List.cons_append, true_and, and_true, false_and, and_false, and_self, if_true, if_false, not_true_eq_false, not_false_eq_true, or_false, false_or, or_true, true_or, or_self, ite_true, ite_false, Option.some.injEq, reduceCtorEq, Nat.reduceMod, Nat.reduceDiv, Nat.reduceLeDiff, Nat.reduceEqDiff, Nat.reduceAdd, Nat.reduceMul, Nat.reduceSub, Nat.reduceLT, sw_nil, sw_int, sw_long, sw_ref, li, lo, nI_m1, ng_eq, nn_eq, en_eq, ng_le, ng_lt, Int32.neg_neg, nI_add, pk_mul, nI_clampO, nI_ltO, nI_leO, nI_eqO, nI_subO, nle_t, nle_f, nlt_t, nlt_f, neq_f, ll, nx, aSl_I, aSl_L, aSl_R, aSl_N, h, vnb0, vnb1, rR_nw]
theorem V38_r (μ : PM) (j : Nat) : rR (V38 μ) 2000010 j = rR μ 2000010 j := by
  unfold V38
  simp only [rI_wI, rL_wL, rR_wR, rI_wL, rI_wR, rL_wI, rL_wR, rR_wI, rR_wL, va_rf_some, va_rf_none, rR_nw, Option.toList_some, Option.toList_none, List.nil_append, List.cons_append, true_and, and_true, false_and, and_false, and_self, if_true, if_false, not_true_eq_false, not_false_eq_true, or_false, false_or, or_true, true_or, or_self, ite_true, ite_false, Option.some.injEq, reduceCtorEq, Nat.reduceMod, Nat.reduceDiv, Nat.reduceLeDiff, Nat.reduceEqDiff, Nat.reduceAdd, Nat.reduceMul, Nat.reduceSub, Nat.reduceLT, sw_nil, sw_int, sw_long, sw_ref]
theorem V38_q (μ : PM) (j : Nat) : rR (V38 μ) 41000006 j = rR μ 41000006 j := by
  unfold V38
  simp only [rI_wI, rL_wL, rR_wR, rI_wL, rI_wR, rL_wI, rL_wR, rR_wI, rR_wL, va_rf_some, va_rf_none, rR_nw, Option.toList_some, Option.toList_none, List.nil_append, List.cons_append, true_and, and_true, false_and, and_false, and_self, if_true, if_false, not_true_eq_false, not_false_eq_true, or_false, false_or, or_true, true_or, or_self, ite_true, ite_false, Option.some.injEq, reduceCtorEq, Nat.reduceMod, Nat.reduceDiv, Nat.reduceLeDiff, Nat.reduceEqDiff, Nat.reduceAdd, Nat.reduceMul, Nat.reduceSub, Nat.reduceLT, sw_nil, sw_int, sw_long, sw_ref]
def V39s0 (μ : PM) : PM := (wR (V0 (nw μ 3000009)) 2000010 0 (some 3000009))
theorem V39s0_l (μ : PM) : (aS (V39s0 μ)).length = (aS μ).length + 2 := by
  unfold V39s0
  simp only [aSl_I, aSl_L, aSl_R, aSl_N, V0_l, Nat.add_assoc, Nat.reduceAdd]
theorem V39s0_AG {f : Nat → Nat → Int32} {μ ν : PM} (h : AG f μ ν) : AG f (V39s0 μ) (V39s0 ν) := (AG_R (V0_AG (AG_N (by decide) h)))
theorem k39s0 {d : Nat} {μ : PM} (h : (aS μ).length = 1) : ∀ Q, R (d + 2) 89 0 [some (.ref 2000010), none] [] μ Q = R (d + 2) 89 15 [some (.ref 2000010), none] [] (V39s0 μ) Q := by
  intro Q
  have c0 := k0 (d := (d + 1)) (μ := (nw μ 3000009)) (by simp only [aSl_I, aSl_L, aSl_R, aSl_N, V0_l, h, Nat.reduceAdd])
  have c0 : ∀ Q, R (d + 1) 86 0 [some (.ref 3000009)] [] (nw μ 3000009) Q = Q none (V0 (nw μ 3000009)) := c0
  unfold V39s0
  simp (disch := first | assumption | omega) only [r89_0, r89_1, r89_4, r89_5, r89_8, r89_8i, r89_9, r89_12, rI_wI, rL_wL, rR_wR, rI_wL, rI_wR, rL_wI, rL_wR, rR_wI, rR_wL, va_rf_some, va_rf_none, Option.toList_some, Option.toList_none, List.nil_append, List.cons_append, true_and, and_true, false_and, and_false, and_self, if_true, if_false, not_true_eq_false, not_false_eq_true, or_false, false_or, or_true, true_or, or_self, ite_true, ite_false, Option.some.injEq, reduceCtorEq, Nat.reduceMod, Nat.reduceDiv, Nat.reduceLeDiff, Nat.reduceEqDiff, Nat.reduceAdd, Nat.reduceMul, Nat.reduceSub, Nat.reduceLT, sw_nil, sw_int, sw_long, sw_ref, li, lo, nI_m1, ng_eq, nn_eq, en_eq, ng_le, ng_lt, Int32.neg_neg, nI_add, pk_mul, nI_clampO, nI_ltO, nI_leO, nI_eqO, nI_subO, nle_t, nle_f, nlt_t, nlt_f, neq_f, ll, nx, aSl_I, aSl_L, aSl_R, aSl_N, V0_l, h, vnb0, vnb1, rR_nw, c0, V0_r]
def V39s1 (μ : PM) : PM := (wR (V3 (nw μ 5000007)) 2000010 1 (some 5000007))
theorem V39s1_l (μ : PM) : (aS (V39s1 μ)).length = (aS μ).length + 6 := by
  unfold V39s1
  simp only [aSl_I, aSl_L, aSl_R, aSl_N, V3_l, Nat.add_assoc, Nat.reduceAdd]
theorem V39s1_AG {f : Nat → Nat → Int32} {μ ν : PM} (h : AG f μ ν) : AG f (V39s1 μ) (V39s1 ν) := (AG_R (V3_AG (AG_N (by decide) h)))
theorem k39s1 {d : Nat} {μ : PM} (h : (aS μ).length = 3) : ∀ Q, R (d + 2) 89 15 [some (.ref 2000010), none] [] μ Q = R (d + 2) 89 26 [some (.ref 2000010), none] [] (V39s1 μ) Q := by
  intro Q
  have c0 := k3 (d := d) (μ := (nw μ 5000007)) (by simp only [aSl_I, aSl_L, aSl_R, aSl_N, V3_l, h, Nat.reduceAdd])
  have c0 : ∀ Q, R (d + 1) 67 0 [some (.ref 5000007)] [] (nw μ 5000007) Q = Q none (V3 (nw μ 5000007)) := c0
  unfold V39s1
  simp (disch := first | assumption | omega) only [r89_15, r89_16, r89_19, r89_19i, r89_20, r89_23, rI_wI, rL_wL, rR_wR, rI_wL, rI_wR, rL_wI, rL_wR, rR_wI, rR_wL, va_rf_some, va_rf_none, Option.toList_some, Option.toList_none, List.nil_append, List.cons_append, true_and, and_true, false_and, and_false, and_self, if_true, if_false, not_true_eq_false, not_false_eq_true, or_false, false_or, or_true, true_or, or_self, ite_true, ite_false, Option.some.injEq, reduceCtorEq, Nat.reduceMod, Nat.reduceDiv, Nat.reduceLeDiff, Nat.reduceEqDiff, Nat.reduceAdd, Nat.reduceMul, Nat.reduceSub, Nat.reduceLT, sw_nil, sw_int, sw_long, sw_ref, li, lo, nI_m1, ng_eq, nn_eq, en_eq, ng_le, ng_lt, Int32.neg_neg, nI_add, pk_mul, nI_clampO, nI_ltO, nI_leO, nI_eqO, nI_subO, nle_t, nle_f, nlt_t, nlt_f, neq_f, ll, nx, aSl_I, aSl_L, aSl_R, aSl_N, V3_l, h, vnb0, vnb1, rR_nw, c0, V3_r]
def V39s2 (μ : PM) : PM := (wR (V5 (nw μ 11000005)) 2000010 2 (some 11000005))
theorem V39s2_l (μ : PM) : (aS (V39s2 μ)).length = (aS μ).length + 14 := by
  unfold V39s2
  simp only [aSl_I, aSl_L, aSl_R, aSl_N, V5_l, Nat.add_assoc, Nat.reduceAdd]
theorem V39s2_AG {f : Nat → Nat → Int32} {μ ν : PM} (h : AG f μ ν) : AG f (V39s2 μ) (V39s2 ν) := (AG_R (V5_AG (AG_N (by decide) h)))
theorem k39s2 {d : Nat} {μ : PM} (h : (aS μ).length = 9) : ∀ Q, R (d + 2) 89 26 [some (.ref 2000010), none] [] μ Q = R (d + 2) 89 37 [some (.ref 2000010), none] [] (V39s2 μ) Q := by
  intro Q
  have c0 := k5 (d := d) (μ := (nw μ 11000005)) (by simp only [aSl_I, aSl_L, aSl_R, aSl_N, V5_l, h, Nat.reduceAdd])
  have c0 : ∀ Q, R (d + 1) 46 0 [some (.ref 11000005)] [] (nw μ 11000005) Q = Q none (V5 (nw μ 11000005)) := c0
  unfold V39s2
  simp (disch := first | assumption | omega) only [r89_26, r89_27, r89_30, r89_30i, r89_31, r89_34, rI_wI, rL_wL, rR_wR, rI_wL, rI_wR, rL_wI, rL_wR, rR_wI, rR_wL, va_rf_some, va_rf_none, Option.toList_some, Option.toList_none, List.nil_append, List.cons_append, true_and, and_true, false_and, and_false, and_self, if_true, if_false, not_true_eq_false, not_false_eq_true, or_false, false_or, or_true, true_or, or_self, ite_true, ite_false, Option.some.injEq, reduceCtorEq, Nat.reduceMod, Nat.reduceDiv, Nat.reduceLeDiff, Nat.reduceEqDiff, Nat.reduceAdd, Nat.reduceMul, Nat.reduceSub, Nat.reduceLT, sw_nil, sw_int, sw_long, sw_ref, li, lo, nI_m1, ng_eq, nn_eq, en_eq, ng_le, ng_lt, Int32.neg_neg, nI_add, pk_mul, nI_clampO, nI_ltO, nI_leO, nI_eqO, nI_subO, nle_t, nle_f, nlt_t, nlt_f, neq_f, ll, nx, aSl_I, aSl_L, aSl_R, aSl_N, V5_l, h, vnb0, vnb1, rR_nw, c0, V5_r]
def V39s3 (μ : PM) : PM := (wR (V7 (nw μ 25000005)) 2000010 3 (some 25000005))
theorem V39s3_l (μ : PM) : (aS (V39s3 μ)).length = (aS μ).length + 14 := by
  unfold V39s3
  simp only [aSl_I, aSl_L, aSl_R, aSl_N, V7_l, Nat.add_assoc, Nat.reduceAdd]
theorem V39s3_AG {f : Nat → Nat → Int32} {μ ν : PM} (h : AG f μ ν) : AG f (V39s3 μ) (V39s3 ν) := (AG_R (V7_AG (AG_N (by decide) h)))
theorem k39s3 {d : Nat} {μ : PM} (h : (aS μ).length = 23) : ∀ Q, R (d + 2) 89 37 [some (.ref 2000010), none] [] μ Q = R (d + 2) 89 48 [some (.ref 2000010), none] [] (V39s3 μ) Q := by
  intro Q
  have c0 := k7 (d := d) (μ := (nw μ 25000005)) (by simp only [aSl_I, aSl_L, aSl_R, aSl_N, V7_l, h, Nat.reduceAdd])
  have c0 : ∀ Q, R (d + 1) 46 0 [some (.ref 25000005)] [] (nw μ 25000005) Q = Q none (V7 (nw μ 25000005)) := c0
  unfold V39s3
  simp (disch := first | assumption | omega) only [r89_37, r89_38, r89_41, r89_41i, r89_42, r89_45, rI_wI, rL_wL, rR_wR, rI_wL, rI_wR, rL_wI, rL_wR, rR_wI, rR_wL, va_rf_some, va_rf_none, Option.toList_some, Option.toList_none, List.nil_append, List.cons_append, true_and, and_true, false_and, and_false, and_self, if_true, if_false, not_true_eq_false, not_false_eq_true, or_false, false_or, or_true, true_or, or_self, ite_true, ite_false, Option.some.injEq, reduceCtorEq, Nat.reduceMod, Nat.reduceDiv, Nat.reduceLeDiff, Nat.reduceEqDiff, Nat.reduceAdd, Nat.reduceMul, Nat.reduceSub, Nat.reduceLT, sw_nil, sw_int, sw_long, sw_ref, li, lo, nI_m1, ng_eq, nn_eq, en_eq, ng_le, ng_lt, Int32.neg_neg, nI_add, pk_mul, nI_clampO, nI_ltO, nI_leO, nI_eqO, nI_subO, nle_t, nle_f, nlt_t, nlt_f, neq_f, ll, nx, aSl_I, aSl_L, aSl_R, aSl_N, V7_l, h, vnb0, vnb1, rR_nw, c0, V7_r]
def V39s4 (μ : PM) : PM := (wR (V8 (nw μ 39000008)) 2000010 4 (some 39000008))
theorem V39s4_l (μ : PM) : (aS (V39s4 μ)).length = (aS μ).length + 2 := by
  unfold V39s4
  simp only [aSl_I, aSl_L, aSl_R, aSl_N, V8_l, Nat.add_assoc, Nat.reduceAdd]
theorem V39s4_AG {f : Nat → Nat → Int32} {μ ν : PM} (h : AG f μ ν) : AG f (V39s4 μ) (V39s4 ν) := (AG_R (V8_AG (AG_N (by decide) h)))
theorem k39s4 {d : Nat} {μ : PM} (h : (aS μ).length = 37) : ∀ Q, R (d + 2) 89 48 [some (.ref 2000010), none] [] μ Q = R (d + 2) 89 59 [some (.ref 2000010), none] [] (V39s4 μ) Q := by
  intro Q
  have c0 := k8 (d := (d + 1)) (μ := (nw μ 39000008)) (by simp only [aSl_I, aSl_L, aSl_R, aSl_N, V8_l, h, Nat.reduceAdd])
  have c0 : ∀ Q, R (d + 1) 81 0 [some (.ref 39000008)] [] (nw μ 39000008) Q = Q none (V8 (nw μ 39000008)) := c0
  unfold V39s4
  simp (disch := first | assumption | omega) only [r89_48, r89_49, r89_52, r89_52i, r89_53, r89_56, rI_wI, rL_wL, rR_wR, rI_wL, rI_wR, rL_wI, rL_wR, rR_wI, rR_wL, va_rf_some, va_rf_none, Option.toList_some, Option.toList_none, List.nil_append, List.cons_append, true_and, and_true, false_and, and_false, and_self, if_true, if_false, not_true_eq_false, not_false_eq_true, or_false, false_or, or_true, true_or, or_self, ite_true, ite_false, Option.some.injEq, reduceCtorEq, Nat.reduceMod, Nat.reduceDiv, Nat.reduceLeDiff, Nat.reduceEqDiff, Nat.reduceAdd, Nat.reduceMul, Nat.reduceSub, Nat.reduceLT, sw_nil, sw_int, sw_long, sw_ref, li, lo, nI_m1, ng_eq, nn_eq, en_eq, ng_le, ng_lt, Int32.neg_neg, nI_add, pk_mul, nI_clampO, nI_ltO, nI_leO, nI_eqO, nI_subO, nle_t, nle_f, nlt_t, nlt_f, neq_f, ll, nx, aSl_I, aSl_L, aSl_R, aSl_N, V8_l, h, vnb0, vnb1, rR_nw, c0, V8_r]
def V39s5 (μ : PM) : PM := (wR (V29 (nw μ 41000006)) 2000010 5 (some 41000006))
theorem V39s5_l (μ : PM) : (aS (V39s5 μ)).length = (aS μ).length + 42 := by
  unfold V39s5
  simp only [aSl_I, aSl_L, aSl_R, aSl_N, V29_l, Nat.add_assoc, Nat.reduceAdd]
theorem V39s5_AG {f : Nat → Nat → Int32} {μ ν : PM} (h : AG f μ ν) : AG f (V39s5 μ) (V39s5 ν) := (AG_R (V29_AG (AG_N (by decide) h)))
theorem k39s5 {d : Nat} {μ : PM} (h : (aS μ).length = 39) : ∀ Q, R (d + 2) 89 59 [some (.ref 2000010), none] [] μ Q = R (d + 2) 89 70 [some (.ref 2000010), none] [] (V39s5 μ) Q := by
  intro Q
  have c0 := k29 (d := d) (μ := (nw μ 41000006)) (by simp only [aSl_I, aSl_L, aSl_R, aSl_N, V29_l, h, Nat.reduceAdd])
  have c0 : ∀ Q, R (d + 1) 63 0 [some (.ref 41000006), none] [] (nw μ 41000006) Q = Q none (V29 (nw μ 41000006)) := c0
  unfold V39s5
  simp (disch := first | assumption | omega) only [r89_59, r89_60, r89_63, r89_63i, r89_64, r89_67, rI_wI, rL_wL, rR_wR, rI_wL, rI_wR, rL_wI, rL_wR, rR_wI, rR_wL, va_rf_some, va_rf_none, Option.toList_some, Option.toList_none, List.nil_append, List.cons_append, true_and, and_true, false_and, and_false, and_self, if_true, if_false, not_true_eq_false, not_false_eq_true, or_false, false_or, or_true, true_or, or_self, ite_true, ite_false, Option.some.injEq, reduceCtorEq, Nat.reduceMod, Nat.reduceDiv, Nat.reduceLeDiff, Nat.reduceEqDiff, Nat.reduceAdd, Nat.reduceMul, Nat.reduceSub, Nat.reduceLT, sw_nil, sw_int, sw_long, sw_ref, li, lo, nI_m1, ng_eq, nn_eq, en_eq, ng_le, ng_lt, Int32.neg_neg, nI_add, pk_mul, nI_clampO, nI_ltO, nI_leO, nI_eqO, nI_subO, nle_t, nle_f, nlt_t, nlt_f, neq_f, ll, nx, aSl_I, aSl_L, aSl_R, aSl_N, V29_l, h, vnb0, vnb1, rR_nw, c0, V29_r]
def V39s6 (μ : PM) : PM := (wR (V32 (nw (wI (wR (nw (wI (wR (nw μ 83000424) 2000010 6 (some 83000424)) 2000010 7 (nI 0)) 84000720) 2000010 8 (some 84000720)) 2000010 9 (nI 0)) 85000004)) 2000010 10 (some 85000004))
theorem V39s6_l (μ : PM) : (aS (V39s6 μ)).length = (aS μ).length + 11 := by
  unfold V39s6
  simp only [aSl_I, aSl_L, aSl_R, aSl_N, V32_l, Nat.add_assoc, Nat.reduceAdd]
theorem V39s6_AG {f : Nat → Nat → Int32} {μ ν : PM} (h : AG f μ ν) : AG f (V39s6 μ) (V39s6 ν) := (AG_R (V32_AG (AG_N (by decide) (AG_I (by decide) (AG_R (AG_N (by decide) (AG_I (by decide) (AG_R (AG_N (by decide) h)))))))))
theorem V39s6_w (μ : PM) : rR (V39s6 μ) 2000010 6 = some 83000424 := by
  unfold V39s6
  simp only [rI_wI, rL_wL, rR_wR, rI_wL, rI_wR, rL_wI, rL_wR, rR_wI, rR_wL, va_rf_some, va_rf_none, rR_nw, Option.toList_some, Option.toList_none, List.nil_append, List.cons_append, true_and, and_true, false_and, and_false, and_self, if_true, if_false, not_true_eq_false, not_false_eq_true, or_false, false_or, or_true, true_or, or_self, ite_true, ite_false, Option.some.injEq, reduceCtorEq, Nat.reduceMod, Nat.reduceDiv, Nat.reduceLeDiff, Nat.reduceEqDiff, Nat.reduceAdd, Nat.reduceMul, Nat.reduceSub, Nat.reduceLT, sw_nil, sw_int, sw_long, sw_ref, V32_r]
theorem k39s6 {d : Nat} {μ : PM} (h : (aS μ).length = 81) : ∀ Q, R (d + 2) 89 70 [some (.ref 2000010), none] [] μ Q = R (d + 2) 89 107 [some (.ref 2000010), none] [] (V39s6 μ) Q := by
  intro Q
  have c0 := k32 (d := d) (μ := (nw (wI (wR (nw (wI (wR (nw μ 83000424) 2000010 6 (some 83000424)) 2000010 7 (nI 0)) 84000720) 2000010 8 (some 84000720)) 2000010 9 (nI 0)) 85000004)) (by simp only [aSl_I, aSl_L, aSl_R, aSl_N, V32_l, h, Nat.reduceAdd])
  have c0 : ∀ Q, R (d + 1) 38 0 [some (.ref 85000004)] [] (nw (wI (wR (nw (wI (wR (nw μ 83000424) 2000010 6 (some 83000424)) 2000010 7 (nI 0)) 84000720) 2000010 8 (some 84000720)) 2000010 9 (nI 0)) 85000004) Q = Q none (V32 (nw (wI (wR (nw (wI (wR (nw μ 83000424) 2000010 6 (some 83000424)) 2000010 7 (nI 0)) 84000720) 2000010 8 (some 84000720)) 2000010 9 (nI 0)) 85000004)) := c0
  unfold V39s6
  simp (disch := first | assumption | omega) only [r89_70, r89_71, r89_72, r89_75, r89_78, r89_79, r89_80, r89_83, r89_84, r89_86, r89_88, r89_91, r89_92, r89_93, r89_96, r89_97, r89_100, r89_100i, r89_101, r89_104, rI_wI, rL_wL, rR_wR, rI_wL, rI_wR, rL_wI, rL_wR, rR_wI, rR_wL, va_rf_some, va_rf_none, Option.toList_some, Option.toList_none, List.nil_append, List.cons_append, true_and, and_true, false_and, and_false, and_self, if_true, if_false, not_true_eq_false, not_false_eq_true, or_false, false_or, or_true, true_or, or_self, ite_true, ite_false, Option.some.injEq, reduceCtorEq, Nat.reduceMod, Nat.reduceDiv, Nat.reduceLeDiff, Nat.reduceEqDiff, Nat.reduceAdd, Nat.reduceMul, Nat.reduceSub, Nat.reduceLT, sw_nil, sw_int, sw_long, sw_ref, li, lo, nI_m1, ng_eq, nn_eq, en_eq, ng_le, ng_lt, Int32.neg_neg, nI_add, pk_mul, nI_clampO, nI_ltO, nI_leO, nI_eqO, nI_subO, nle_t, nle_f, nlt_t, nlt_f, neq_f, ll, nx, aSl_I, aSl_L, aSl_R, aSl_N, V32_l, h, vnb0, vnb1, rR_nw, c0, V32_r]
def V39s7 (μ : PM) : PM := (wR (V33 (nw μ 94000000)) 2000010 11 (some 94000000))
theorem V39s7_l (μ : PM) : (aS (V39s7 μ)).length = (aS μ).length + 1 := by
  unfold V39s7
  simp only [aSl_I, aSl_L, aSl_R, aSl_N, V33_l, Nat.add_assoc, Nat.reduceAdd]
theorem V39s7_AG {f : Nat → Nat → Int32} {μ ν : PM} (h : AG f μ ν) : AG f (V39s7 μ) (V39s7 ν) := (AG_R (V33_AG (AG_N (by decide) h)))
theorem V39s7_w (μ : PM) : rR (V39s7 μ) 2000010 6 = rR μ 2000010 6 := by
  unfold V39s7
  simp only [rI_wI, rL_wL, rR_wR, rI_wL, rI_wR, rL_wI, rL_wR, rR_wI, rR_wL, va_rf_some, va_rf_none, rR_nw, Option.toList_some, Option.toList_none, List.nil_append, List.cons_append, true_and, and_true, false_and, and_false, and_self, if_true, if_false, not_true_eq_false, not_false_eq_true, or_false, false_or, or_true, true_or, or_self, ite_true, ite_false, Option.some.injEq, reduceCtorEq, Nat.reduceMod, Nat.reduceDiv, Nat.reduceLeDiff, Nat.reduceEqDiff, Nat.reduceAdd, Nat.reduceMul, Nat.reduceSub, Nat.reduceLT, sw_nil, sw_int, sw_long, sw_ref, V33_r]
theorem k39s7 {d : Nat} {μ : PM} (h : (aS μ).length = 92) : ∀ Q, R (d + 2) 89 107 [some (.ref 2000010), none] [] μ Q = R (d + 2) 89 118 [some (.ref 2000010), none] [] (V39s7 μ) Q := by
  intro Q
  have c0 := k33 (d := (d + 1)) (μ := (nw μ 94000000)) (by simp only [aSl_I, aSl_L, aSl_R, aSl_N, V33_l, h, Nat.reduceAdd])
  have c0 : ∀ Q, R (d + 1) 0 0 [some (.ref 94000000)] [] (nw μ 94000000) Q = Q none (V33 (nw μ 94000000)) := c0
  unfold V39s7
  simp (disch := first | assumption | omega) only [r89_107, r89_108, r89_111, r89_111i, r89_112, r89_115, rI_wI, rL_wL, rR_wR, rI_wL, rI_wR, rL_wI, rL_wR, rR_wI, rR_wL, va_rf_some, va_rf_none, Option.toList_some, Option.toList_none, List.nil_append, List.cons_append, true_and, and_true, false_and, and_false, and_self, if_true, if_false, not_true_eq_false, not_false_eq_true, or_false, false_or, or_true, true_or, or_self, ite_true, ite_false, Option.some.injEq, reduceCtorEq, Nat.reduceMod, Nat.reduceDiv, Nat.reduceLeDiff, Nat.reduceEqDiff, Nat.reduceAdd, Nat.reduceMul, Nat.reduceSub, Nat.reduceLT, sw_nil, sw_int, sw_long, sw_ref, li, lo, nI_m1, ng_eq, nn_eq, en_eq, ng_le, ng_lt, Int32.neg_neg, nI_add, pk_mul, nI_clampO, nI_ltO, nI_leO, nI_eqO, nI_subO, nle_t, nle_f, nlt_t, nlt_f, neq_f, ll, nx, aSl_I, aSl_L, aSl_R, aSl_N, V33_l, h, vnb0, vnb1, rR_nw, c0, V33_r]
def V39s8 (μ : PM) : PM := (wR (V34 (nw μ 95000000)) 2000010 12 (some 95000000))
theorem V39s8_l (μ : PM) : (aS (V39s8 μ)).length = (aS μ).length + 1 := by
  unfold V39s8
  simp only [aSl_I, aSl_L, aSl_R, aSl_N, V34_l, Nat.add_assoc, Nat.reduceAdd]
theorem V39s8_AG {f : Nat → Nat → Int32} {μ ν : PM} (h : AG f μ ν) : AG f (V39s8 μ) (V39s8 ν) := (AG_R (V34_AG (AG_N (by decide) h)))
theorem V39s8_w (μ : PM) : rR (V39s8 μ) 2000010 6 = rR μ 2000010 6 := by
  unfold V39s8
  simp only [rI_wI, rL_wL, rR_wR, rI_wL, rI_wR, rL_wI, rL_wR, rR_wI, rR_wL, va_rf_some, va_rf_none, rR_nw, Option.toList_some, Option.toList_none, List.nil_append, List.cons_append, true_and, and_true, false_and, and_false, and_self, if_true, if_false, not_true_eq_false, not_false_eq_true, or_false, false_or, or_true, true_or, or_self, ite_true, ite_false, Option.some.injEq, reduceCtorEq, Nat.reduceMod, Nat.reduceDiv, Nat.reduceLeDiff, Nat.reduceEqDiff, Nat.reduceAdd, Nat.reduceMul, Nat.reduceSub, Nat.reduceLT, sw_nil, sw_int, sw_long, sw_ref, V34_r]
theorem k39s8 {d : Nat} {μ : PM} (h : (aS μ).length = 93) : ∀ Q, R (d + 2) 89 118 [some (.ref 2000010), none] [] μ Q = R (d + 2) 89 129 [some (.ref 2000010), none] [] (V39s8 μ) Q := by
  intro Q
  have c0 := k34 (d := (d + 1)) (μ := (nw μ 95000000)) (by simp only [aSl_I, aSl_L, aSl_R, aSl_N, V34_l, h, Nat.reduceAdd])
  have c0 : ∀ Q, R (d + 1) 0 0 [some (.ref 95000000)] [] (nw μ 95000000) Q = Q none (V34 (nw μ 95000000)) := c0
  unfold V39s8
  simp (disch := first | assumption | omega) only [r89_118, r89_119, r89_122, r89_122i, r89_123, r89_126, rI_wI, rL_wL, rR_wR, rI_wL, rI_wR, rL_wI, rL_wR, rR_wI, rR_wL, va_rf_some, va_rf_none, Option.toList_some, Option.toList_none, List.nil_append, List.cons_append, true_and, and_true, false_and, and_false, and_self, if_true, if_false, not_true_eq_false, not_false_eq_true, or_false, false_or, or_true, true_or, or_self, ite_true, ite_false, Option.some.injEq, reduceCtorEq, Nat.reduceMod, Nat.reduceDiv, Nat.reduceLeDiff, Nat.reduceEqDiff, Nat.reduceAdd, Nat.reduceMul, Nat.reduceSub, Nat.reduceLT, sw_nil, sw_int, sw_long, sw_ref, li, lo, nI_m1, ng_eq, nn_eq, en_eq, ng_le, ng_lt, Int32.neg_neg, nI_add, pk_mul, nI_clampO, nI_ltO, nI_leO, nI_eqO, nI_subO, nle_t, nle_f, nlt_t, nlt_f, neq_f, ll, nx, aSl_I, aSl_L, aSl_R, aSl_N, V34_l, h, vnb0, vnb1, rR_nw, c0, V34_r]
def V39s9 (μ : PM) : PM := (wR (V35 (nw (wR (nw (wR (nw (wR (nw (wR (nw (wR (nw (wR (nw μ 96000720) 2000010 13 (some 96000720)) 97000720) 2000010 14 (some 97000720)) 98000720) 2000010 15 (some 98000720)) 99000720) 2000010 16 (some 99000720)) 100007020) 2000010 17 (some 100007020)) 101000720) 2000010 18 (some 101000720)) 102000008)) 83000424 0 (some 102000008))
theorem V39s9_l (μ : PM) : (aS (V39s9 μ)).length = (aS μ).length + 8 := by
  unfold V39s9
  simp only [aSl_I, aSl_L, aSl_R, aSl_N, V35_l, Nat.add_assoc, Nat.reduceAdd]
theorem V39s9_AG {f : Nat → Nat → Int32} {μ ν : PM} (h : AG f μ ν) : AG f (V39s9 μ) (V39s9 ν) := (AG_R (V35_AG (AG_N (by decide) (AG_R (AG_N (by decide) (AG_R (AG_N (by decide) (AG_R (AG_N (by decide) (AG_R (AG_N (by decide) (AG_R (AG_N (by decide) (AG_R (AG_N (by decide) h)))))))))))))))
theorem V39s9_w (μ : PM) : rR (V39s9 μ) 2000010 6 = rR μ 2000010 6 := by
  unfold V39s9
  simp only [rI_wI, rL_wL, rR_wR, rI_wL, rI_wR, rL_wI, rL_wR, rR_wI, rR_wL, va_rf_some, va_rf_none, rR_nw, Option.toList_some, Option.toList_none, List.nil_append, List.cons_append, true_and, and_true, false_and, and_false, and_self, if_true, if_false, not_true_eq_false, not_false_eq_true, or_false, false_or, or_true, true_or, or_self, ite_true, ite_false, Option.some.injEq, reduceCtorEq, Nat.reduceMod, Nat.reduceDiv, Nat.reduceLeDiff, Nat.reduceEqDiff, Nat.reduceAdd, Nat.reduceMul, Nat.reduceSub, Nat.reduceLT, sw_nil, sw_int, sw_long, sw_ref, V35_r]
theorem k39s9 {d : Nat} {μ : PM} (h : (aS μ).length = 94) (hr : rR μ 2000010 6 = some 83000424) : ∀ Q, R (d + 2) 89 129 [some (.ref 2000010), none] [] μ Q = R (d + 2) 89 197 [some (.ref 2000010), some (.int (nI 0))] [] (V39s9 μ) Q := by
  intro Q
  have c0 := k35 (d := (d + 1)) (μ := (nw (wR (nw (wR (nw (wR (nw (wR (nw (wR (nw (wR (nw μ 96000720) 2000010 13 (some 96000720)) 97000720) 2000010 14 (some 97000720)) 98000720) 2000010 15 (some 98000720)) 99000720) 2000010 16 (some 99000720)) 100007020) 2000010 17 (some 100007020)) 101000720) 2000010 18 (some 101000720)) 102000008)) (by simp only [aSl_I, aSl_L, aSl_R, aSl_N, V35_l, h, Nat.reduceAdd])
  have c0 : ∀ Q, R (d + 1) 81 0 [some (.ref 102000008)] [] (nw (wR (nw (wR (nw (wR (nw (wR (nw (wR (nw (wR (nw μ 96000720) 2000010 13 (some 96000720)) 97000720) 2000010 14 (some 97000720)) 98000720) 2000010 15 (some 98000720)) 99000720) 2000010 16 (some 99000720)) 100007020) 2000010 17 (some 100007020)) 101000720) 2000010 18 (some 101000720)) 102000008) Q = Q none (V35 (nw (wR (nw (wR (nw (wR (nw (wR (nw (wR (nw (wR (nw μ 96000720) 2000010 13 (some 96000720)) 97000720) 2000010 14 (some 97000720)) 98000720) 2000010 15 (some 98000720)) 99000720) 2000010 16 (some 99000720)) 100007020) 2000010 17 (some 100007020)) 101000720) 2000010 18 (some 101000720)) 102000008)) := c0
  unfold V39s9
  simp (disch := first | assumption | omega) only [r89_129, r89_130, r89_132, r89_134, r89_137, r89_138, r89_140, r89_142, r89_145, r89_146, r89_148, r89_150, r89_153, r89_154, r89_156, r89_158, r89_161, r89_162, r89_164, r89_166, r89_169, r89_170, r89_172, r89_174, r89_177, r89_178, r89_179, r89_180, r89_181, r89_184, r89_185, r89_188, r89_189, r89_192, r89_192i, r89_193, r89_196, rI_wI, rL_wL, rR_wR, rI_wL, rI_wR, rL_wI, rL_wR, rR_wI, rR_wL, va_rf_some, va_rf_none, Option.toList_some, Option.toList_none, List.nil_append, List.cons_append, true_and, and_true, false_and, and_false, and_self, if_true, if_false, not_true_eq_false, not_false_eq_true, or_false, false_or, or_true, true_or, or_self, ite_true, ite_false, Option.some.injEq, reduceCtorEq, Nat.reduceMod, Nat.reduceDiv, Nat.reduceLeDiff, Nat.reduceEqDiff, Nat.reduceAdd, Nat.reduceMul, Nat.reduceSub, Nat.reduceLT, sw_nil, sw_int, sw_long, sw_ref, li, lo, nI_m1, ng_eq, nn_eq, en_eq, ng_le, ng_lt, Int32.neg_neg, nI_add, pk_mul, nI_clampO, nI_ltO, nI_leO, nI_eqO, nI_subO, nle_t, nle_f, nlt_t, nlt_f, neq_f, ll, nx, aSl_I, aSl_L, aSl_R, aSl_N, V35_l, h, hr, vnb0, vnb1, rR_nw, c0, V35_r]
def V39s10 (μ : PM) : PM := (wR (V36 (nw μ 104000008)) 83000424 1 (some 104000008))
theorem V39s10_l (μ : PM) : (aS (V39s10 μ)).length = (aS μ).length + 2 := by
  unfold V39s10
  simp only [aSl_I, aSl_L, aSl_R, aSl_N, V36_l, Nat.add_assoc, Nat.reduceAdd]
theorem V39s10_AG {f : Nat → Nat → Int32} {μ ν : PM} (h : AG f μ ν) : AG f (V39s10 μ) (V39s10 ν) := (AG_R (V36_AG (AG_N (by decide) h)))
theorem V39s10_w (μ : PM) : rR (V39s10 μ) 2000010 6 = rR μ 2000010 6 := by
  unfold V39s10
  simp only [rI_wI, rL_wL, rR_wR, rI_wL, rI_wR, rL_wI, rL_wR, rR_wI, rR_wL, va_rf_some, va_rf_none, rR_nw, Option.toList_some, Option.toList_none, List.nil_append, List.cons_append, true_and, and_true, false_and, and_false, and_self, if_true, if_false, not_true_eq_false, not_false_eq_true, or_false, false_or, or_true, true_or, or_self, ite_true, ite_false, Option.some.injEq, reduceCtorEq, Nat.reduceMod, Nat.reduceDiv, Nat.reduceLeDiff, Nat.reduceEqDiff, Nat.reduceAdd, Nat.reduceMul, Nat.reduceSub, Nat.reduceLT, sw_nil, sw_int, sw_long, sw_ref, V36_r]
theorem k39s10 {d : Nat} {μ : PM} (h : (aS μ).length = 102) (hr : rR μ 2000010 6 = some 83000424) : ∀ Q, R (d + 2) 89 197 [some (.ref 2000010), some (.int (nI 0))] [] μ Q = R (d + 2) 89 197 [some (.ref 2000010), some (.int (nI 1))] [] (V39s10 μ) Q := by
  intro Q
  have c0 := k36 (d := (d + 1)) (μ := (nw μ 104000008)) (by simp only [aSl_I, aSl_L, aSl_R, aSl_N, V36_l, h, Nat.reduceAdd])
  have c0 : ∀ Q, R (d + 1) 81 0 [some (.ref 104000008)] [] (nw μ 104000008) Q = Q none (V36 (nw μ 104000008)) := c0
  unfold V39s10
  rw [r89_197]
  simp (disch := first | assumption | omega) only [r89_200, r89_179, r89_180, r89_181, r89_184, r89_185, r89_188, r89_189, r89_192, r89_192i, r89_193, r89_196, rI_wI, rL_wL, rR_wR, rI_wL, rI_wR, rL_wI, rL_wR, rR_wI, rR_wL, va_rf_some, va_rf_none, Option.toList_some, Option.toList_none, List.nil_append, List.cons_append, true_and, and_true, false_and, and_false, and_self, if_true, if_false, not_true_eq_false, not_false_eq_true, or_false, false_or, or_true, true_or, or_self, ite_true, ite_false, Option.some.injEq, reduceCtorEq, Nat.reduceMod, Nat.reduceDiv, Nat.reduceLeDiff, Nat.reduceEqDiff, Nat.reduceAdd, Nat.reduceMul, Nat.reduceSub, Nat.reduceLT, sw_nil, sw_int, sw_long, sw_ref, li, lo, nI_m1, ng_eq, nn_eq, en_eq, ng_le, ng_lt, Int32.neg_neg, nI_add, pk_mul, nI_clampO, nI_ltO, nI_leO, nI_eqO, nI_subO, nle_t, nle_f, nlt_t, nlt_f, neq_f, ll, nx, aSl_I, aSl_L, aSl_R, aSl_N, V36_l, h, hr, vnb0, vnb1, rR_nw, c0, V36_r]
def V39s11 (μ : PM) : PM := (wR (V37 (nw μ 106000008)) 83000424 2 (some 106000008))
theorem V39s11_l (μ : PM) : (aS (V39s11 μ)).length = (aS μ).length + 2 := by
  unfold V39s11
  simp only [aSl_I, aSl_L, aSl_R, aSl_N, V37_l, Nat.add_assoc, Nat.reduceAdd]
theorem V39s11_AG {f : Nat → Nat → Int32} {μ ν : PM} (h : AG f μ ν) : AG f (V39s11 μ) (V39s11 ν) := (AG_R (V37_AG (AG_N (by decide) h)))
theorem V39s11_w (μ : PM) : rR (V39s11 μ) 2000010 6 = rR μ 2000010 6 := by
  unfold V39s11
  simp only [rI_wI, rL_wL, rR_wR, rI_wL, rI_wR, rL_wI, rL_wR, rR_wI, rR_wL, va_rf_some, va_rf_none, rR_nw, Option.toList_some, Option.toList_none, List.nil_append, List.cons_append, true_and, and_true, false_and, and_false, and_self, if_true, if_false, not_true_eq_false, not_false_eq_true, or_false, false_or, or_true, true_or, or_self, ite_true, ite_false, Option.some.injEq, reduceCtorEq, Nat.reduceMod, Nat.reduceDiv, Nat.reduceLeDiff, Nat.reduceEqDiff, Nat.reduceAdd, Nat.reduceMul, Nat.reduceSub, Nat.reduceLT, sw_nil, sw_int, sw_long, sw_ref, V37_r]
theorem k39s11 {d : Nat} {μ : PM} (h : (aS μ).length = 104) (hr : rR μ 2000010 6 = some 83000424) : ∀ Q, R (d + 2) 89 197 [some (.ref 2000010), some (.int (nI 1))] [] μ Q = R (d + 2) 89 197 [some (.ref 2000010), some (.int (nI 2))] [] (V39s11 μ) Q := by
  intro Q
  have c0 := k37 (d := (d + 1)) (μ := (nw μ 106000008)) (by simp only [aSl_I, aSl_L, aSl_R, aSl_N, V37_l, h, Nat.reduceAdd])
  have c0 : ∀ Q, R (d + 1) 81 0 [some (.ref 106000008)] [] (nw μ 106000008) Q = Q none (V37 (nw μ 106000008)) := c0
  unfold V39s11
  rw [r89_197]
  simp (disch := first | assumption | omega) only [r89_200, r89_179, r89_180, r89_181, r89_184, r89_185, r89_188, r89_189, r89_192, r89_192i, r89_193, r89_196, rI_wI, rL_wL, rR_wR, rI_wL, rI_wR, rL_wI, rL_wR, rR_wI, rR_wL, va_rf_some, va_rf_none, Option.toList_some, Option.toList_none, List.nil_append, List.cons_append, true_and, and_true, false_and, and_false, and_self, if_true, if_false, not_true_eq_false, not_false_eq_true, or_false, false_or, or_true, true_or, or_self, ite_true, ite_false, Option.some.injEq, reduceCtorEq, Nat.reduceMod, Nat.reduceDiv, Nat.reduceLeDiff, Nat.reduceEqDiff, Nat.reduceAdd, Nat.reduceMul, Nat.reduceSub, Nat.reduceLT, sw_nil, sw_int, sw_long, sw_ref, li, lo, nI_m1, ng_eq, nn_eq, en_eq, ng_le, ng_lt, Int32.neg_neg, nI_add, pk_mul, nI_clampO, nI_ltO, nI_leO, nI_eqO, nI_subO, nle_t, nle_f, nlt_t, nlt_f, neq_f, ll, nx, aSl_I, aSl_L, aSl_R, aSl_N, V37_l, h, hr, vnb0, vnb1, rR_nw, c0, V37_r]
def V39s12 (μ : PM) : PM := (wR (V38 (nw μ 108000008)) 83000424 3 (some 108000008))
theorem V39s12_l (μ : PM) : (aS (V39s12 μ)).length = (aS μ).length + 2 := by
  unfold V39s12
  simp only [aSl_I, aSl_L, aSl_R, aSl_N, V38_l, Nat.add_assoc, Nat.reduceAdd]
theorem V39s12_AG {f : Nat → Nat → Int32} {μ ν : PM} (h : AG f μ ν) : AG f (V39s12 μ) (V39s12 ν) := (AG_R (V38_AG (AG_N (by decide) h)))
theorem V39s12_w (μ : PM) : rR (V39s12 μ) 2000010 6 = rR μ 2000010 6 := by
  unfold V39s12
  simp only [rI_wI, rL_wL, rR_wR, rI_wL, rI_wR, rL_wI, rL_wR, rR_wI, rR_wL, va_rf_some, va_rf_none, rR_nw, Option.toList_some, Option.toList_none, List.nil_append, List.cons_append, true_and, and_true, false_and, and_false, and_self, if_true, if_false, not_true_eq_false, not_false_eq_true, or_false, false_or, or_true, true_or, or_self, ite_true, ite_false, Option.some.injEq, reduceCtorEq, Nat.reduceMod, Nat.reduceDiv, Nat.reduceLeDiff, Nat.reduceEqDiff, Nat.reduceAdd, Nat.reduceMul, Nat.reduceSub, Nat.reduceLT, sw_nil, sw_int, sw_long, sw_ref, V38_r]
theorem k39s12 {d : Nat} {μ : PM} (h : (aS μ).length = 106) (hr : rR μ 2000010 6 = some 83000424) : ∀ Q, R (d + 2) 89 197 [some (.ref 2000010), some (.int (nI 2))] [] μ Q = R (d + 2) 89 197 [some (.ref 2000010), some (.int (nI 3))] [] (V39s12 μ) Q := by
  intro Q
  have c0 := k38 (d := (d + 1)) (μ := (nw μ 108000008)) (by simp only [aSl_I, aSl_L, aSl_R, aSl_N, V38_l, h, Nat.reduceAdd])
  have c0 : ∀ Q, R (d + 1) 81 0 [some (.ref 108000008)] [] (nw μ 108000008) Q = Q none (V38 (nw μ 108000008)) := c0
  unfold V39s12
  rw [r89_197]
  simp (disch := first | assumption | omega) only [r89_200, r89_179, r89_180, r89_181, r89_184, r89_185, r89_188, r89_189, r89_192, r89_192i, r89_193, r89_196, rI_wI, rL_wL, rR_wR, rI_wL, rI_wR, rL_wI, rL_wR, rR_wI, rR_wL, va_rf_some, va_rf_none, Option.toList_some, Option.toList_none, List.nil_append, List.cons_append, true_and, and_true, false_and, and_false, and_self, if_true, if_false, not_true_eq_false, not_false_eq_true, or_false, false_or, or_true, true_or, or_self, ite_true, ite_false, Option.some.injEq, reduceCtorEq, Nat.reduceMod, Nat.reduceDiv, Nat.reduceLeDiff, Nat.reduceEqDiff, Nat.reduceAdd, Nat.reduceMul, Nat.reduceSub, Nat.reduceLT, sw_nil, sw_int, sw_long, sw_ref, li, lo, nI_m1, ng_eq, nn_eq, en_eq, ng_le, ng_lt, Int32.neg_neg, nI_add, pk_mul, nI_clampO, nI_ltO, nI_leO, nI_eqO, nI_subO, nle_t, nle_f, nlt_t, nlt_f, neq_f, ll, nx, aSl_I, aSl_L, aSl_R, aSl_N, V38_l, h, hr, vnb0, vnb1, rR_nw, c0, V38_r]
def V39s13 (μ : PM) : PM := μ
theorem V39s13_l (μ : PM) : (aS (V39s13 μ)).length = (aS μ).length + 0 := rfl
theorem V39s13_AG {f : Nat → Nat → Int32} {μ ν : PM} (h : AG f μ ν) : AG f (V39s13 μ) (V39s13 ν) := h
theorem V39s13_w (μ : PM) : rR (V39s13 μ) 2000010 6 = rR μ 2000010 6 := rfl
theorem k39s13 {d : Nat} {μ : PM} (h : (aS μ).length = 108) : ∀ Q, R (d + 2) 89 197 [some (.ref 2000010), some (.int (nI 3))] [] μ Q = Q none (V39s13 μ) := by
  intro Q
  unfold V39s13
  simp (disch := first | assumption | omega) only [r89_197, r89_200, r89_179, r89_180, r89_181, r89_203, rI_wI, rL_wL, rR_wR, rI_wL, rI_wR, rL_wI, rL_wR, rR_wI, rR_wL, va_rf_some, va_rf_none, Option.toList_some, Option.toList_none, List.nil_append, List.cons_append, true_and, and_true, false_and, and_false, and_self, if_true, if_false, not_true_eq_false, not_false_eq_true, or_false, false_or, or_true, true_or, or_self, ite_true, ite_false, Option.some.injEq, reduceCtorEq, Nat.reduceMod, Nat.reduceDiv, Nat.reduceLeDiff, Nat.reduceEqDiff, Nat.reduceAdd, Nat.reduceMul, Nat.reduceSub, Nat.reduceLT, sw_nil, sw_int, sw_long, sw_ref, li, lo, nI_m1, ng_eq, nn_eq, en_eq, ng_le, ng_lt, Int32.neg_neg, nI_add, pk_mul, nI_clampO, nI_ltO, nI_leO, nI_eqO, nI_subO, nle_t, nle_f, nlt_t, nlt_f, neq_f, ll, nx, aSl_I, aSl_L, aSl_R, aSl_N, h, vnb0, vnb1, rR_nw]
def V39 (μ : PM) : PM := (V39s13 (V39s12 (V39s11 (V39s10 (V39s9 (V39s8 (V39s7 (V39s6 (V39s5 (V39s4 (V39s3 (V39s2 (V39s1 (V39s0 μ))))))))))))))
theorem V39_l (μ : PM) : (aS (V39 μ)).length = (aS μ).length + 107 := by
  unfold V39
  simp only [V39s0_l, V39s1_l, V39s2_l, V39s3_l, V39s4_l, V39s5_l, V39s6_l, V39s7_l, V39s8_l, V39s9_l, V39s10_l, V39s11_l, V39s12_l, V39s13_l, Nat.add_assoc, Nat.reduceAdd]
theorem V39_AG {f : Nat → Nat → Int32} {μ ν : PM} (h : AG f μ ν) : AG f (V39 μ) (V39 ν) := (V39s13_AG (V39s12_AG (V39s11_AG (V39s10_AG (V39s9_AG (V39s8_AG (V39s7_AG (V39s6_AG (V39s5_AG (V39s4_AG (V39s3_AG (V39s2_AG (V39s1_AG (V39s0_AG h))))))))))))))
theorem k39 {d : Nat} {μ : PM} (h : (aS μ).length = 1) : ∀ Q, R (d + 2) 89 0 [some (.ref 2000010), none] [] μ Q = Q none (V39 μ) := by
  intro Q
  have h0 : (aS μ).length = 1 := by exact h
  have h1 : (aS (V39s0 μ)).length = 3 := by simp only [V39s0_l, V39s1_l, V39s2_l, V39s3_l, V39s4_l, V39s5_l, V39s6_l, V39s7_l, V39s8_l, V39s9_l, V39s10_l, V39s11_l, V39s12_l, V39s13_l, h, Nat.reduceAdd]
  have h2 : (aS (V39s1 (V39s0 μ))).length = 9 := by simp only [V39s0_l, V39s1_l, V39s2_l, V39s3_l, V39s4_l, V39s5_l, V39s6_l, V39s7_l, V39s8_l, V39s9_l, V39s10_l, V39s11_l, V39s12_l, V39s13_l, h, Nat.reduceAdd]
  have h3 : (aS (V39s2 (V39s1 (V39s0 μ)))).length = 23 := by simp only [V39s0_l, V39s1_l, V39s2_l, V39s3_l, V39s4_l, V39s5_l, V39s6_l, V39s7_l, V39s8_l, V39s9_l, V39s10_l, V39s11_l, V39s12_l, V39s13_l, h, Nat.reduceAdd]
  have h4 : (aS (V39s3 (V39s2 (V39s1 (V39s0 μ))))).length = 37 := by simp only [V39s0_l, V39s1_l, V39s2_l, V39s3_l, V39s4_l, V39s5_l, V39s6_l, V39s7_l, V39s8_l, V39s9_l, V39s10_l, V39s11_l, V39s12_l, V39s13_l, h, Nat.reduceAdd]
  have h5 : (aS (V39s4 (V39s3 (V39s2 (V39s1 (V39s0 μ)))))).length = 39 := by simp only [V39s0_l, V39s1_l, V39s2_l, V39s3_l, V39s4_l, V39s5_l, V39s6_l, V39s7_l, V39s8_l, V39s9_l, V39s10_l, V39s11_l, V39s12_l, V39s13_l, h, Nat.reduceAdd]
  have h6 : (aS (V39s5 (V39s4 (V39s3 (V39s2 (V39s1 (V39s0 μ))))))).length = 81 := by simp only [V39s0_l, V39s1_l, V39s2_l, V39s3_l, V39s4_l, V39s5_l, V39s6_l, V39s7_l, V39s8_l, V39s9_l, V39s10_l, V39s11_l, V39s12_l, V39s13_l, h, Nat.reduceAdd]
  have h7 : (aS (V39s6 (V39s5 (V39s4 (V39s3 (V39s2 (V39s1 (V39s0 μ)))))))).length = 92 := by simp only [V39s0_l, V39s1_l, V39s2_l, V39s3_l, V39s4_l, V39s5_l, V39s6_l, V39s7_l, V39s8_l, V39s9_l, V39s10_l, V39s11_l, V39s12_l, V39s13_l, h, Nat.reduceAdd]
  have h8 : (aS (V39s7 (V39s6 (V39s5 (V39s4 (V39s3 (V39s2 (V39s1 (V39s0 μ))))))))).length = 93 := by simp only [V39s0_l, V39s1_l, V39s2_l, V39s3_l, V39s4_l, V39s5_l, V39s6_l, V39s7_l, V39s8_l, V39s9_l, V39s10_l, V39s11_l, V39s12_l, V39s13_l, h, Nat.reduceAdd]
  have h9 : (aS (V39s8 (V39s7 (V39s6 (V39s5 (V39s4 (V39s3 (V39s2 (V39s1 (V39s0 μ)))))))))).length = 94 := by simp only [V39s0_l, V39s1_l, V39s2_l, V39s3_l, V39s4_l, V39s5_l, V39s6_l, V39s7_l, V39s8_l, V39s9_l, V39s10_l, V39s11_l, V39s12_l, V39s13_l, h, Nat.reduceAdd]
  have w9 : rR (V39s8 (V39s7 (V39s6 (V39s5 (V39s4 (V39s3 (V39s2 (V39s1 (V39s0 μ))))))))) 2000010 6 = some 83000424 := by rw [V39s8_w, V39s7_w, V39s6_w]
  have h10 : (aS (V39s9 (V39s8 (V39s7 (V39s6 (V39s5 (V39s4 (V39s3 (V39s2 (V39s1 (V39s0 μ))))))))))).length = 102 := by simp only [V39s0_l, V39s1_l, V39s2_l, V39s3_l, V39s4_l, V39s5_l, V39s6_l, V39s7_l, V39s8_l, V39s9_l, V39s10_l, V39s11_l, V39s12_l, V39s13_l, h, Nat.reduceAdd]
  have w10 : rR (V39s9 (V39s8 (V39s7 (V39s6 (V39s5 (V39s4 (V39s3 (V39s2 (V39s1 (V39s0 μ)))))))))) 2000010 6 = some 83000424 := by rw [V39s9_w, V39s8_w, V39s7_w, V39s6_w]
  have h11 : (aS (V39s10 (V39s9 (V39s8 (V39s7 (V39s6 (V39s5 (V39s4 (V39s3 (V39s2 (V39s1 (V39s0 μ)))))))))))).length = 104 := by simp only [V39s0_l, V39s1_l, V39s2_l, V39s3_l, V39s4_l, V39s5_l, V39s6_l, V39s7_l, V39s8_l, V39s9_l, V39s10_l, V39s11_l, V39s12_l, V39s13_l, h, Nat.reduceAdd]
  have w11 : rR (V39s10 (V39s9 (V39s8 (V39s7 (V39s6 (V39s5 (V39s4 (V39s3 (V39s2 (V39s1 (V39s0 μ))))))))))) 2000010 6 = some 83000424 := by rw [V39s10_w, V39s9_w, V39s8_w, V39s7_w, V39s6_w]
  have h12 : (aS (V39s11 (V39s10 (V39s9 (V39s8 (V39s7 (V39s6 (V39s5 (V39s4 (V39s3 (V39s2 (V39s1 (V39s0 μ))))))))))))).length = 106 := by simp only [V39s0_l, V39s1_l, V39s2_l, V39s3_l, V39s4_l, V39s5_l, V39s6_l, V39s7_l, V39s8_l, V39s9_l, V39s10_l, V39s11_l, V39s12_l, V39s13_l, h, Nat.reduceAdd]
  have w12 : rR (V39s11 (V39s10 (V39s9 (V39s8 (V39s7 (V39s6 (V39s5 (V39s4 (V39s3 (V39s2 (V39s1 (V39s0 μ)))))))))))) 2000010 6 = some 83000424 := by rw [V39s11_w, V39s10_w, V39s9_w, V39s8_w, V39s7_w, V39s6_w]
  have h13 : (aS (V39s12 (V39s11 (V39s10 (V39s9 (V39s8 (V39s7 (V39s6 (V39s5 (V39s4 (V39s3 (V39s2 (V39s1 (V39s0 μ)))))))))))))).length = 108 := by simp only [V39s0_l, V39s1_l, V39s2_l, V39s3_l, V39s4_l, V39s5_l, V39s6_l, V39s7_l, V39s8_l, V39s9_l, V39s10_l, V39s11_l, V39s12_l, V39s13_l, h, Nat.reduceAdd]
  rw [k39s0 h0 Q, k39s1 h1 Q, k39s2 h2 Q, k39s3 h3 Q, k39s4 h4 Q, k39s5 h5 Q, k39s6 h6 Q, k39s7 h7 Q, k39s8 h8 Q, k39s9 h9 w9 Q, k39s10 h10 w10 Q, k39s11 h11 w11 Q, k39s12 h12 w12 Q, k39s13 h13 Q]
  rfl
def V40 (μ : PM) : PM := (wR (nw (wR (nw (wR (nw (wR (nw (wR (nw (wR (nw (wR (nw (wR (nw (wR (nw (wR (nw (wR (nw (wR (wI (wI (wI (wI (wI (nw (wR (nw (wR (nw (wR (nw (wR (nw (wR (nw (wR (wL (wL (wL (wL (wL (wL (wL (wL (wL (wL (wL (wL (wL (wL (wL (wL (wL (wL (wL (wL (wL (wL (wL (wL (wL (wL (wL (wL (nw (wR (nw (wR (nw (wR (nw (wR (nw μ 111100020) 110000011 1 (some 111100020)) 112100220) 110000011 4 (some 112100220)) 113100220) 110000011 5 (some 113100220)) 114100221) 110000011 6 (some 114100221)) 115002821) 115002821 0 (lN 17848)) 115002821 1 (lN 43883346)) 115002821 2 (lN 1014885)) 115002821 3 (lN 716109)) 115002821 4 (lN 12185822)) 115002821 5 (lN 975695)) 115002821 6 (lN 979184)) 115002821 7 (lN 426207)) 115002821 8 (lN 1025867)) 115002821 9 (lN 22569601)) 115002821 10 (lN 812168)) 115002821 11 (lN 45076382804)) 115002821 12 (lN 305743)) 115002821 13 (lN 12177793)) 115002821 14 (lN 37895960)) 115002821 15 (lN 822891)) 115002821 16 (lN 38572112)) 115002821 17 (lN 30596128)) 115002821 18 (lN 4003626)) 115002821 19 (lN 1118949875)) 115002821 20 (lN 26332)) 115002821 21 (lN 1355799344)) 115002821 22 (lN 172942)) 115002821 23 (lN 19741)) 115002821 24 (lN 1891)) 115002821 25 (lN 573)) 115002821 26 (lN 989988)) 115002821 27 (lN 811933)) 110000011 9 (some 115002821)) 116018820) 110000011 10 (some 116018820)) 117220020) 110000011 11 (some 117220020)) 118220020) 110000011 12 (some 118220020)) 119001121) 110000011 14 (some 119001121)) 120001120) 110000011 15 (some 120001120)) 121000520) 121000520 0 (nI 26)) 121000520 1 (nI 3)) 121000520 2 (nI 5)) 121000520 3 (nI 6)) 121000520 4 (nI 27)) 110000011 20 (some 121000520)) 122000520) 110000011 21 (some 122000520)) 123110020) 110000011 22 (some 123110020)) 124025020) 110000011 23 (some 124025020)) 125000423) 110000011 25 (some 125000423)) 126000820) 110000011 26 (some 126000820)) 127000820) 110000011 31 (some 127000820)) 128000820) 110000011 32 (some 128000820)) 129000820) 110000011 37 (some 129000820)) 130000820) 110000011 38 (some 130000820)) 131008020) 110000011 39 (some 131008020)) 132008020) 110000011 40 (some 132008020))
theorem V40_l (μ : PM) : (aS (V40 μ)).length = (aS μ).length + 22 := by
  unfold V40
  simp only [aSl_I, aSl_L, aSl_R, aSl_N, Nat.add_assoc, Nat.reduceAdd]
theorem V40_AG {f : Nat → Nat → Int32} {μ ν : PM} (h : AG f μ ν) : AG f (V40 μ) (V40 ν) := (AG_R (AG_N (by decide) (AG_R (AG_N (by decide) (AG_R (AG_N (by decide) (AG_R (AG_N (by decide) (AG_R (AG_N (by decide) (AG_R (AG_N (by decide) (AG_R (AG_N (by decide) (AG_R (AG_N (by decide) (AG_R (AG_N (by decide) (AG_R (AG_N (by decide) (AG_R (AG_N (by decide) (AG_R (AG_I (by decide) (AG_I (by decide) (AG_I (by decide) (AG_I (by decide) (AG_I (by decide) (AG_N (by decide) (AG_R (AG_N (by decide) (AG_R (AG_N (by decide) (AG_R (AG_N (by decide) (AG_R (AG_N (by decide) (AG_R (AG_N (by decide) (AG_R (AG_L (AG_L (AG_L (AG_L (AG_L (AG_L (AG_L (AG_L (AG_L (AG_L (AG_L (AG_L (AG_L (AG_L (AG_L (AG_L (AG_L (AG_L (AG_L (AG_L (AG_L (AG_L (AG_L (AG_L (AG_L (AG_L (AG_L (AG_L (AG_N (by decide) (AG_R (AG_N (by decide) (AG_R (AG_N (by decide) (AG_R (AG_N (by decide) (AG_R (AG_N (by decide) h)))))))))))))))))))))))))))))))))))))))))))))))))))))))))))))))))))))))))))))
theorem k40 {d : Nat} {μ : PM} (h : (aS μ).length = 109) : ∀ Q, R d 134 0 [some (.ref 110000011)] [] μ Q = R d 134 399 [some (.ref 110000011)] [] (V40 μ) Q := by
  intro Q
  unfold V40
  simp (disch := first | assumption | omega) only [r134_0, r134_1, r134_4, r134_5, r134_8, r134_10, r134_10n, r134_13, r134_14, r134_17, r134_19, r134_19n, r134_22, r134_23, r134_26, r134_28, r134_28n, r134_31, r134_32, r134_35, r134_37, r134_37n, r134_40, r134_41, r134_43, r134_45, r134_45i, r134_46, r134_47, r134_50, r134_51, r134_51i, r134_52, r134_53, r134_56, r134_57, r134_57i, r134_58, r134_59, r134_62, r134_63, r134_63i, r134_64, r134_65, r134_68, r134_69, r134_69i, r134_70, r134_71, r134_74, r134_75, r134_75i, r134_76, r134_77, r134_80, r134_81, r134_81i, r134_82, r134_84, r134_87, r134_88, r134_88i, r134_89, r134_91, r134_94, r134_95, r134_95i, r134_96, r134_98, r134_101, r134_102, r134_102i, r134_103, r134_105, r134_108, r134_109, r134_109i, r134_110, r134_112, r134_115, r134_116, r134_116i, r134_117, r134_119, r134_122, r134_123, r134_123i, r134_124, r134_126, r134_129, r134_130, r134_130i, r134_131, r134_133, r134_136, r134_137, r134_137i, r134_138, r134_140, r134_143, r134_144, r134_144i, r134_145, r134_147, r134_150, r134_151, r134_151i, r134_152, r134_154, r134_157, r134_158, r134_158i, r134_159, r134_161, r134_164, r134_165, r134_165i, r134_166, r134_168, r134_171, r134_172, r134_172i, r134_173, r134_175, r134_178, r134_179, r134_179i, r134_180, r134_182, r134_185, r134_186, r134_186i, r134_187, r134_189, r134_192, r134_193, r134_193i, r134_194, r134_196, r134_199, r134_200, r134_200i, r134_201, r134_203, r134_206, r134_207, r134_207i, r134_208, r134_210, r134_213, r134_214, r134_214i, r134_215, r134_217, r134_220, r134_221, r134_221i, r134_222, r134_224, r134_227, r134_228, r134_228i, r134_229, r134_231, r134_234, r134_235, r134_235n, r134_238, r134_239, r134_242, r134_244, r134_244n, r134_247, r134_248, r134_251, r134_253, r134_253n, r134_256, r134_257, r134_260, r134_262, r134_262n, r134_265, r134_266, r134_268, r134_270, r134_270n, r134_273, r134_274, r134_276, r134_278, r134_278n, r134_281, r134_282, r134_283, r134_285, r134_285i, r134_286, r134_287, r134_289, r134_290, r134_290i, r134_291, r134_292, r134_293, r134_294, r134_294i, r134_295, r134_296, r134_297, r134_298, r134_298i, r134_299, r134_300, r134_302, r134_303, r134_303i, r134_304, r134_305, r134_307, r134_308, r134_308n, r134_311, r134_312, r134_313, r134_315, r134_315n, r134_318, r134_319, r134_322, r134_324, r134_324n, r134_327, r134_328, r134_331, r134_333, r134_333n, r134_336, r134_337, r134_338, r134_340, r134_340n, r134_343, r134_344, r134_346, r134_348, r134_348n, r134_351, r134_352, r134_354, r134_356, r134_356n, r134_359, r134_360, r134_362, r134_364, r134_364n, r134_367, r134_368, r134_370, r134_372, r134_372n, r134_375, r134_376, r134_378, r134_380, r134_380n, r134_383, r134_384, r134_386, r134_388, r134_388n, r134_391, r134_392, r134_394, r134_396, r134_396n, rI_wI, rL_wL, rR_wR, rI_wL, rI_wR, rL_wI, rL_wR, rR_wI, rR_wL, va_rf_some, va_rf_none, Option.toList_some, Option.toList_none, List.nil_append, List.cons_append, true_and, and_true, false_and, and_false, and_self, if_true, if_false, not_true_eq_false, not_false_eq_true, or_false, false_or, or_true, true_or, or_self, ite_true, ite_false, Option.some.injEq, reduceCtorEq, Nat.reduceMod, Nat.reduceDiv, Nat.reduceLeDiff, Nat.reduceEqDiff, Nat.reduceAdd, Nat.reduceMul, Nat.reduceSub, Nat.reduceLT, sw_nil, sw_int, sw_long, sw_ref, li, lo, nI_m1, ng_eq, nn_eq, en_eq, ng_le, ng_lt, Int32.neg_neg, nI_add, pk_mul, nI_clampO, nI_ltO, nI_leO, nI_eqO, nI_subO, nle_t, nle_f, nlt_t, nlt_f, neq_f, ll, nx, aSl_I, aSl_L, aSl_R, aSl_N, h, vnb0, vnb1, rR_nw]
