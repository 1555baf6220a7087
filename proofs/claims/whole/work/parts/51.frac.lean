/-! FRACTIONS: THE GREATEST DIVISOR, BOTH SIDES -/
theorem ll (n : Nat) : (OfNat.ofNat n : Int64) = lN n := by
  unfold lN
  rfl
theorem lN_eqO {a b : Nat} (ha : a < 9223372036854775808) (hb : b < 9223372036854775808) : (lN a = lN b) = (a = b) := propext (pk_lEQ ha hb)
theorem lN_ltO {a b : Nat} (ha : a < 9223372036854775808) (hb : b < 9223372036854775808) : (lN a < lN b) = (a < b) := propext (pk_lLT ha hb)
theorem lN_divO {a b : Nat} (ha : a < 9223372036854775808) (h0 : 0 < b) (hb : b < 9223372036854775808) : lN a / lN b = lN (a / b) := pk_lDiv ha h0 hb
theorem lN_remO {a b : Nat} (ha : a < 9223372036854775808) (h0 : 0 < b) (hb : b < 9223372036854775808) : lN a - lN a / lN b * lN b = lN (a % b) := pk_lRem ha h0 hb
theorem cmp_0 (x z : Int64) : (lg_cmp x z = nI 0) = (x = z) := by
  apply propext
  unfold lg_cmp
  constructor
  · intro h
    by_cases h2 : x = z
    · exact h2
    · rw [if_neg h2] at h
      split at h <;> exact absurd h (by decide)
  · rintro rfl
    simp
    rfl
theorem mod_half {x y : Nat} (h : 0 < y) (hx : y ≤ x) : 2 * (x % y) < x := by
  have h1 := Nat.mod_lt x h
  have h2 := Nat.div_add_mod x y
  have h3 : 1 ≤ x / y := (Nat.one_le_div_iff h).mpr hx
  have h4 : y ≤ y * (x / y) := Nat.le_mul_of_pos_right y h3
  omega
section T1
variable {d : Nat} {μ : PM} {Q : Option Value → PM → Prop}
def fin5 (μ : PM) (F a b g : Nat) : PM := wL (wL μ F 0 (lN (a / g))) F 1 (lN (b / g))
theorem c5_e {F a b g : Nat} {v1 v2 v3 v4 v5 v6 : Option Value} (hF : F % 100 = 0) (ha : rL μ F 0 = lN a) (hb : rL μ F 1 = lN b) (ha2 : a < 9223372036854775808) (hb2 : b < 9223372036854775808) (hg : 0 < g) (hg2 : g < 9223372036854775808) : R d 5 42 [some (.ref F), some (.long (lN g)), v1, v2, v3, v4, v5, v6] [] μ Q = Q none (fin5 μ F a b g) := by
  simp (disch := first | assumption | omega) only [r5_0, r5_1, r5_4, r5_5, r5_6, r5_9, r5_10, r5_11, r5_15, r5_17, r5_20, r5_21, r5_22, r5_23, r5_26, r5_27, r5_28, r5_29, r5_31, r5_32, r5_33, r5_35, r5_36, r5_39, r5_42, r5_43, r5_44, r5_45, r5_48, r5_49, r5_49i, r5_50, r5_53, r5_54, r5_55, r5_58, r5_59, r5_59i, r5_60, r5_63, r5_64, r5_65, r5_68, rI_wI, rL_wL, rR_wR, rI_wL, rI_wR, rL_wI, rL_wR, rR_wI, rR_wL, va_rf_some, va_rf_none, Option.toList_some, Option.toList_none, List.nil_append, List.cons_append, true_and, and_true, false_and, and_false, and_self, if_true, if_false, not_true_eq_false, not_false_eq_true, or_false, false_or, or_true, true_or, or_self, ite_true, ite_false, Option.some.injEq, reduceCtorEq, Nat.reduceMod, Nat.reduceDiv, Nat.reduceLeDiff, Nat.reduceEqDiff, Nat.reduceAdd, Nat.reduceMul, Nat.reduceSub, Nat.reduceLT, sw_nil, sw_int, sw_long, sw_ref, li, lo, nI_m1, ng_eq, nn_eq, en_eq, ng_le, ng_lt, Int32.neg_neg, nI_add, pk_mul, nI_clampO, nI_ltO, nI_leO, nI_eqO, nI_subO, nle_t, nle_f, nlt_t, nlt_f, neq_f, hF, ha, hb, ll, cmp_0, lN_eqO, lN_ltO, lN_divO, rL_wL, fin5]
theorem c5_l {F a b : Nat} {v1 v2 : Option Value} (hF : F % 100 = 0) (ha : rL μ F 0 = lN a) (hb : rL μ F 1 = lN b) (ha2 : a < 9223372036854775808) (hb2 : b < 9223372036854775808) : ∀ (k x y i : Nat) (v6 v7 : Option Value), y < 2 ^ k → i + 2 * k < 100 → 0 < x → x < 9223372036854775808 → y < 9223372036854775808 → R d 5 13 [some (.ref F), some (.long (lN x)), v1, some (.long (lN y)), v2, some (.int (nI i)), v6, v7] [] μ Q = Q none (fin5 μ F a b (Nat.gcd x y)) := by
  intro k
  induction k generalizing v1 v2 with
  | zero =>
    intro x y i v6 v7 hy hi h0 hx hy2
    have e : y = 0 := by omega
    subst e
    have he := c5_e (d := d) (Q := Q) (v1 := v1) (v2 := some (.long (lN 0))) (v3 := v2) (v4 := some (.int (nI i))) (v5 := v6) (v6 := v7) hF ha hb ha2 hb2 h0 hx
    rw [r5_13, Nat.gcd_zero_right]
    simp (disch := first | assumption | omega) only [r5_15, r5_17, r5_20, r5_21, r5_22, r5_23, rI_wI, rL_wL, rR_wR, rI_wL, rI_wR, rL_wI, rL_wR, rR_wI, rR_wL, va_rf_some, va_rf_none, Option.toList_some, Option.toList_none, List.nil_append, List.cons_append, true_and, and_true, false_and, and_false, and_self, if_true, if_false, not_true_eq_false, not_false_eq_true, or_false, false_or, or_true, true_or, or_self, ite_true, ite_false, Option.some.injEq, reduceCtorEq, Nat.reduceMod, Nat.reduceDiv, Nat.reduceLeDiff, Nat.reduceEqDiff, Nat.reduceAdd, Nat.reduceMul, Nat.reduceSub, Nat.reduceLT, sw_nil, sw_int, sw_long, sw_ref, li, lo, nI_m1, ng_eq, nn_eq, en_eq, ng_le, ng_lt, Int32.neg_neg, nI_add, pk_mul, nI_clampO, nI_ltO, nI_leO, nI_eqO, nI_subO, nle_t, nle_f, nlt_t, nlt_f, neq_f, ll, cmp_0, he]
  | succ k ih =>
    intro x y i v6 v7 hy hi h0 hx hy2
    by_cases e : y = 0
    · subst e
      have he := c5_e (d := d) (Q := Q) (v1 := v1) (v2 := some (.long (lN 0))) (v3 := v2) (v4 := some (.int (nI i))) (v5 := v6) (v6 := v7) hF ha hb ha2 hb2 h0 hx
      rw [r5_13, Nat.gcd_zero_right]
      simp (disch := first | assumption | omega) only [r5_15, r5_17, r5_20, r5_21, r5_22, r5_23, rI_wI, rL_wL, rR_wR, rI_wL, rI_wR, rL_wI, rL_wR, rR_wI, rR_wL, va_rf_some, va_rf_none, Option.toList_some, Option.toList_none, List.nil_append, List.cons_append, true_and, and_true, false_and, and_false, and_self, if_true, if_false, not_true_eq_false, not_false_eq_true, or_false, false_or, or_true, true_or, or_self, ite_true, ite_false, Option.some.injEq, reduceCtorEq, Nat.reduceMod, Nat.reduceDiv, Nat.reduceLeDiff, Nat.reduceEqDiff, Nat.reduceAdd, Nat.reduceMul, Nat.reduceSub, Nat.reduceLT, sw_nil, sw_int, sw_long, sw_ref, li, lo, nI_m1, ng_eq, nn_eq, en_eq, ng_le, ng_lt, Int32.neg_neg, nI_add, pk_mul, nI_clampO, nI_ltO, nI_leO, nI_eqO, nI_subO, nle_t, nle_f, nlt_t, nlt_f, neq_f, ll, cmp_0, he]
    · have hy0 : 0 < y := by omega
      have hm := Nat.mod_lt x hy0
      rw [r5_13]
      simp (disch := first | assumption | omega) only [r5_0, r5_1, r5_4, r5_5, r5_6, r5_9, r5_10, r5_11, r5_15, r5_17, r5_20, r5_21, r5_22, r5_23, r5_26, r5_27, r5_28, r5_29, r5_31, r5_32, r5_33, r5_35, r5_36, r5_39, r5_43, r5_44, r5_45, r5_48, r5_49, r5_49i, r5_50, r5_53, r5_54, r5_55, r5_58, r5_59, r5_59i, r5_60, r5_63, r5_64, r5_65, r5_68, rI_wI, rL_wL, rR_wR, rI_wL, rI_wR, rL_wI, rL_wR, rR_wI, rR_wL, va_rf_some, va_rf_none, Option.toList_some, Option.toList_none, List.nil_append, List.cons_append, true_and, and_true, false_and, and_false, and_self, if_true, if_false, not_true_eq_false, not_false_eq_true, or_false, false_or, or_true, true_or, or_self, ite_true, ite_false, Option.some.injEq, reduceCtorEq, Nat.reduceMod, Nat.reduceDiv, Nat.reduceLeDiff, Nat.reduceEqDiff, Nat.reduceAdd, Nat.reduceMul, Nat.reduceSub, Nat.reduceLT, sw_nil, sw_int, sw_long, sw_ref, li, lo, nI_m1, ng_eq, nn_eq, en_eq, ng_le, ng_lt, Int32.neg_neg, nI_add, pk_mul, nI_clampO, nI_ltO, nI_leO, nI_eqO, nI_subO, nle_t, nle_f, nlt_t, nlt_f, neq_f, ll, cmp_0, lN_eqO, lN_remO]
      rw [show Nat.gcd x y = Nat.gcd y (x % y) by rw [Nat.gcd_comm x y, Nat.gcd_rec y x, Nat.gcd_comm]]
      by_cases e2 : x % y = 0
      · have he := c5_e (d := d) (Q := Q) (v1 := none) (v2 := some (.long (lN 0))) (v3 := none) (v4 := some (.int (nI (i + 1)))) (v5 := some (.long (lN 0))) (v6 := none) hF ha hb ha2 hb2 hy0 hy2
        rw [e2, r5_13, Nat.gcd_zero_right]
        simp (disch := first | assumption | omega) only [r5_15, r5_17, r5_20, r5_21, r5_22, r5_23, rI_wI, rL_wL, rR_wR, rI_wL, rI_wR, rL_wI, rL_wR, rR_wI, rR_wL, va_rf_some, va_rf_none, Option.toList_some, Option.toList_none, List.nil_append, List.cons_append, true_and, and_true, false_and, and_false, and_self, if_true, if_false, not_true_eq_false, not_false_eq_true, or_false, false_or, or_true, true_or, or_self, ite_true, ite_false, Option.some.injEq, reduceCtorEq, Nat.reduceMod, Nat.reduceDiv, Nat.reduceLeDiff, Nat.reduceEqDiff, Nat.reduceAdd, Nat.reduceMul, Nat.reduceSub, Nat.reduceLT, sw_nil, sw_int, sw_long, sw_ref, li, lo, nI_m1, ng_eq, nn_eq, en_eq, ng_le, ng_lt, Int32.neg_neg, nI_add, pk_mul, nI_clampO, nI_ltO, nI_leO, nI_eqO, nI_subO, nle_t, nle_f, nlt_t, nlt_f, neq_f, ll, cmp_0, he]
      · have hz0 : 0 < x % y := by omega
        have hh := mod_half hz0 (Nat.le_of_lt hm)
        have hm2 := Nat.mod_lt y hz0
        rw [r5_13]
        simp (disch := first | assumption | omega) only [r5_0, r5_1, r5_4, r5_5, r5_6, r5_9, r5_10, r5_11, r5_15, r5_17, r5_20, r5_21, r5_22, r5_23, r5_26, r5_27, r5_28, r5_29, r5_31, r5_32, r5_33, r5_35, r5_36, r5_39, r5_43, r5_44, r5_45, r5_48, r5_49, r5_49i, r5_50, r5_53, r5_54, r5_55, r5_58, r5_59, r5_59i, r5_60, r5_63, r5_64, r5_65, r5_68, rI_wI, rL_wL, rR_wR, rI_wL, rI_wR, rL_wI, rL_wR, rR_wI, rR_wL, va_rf_some, va_rf_none, Option.toList_some, Option.toList_none, List.nil_append, List.cons_append, true_and, and_true, false_and, and_false, and_self, if_true, if_false, not_true_eq_false, not_false_eq_true, or_false, false_or, or_true, true_or, or_self, ite_true, ite_false, Option.some.injEq, reduceCtorEq, Nat.reduceMod, Nat.reduceDiv, Nat.reduceLeDiff, Nat.reduceEqDiff, Nat.reduceAdd, Nat.reduceMul, Nat.reduceSub, Nat.reduceLT, sw_nil, sw_int, sw_long, sw_ref, li, lo, nI_m1, ng_eq, nn_eq, en_eq, ng_le, ng_lt, Int32.neg_neg, nI_add, pk_mul, nI_clampO, nI_ltO, nI_leO, nI_eqO, nI_subO, nle_t, nle_f, nlt_t, nlt_f, neq_f, ll, cmp_0, lN_eqO, lN_remO]
        rw [show Nat.gcd y (x % y) = Nat.gcd (x % y) (y % (x % y)) by rw [Nat.gcd_comm y, Nat.gcd_rec (x % y) y, Nat.gcd_comm]]
        exact ih (v1 := none) (v2 := none) (x % y) (y % (x % y)) (i + 1 + 1) _ _ (by rw [Nat.pow_succ] at hy; omega) (by omega) hz0 (by omega) (by omega)
theorem c5 {F a b : Nat} (hF : F % 100 = 0) (ha : rL μ F 0 = lN a) (hb : rL μ F 1 = lN b) (ha2 : a < 2 ^ 49) (hb0 : 0 < b) (hb2 : b < 9223372036854775808) : R d 5 0 [some (.ref F), none, none, none, none, none, none, none] [] μ Q = Q none (fin5 μ F a b (Nat.gcd a b)) := by
  have h49 : a < 562949953421312 := ha2
  have := c5_l (d := d) (Q := Q) (v1 := none) (v2 := none) hF ha hb (by omega) hb2 49 b a 0 none none ha2 (by omega) hb0 hb2 (by omega)
  rw [Nat.gcd_comm] at this
  simp (disch := first | assumption | omega) only [r5_0, r5_1, r5_4, r5_5, r5_6, r5_9, r5_10, r5_11, rI_wI, rL_wL, rR_wR, rI_wL, rI_wR, rL_wI, rL_wR, rR_wI, rR_wL, va_rf_some, va_rf_none, Option.toList_some, Option.toList_none, List.nil_append, List.cons_append, true_and, and_true, false_and, and_false, and_self, if_true, if_false, not_true_eq_false, not_false_eq_true, or_false, false_or, or_true, true_or, or_self, ite_true, ite_false, Option.some.injEq, reduceCtorEq, Nat.reduceMod, Nat.reduceDiv, Nat.reduceLeDiff, Nat.reduceEqDiff, Nat.reduceAdd, Nat.reduceMul, Nat.reduceSub, Nat.reduceLT, sw_nil, sw_int, sw_long, sw_ref, li, lo, nI_m1, ng_eq, nn_eq, en_eq, ng_le, ng_lt, Int32.neg_neg, nI_add, pk_mul, nI_clampO, nI_ltO, nI_leO, nI_eqO, nI_subO, nle_t, nle_f, nlt_t, nlt_f, neq_f, hF, ha, hb, this]
def finM (μ : PM) (a b g : Nat) : PM := wL (wL μ 110000011 29 (lN (a / g))) 110000011 30 (lN (b / g))
theorem c197_l {a b : Nat} (ha : rL μ 110000011 29 = lN a) (hb : rL μ 110000011 30 = lN b) (ha2 : a < 9223372036854775808) (hb2 : b < 9223372036854775808) : ∀ (y x : Nat) (v1 v2 v6 v7 : Option Value), 0 < Nat.gcd x y → x < 9223372036854775808 → y < 9223372036854775808 → R d 197 10 [some (.ref 110000011), some (.long (lN x)), v1, some (.long (lN y)), v2, v6, v7] [] μ Q = Q none (finM μ a b (Nat.gcd x y)) := by
  intro y
  induction y using Nat.strongRecOn with
  | ind y ih =>
    intro x v1 v2 v6 v7 h0 hx hy
    by_cases e : y = 0
    · subst e
      rw [Nat.gcd_zero_right] at h0 ⊢
      rw [r197_10]
      simp (disch := first | assumption | omega) only [r197_0, r197_1, r197_4, r197_5, r197_6, r197_9, r197_11, r197_12, r197_13, r197_16, r197_17, r197_18, r197_19, r197_21, r197_22, r197_23, r197_25, r197_26, r197_29, r197_30, r197_31, r197_34, r197_35, r197_36, r197_39, r197_40, r197_41, r197_44, r197_45, r197_46, r197_49, rI_wI, rL_wL, rR_wR, rI_wL, rI_wR, rL_wI, rL_wR, rR_wI, rR_wL, va_rf_some, va_rf_none, Option.toList_some, Option.toList_none, List.nil_append, List.cons_append, true_and, and_true, false_and, and_false, and_self, if_true, if_false, not_true_eq_false, not_false_eq_true, or_false, false_or, or_true, true_or, or_self, ite_true, ite_false, Option.some.injEq, reduceCtorEq, Nat.reduceMod, Nat.reduceDiv, Nat.reduceLeDiff, Nat.reduceEqDiff, Nat.reduceAdd, Nat.reduceMul, Nat.reduceSub, Nat.reduceLT, sw_nil, sw_int, sw_long, sw_ref, li, lo, nI_m1, ng_eq, nn_eq, en_eq, ng_le, ng_lt, Int32.neg_neg, nI_add, pk_mul, nI_clampO, nI_ltO, nI_leO, nI_eqO, nI_subO, nle_t, nle_f, nlt_t, nlt_f, neq_f, ll, cmp_0, lN_eqO, lN_divO, rL_wL, ha, hb, finM]
    · have hy0 : 0 < y := by omega
      have hm := Nat.mod_lt x hy0
      have eg : Nat.gcd x y = Nat.gcd y (x % y) := by rw [Nat.gcd_comm x y, Nat.gcd_rec y x, Nat.gcd_comm]
      rw [eg] at h0 ⊢
      rw [r197_10]
      simp (disch := first | assumption | omega) only [r197_0, r197_1, r197_4, r197_5, r197_6, r197_9, r197_11, r197_12, r197_13, r197_16, r197_17, r197_18, r197_19, r197_21, r197_22, r197_23, r197_25, r197_26, r197_30, r197_31, r197_34, r197_35, r197_36, r197_39, r197_40, r197_41, r197_44, r197_45, r197_46, r197_49, rI_wI, rL_wL, rR_wR, rI_wL, rI_wR, rL_wI, rL_wR, rR_wI, rR_wL, va_rf_some, va_rf_none, Option.toList_some, Option.toList_none, List.nil_append, List.cons_append, true_and, and_true, false_and, and_false, and_self, if_true, if_false, not_true_eq_false, not_false_eq_true, or_false, false_or, or_true, true_or, or_self, ite_true, ite_false, Option.some.injEq, reduceCtorEq, Nat.reduceMod, Nat.reduceDiv, Nat.reduceLeDiff, Nat.reduceEqDiff, Nat.reduceAdd, Nat.reduceMul, Nat.reduceSub, Nat.reduceLT, sw_nil, sw_int, sw_long, sw_ref, li, lo, nI_m1, ng_eq, nn_eq, en_eq, ng_le, ng_lt, Int32.neg_neg, nI_add, pk_mul, nI_clampO, nI_ltO, nI_leO, nI_eqO, nI_subO, nle_t, nle_f, nlt_t, nlt_f, neq_f, ll, cmp_0, lN_eqO, lN_remO]
      exact ih (x % y) hm y _ _ _ _ h0 hy (by omega)
theorem c197 {a b : Nat} (ha : rL μ 110000011 29 = lN a) (hb : rL μ 110000011 30 = lN b) (ha2 : a < 9223372036854775808) (hb0 : 0 < b) (hb2 : b < 9223372036854775808) : R d 197 0 [some (.ref 110000011), none, none, none, none, none, none] [] μ Q = Q none (finM μ a b (Nat.gcd a b)) := by
  have := c197_l (d := d) (Q := Q) ha hb ha2 hb2 b a none none none none (Nat.gcd_pos_of_pos_right a hb0) ha2 hb2
  simp (disch := first | assumption | omega) only [r197_0, r197_1, r197_4, r197_5, r197_6, r197_9, rI_wI, rL_wL, rR_wR, rI_wL, rI_wR, rL_wI, rL_wR, rR_wI, rR_wL, va_rf_some, va_rf_none, Option.toList_some, Option.toList_none, List.nil_append, List.cons_append, true_and, and_true, false_and, and_false, and_self, if_true, if_false, not_true_eq_false, not_false_eq_true, or_false, false_or, or_true, true_or, or_self, ite_true, ite_false, Option.some.injEq, reduceCtorEq, Nat.reduceMod, Nat.reduceDiv, Nat.reduceLeDiff, Nat.reduceEqDiff, Nat.reduceAdd, Nat.reduceMul, Nat.reduceSub, Nat.reduceLT, sw_nil, sw_int, sw_long, sw_ref, li, lo, nI_m1, ng_eq, nn_eq, en_eq, ng_le, ng_lt, Int32.neg_neg, nI_add, pk_mul, nI_clampO, nI_ltO, nI_leO, nI_eqO, nI_subO, nle_t, nle_f, nlt_t, nlt_f, neq_f, ha, hb, this]
end T1
