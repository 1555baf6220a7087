/-! WHETHER SOMEBODY LET IT FALL -/
theorem xg_gt {x : Int32} {n : Nat} (h : nI (n + 1) ≤ x) (hn : n < 2147483647) : (nI n < x) = True := by
  apply eq_true
  rw [Int32.le_iff_toInt_le, nI_toInt (by omega)] at h
  rw [Int32.lt_iff_toInt_lt, nI_toInt (by omega)]
  omega
theorem xg_ge {x : Int32} {n : Nat} (h : nI (n + 1) ≤ x) (hn : n < 2147483647) : (x ≤ nI n) = False := by
  apply eq_false
  rw [Int32.le_iff_toInt_le, nI_toInt (by omega)] at h
  rw [Int32.le_iff_toInt_le, nI_toInt (by omega)]
  omega
theorem xn_gt {x : Int32} {k : Nat} (h : x < nI 0) (hk : k < 2147483648) : (nI k < x) = False := by
  apply eq_false
  rw [Int32.lt_iff_toInt_lt, nI_toInt (by omega)] at h
  rw [Int32.lt_iff_toInt_lt, nI_toInt hk]
  omega
def ptI (a b : Nat) (w : Int32) : Int64 := if w = nI 0 then lN a else if w = nI 1 then lN b else -lN 1
def leO (x1 x2 x3 x4 : Int32) : Prop := ∃ h f p q, h + f ≤ 8 ∧ 1 ≤ p ∧ p ≤ 9 ∧ 1 ≤ q ∧ q ≤ 9 ∧ x1 = nI h ∧ x2 = nI f ∧ x3 = nI p ∧ x4 = nI q
theorem pow_b {b t : Nat} (hb : b ≤ 9) (ht : t ≤ 8) : b ^ t ≤ 43046721 := Nat.le_trans (Nat.pow_le_pow_left hb t) (Nat.le_trans (Nat.pow_le_pow_right (by omega) ht) (by decide))
theorem pow2_b : ∀ h, h ≤ 8 → ∀ f, f ≤ 8 - h → ∀ q, q ≤ 9 → 1 ≤ q → q ^ h * (10 - q) ^ f < 100000000 ∧ 0 < q ^ h * (10 - q) ^ f := by decide +kernel
section T1
variable {d : Nat} {μ : PM} {Q : Option Value → PM → Prop} {pa : Nat → Nat} {lw : LW} {s : Nat → Nat} {un : List (Nat → Nat)} {mk : Nat → Option (Nat → Nat)} {tp : List Nat}
theorem c1 {F : Nat} {a b : Int64} {v2 v4 : Option Value} (hF : F % 100 = 0) : R d 1 0 [some (.ref F), some (.long a), v2, some (.long b), v4] [] μ Q = Q none (wL (wL μ F 0 a) F 1 b) := by
  simp (disch := first | assumption | omega) only [r1_0, r1_1, r1_2, r1_5, r1_6, r1_7, r1_10, rI_wI, rL_wL, rR_wR, rI_wL, rI_wR, rL_wI, rL_wR, rR_wI, rR_wL, va_rf_some, va_rf_none, Option.toList_some, Option.toList_none, List.nil_append, List.cons_append, true_and, and_true, false_and, and_false, and_self, if_true, if_false, not_true_eq_false, not_false_eq_true, or_false, false_or, or_true, true_or, or_self, ite_true, ite_false, Option.some.injEq, reduceCtorEq, Nat.reduceMod, Nat.reduceDiv, Nat.reduceLeDiff, Nat.reduceEqDiff, Nat.reduceAdd, Nat.reduceMul, Nat.reduceSub, Nat.reduceLT, sw_nil, sw_int, sw_long, sw_ref, li, lo, nI_m1, ng_eq, nn_eq, en_eq, ng_le, ng_lt, Int32.neg_neg, nI_add, pk_mul, nI_clampO, nI_ltO, nI_leO, nI_eqO, nI_subO, nle_t, nle_f, nlt_t, nlt_f, neq_f, hF]
theorem c6 {F a b : Nat} {w : Int32} (hF : F % 100 = 0) (ha : rL μ F 0 = lN a) (hb : rL μ F 1 = lN b) : R d 6 0 [some (.ref F), some (.int w)] [] μ Q = Q (some (.long (ptI a b w))) μ := by
  unfold ptI
  by_cases h0 : w = nI 0
  · subst h0
    simp (disch := first | assumption | omega) only [r6_0, r6_1, r6_4, r6_5, r6_8, r6_11, r6_12, r6_13, r6_16, r6_17, r6_20, r6_23, r6_26, rI_wI, rL_wL, rR_wR, rI_wL, rI_wR, rL_wI, rL_wR, rR_wI, rR_wL, va_rf_some, va_rf_none, Option.toList_some, Option.toList_none, List.nil_append, List.cons_append, true_and, and_true, false_and, and_false, and_self, if_true, if_false, not_true_eq_false, not_false_eq_true, or_false, false_or, or_true, true_or, or_self, ite_true, ite_false, Option.some.injEq, reduceCtorEq, Nat.reduceMod, Nat.reduceDiv, Nat.reduceLeDiff, Nat.reduceEqDiff, Nat.reduceAdd, Nat.reduceMul, Nat.reduceSub, Nat.reduceLT, sw_nil, sw_int, sw_long, sw_ref, li, lo, nI_m1, ng_eq, nn_eq, en_eq, ng_le, ng_lt, Int32.neg_neg, nI_add, pk_mul, nI_clampO, nI_ltO, nI_leO, nI_eqO, nI_subO, nle_t, nle_f, nlt_t, nlt_f, neq_f, hF, ha, hb, ll]
  · by_cases h1 : w = nI 1
    · subst h1
      simp (disch := first | assumption | omega) only [r6_0, r6_1, r6_4, r6_5, r6_8, r6_11, r6_12, r6_13, r6_16, r6_17, r6_20, r6_23, r6_26, rI_wI, rL_wL, rR_wR, rI_wL, rI_wR, rL_wI, rL_wR, rR_wI, rR_wL, va_rf_some, va_rf_none, Option.toList_some, Option.toList_none, List.nil_append, List.cons_append, true_and, and_true, false_and, and_false, and_self, if_true, if_false, not_true_eq_false, not_false_eq_true, or_false, false_or, or_true, true_or, or_self, ite_true, ite_false, Option.some.injEq, reduceCtorEq, Nat.reduceMod, Nat.reduceDiv, Nat.reduceLeDiff, Nat.reduceEqDiff, Nat.reduceAdd, Nat.reduceMul, Nat.reduceSub, Nat.reduceLT, sw_nil, sw_int, sw_long, sw_ref, li, lo, nI_m1, ng_eq, nn_eq, en_eq, ng_le, ng_lt, Int32.neg_neg, nI_add, pk_mul, nI_clampO, nI_ltO, nI_leO, nI_eqO, nI_subO, nle_t, nle_f, nlt_t, nlt_f, neq_f, hF, ha, hb, ll]
    · simp (disch := first | assumption | omega) only [r6_0, r6_1, r6_4, r6_5, r6_8, r6_11, r6_12, r6_13, r6_16, r6_17, r6_20, r6_23, r6_26, rI_wI, rL_wL, rR_wR, rI_wL, rI_wR, rL_wI, rL_wR, rR_wI, rR_wL, va_rf_some, va_rf_none, Option.toList_some, Option.toList_none, List.nil_append, List.cons_append, true_and, and_true, false_and, and_false, and_self, if_true, if_false, not_true_eq_false, not_false_eq_true, or_false, false_or, or_true, true_or, or_self, ite_true, ite_false, Option.some.injEq, reduceCtorEq, Nat.reduceMod, Nat.reduceDiv, Nat.reduceLeDiff, Nat.reduceEqDiff, Nat.reduceAdd, Nat.reduceMul, Nat.reduceSub, Nat.reduceLT, sw_nil, sw_int, sw_long, sw_ref, li, hF, ha, hb, ll, h0, h1]
theorem c130_l {b t : Nat} (hb : b < 1000) (ht : t < 1000) : ∀ r k v3, k + r = t → R d 130 5 [some (.int (nI b)), some (.int (nI t)), some (.long (lN (b ^ k))), v3, some (.int (nI k))] [] μ Q = Q (some (.long (lN (b ^ t)))) μ := by
  intro r
  induction r with
  | zero =>
    intro k v3 hk
    obtain rfl : k = t := by omega
    rw [r130_5]
    simp (disch := first | assumption | omega) only [r130_0, r130_1, r130_2, r130_3, r130_7, r130_8, r130_11, r130_12, r130_13, r130_14, r130_15, r130_16, r130_19, r130_22, r130_23, rI_wI, rL_wL, rR_wR, rI_wL, rI_wR, rL_wI, rL_wR, rR_wI, rR_wL, va_rf_some, va_rf_none, Option.toList_some, Option.toList_none, List.nil_append, List.cons_append, true_and, and_true, false_and, and_false, and_self, if_true, if_false, not_true_eq_false, not_false_eq_true, or_false, false_or, or_true, true_or, or_self, ite_true, ite_false, Option.some.injEq, reduceCtorEq, Nat.reduceMod, Nat.reduceDiv, Nat.reduceLeDiff, Nat.reduceEqDiff, Nat.reduceAdd, Nat.reduceMul, Nat.reduceSub, Nat.reduceLT, sw_nil, sw_int, sw_long, sw_ref, li, lo, nI_m1, ng_eq, nn_eq, en_eq, ng_le, ng_lt, Int32.neg_neg, nI_add, pk_mul, nI_clampO, nI_ltO, nI_leO, nI_eqO, nI_subO, nle_t, nle_f, nlt_t, nlt_f, neq_f]
  | succ r ih =>
    intro k v3 hk
    have := ih (k + 1) none (by omega)
    rw [Nat.pow_succ] at this
    rw [r130_5]
    simp (disch := first | assumption | omega) only [r130_0, r130_1, r130_2, r130_3, r130_7, r130_8, r130_11, r130_12, r130_13, r130_14, r130_15, r130_16, r130_19, r130_22, r130_23, rI_wI, rL_wL, rR_wR, rI_wL, rI_wR, rL_wI, rL_wR, rR_wI, rR_wL, va_rf_some, va_rf_none, Option.toList_some, Option.toList_none, List.nil_append, List.cons_append, true_and, and_true, false_and, and_false, and_self, if_true, if_false, not_true_eq_false, not_false_eq_true, or_false, false_or, or_true, true_or, or_self, ite_true, ite_false, Option.some.injEq, reduceCtorEq, Nat.reduceMod, Nat.reduceDiv, Nat.reduceLeDiff, Nat.reduceEqDiff, Nat.reduceAdd, Nat.reduceMul, Nat.reduceSub, Nat.reduceLT, sw_nil, sw_int, sw_long, sw_ref, li, lo, nI_m1, ng_eq, nn_eq, en_eq, ng_le, ng_lt, Int32.neg_neg, nI_add, pk_mul, nI_clampO, nI_ltO, nI_leO, nI_eqO, nI_subO, nle_t, nle_f, nlt_t, nlt_f, neq_f, nI_l, lN_mul]
    exact this
theorem c130 {b t : Nat} (hb : b < 1000) (ht : t < 1000) : R d 130 0 [some (.int (nI b)), some (.int (nI t)), none, none, none] [] μ Q = Q (some (.long (lN (b ^ t)))) μ := by
  have := c130_l (d := d) (μ := μ) (Q := Q) hb ht t 0 none (by omega)
  rw [Nat.pow_zero] at this
  simp (disch := first | assumption | omega) only [r130_0, r130_1, r130_2, r130_3, rI_wI, rL_wL, rR_wR, rI_wL, rI_wR, rL_wI, rL_wR, rR_wI, rR_wL, va_rf_some, va_rf_none, Option.toList_some, Option.toList_none, List.nil_append, List.cons_append, true_and, and_true, false_and, and_false, and_self, if_true, if_false, not_true_eq_false, not_false_eq_true, or_false, false_or, or_true, true_or, or_self, ite_true, ite_false, Option.some.injEq, reduceCtorEq, Nat.reduceMod, Nat.reduceDiv, Nat.reduceLeDiff, Nat.reduceEqDiff, Nat.reduceAdd, Nat.reduceMul, Nat.reduceSub, Nat.reduceLT, sw_nil, sw_int, sw_long, sw_ref, li, lo, nI_m1, ng_eq, nn_eq, en_eq, ng_le, ng_lt, Int32.neg_neg, nI_add, pk_mul, nI_clampO, nI_ltO, nI_leO, nI_eqO, nI_subO, nle_t, nle_f, nlt_t, nlt_f, neq_f, ll, this]
theorem c218_l {b t : Nat} (hb : b < 1000) (ht : t < 1000) : ∀ r k v3, k + r = t → R d 218 5 [some (.int (nI b)), some (.int (nI t)), some (.long (lN (b ^ k))), v3, some (.int (nI k))] [] μ Q = Q (some (.long (lN (b ^ t)))) μ := by
  intro r
  induction r with
  | zero =>
    intro k v3 hk
    obtain rfl : k = t := by omega
    rw [r218_5]
    simp (disch := first | assumption | omega) only [r218_0, r218_1, r218_2, r218_3, r218_7, r218_8, r218_11, r218_12, r218_13, r218_14, r218_15, r218_16, r218_19, r218_22, r218_23, rI_wI, rL_wL, rR_wR, rI_wL, rI_wR, rL_wI, rL_wR, rR_wI, rR_wL, va_rf_some, va_rf_none, Option.toList_some, Option.toList_none, List.nil_append, List.cons_append, true_and, and_true, false_and, and_false, and_self, if_true, if_false, not_true_eq_false, not_false_eq_true, or_false, false_or, or_true, true_or, or_self, ite_true, ite_false, Option.some.injEq, reduceCtorEq, Nat.reduceMod, Nat.reduceDiv, Nat.reduceLeDiff, Nat.reduceEqDiff, Nat.reduceAdd, Nat.reduceMul, Nat.reduceSub, Nat.reduceLT, sw_nil, sw_int, sw_long, sw_ref, li, lo, nI_m1, ng_eq, nn_eq, en_eq, ng_le, ng_lt, Int32.neg_neg, nI_add, pk_mul, nI_clampO, nI_ltO, nI_leO, nI_eqO, nI_subO, nle_t, nle_f, nlt_t, nlt_f, neq_f]
  | succ r ih =>
    intro k v3 hk
    have := ih (k + 1) none (by omega)
    rw [Nat.pow_succ] at this
    rw [r218_5]
    simp (disch := first | assumption | omega) only [r218_0, r218_1, r218_2, r218_3, r218_7, r218_8, r218_11, r218_12, r218_13, r218_14, r218_15, r218_16, r218_19, r218_22, r218_23, rI_wI, rL_wL, rR_wR, rI_wL, rI_wR, rL_wI, rL_wR, rR_wI, rR_wL, va_rf_some, va_rf_none, Option.toList_some, Option.toList_none, List.nil_append, List.cons_append, true_and, and_true, false_and, and_false, and_self, if_true, if_false, not_true_eq_false, not_false_eq_true, or_false, false_or, or_true, true_or, or_self, ite_true, ite_false, Option.some.injEq, reduceCtorEq, Nat.reduceMod, Nat.reduceDiv, Nat.reduceLeDiff, Nat.reduceEqDiff, Nat.reduceAdd, Nat.reduceMul, Nat.reduceSub, Nat.reduceLT, sw_nil, sw_int, sw_long, sw_ref, li, lo, nI_m1, ng_eq, nn_eq, en_eq, ng_le, ng_lt, Int32.neg_neg, nI_add, pk_mul, nI_clampO, nI_ltO, nI_leO, nI_eqO, nI_subO, nle_t, nle_f, nlt_t, nlt_f, neq_f, nI_l, lN_mul]
    exact this
theorem c218 {b t : Nat} (hb : b < 1000) (ht : t < 1000) : R d 218 0 [some (.int (nI b)), some (.int (nI t)), none, none, none] [] μ Q = Q (some (.long (lN (b ^ t)))) μ := by
  have := c218_l (d := d) (μ := μ) (Q := Q) hb ht t 0 none (by omega)
  rw [Nat.pow_zero] at this
  simp (disch := first | assumption | omega) only [r218_0, r218_1, r218_2, r218_3, rI_wI, rL_wL, rR_wR, rI_wL, rI_wR, rL_wI, rL_wR, rR_wI, rR_wL, va_rf_some, va_rf_none, Option.toList_some, Option.toList_none, List.nil_append, List.cons_append, true_and, and_true, false_and, and_false, and_self, if_true, if_false, not_true_eq_false, not_false_eq_true, or_false, false_or, or_true, true_or, or_self, ite_true, ite_false, Option.some.injEq, reduceCtorEq, Nat.reduceMod, Nat.reduceDiv, Nat.reduceLeDiff, Nat.reduceEqDiff, Nat.reduceAdd, Nat.reduceMul, Nat.reduceSub, Nat.reduceLT, sw_nil, sw_int, sw_long, sw_ref, li, lo, nI_m1, ng_eq, nn_eq, en_eq, ng_le, ng_lt, Int32.neg_neg, nI_add, pk_mul, nI_clampO, nI_ltO, nI_leO, nI_eqO, nI_subO, nle_t, nle_f, nlt_t, nlt_f, neq_f, ll, this]
def leA (h f p q : Nat) (w : Int32) : Int64 :=
  let a := q ^ h * (10 - q) ^ f
  let b := a + p ^ h * (10 - p) ^ f
  ptI (a / Nat.gcd a b) (b / Nat.gcd a b) w
theorem c111y (hF : FX μ) {h f p q : Nat} {w : Int32} (h1 : h + f ≤ 8) (h2 : 1 ≤ p) (h3 : p ≤ 9) (h4 : 1 ≤ q) (h5 : q ≤ 9) : ∃ ν, CSc μ ν ∧ ∀ Q, R (d + 1) 111 0 [some (.ref 2000010), some (.int (nI h)), some (.int (nI f)), some (.int (nI p)), some (.int (nI q)), some (.int w), none, none, none, none, none] [] μ Q = Q (some (.long (leA h f p q w))) ν := by
  obtain ⟨a1, a2⟩ := pow2_b h (by omega) f (by omega) q h5 h4
  obtain ⟨b1, b2⟩ := pow2_b h (by omega) f (by omega) p h3 h2
  unfold leA
  generalize ea : q ^ h * (10 - q) ^ f = a at *
  generalize eb : p ^ h * (10 - p) ^ f = b at *
  have hF1 : FX (wL (wL μ 94000000 0 (lN a)) 94000000 1 (lN (a + b))) := hF
  have c5' := fun Q => c5 (d := d) (Q := Q) (μ := wL (wL μ 94000000 0 (lN a)) 94000000 1 (lN (a + b))) (F := 94000000) (a := a) (b := a + b) (by decide) (by rw [rL_wL, if_neg (by decide), rL_wL, if_pos ⟨rfl, rfl⟩]) (by rw [rL_wL, if_pos ⟨rfl, rfl⟩]) (by omega) (by omega) (by omega)
  have c6' := fun Q => c6 (d := d) (Q := Q) (w := w) (μ := fin5 (wL (wL μ 94000000 0 (lN a)) 94000000 1 (lN (a + b))) 94000000 a (a + b) (Nat.gcd a (a + b))) (F := 94000000) (a := a / Nat.gcd a (a + b)) (b := (a + b) / Nat.gcd a (a + b)) (by decide) (by unfold fin5; rw [rL_wL, if_neg (by decide), rL_wL, if_pos ⟨rfl, rfl⟩]) (by unfold fin5; rw [rL_wL, if_pos ⟨rfl, rfl⟩])
  have hF2 : FX (fin5 (wL (wL μ 94000000 0 (lN a)) 94000000 1 (lN (a + b))) 94000000 a (a + b) (Nat.gcd a (a + b))) := hF
  refine ⟨fin5 (wL (wL μ 94000000 0 (lN a)) 94000000 1 (lN (a + b))) 94000000 a (a + b) (Nat.gcd a (a + b)), ?_, fun Q => ?_⟩
  · exact CSc_tr (CSc_wL μ 0 _ (by omega)) (CSc_tr (CSc_wL _ 1 _ (by omega)) (CSc_tr (CSc_wL _ 0 _ (by omega)) (CSc_wL _ 1 _ (by omega))))
  · have hfh : f ≤ 8 - h := by omega
    simp (disch := first | assumption | omega) only [r111_0, r111_1, r111_4, r111_5, r111_7, r111_10, r111_11, r111_14, r111_15, r111_17, r111_18, j111_19, r111_22, r111_23, r111_26, r111_27, r111_29, r111_31, r111_34, r111_35, r111_36, r111_39, r111_40, r111_42, r111_45, r111_47, r111_48, r111_51, r111_53, r111_55, r111_58, r111_61, r111_62, r111_64, r111_65, r111_68, r111_70, r111_72, r111_73, r111_74, r111_77, r111_78, r111_80, r111_81, r111_82, r111_85, r111_87, r111_88, r111_89, r111_90, r111_93, r111_94, r111_96, r111_97, r111_100, r111_102, r111_104, r111_106, r111_107, r111_110, r111_111, r111_114, r111_117, r111_118, r111_121, r111_123, r111_126, rI_wI, rL_wL, rR_wR, rI_wL, rI_wR, rL_wI, rL_wR, rR_wI, rR_wL, va_rf_some, va_rf_none, Option.toList_some, Option.toList_none, List.nil_append, List.cons_append, true_and, and_true, false_and, and_false, and_self, if_true, if_false, not_true_eq_false, not_false_eq_true, or_false, false_or, or_true, true_or, or_self, ite_true, ite_false, Option.some.injEq, reduceCtorEq, Nat.reduceMod, Nat.reduceDiv, Nat.reduceLeDiff, Nat.reduceEqDiff, Nat.reduceAdd, Nat.reduceMul, Nat.reduceSub, Nat.reduceLT, sw_nil, sw_int, sw_long, sw_ref, li, lo, nI_m1, ng_eq, nn_eq, en_eq, ng_le, ng_lt, Int32.neg_neg, nI_add, pk_mul, nI_clampO, nI_ltO, nI_leO, nI_eqO, nI_subO, nle_t, nle_f, nlt_t, nlt_f, neq_f, fx_2000010_0, fx_2000010_1, fx_2000010_4, fx_2000010_5, fx_2000010_6, fx_2000010_8, fx_2000010_10, fx_2000010_11, fx_2000010_12, fx_2000010_13, fx_2000010_14, fx_2000010_15, fx_2000010_16, fx_2000010_17, fx_2000010_18, fx_3000009_0, fx_5000007_0, fx_5000007_1, fx_5000007_2, fx_5000007_3, fx_7000001_0, fx_11000005_1, fx_11000005_2, fx_11000005_3, fx_11000005_4, fx_11000005_5, fx_11000005_6, fx_11000005_10, fx_11000005_11, fx_11000005_12, fx_20000002_0, fx_20000002_2, fx_20000002_3, fx_20000002_4, fx_25000005_1, fx_25000005_2, fx_25000005_3, fx_25000005_4, fx_25000005_5, fx_25000005_6, fx_25000005_10, fx_25000005_11, fx_25000005_12, fx_34000002_0, fx_34000002_2, fx_34000002_3, fx_34000002_4, fx_39000008_0, fx_41000006_0, fx_42002024_0, fx_42002024_1, fx_42002024_2, fx_42002024_3, fx_42002024_4, fx_42002024_5, fx_42002024_6, fx_42002024_7, fx_42002024_8, fx_42002024_9, fx_42002024_10, fx_42002024_11, fx_42002024_12, fx_42002024_13, fx_42002024_14, fx_42002024_15, fx_42002024_16, fx_42002024_17, fx_42002024_18, fx_42002024_19, fx_43000008_0, fx_45000008_0, fx_47000008_0, fx_49000008_0, fx_51000008_0, fx_53000008_0, fx_55000008_0, fx_57000008_0, fx_59000008_0, fx_61000008_0, fx_63000008_0, fx_65000008_0, fx_67000008_0, fx_69000008_0, fx_71000008_0, fx_73000008_0, fx_75000008_0, fx_77000008_0, fx_79000008_0, fx_81000008_0, fx_83000424_0, fx_83000424_1, fx_83000424_2, fx_83000424_3, fx_85000004_0, fx_85000004_1, fx_85000004_2, fx_85000004_3, fx_85000004_4, fx_85000004_5, fx_85000004_6, fx_85000004_10, fx_102000008_0, fx_104000008_0, fx_106000008_0, fx_108000008_0, fx_110000011_1, fx_110000011_4, fx_110000011_5, fx_110000011_6, fx_110000011_9, fx_110000011_10, fx_110000011_11, fx_110000011_12, fx_110000011_14, fx_110000011_15, fx_110000011_20, fx_110000011_21, fx_110000011_22, fx_110000011_23, fx_110000011_25, fx_110000011_26, fx_110000011_31, fx_110000011_32, fx_110000011_37, fx_110000011_38, fx_110000011_39, fx_110000011_40, c130, lN_mul, ea, eb, lN_add, c1, c5', c6']
end T1
