/-! THE LAW'S LOOP -/
theorem stpL {S L i : Nat} {xs : Nat → Int32} {μ : PM} (h1 : S % 100 = 20) (h2 : S / 100 % 10000 = L) (h3 : S < 2000000) (hL : L ≤ 3584) (hi : i + 7 ≤ L) (hx : ∀ j, rI μ S j = xs j) (hV : IVA μ) : ∃ ρ, IVA ρ ∧ BK μ ρ ∧ ∀ Q, R 60 232 27 [some (.ref S), some (.ref 2000010), some (.ref 110000011), some (.int (nI i))] [] μ Q = R 60 232 1017 [some (.ref S), some (.ref 2000010), some (.ref 110000011), some (.int (nI i))] [] ρ Q := by
  have e0 : ∀ Q, R 60 232 27 [some (.ref S), some (.ref 2000010), some (.ref 110000011), some (.int (nI i))] [] μ Q = R 60 232 33 [some (.ref S), some (.ref 2000010), some (.ref 110000011), some (.int (nI i))] [.int (xs i &&& nI 31)] μ Q := fun Q => by
    simp (disch := first | assumption | omega) only [r232_27, r232_28, r232_29, r232_30, r232_32, rI_wI, rL_wL, rR_wR, rI_wL, rI_wR, rL_wI, rL_wR, rR_wI, rR_wL, va_rf_some, va_rf_none, Option.toList_some, Option.toList_none, List.nil_append, List.cons_append, true_and, and_true, false_and, and_false, and_self, if_true, if_false, not_true_eq_false, not_false_eq_true, or_false, false_or, or_true, true_or, or_self, ite_true, ite_false, Option.some.injEq, reduceCtorEq, Nat.reduceMod, Nat.reduceDiv, Nat.reduceLeDiff, Nat.reduceEqDiff, Nat.reduceAdd, Nat.reduceMul, Nat.reduceSub, Nat.reduceLT, sw_nil, sw_int, sw_long, sw_ref, li, lo, nI_m1, ng_eq, nn_eq, en_eq, ng_le, ng_lt, Int32.neg_neg, nI_add, pk_mul, nI_clampO, nI_ltO, nI_leO, nI_eqO, nI_subO, nle_t, nle_f, nlt_t, nlt_f, neq_f, hx, h1, h2]
  generalize xs i &&& nI 31 = y at e0
  by_cases q0 : y = 0
  · obtain ⟨ρ, a, b, c⟩ := bd0 h1 h2 h3 hL hi hx hV
    exact ⟨ρ, a, b, fun Q => by rw [e0, r232_33, if_pos q0, c]⟩
  by_cases q1 : y = 1
  · obtain ⟨ρ, a, b, c⟩ := bd1 h1 h2 h3 hL hi hx hV
    exact ⟨ρ, a, b, fun Q => by rw [e0, r232_33, if_neg q0, if_pos q1, c]⟩
  by_cases q2 : y = 2
  · obtain ⟨ρ, a, b, c⟩ := bd2 h1 h2 h3 hL hi hx hV
    exact ⟨ρ, a, b, fun Q => by rw [e0, r232_33, if_neg q0, if_neg q1, if_pos q2, c]⟩
  by_cases q3 : y = 3
  · obtain ⟨ρ, a, b, c⟩ := bd3 h1 h2 h3 hL hi hx hV
    exact ⟨ρ, a, b, fun Q => by rw [e0, r232_33, if_neg q0, if_neg q1, if_neg q2, if_pos q3, c]⟩
  by_cases q4 : y = 4
  · obtain ⟨ρ, a, b, c⟩ := bd4 h1 h2 h3 hL hi hx hV
    exact ⟨ρ, a, b, fun Q => by rw [e0, r232_33, if_neg q0, if_neg q1, if_neg q2, if_neg q3, if_pos q4, c]⟩
  by_cases q5 : y = 5
  · obtain ⟨ρ, a, b, c⟩ := bd5 h1 h2 h3 hL hi hx hV
    exact ⟨ρ, a, b, fun Q => by rw [e0, r232_33, if_neg q0, if_neg q1, if_neg q2, if_neg q3, if_neg q4, if_pos q5, c]⟩
  by_cases q6 : y = 6
  · obtain ⟨ρ, a, b, c⟩ := bd6 h1 h2 h3 hL hi hx hV
    exact ⟨ρ, a, b, fun Q => by rw [e0, r232_33, if_neg q0, if_neg q1, if_neg q2, if_neg q3, if_neg q4, if_neg q5, if_pos q6, c]⟩
  by_cases q7 : y = 7
  · obtain ⟨ρ, a, b, c⟩ := bd7 h1 h2 h3 hL hi hx hV
    exact ⟨ρ, a, b, fun Q => by rw [e0, r232_33, if_neg q0, if_neg q1, if_neg q2, if_neg q3, if_neg q4, if_neg q5, if_neg q6, if_pos q7, c]⟩
  by_cases q8 : y = 8
  · obtain ⟨ρ, a, b, c⟩ := bd8 h1 h2 h3 hL hi hx hV
    exact ⟨ρ, a, b, fun Q => by rw [e0, r232_33, if_neg q0, if_neg q1, if_neg q2, if_neg q3, if_neg q4, if_neg q5, if_neg q6, if_neg q7, if_pos q8, c]⟩
  by_cases q9 : y = 9
  · obtain ⟨ρ, a, b, c⟩ := bd9 h1 h2 h3 hL hi hx hV
    exact ⟨ρ, a, b, fun Q => by rw [e0, r232_33, if_neg q0, if_neg q1, if_neg q2, if_neg q3, if_neg q4, if_neg q5, if_neg q6, if_neg q7, if_neg q8, if_pos q9, c]⟩
  by_cases q10 : y = 10
  · obtain ⟨ρ, a, b, c⟩ := bd10 h1 h2 h3 hL hi hx hV
    exact ⟨ρ, a, b, fun Q => by rw [e0, r232_33, if_neg q0, if_neg q1, if_neg q2, if_neg q3, if_neg q4, if_neg q5, if_neg q6, if_neg q7, if_neg q8, if_neg q9, if_pos q10, c]⟩
  by_cases q11 : y = 11
  · obtain ⟨ρ, a, b, c⟩ := bd11 h1 h2 h3 hL hi hx hV
    exact ⟨ρ, a, b, fun Q => by rw [e0, r232_33, if_neg q0, if_neg q1, if_neg q2, if_neg q3, if_neg q4, if_neg q5, if_neg q6, if_neg q7, if_neg q8, if_neg q9, if_neg q10, if_pos q11, c]⟩
  by_cases q12 : y = 12
  · obtain ⟨ρ, a, b, c⟩ := bd12 h1 h2 h3 hL hi hx hV
    exact ⟨ρ, a, b, fun Q => by rw [e0, r232_33, if_neg q0, if_neg q1, if_neg q2, if_neg q3, if_neg q4, if_neg q5, if_neg q6, if_neg q7, if_neg q8, if_neg q9, if_neg q10, if_neg q11, if_pos q12, c]⟩
  by_cases q13 : y = 13
  · obtain ⟨ρ, a, b, c⟩ := bd13 h1 h2 h3 hL hi hx hV
    exact ⟨ρ, a, b, fun Q => by rw [e0, r232_33, if_neg q0, if_neg q1, if_neg q2, if_neg q3, if_neg q4, if_neg q5, if_neg q6, if_neg q7, if_neg q8, if_neg q9, if_neg q10, if_neg q11, if_neg q12, if_pos q13, c]⟩
  by_cases q14 : y = 14
  · obtain ⟨ρ, a, b, c⟩ := bd14 h1 h2 h3 hL hi hx hV
    exact ⟨ρ, a, b, fun Q => by rw [e0, r232_33, if_neg q0, if_neg q1, if_neg q2, if_neg q3, if_neg q4, if_neg q5, if_neg q6, if_neg q7, if_neg q8, if_neg q9, if_neg q10, if_neg q11, if_neg q12, if_neg q13, if_pos q14, c]⟩
  by_cases q15 : y = 15
  · obtain ⟨ρ, a, b, c⟩ := bd15 h1 h2 h3 hL hi hx hV
    exact ⟨ρ, a, b, fun Q => by rw [e0, r232_33, if_neg q0, if_neg q1, if_neg q2, if_neg q3, if_neg q4, if_neg q5, if_neg q6, if_neg q7, if_neg q8, if_neg q9, if_neg q10, if_neg q11, if_neg q12, if_neg q13, if_neg q14, if_pos q15, c]⟩
  by_cases q16 : y = 16
  · obtain ⟨ρ, a, b, c⟩ := bd16 h1 h2 h3 hL hi hx hV
    exact ⟨ρ, a, b, fun Q => by rw [e0, r232_33, if_neg q0, if_neg q1, if_neg q2, if_neg q3, if_neg q4, if_neg q5, if_neg q6, if_neg q7, if_neg q8, if_neg q9, if_neg q10, if_neg q11, if_neg q12, if_neg q13, if_neg q14, if_neg q15, if_pos q16, c]⟩
  by_cases q17 : y = 17
  · obtain ⟨ρ, a, b, c⟩ := bd17 h1 h2 h3 hL hi hx hV
    exact ⟨ρ, a, b, fun Q => by rw [e0, r232_33, if_neg q0, if_neg q1, if_neg q2, if_neg q3, if_neg q4, if_neg q5, if_neg q6, if_neg q7, if_neg q8, if_neg q9, if_neg q10, if_neg q11, if_neg q12, if_neg q13, if_neg q14, if_neg q15, if_neg q16, if_pos q17, c]⟩
  by_cases q18 : y = 18
  · obtain ⟨ρ, a, b, c⟩ := bd18 h1 h2 h3 hL hi hx hV
    exact ⟨ρ, a, b, fun Q => by rw [e0, r232_33, if_neg q0, if_neg q1, if_neg q2, if_neg q3, if_neg q4, if_neg q5, if_neg q6, if_neg q7, if_neg q8, if_neg q9, if_neg q10, if_neg q11, if_neg q12, if_neg q13, if_neg q14, if_neg q15, if_neg q16, if_neg q17, if_pos q18, c]⟩
  by_cases q19 : y = 19
  · obtain ⟨ρ, a, b, c⟩ := bd19 h1 h2 h3 hL hi hx hV
    exact ⟨ρ, a, b, fun Q => by rw [e0, r232_33, if_neg q0, if_neg q1, if_neg q2, if_neg q3, if_neg q4, if_neg q5, if_neg q6, if_neg q7, if_neg q8, if_neg q9, if_neg q10, if_neg q11, if_neg q12, if_neg q13, if_neg q14, if_neg q15, if_neg q16, if_neg q17, if_neg q18, if_pos q19, c]⟩
  by_cases q20 : y = 20
  · obtain ⟨ρ, a, b, c⟩ := bd20 h1 h2 h3 hL hi hx hV
    exact ⟨ρ, a, b, fun Q => by rw [e0, r232_33, if_neg q0, if_neg q1, if_neg q2, if_neg q3, if_neg q4, if_neg q5, if_neg q6, if_neg q7, if_neg q8, if_neg q9, if_neg q10, if_neg q11, if_neg q12, if_neg q13, if_neg q14, if_neg q15, if_neg q16, if_neg q17, if_neg q18, if_neg q19, if_pos q20, c]⟩
  by_cases q21 : y = 21
  · obtain ⟨ρ, a, b, c⟩ := bd21 h1 h2 h3 hL hi hx hV
    exact ⟨ρ, a, b, fun Q => by rw [e0, r232_33, if_neg q0, if_neg q1, if_neg q2, if_neg q3, if_neg q4, if_neg q5, if_neg q6, if_neg q7, if_neg q8, if_neg q9, if_neg q10, if_neg q11, if_neg q12, if_neg q13, if_neg q14, if_neg q15, if_neg q16, if_neg q17, if_neg q18, if_neg q19, if_neg q20, if_pos q21, c]⟩
  by_cases q22 : y = 22
  · obtain ⟨ρ, a, b, c⟩ := bd22 h1 h2 h3 hL hi hx hV
    exact ⟨ρ, a, b, fun Q => by rw [e0, r232_33, if_neg q0, if_neg q1, if_neg q2, if_neg q3, if_neg q4, if_neg q5, if_neg q6, if_neg q7, if_neg q8, if_neg q9, if_neg q10, if_neg q11, if_neg q12, if_neg q13, if_neg q14, if_neg q15, if_neg q16, if_neg q17, if_neg q18, if_neg q19, if_neg q20, if_neg q21, if_pos q22, c]⟩
  by_cases q23 : y = 23
  · obtain ⟨ρ, a, b, c⟩ := bd23 h1 h2 h3 hL hi hx hV
    exact ⟨ρ, a, b, fun Q => by rw [e0, r232_33, if_neg q0, if_neg q1, if_neg q2, if_neg q3, if_neg q4, if_neg q5, if_neg q6, if_neg q7, if_neg q8, if_neg q9, if_neg q10, if_neg q11, if_neg q12, if_neg q13, if_neg q14, if_neg q15, if_neg q16, if_neg q17, if_neg q18, if_neg q19, if_neg q20, if_neg q21, if_neg q22, if_pos q23, c]⟩
  by_cases q24 : y = 24
  · obtain ⟨ρ, a, b, c⟩ := bd24 h1 h2 h3 hL hi hx hV
    exact ⟨ρ, a, b, fun Q => by rw [e0, r232_33, if_neg q0, if_neg q1, if_neg q2, if_neg q3, if_neg q4, if_neg q5, if_neg q6, if_neg q7, if_neg q8, if_neg q9, if_neg q10, if_neg q11, if_neg q12, if_neg q13, if_neg q14, if_neg q15, if_neg q16, if_neg q17, if_neg q18, if_neg q19, if_neg q20, if_neg q21, if_neg q22, if_neg q23, if_pos q24, c]⟩
  exact ⟨μ, hV, ⟨fun _ _ _ => rfl, rfl⟩, fun Q => by rw [e0, r232_33, if_neg q0, if_neg q1, if_neg q2, if_neg q3, if_neg q4, if_neg q5, if_neg q6, if_neg q7, if_neg q8, if_neg q9, if_neg q10, if_neg q11, if_neg q12, if_neg q13, if_neg q14, if_neg q15, if_neg q16, if_neg q17, if_neg q18, if_neg q19, if_neg q20, if_neg q21, if_neg q22, if_neg q23, if_neg q24]⟩
theorem sml : ∀ L, L < 7 → ∀ i, i < 7 → nI L - nI 7 < nI i := by decide +kernel
theorem lup {S L : Nat} {xs : Nat → Int32} (h1 : S % 100 = 20) (h2 : S / 100 % 10000 = L) (h3 : S < 2000000) (hL : L ≤ 3584) : ∀ (r i : Nat) (μ : PM), i + 7 * r ≤ L → L < i + 7 * r + 7 → (∀ j, rI μ S j = xs j) → IVA μ → ∃ ρ, aS ρ = aS μ ∧ ∀ Q, R 60 232 18 [some (.ref S), some (.ref 2000010), some (.ref 110000011), some (.int (nI i))] [] μ Q = Q (some (.int (nI 1))) ρ := by
  intro r
  induction r with
  | zero =>
    intro i μ hi hl hx hV
    refine ⟨μ, rfl, fun Q => ?_⟩
    by_cases h7 : 7 ≤ L
    · simp (disch := first | assumption | omega) only [r232_18, r232_19, r232_20, r232_21, r232_23, r232_24, r232_1023, r232_1024, rI_wI, rL_wL, rR_wR, rI_wL, rI_wR, rL_wI, rL_wR, rR_wI, rR_wL, va_rf_some, va_rf_none, Option.toList_some, Option.toList_none, List.nil_append, List.cons_append, true_and, and_true, false_and, and_false, and_self, if_true, if_false, not_true_eq_false, not_false_eq_true, or_false, false_or, or_true, true_or, or_self, ite_true, ite_false, Option.some.injEq, reduceCtorEq, Nat.reduceMod, Nat.reduceDiv, Nat.reduceLeDiff, Nat.reduceEqDiff, Nat.reduceAdd, Nat.reduceMul, Nat.reduceSub, Nat.reduceLT, sw_nil, sw_int, sw_long, sw_ref, li, lo, nI_m1, ng_eq, nn_eq, en_eq, ng_le, ng_lt, Int32.neg_neg, nI_add, pk_mul, nI_clampO, nI_ltO, nI_leO, nI_eqO, nI_subO, nle_t, nle_f, nlt_t, nlt_f, neq_f, h1, h2]
    · have e : (nI L - nI 7 < nI i) = True := eq_true (sml L (by omega) i (by omega))
      simp (disch := first | assumption | omega) only [r232_18, r232_19, r232_20, r232_21, r232_23, r232_24, r232_1023, r232_1024, rI_wI, rL_wL, rR_wR, rI_wL, rI_wR, rL_wI, rL_wR, rR_wI, rR_wL, va_rf_some, va_rf_none, Option.toList_some, Option.toList_none, List.nil_append, List.cons_append, true_and, and_true, false_and, and_false, and_self, if_true, if_false, not_true_eq_false, not_false_eq_true, or_false, false_or, or_true, true_or, or_self, ite_true, ite_false, Option.some.injEq, reduceCtorEq, Nat.reduceMod, Nat.reduceDiv, Nat.reduceLeDiff, Nat.reduceEqDiff, Nat.reduceAdd, Nat.reduceMul, Nat.reduceSub, Nat.reduceLT, sw_nil, sw_int, sw_long, sw_ref, li, lo, nI_m1, ng_eq, nn_eq, en_eq, ng_le, ng_lt, Int32.neg_neg, nI_add, pk_mul, nI_clampO, nI_ltO, nI_leO, nI_eqO, nI_subO, nle_t, nle_f, nlt_t, nlt_f, neq_f, h1, h2, e]
  | succ r ih =>
    intro i μ hi hl hx hV
    obtain ⟨ρ, a, b, c⟩ := stpL (i := i) h1 h2 h3 hL (by omega) hx hV
    obtain ⟨ρ', a', c'⟩ := ih (i + 7) ρ (by omega) (by omega) (fun j => (b.1 S j h3).trans (hx j)) a
    refine ⟨ρ', a'.trans b.2, fun Q => ?_⟩
    have e1 : R 60 232 18 [some (.ref S), some (.ref 2000010), some (.ref 110000011), some (.int (nI i))] [] μ Q = R 60 232 27 [some (.ref S), some (.ref 2000010), some (.ref 110000011), some (.int (nI i))] [] μ Q := by
      simp (disch := first | assumption | omega) only [r232_18, r232_19, r232_20, r232_21, r232_23, r232_24, rI_wI, rL_wL, rR_wR, rI_wL, rI_wR, rL_wI, rL_wR, rR_wI, rR_wL, va_rf_some, va_rf_none, Option.toList_some, Option.toList_none, List.nil_append, List.cons_append, true_and, and_true, false_and, and_false, and_self, if_true, if_false, not_true_eq_false, not_false_eq_true, or_false, false_or, or_true, true_or, or_self, ite_true, ite_false, Option.some.injEq, reduceCtorEq, Nat.reduceMod, Nat.reduceDiv, Nat.reduceLeDiff, Nat.reduceEqDiff, Nat.reduceAdd, Nat.reduceMul, Nat.reduceSub, Nat.reduceLT, sw_nil, sw_int, sw_long, sw_ref, li, lo, nI_m1, ng_eq, nn_eq, en_eq, ng_le, ng_lt, Int32.neg_neg, nI_add, pk_mul, nI_clampO, nI_ltO, nI_leO, nI_eqO, nI_subO, nle_t, nle_f, nlt_t, nlt_f, neq_f, h1, h2]
    have e2 : R 60 232 1017 [some (.ref S), some (.ref 2000010), some (.ref 110000011), some (.int (nI i))] [] ρ Q = R 60 232 18 [some (.ref S), some (.ref 2000010), some (.ref 110000011), some (.int (nI (i + 7)))] [] ρ Q := by
      simp (disch := first | assumption | omega) only [r232_1017, r232_1020, rI_wI, rL_wL, rR_wR, rI_wL, rI_wR, rL_wI, rL_wR, rR_wI, rR_wL, va_rf_some, va_rf_none, Option.toList_some, Option.toList_none, List.nil_append, List.cons_append, true_and, and_true, false_and, and_false, and_self, if_true, if_false, not_true_eq_false, not_false_eq_true, or_false, false_or, or_true, true_or, or_self, ite_true, ite_false, Option.some.injEq, reduceCtorEq, Nat.reduceMod, Nat.reduceDiv, Nat.reduceLeDiff, Nat.reduceEqDiff, Nat.reduceAdd, Nat.reduceMul, Nat.reduceSub, Nat.reduceLT, sw_nil, sw_int, sw_long, sw_ref, li, lo, nI_m1, ng_eq, nn_eq, en_eq, ng_le, ng_lt, Int32.neg_neg, nI_add, pk_mul, nI_clampO, nI_ltO, nI_leO, nI_eqO, nI_subO, nle_t, nle_f, nlt_t, nlt_f, neq_f]
    rw [e1, c, e2, c']
