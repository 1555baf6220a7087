/-! TWO ROWS AS EVEN AS CAN BE: BOTH SIDES -/
theorem enI_n : enI none = -nI 1 := rfl
theorem enI_s (o : Nat) (v : Int32) : enI (some (o, v)) = nI o := rfl
theorem enL_n : enL none = nI 0 := rfl
theorem enL_s (o : Nat) (v : Int32) : enL (some (o, v)) = v := rfl
theorem enT_n (o : Nat) (v : Int32) : enT o v none = some (o, v) := rfl
theorem enT_y {o b : Nat} {D v : Int32} (h : D < v) : enT o D (some (b, v)) = some (o, D) := if_pos h
theorem enT_m {o b : Nat} {D v : Int32} (h : ¬ D < v) : enT o D (some (b, v)) = some (b, v) := if_neg h
section T1
variable {d : Nat} {μ : PM} {pa : Nat → Nat} {lw : LW} {s : Nat → Nat} {un : List (Nat → Nat)} {mk : Nat → Option (Nat → Nat)} {tp : List Nat}
theorem c129_l (hF : FX μ) (hC : CPt μ pa lw) (hP : PK pa) : ∀ (r k : Nat) (acc : Option (Nat × Int32)) (v4 : Option Value), k + r = 2 ^ pa 0 / 2 → enK pa acc → ∀ Q, R (d + 1) 129 6 [some (.ref 2000010), some (.int (enI acc)), some (.int (enL acc)), some (.int (nI (2 * k + 1))), v4] [] μ Q = Q (some (.int (enI (enS pa r k acc)))) μ := by
  have hp := hP.1.1
  obtain ⟨p1, p2, p3⟩ := p2_b hp
  have sh := sh2 (pa 0) (by omega)
  intro r
  induction r with
  | zero =>
    intro k acc v4 hk hA Q
    obtain ⟨P, h5, hr, h0, -⟩ := cTm (d := d) (o := 0) hF hC hP (by omega)
    have hlt : ¬ 2 * k + 1 < 2 ^ pa 0 := fun q => by have := p2_lt.mp q; omega
    rw [r129_6, enS]
    simp (disch := first | assumption | omega) only [r129_0, r129_1, r129_2, r129_3, r129_4, r129_5, r129_7, r129_8, r129_9, r129_12, r129_15, r129_16, r129_19, r129_20, r129_23, r129_24, r129_27, r129_30, r129_31, r129_34, r129_35, r129_38, r129_40, r129_41, r129_42, r129_45, r129_47, r129_48, r129_51, r129_52, r129_53, r129_55, r129_56, r129_59, r129_62, r129_63, rI_wI, rL_wL, rR_wR, rI_wL, rI_wR, rL_wI, rL_wR, rR_wI, rR_wL, va_rf_some, va_rf_none, Option.toList_some, Option.toList_none, List.nil_append, List.cons_append, true_and, and_true, false_and, and_false, and_self, if_true, if_false, not_true_eq_false, not_false_eq_true, or_false, false_or, or_true, true_or, or_self, ite_true, ite_false, Option.some.injEq, reduceCtorEq, Nat.reduceMod, Nat.reduceDiv, Nat.reduceLeDiff, Nat.reduceEqDiff, Nat.reduceAdd, Nat.reduceMul, Nat.reduceSub, Nat.reduceLT, sw_nil, sw_int, sw_long, sw_ref, li, lo, nI_m1, ng_eq, nn_eq, en_eq, ng_le, ng_lt, Int32.neg_neg, nI_add, pk_mul, nI_clampO, nI_ltO, nI_leO, nI_eqO, nI_subO, nle_t, nle_f, nlt_t, nlt_f, neq_f, h5, hr, h0, sh]
  | succ r ih =>
    intro k acc v4 hk hA Q
    have hlt : 2 * k + 1 < 2 ^ pa 0 := p2_lt.mpr (by omega)
    obtain ⟨P, h5, hr, h0, t1, t2⟩ := cTm (d := d) (o := 2 * k + 1) hF hC hP (by omega)
    rw [r129_6, enS]
    have k1 := fun acc v4 h => ih (k + 1) acc v4 (by omega) h
    rw [show 2 * (k + 1) + 1 = 2 * k + 1 + 2 by omega] at k1
    rcases pN_01 (TM pa (2 * k + 1)) with e | e
    · have e' : tmN pa (2 * k + 1) = 0 := e
      rw [if_neg (by omega)]
      rw [e'] at t1
      have k2 := k1 acc v4 hA
      simp (disch := first | assumption | omega) only [r129_0, r129_1, r129_2, r129_3, r129_4, r129_5, r129_7, r129_8, r129_9, r129_12, r129_15, r129_16, r129_19, r129_20, r129_23, r129_24, r129_27, r129_30, r129_31, r129_34, r129_35, r129_38, r129_40, r129_41, r129_42, r129_45, r129_47, r129_48, r129_51, r129_52, r129_53, r129_55, r129_56, r129_59, r129_62, r129_63, rI_wI, rL_wL, rR_wR, rI_wL, rI_wR, rL_wI, rL_wR, rR_wI, rR_wL, va_rf_some, va_rf_none, Option.toList_some, Option.toList_none, List.nil_append, List.cons_append, true_and, and_true, false_and, and_false, and_self, if_true, if_false, not_true_eq_false, not_false_eq_true, or_false, false_or, or_true, true_or, or_self, ite_true, ite_false, Option.some.injEq, reduceCtorEq, Nat.reduceMod, Nat.reduceDiv, Nat.reduceLeDiff, Nat.reduceEqDiff, Nat.reduceAdd, Nat.reduceMul, Nat.reduceSub, Nat.reduceLT, sw_nil, sw_int, sw_long, sw_ref, li, lo, nI_m1, ng_eq, nn_eq, en_eq, ng_le, ng_lt, Int32.neg_neg, nI_add, pk_mul, nI_clampO, nI_ltO, nI_leO, nI_eqO, nI_subO, nle_t, nle_f, nlt_t, nlt_f, neq_f, h5, hr, h0, sh, t1, k2]
    · have e' : tmN pa (2 * k + 1) = 1 := e
      rw [if_pos e']
      rw [e'] at t1
      have hA' := enT_K (pa := pa) (o := 2 * k + 1) (by omega) hA
      match acc, hA, hA' with
      | none, _, hA' =>
        rw [enT_n] at hA' ⊢
        have k2 := k1 _ (some (.int (dfA pa (2 * k + 1)))) hA'
        rw [enI_s, enL_s] at k2
        rw [enI_n, enL_n]
        simp (disch := first | assumption | omega) only [r129_0, r129_1, r129_2, r129_3, r129_4, r129_5, r129_7, r129_8, r129_9, r129_12, r129_15, r129_16, r129_19, r129_20, r129_23, r129_24, r129_27, r129_30, r129_31, r129_34, r129_35, r129_38, r129_40, r129_41, r129_42, r129_45, r129_47, r129_48, r129_51, r129_52, r129_53, r129_55, r129_56, r129_59, r129_62, r129_63, rI_wI, rL_wL, rR_wR, rI_wL, rI_wR, rL_wI, rL_wR, rR_wI, rR_wL, va_rf_some, va_rf_none, Option.toList_some, Option.toList_none, List.nil_append, List.cons_append, true_and, and_true, false_and, and_false, and_self, if_true, if_false, not_true_eq_false, not_false_eq_true, or_false, false_or, or_true, true_or, or_self, ite_true, ite_false, Option.some.injEq, reduceCtorEq, Nat.reduceMod, Nat.reduceDiv, Nat.reduceLeDiff, Nat.reduceEqDiff, Nat.reduceAdd, Nat.reduceMul, Nat.reduceSub, Nat.reduceLT, sw_nil, sw_int, sw_long, sw_ref, li, lo, nI_m1, ng_eq, nn_eq, en_eq, ng_le, ng_lt, Int32.neg_neg, nI_add, pk_mul, nI_clampO, nI_ltO, nI_leO, nI_eqO, nI_subO, nle_t, nle_f, nlt_t, nlt_f, neq_f, h5, hr, h0, sh, t1, t2, k2]
      | some (b, v), hA, hA' =>
        obtain ⟨hb, -⟩ := hA b v rfl
        by_cases h : dfA pa (2 * k + 1) < v
        · rw [enT_y h] at hA' ⊢
          have k2 := k1 _ (some (.int (dfA pa (2 * k + 1)))) hA'
          rw [enI_s, enL_s] at k2
          rw [enI_s, enL_s]
          have hle := eq_false (Int32.not_le.mpr h)
          simp (disch := first | assumption | omega) only [r129_0, r129_1, r129_2, r129_3, r129_4, r129_5, r129_7, r129_8, r129_9, r129_12, r129_15, r129_16, r129_19, r129_20, r129_23, r129_24, r129_27, r129_30, r129_31, r129_34, r129_35, r129_38, r129_40, r129_41, r129_42, r129_45, r129_47, r129_48, r129_51, r129_52, r129_53, r129_55, r129_56, r129_59, r129_62, r129_63, rI_wI, rL_wL, rR_wR, rI_wL, rI_wR, rL_wI, rL_wR, rR_wI, rR_wL, va_rf_some, va_rf_none, Option.toList_some, Option.toList_none, List.nil_append, List.cons_append, true_and, and_true, false_and, and_false, and_self, if_true, if_false, not_true_eq_false, not_false_eq_true, or_false, false_or, or_true, true_or, or_self, ite_true, ite_false, Option.some.injEq, reduceCtorEq, Nat.reduceMod, Nat.reduceDiv, Nat.reduceLeDiff, Nat.reduceEqDiff, Nat.reduceAdd, Nat.reduceMul, Nat.reduceSub, Nat.reduceLT, sw_nil, sw_int, sw_long, sw_ref, li, lo, nI_m1, ng_eq, nn_eq, en_eq, ng_le, ng_lt, Int32.neg_neg, nI_add, pk_mul, nI_clampO, nI_ltO, nI_leO, nI_eqO, nI_subO, nle_t, nle_f, nlt_t, nlt_f, neq_f, h5, hr, h0, sh, t1, t2, hle, k2]
        · rw [enT_m h]
          have k2 := k1 (some (b, v)) (some (.int (dfA pa (2 * k + 1)))) hA
          rw [enI_s, enL_s] at k2
          rw [enI_s, enL_s]
          have hle := eq_true (Int32.not_lt.mp h)
          simp (disch := first | assumption | omega) only [r129_0, r129_1, r129_2, r129_3, r129_4, r129_5, r129_7, r129_8, r129_9, r129_12, r129_15, r129_16, r129_19, r129_20, r129_23, r129_24, r129_27, r129_30, r129_31, r129_34, r129_35, r129_38, r129_40, r129_41, r129_42, r129_45, r129_47, r129_48, r129_51, r129_52, r129_53, r129_55, r129_56, r129_59, r129_62, r129_63, rI_wI, rL_wL, rR_wR, rI_wL, rI_wR, rL_wI, rL_wR, rR_wI, rR_wL, va_rf_some, va_rf_none, Option.toList_some, Option.toList_none, List.nil_append, List.cons_append, true_and, and_true, false_and, and_false, and_self, if_true, if_false, not_true_eq_false, not_false_eq_true, or_false, false_or, or_true, true_or, or_self, ite_true, ite_false, Option.some.injEq, reduceCtorEq, Nat.reduceMod, Nat.reduceDiv, Nat.reduceLeDiff, Nat.reduceEqDiff, Nat.reduceAdd, Nat.reduceMul, Nat.reduceSub, Nat.reduceLT, sw_nil, sw_int, sw_long, sw_ref, li, lo, nI_m1, ng_eq, nn_eq, en_eq, ng_le, ng_lt, Int32.neg_neg, nI_add, pk_mul, nI_clampO, nI_ltO, nI_leO, nI_eqO, nI_subO, nle_t, nle_f, nlt_t, nlt_f, neq_f, h5, hr, h0, sh, t1, t2, hle, k2]
theorem c129 (hF : FX μ) (hC : CPt μ pa lw) (hP : PK pa) : ∀ Q, R (d + 1) 129 0 [some (.ref 2000010), none, none, none, none] [] μ Q = Q (some (.int (enI (enS pa (2 ^ pa 0 / 2) 0 none)))) μ := by
  intro Q
  have k := c129_l (d := d) hF hC hP (2 ^ pa 0 / 2) 0 none none (by omega) (fun _ _ e => by simp at e)
  rw [enI_n, enL_n] at k
  simp (disch := first | assumption | omega) only [r129_0, r129_1, r129_2, r129_3, r129_4, r129_5, rI_wI, rL_wL, rR_wR, rI_wL, rI_wR, rL_wI, rL_wR, rR_wI, rR_wL, va_rf_some, va_rf_none, Option.toList_some, Option.toList_none, List.nil_append, List.cons_append, true_and, and_true, false_and, and_false, and_self, if_true, if_false, not_true_eq_false, not_false_eq_true, or_false, false_or, or_true, true_or, or_self, ite_true, ite_false, Option.some.injEq, reduceCtorEq, Nat.reduceMod, Nat.reduceDiv, Nat.reduceLeDiff, Nat.reduceEqDiff, Nat.reduceAdd, Nat.reduceMul, Nat.reduceSub, Nat.reduceLT, sw_nil, sw_int, sw_long, sw_ref, li, lo, nI_m1, ng_eq, nn_eq, en_eq, ng_le, ng_lt, Int32.neg_neg, nI_add, pk_mul, nI_clampO, nI_ltO, nI_leO, nI_eqO, nI_subO, nle_t, nle_f, nlt_t, nlt_f, neq_f, k]
theorem c110y (hC : CH μ pa lw s un mk tp) (hK : OKA pa s un mk tp) {w : Nat} (hw : w < 2) {Q : Option Value → PM → Prop} : R (d + 2) 110 0 [some (.ref 2000010), some (.int (nI w)), none] [] μ Q = Q (some (.int (enA pa w))) μ := by
  have hF := hC.1
  have c := c129 (d := d) hF hC.2.1 hK.1
  have hp := hK.1.1.1
  have hA := enS_K (pa := pa) (2 ^ pa 0 / 2) 0 none (by have := p2_b hp; omega) (fun _ _ e => by simp at e)
  unfold enA
  cases he : enS pa (2 ^ pa 0 / 2) 0 none with
  | none =>
    rw [he, enI_n] at c
    rcases (show w = 0 ∨ w = 1 by omega) with e | e
    · subst e; simp (disch := first | assumption | omega) only [r110_0, r110_1, r110_4, r110_5, r110_6, r110_9, r110_10, r110_13, r110_16, r110_17, r110_18, r110_19, r110_20, r110_23, r110_24, r110_25, r110_26, r110_29, r110_30, r110_33, r110_34, r110_37, r110_40, r110_41, rI_wI, rL_wL, rR_wR, rI_wL, rI_wR, rL_wI, rL_wR, rR_wI, rR_wL, va_rf_some, va_rf_none, Option.toList_some, Option.toList_none, List.nil_append, List.cons_append, true_and, and_true, false_and, and_false, and_self, if_true, if_false, not_true_eq_false, not_false_eq_true, or_false, false_or, or_true, true_or, or_self, ite_true, ite_false, Option.some.injEq, reduceCtorEq, Nat.reduceMod, Nat.reduceDiv, Nat.reduceLeDiff, Nat.reduceEqDiff, Nat.reduceAdd, Nat.reduceMul, Nat.reduceSub, Nat.reduceLT, sw_nil, sw_int, sw_long, sw_ref, li, lo, nI_m1, ng_eq, nn_eq, en_eq, ng_le, ng_lt, Int32.neg_neg, nI_add, pk_mul, nI_clampO, nI_ltO, nI_leO, nI_eqO, nI_subO, nle_t, nle_f, nlt_t, nlt_f, neq_f, c]
    · subst e; simp (disch := first | assumption | omega) only [r110_0, r110_1, r110_4, r110_5, r110_6, r110_9, r110_10, r110_13, r110_16, r110_17, r110_18, r110_19, r110_20, r110_23, r110_24, r110_25, r110_26, r110_29, r110_30, r110_33, r110_34, r110_37, r110_40, r110_41, rI_wI, rL_wL, rR_wR, rI_wL, rI_wR, rL_wI, rL_wR, rR_wI, rR_wL, va_rf_some, va_rf_none, Option.toList_some, Option.toList_none, List.nil_append, List.cons_append, true_and, and_true, false_and, and_false, and_self, if_true, if_false, not_true_eq_false, not_false_eq_true, or_false, false_or, or_true, true_or, or_self, ite_true, ite_false, Option.some.injEq, reduceCtorEq, Nat.reduceMod, Nat.reduceDiv, Nat.reduceLeDiff, Nat.reduceEqDiff, Nat.reduceAdd, Nat.reduceMul, Nat.reduceSub, Nat.reduceLT, sw_nil, sw_int, sw_long, sw_ref, li, lo, nI_m1, ng_eq, nn_eq, en_eq, ng_le, ng_lt, Int32.neg_neg, nI_add, pk_mul, nI_clampO, nI_ltO, nI_leO, nI_eqO, nI_subO, nle_t, nle_f, nlt_t, nlt_f, neq_f, c]
  | some ov =>
    obtain ⟨o, v⟩ := ov
    rw [he, enI_s] at c
    obtain ⟨ho, hv⟩ := hA o v he
    obtain ⟨P, h5, hr, h0, -, t2⟩ := cTm (d := d + 1) (o := o) hF hC.2.1 hK.1 ho
    rcases (show w = 0 ∨ w = 1 by omega) with e | e
    · subst e; simp (disch := first | assumption | omega) only [r110_0, r110_1, r110_4, r110_5, r110_6, r110_9, r110_10, r110_13, r110_16, r110_17, r110_18, r110_19, r110_20, r110_23, r110_24, r110_25, r110_26, r110_29, r110_30, r110_33, r110_34, r110_37, r110_40, r110_41, rI_wI, rL_wL, rR_wR, rI_wL, rI_wR, rL_wI, rL_wR, rR_wI, rR_wL, va_rf_some, va_rf_none, Option.toList_some, Option.toList_none, List.nil_append, List.cons_append, true_and, and_true, false_and, and_false, and_self, if_true, if_false, not_true_eq_false, not_false_eq_true, or_false, false_or, or_true, true_or, or_self, ite_true, ite_false, Option.some.injEq, reduceCtorEq, Nat.reduceMod, Nat.reduceDiv, Nat.reduceLeDiff, Nat.reduceEqDiff, Nat.reduceAdd, Nat.reduceMul, Nat.reduceSub, Nat.reduceLT, sw_nil, sw_int, sw_long, sw_ref, li, lo, nI_m1, ng_eq, nn_eq, en_eq, ng_le, ng_lt, Int32.neg_neg, nI_add, pk_mul, nI_clampO, nI_ltO, nI_leO, nI_eqO, nI_subO, nle_t, nle_f, nlt_t, nlt_f, neq_f, c, h5, hr, t2, hv]
    · subst e; simp (disch := first | assumption | omega) only [r110_0, r110_1, r110_4, r110_5, r110_6, r110_9, r110_10, r110_13, r110_16, r110_17, r110_18, r110_19, r110_20, r110_23, r110_24, r110_25, r110_26, r110_29, r110_30, r110_33, r110_34, r110_37, r110_40, r110_41, rI_wI, rL_wL, rR_wR, rI_wL, rI_wR, rL_wI, rL_wR, rR_wI, rR_wL, va_rf_some, va_rf_none, Option.toList_some, Option.toList_none, List.nil_append, List.cons_append, true_and, and_true, false_and, and_false, and_self, if_true, if_false, not_true_eq_false, not_false_eq_true, or_false, false_or, or_true, true_or, or_self, ite_true, ite_false, Option.some.injEq, reduceCtorEq, Nat.reduceMod, Nat.reduceDiv, Nat.reduceLeDiff, Nat.reduceEqDiff, Nat.reduceAdd, Nat.reduceMul, Nat.reduceSub, Nat.reduceLT, sw_nil, sw_int, sw_long, sw_ref, li, lo, nI_m1, ng_eq, nn_eq, en_eq, ng_le, ng_lt, Int32.neg_neg, nI_add, pk_mul, nI_clampO, nI_ltO, nI_leO, nI_eqO, nI_subO, nle_t, nle_f, nlt_t, nlt_f, neq_f, c, h5, hr, t2, hv]
theorem c110n {x : Int32} (h : (x < nI 0 ∨ nI 2 ≤ x) ∧ ¬ x = nI 0 ∧ ¬ x = nI 1) {Q : Option Value → PM → Prop} : R (d + 2) 110 0 [some (.ref 2000010), some (.int x), none] [] μ Q = Q (some (.int (-nI 1))) μ := by
  have h0 := eq_false h.2.1
  have h1 := eq_false h.2.2
  simp (disch := first | assumption | omega) only [r110_0, r110_1, r110_4, r110_5, r110_6, r110_9, r110_10, r110_13, r110_16, r110_17, r110_18, r110_19, r110_20, r110_23, r110_24, r110_25, r110_26, r110_29, r110_30, r110_33, r110_34, r110_37, r110_40, r110_41, rI_wI, rL_wL, rR_wR, rI_wL, rI_wR, rL_wI, rL_wR, rR_wI, rR_wL, va_rf_some, va_rf_none, Option.toList_some, Option.toList_none, List.nil_append, List.cons_append, true_and, and_true, false_and, and_false, and_self, if_true, if_false, not_true_eq_false, not_false_eq_true, or_false, false_or, or_true, true_or, or_self, ite_true, ite_false, Option.some.injEq, reduceCtorEq, Nat.reduceMod, Nat.reduceDiv, Nat.reduceLeDiff, Nat.reduceEqDiff, Nat.reduceAdd, Nat.reduceMul, Nat.reduceSub, Nat.reduceLT, sw_nil, sw_int, sw_long, sw_ref, li, lo, nI_m1, ng_eq, nn_eq, en_eq, ng_le, ng_lt, Int32.neg_neg, nI_add, pk_mul, nI_clampO, nI_ltO, nI_leO, nI_eqO, nI_subO, nle_t, nle_f, nlt_t, nlt_f, neq_f, h0, h1]
/-- the reference: is it a team -/
def PRo (pa : Nat → Nat) (o a b : Nat) : Prop := ∀ b', b ≤ b' → b' < a → PP pa o a b'
def PRa (pa : Nat → Nat) (o a : Nat) : Prop := ∀ a', a ≤ a' → a' < pa 0 → PRo pa o a' 0
theorem c216_i (hF : FX μ) (hM : MP μ pa) (hP : PK pa) {o a : Nat} (ho : o < 128) (ha : a < 7) : ∀ (r b : Nat) (p : Prop) (v5 : Option Value), b + r = a → ∃ w5, ∀ Q, R (d + 1) 216 15 [some (.ref 110000011), some (.int (nI o)), some (.int (nI (pN p))), some (.int (nI a)), some (.int (nI b)), v5] [] μ Q = R (d + 1) 216 90 [some (.ref 110000011), some (.int (nI o)), some (.int (nI (pN (p ∧ PRo pa o a b)))), some (.int (nI a)), some (.int (nI a)), w5] [] μ Q := by
  intro r
  induction r with
  | zero =>
    intro b p v5 hb
    have : b = a := by omega
    subst this
    refine ⟨v5, fun Q => ?_⟩
    rw [r216_15, pN_c (p := p ∧ PRo pa o b b) (q := p) ⟨fun q => q.1, fun q => ⟨q, fun b' h1 h2 => by omega⟩⟩]
    simp (disch := first | assumption | omega) only [r216_17, r216_18, rI_wI, rL_wL, rR_wR, rI_wL, rI_wR, rL_wI, rL_wR, rR_wI, rR_wL, va_rf_some, va_rf_none, Option.toList_some, Option.toList_none, List.nil_append, List.cons_append, true_and, and_true, false_and, and_false, and_self, if_true, if_false, not_true_eq_false, not_false_eq_true, or_false, false_or, or_true, true_or, or_self, ite_true, ite_false, Option.some.injEq, reduceCtorEq, Nat.reduceMod, Nat.reduceDiv, Nat.reduceLeDiff, Nat.reduceEqDiff, Nat.reduceAdd, Nat.reduceMul, Nat.reduceSub, Nat.reduceLT, sw_nil, sw_int, sw_long, sw_ref, li, lo, nI_m1, ng_eq, nn_eq, en_eq, ng_le, ng_lt, Int32.neg_neg, nI_add, pk_mul, nI_clampO, nI_ltO, nI_leO, nI_eqO, nI_subO, nle_t, nle_f, nlt_t, nlt_f, neq_f, Nat.le_refl]
  | succ r ih =>
    intro b p v5 hb
    have ht := (hP.2.2.2.1 a b ha (by omega)).1
    have c9 := fun Q => c179 (d := d) (Q := Q) hF hM ha (show b < 7 by omega)
    have htw : pa (44 + 7 * a + b) = tw pa a b := rfl
    rw [htw] at c9 ht
    have step : ∃ w5, ∀ Q, R (d + 1) 216 15 [some (.ref 110000011), some (.int (nI o)), some (.int (nI (pN p))), some (.int (nI a)), some (.int (nI b)), v5] [] μ Q = R (d + 1) 216 15 [some (.ref 110000011), some (.int (nI o)), some (.int (nI (pN (p ∧ PP pa o a b)))), some (.int (nI a)), some (.int (nI (b + 1))), w5] [] μ Q := by
      have hone : ∃ z, z ≤ 1 ∧ (if ¬ nI (bt o a) = nI (bt o b) then nI 0 else nI 1) = nI z ∧ (z = 1 ↔ bt o b = bt o a) := by
        have q1 := bt_01 o a
        have q2 := bt_01 o b
        by_cases e : bt o a = bt o b
        · exact ⟨1, Nat.le_refl 1, by rw [e, if_neg (fun q => q rfl)], by simp [e]⟩
        · refine ⟨0, by omega, by rw [if_pos (fun q => e ((nI_eq (by omega) (by omega)).mp q))], ⟨fun q => by omega, fun q => absurd q.symm e⟩⟩
      obtain ⟨z, z1, z2, z3⟩ := hone
      refine ⟨some (.int (nI z)), fun Q => ?_⟩
      have head : R (d + 1) 216 15 [some (.ref 110000011), some (.int (nI o)), some (.int (nI (pN p))), some (.int (nI a)), some (.int (nI b)), v5] [] μ Q = R (d + 1) 216 42 [some (.ref 110000011), some (.int (nI o)), some (.int (nI (pN p))), some (.int (nI a)), some (.int (nI b)), some (.int (nI z))] [] μ Q := by
        rw [r216_15, ← z2]
        simp (disch := first | assumption | omega) only [r216_17, r216_18, r216_21, r216_22, r216_23, r216_24, r216_25, r216_26, r216_27, r216_29, r216_30, r216_31, j216_32, r216_40, rI_wI, rL_wL, rR_wR, rI_wL, rI_wR, rL_wI, rL_wR, rR_wI, rR_wL, va_rf_some, va_rf_none, Option.toList_some, Option.toList_none, List.nil_append, List.cons_append, true_and, and_true, false_and, and_false, and_self, if_true, if_false, not_true_eq_false, not_false_eq_true, or_false, false_or, or_true, true_or, or_self, ite_true, ite_false, Option.some.injEq, reduceCtorEq, Nat.reduceMod, Nat.reduceDiv, Nat.reduceLeDiff, Nat.reduceEqDiff, Nat.reduceAdd, Nat.reduceMul, Nat.reduceSub, Nat.reduceLT, sw_nil, sw_int, sw_long, sw_ref, li, lo, nI_clampO, nI_ltO, nI_leO, nle_t, nle_f, nlt_t, nlt_f, shr_1]
      rw [head]
      rcases pN_01 p with e | e
      · have hnp : ¬ p := fun q => by rw [pN_t q] at e; omega
        rw [pN_f (p := p ∧ PP pa o a b) (fun q => hnp q.1), e]
        simp (disch := first | assumption | omega) only [r216_0, r216_1, r216_2, r216_3, r216_4, r216_5, r216_6, r216_9, r216_12, r216_13, r216_17, r216_18, r216_21, r216_22, r216_23, r216_24, r216_25, r216_26, r216_27, r216_29, r216_30, r216_31, j216_32, r216_35, r216_36, r216_39, r216_40, r216_42, r216_43, r216_46, r216_47, r216_48, r216_50, r216_53, r216_54, r216_57, r216_59, r216_62, r216_63, r216_64, r216_66, r216_69, r216_70, r216_73, j216_75, r216_78, r216_79, r216_82, r216_83, r216_84, r216_87, r216_93, r216_96, r216_97, rI_wI, rL_wL, rR_wR, rI_wL, rI_wR, rL_wI, rL_wR, rR_wI, rR_wL, va_rf_some, va_rf_none, Option.toList_some, Option.toList_none, List.nil_append, List.cons_append, true_and, and_true, false_and, and_false, and_self, if_true, if_false, not_true_eq_false, not_false_eq_true, or_false, false_or, or_true, true_or, or_self, ite_true, ite_false, Option.some.injEq, reduceCtorEq, Nat.reduceMod, Nat.reduceDiv, Nat.reduceLeDiff, Nat.reduceEqDiff, Nat.reduceAdd, Nat.reduceMul, Nat.reduceSub, Nat.reduceLT, sw_nil, sw_int, sw_long, sw_ref, li, lo, nI_m1, ng_eq, nn_eq, en_eq, ng_le, ng_lt, Int32.neg_neg, nI_add, pk_mul, nI_clampO, nI_ltO, nI_leO, nI_eqO, nI_subO, nle_t, nle_f, nlt_t, nlt_f, neq_f]
      · have hyp : p := by
          rcases Classical.em p with q | q
          · exact q
          · rw [pN_f q] at e; omega
        rw [pN_c (p := p ∧ PP pa o a b) (q := PP pa o a b) ⟨fun q => q.2, fun q => ⟨hyp, q⟩⟩, e]
        unfold PP
        rcases (show tw pa a b = 0 ∨ tw pa a b = 1 ∨ tw pa a b = 2 by omega) with t | t | t
        · rw [pN_t ⟨fun q => by omega, fun q => by omega⟩]
          simp (disch := first | assumption | omega) only [r216_0, r216_1, r216_2, r216_3, r216_4, r216_5, r216_6, r216_9, r216_12, r216_13, r216_17, r216_18, r216_21, r216_22, r216_23, r216_24, r216_25, r216_26, r216_27, r216_29, r216_30, r216_31, j216_32, r216_35, r216_36, r216_39, r216_40, r216_42, r216_43, r216_46, r216_47, r216_48, r216_50, r216_53, r216_54, r216_57, r216_59, r216_62, r216_63, r216_64, r216_66, r216_69, r216_70, r216_73, j216_75, r216_78, r216_79, r216_82, r216_83, r216_84, r216_87, r216_93, r216_96, r216_97, rI_wI, rL_wL, rR_wR, rI_wL, rI_wR, rL_wI, rL_wR, rR_wI, rR_wL, va_rf_some, va_rf_none, Option.toList_some, Option.toList_none, List.nil_append, List.cons_append, true_and, and_true, false_and, and_false, and_self, if_true, if_false, not_true_eq_false, not_false_eq_true, or_false, false_or, or_true, true_or, or_self, ite_true, ite_false, Option.some.injEq, reduceCtorEq, Nat.reduceMod, Nat.reduceDiv, Nat.reduceLeDiff, Nat.reduceEqDiff, Nat.reduceAdd, Nat.reduceMul, Nat.reduceSub, Nat.reduceLT, sw_nil, sw_int, sw_long, sw_ref, li, lo, nI_m1, ng_eq, nn_eq, en_eq, ng_le, ng_lt, Int32.neg_neg, nI_add, pk_mul, nI_clampO, nI_ltO, nI_leO, nI_eqO, nI_subO, nle_t, nle_f, nlt_t, nlt_f, neq_f, c9, t]
        · rcases (show z = 0 ∨ z = 1 by omega) with y | y
          · rw [pN_f (fun q => by have := z3.mpr (q.1 t); omega)]
            simp (disch := first | assumption | omega) only [r216_0, r216_1, r216_2, r216_3, r216_4, r216_5, r216_6, r216_9, r216_12, r216_13, r216_17, r216_18, r216_21, r216_22, r216_23, r216_24, r216_25, r216_26, r216_27, r216_29, r216_30, r216_31, j216_32, r216_35, r216_36, r216_39, r216_40, r216_42, r216_43, r216_46, r216_47, r216_48, r216_50, r216_53, r216_54, r216_57, r216_59, r216_62, r216_63, r216_64, r216_66, r216_69, r216_70, r216_73, j216_75, r216_78, r216_79, r216_82, r216_83, r216_84, r216_87, r216_93, r216_96, r216_97, rI_wI, rL_wL, rR_wR, rI_wL, rI_wR, rL_wI, rL_wR, rR_wI, rR_wL, va_rf_some, va_rf_none, Option.toList_some, Option.toList_none, List.nil_append, List.cons_append, true_and, and_true, false_and, and_false, and_self, if_true, if_false, not_true_eq_false, not_false_eq_true, or_false, false_or, or_true, true_or, or_self, ite_true, ite_false, Option.some.injEq, reduceCtorEq, Nat.reduceMod, Nat.reduceDiv, Nat.reduceLeDiff, Nat.reduceEqDiff, Nat.reduceAdd, Nat.reduceMul, Nat.reduceSub, Nat.reduceLT, sw_nil, sw_int, sw_long, sw_ref, li, lo, nI_m1, ng_eq, nn_eq, en_eq, ng_le, ng_lt, Int32.neg_neg, nI_add, pk_mul, nI_clampO, nI_ltO, nI_leO, nI_eqO, nI_subO, nle_t, nle_f, nlt_t, nlt_f, neq_f, c9, t, y]
          · rw [pN_t ⟨fun _ => z3.mp y, fun q => by omega⟩]
            simp (disch := first | assumption | omega) only [r216_0, r216_1, r216_2, r216_3, r216_4, r216_5, r216_6, r216_9, r216_12, r216_13, r216_17, r216_18, r216_21, r216_22, r216_23, r216_24, r216_25, r216_26, r216_27, r216_29, r216_30, r216_31, j216_32, r216_35, r216_36, r216_39, r216_40, r216_42, r216_43, r216_46, r216_47, r216_48, r216_50, r216_53, r216_54, r216_57, r216_59, r216_62, r216_63, r216_64, r216_66, r216_69, r216_70, r216_73, j216_75, r216_78, r216_79, r216_82, r216_83, r216_84, r216_87, r216_93, r216_96, r216_97, rI_wI, rL_wL, rR_wR, rI_wL, rI_wR, rL_wI, rL_wR, rR_wI, rR_wL, va_rf_some, va_rf_none, Option.toList_some, Option.toList_none, List.nil_append, List.cons_append, true_and, and_true, false_and, and_false, and_self, if_true, if_false, not_true_eq_false, not_false_eq_true, or_false, false_or, or_true, true_or, or_self, ite_true, ite_false, Option.some.injEq, reduceCtorEq, Nat.reduceMod, Nat.reduceDiv, Nat.reduceLeDiff, Nat.reduceEqDiff, Nat.reduceAdd, Nat.reduceMul, Nat.reduceSub, Nat.reduceLT, sw_nil, sw_int, sw_long, sw_ref, li, lo, nI_m1, ng_eq, nn_eq, en_eq, ng_le, ng_lt, Int32.neg_neg, nI_add, pk_mul, nI_clampO, nI_ltO, nI_leO, nI_eqO, nI_subO, nle_t, nle_f, nlt_t, nlt_f, neq_f, c9, t, y]
        · rcases (show z = 0 ∨ z = 1 by omega) with y | y
          · rw [pN_t ⟨fun q => by omega, fun _ q => by have := z3.mpr q; omega⟩]
            simp (disch := first | assumption | omega) only [r216_0, r216_1, r216_2, r216_3, r216_4, r216_5, r216_6, r216_9, r216_12, r216_13, r216_17, r216_18, r216_21, r216_22, r216_23, r216_24, r216_25, r216_26, r216_27, r216_29, r216_30, r216_31, j216_32, r216_35, r216_36, r216_39, r216_40, r216_42, r216_43, r216_46, r216_47, r216_48, r216_50, r216_53, r216_54, r216_57, r216_59, r216_62, r216_63, r216_64, r216_66, r216_69, r216_70, r216_73, j216_75, r216_78, r216_79, r216_82, r216_83, r216_84, r216_87, r216_93, r216_96, r216_97, rI_wI, rL_wL, rR_wR, rI_wL, rI_wR, rL_wI, rL_wR, rR_wI, rR_wL, va_rf_some, va_rf_none, Option.toList_some, Option.toList_none, List.nil_append, List.cons_append, true_and, and_true, false_and, and_false, and_self, if_true, if_false, not_true_eq_false, not_false_eq_true, or_false, false_or, or_true, true_or, or_self, ite_true, ite_false, Option.some.injEq, reduceCtorEq, Nat.reduceMod, Nat.reduceDiv, Nat.reduceLeDiff, Nat.reduceEqDiff, Nat.reduceAdd, Nat.reduceMul, Nat.reduceSub, Nat.reduceLT, sw_nil, sw_int, sw_long, sw_ref, li, lo, nI_m1, ng_eq, nn_eq, en_eq, ng_le, ng_lt, Int32.neg_neg, nI_add, pk_mul, nI_clampO, nI_ltO, nI_leO, nI_eqO, nI_subO, nle_t, nle_f, nlt_t, nlt_f, neq_f, c9, t, y]
          · rw [pN_f (fun q => q.2 t (z3.mp y))]
            simp (disch := first | assumption | omega) only [r216_0, r216_1, r216_2, r216_3, r216_4, r216_5, r216_6, r216_9, r216_12, r216_13, r216_17, r216_18, r216_21, r216_22, r216_23, r216_24, r216_25, r216_26, r216_27, r216_29, r216_30, r216_31, j216_32, r216_35, r216_36, r216_39, r216_40, r216_42, r216_43, r216_46, r216_47, r216_48, r216_50, r216_53, r216_54, r216_57, r216_59, r216_62, r216_63, r216_64, r216_66, r216_69, r216_70, r216_73, j216_75, r216_78, r216_79, r216_82, r216_83, r216_84, r216_87, r216_93, r216_96, r216_97, rI_wI, rL_wL, rR_wR, rI_wL, rI_wR, rL_wI, rL_wR, rR_wI, rR_wL, va_rf_some, va_rf_none, Option.toList_some, Option.toList_none, List.nil_append, List.cons_append, true_and, and_true, false_and, and_false, and_self, if_true, if_false, not_true_eq_false, not_false_eq_true, or_false, false_or, or_true, true_or, or_self, ite_true, ite_false, Option.some.injEq, reduceCtorEq, Nat.reduceMod, Nat.reduceDiv, Nat.reduceLeDiff, Nat.reduceEqDiff, Nat.reduceAdd, Nat.reduceMul, Nat.reduceSub, Nat.reduceLT, sw_nil, sw_int, sw_long, sw_ref, li, lo, nI_m1, ng_eq, nn_eq, en_eq, ng_le, ng_lt, Int32.neg_neg, nI_add, pk_mul, nI_clampO, nI_ltO, nI_leO, nI_eqO, nI_subO, nle_t, nle_f, nlt_t, nlt_f, neq_f, c9, t, y]
    obtain ⟨w5, hs⟩ := step
    obtain ⟨w5', k⟩ := ih (b + 1) (p ∧ PP pa o a b) w5 (by omega)
    refine ⟨w5', fun Q => ?_⟩
    rw [hs, k]
    rw [pN_c (p := (p ∧ PP pa o a b) ∧ PRo pa o a (b + 1)) (q := p ∧ PRo pa o a b) ⟨fun q => ⟨q.1.1, fun b' h1 h2 => by
      by_cases e : b' = b
      · subst e; exact q.1.2
      · exact q.2 b' (by omega) h2⟩, fun q => ⟨⟨q.1, q.2 b (Nat.le_refl b) (by omega)⟩, fun b' h1 h2 => q.2 b' (by omega) h2⟩⟩]
theorem c216_o (hF : FX μ) (hM : MP μ pa) (hP : PK pa) {o : Nat} (ho : o < 128) : ∀ (r a : Nat) (p : Prop) (v4 v5 : Option Value), a + r = pa 0 → ∀ Q, R (d + 1) 216 4 [some (.ref 110000011), some (.int (nI o)), some (.int (nI (pN p))), some (.int (nI a)), v4, v5] [] μ Q = Q (some (.int (nI (pN (p ∧ PRa pa o a))))) μ := by
  have hp := hP.1.1
  have c4 := fun Q => c174 (d := d) (Q := Q) hF hM
  intro r
  induction r with
  | zero =>
    intro a p v4 v5 ha Q
    rw [r216_4, pN_c (p := p ∧ PRa pa o a) (q := p) ⟨fun q => q.1, fun q => ⟨q, fun a' h1 h2 => by omega⟩⟩]
    rcases pN_01 p with e | e
    · rw [e]; simp (disch := first | assumption | omega) only [r216_5, r216_6, r216_9, r216_96, r216_97, rI_wI, rL_wL, rR_wR, rI_wL, rI_wR, rL_wI, rL_wR, rR_wI, rR_wL, va_rf_some, va_rf_none, Option.toList_some, Option.toList_none, List.nil_append, List.cons_append, true_and, and_true, false_and, and_false, and_self, if_true, if_false, not_true_eq_false, not_false_eq_true, or_false, false_or, or_true, true_or, or_self, ite_true, ite_false, Option.some.injEq, reduceCtorEq, Nat.reduceMod, Nat.reduceDiv, Nat.reduceLeDiff, Nat.reduceEqDiff, Nat.reduceAdd, Nat.reduceMul, Nat.reduceSub, Nat.reduceLT, sw_nil, sw_int, sw_long, sw_ref, li, lo, nI_m1, ng_eq, nn_eq, en_eq, ng_le, ng_lt, Int32.neg_neg, nI_add, pk_mul, nI_clampO, nI_ltO, nI_leO, nI_eqO, nI_subO, nle_t, nle_f, nlt_t, nlt_f, neq_f, c4, Nat.le_refl]
    · rw [e]; simp (disch := first | assumption | omega) only [r216_5, r216_6, r216_9, r216_96, r216_97, rI_wI, rL_wL, rR_wR, rI_wL, rI_wR, rL_wI, rL_wR, rR_wI, rR_wL, va_rf_some, va_rf_none, Option.toList_some, Option.toList_none, List.nil_append, List.cons_append, true_and, and_true, false_and, and_false, and_self, if_true, if_false, not_true_eq_false, not_false_eq_true, or_false, false_or, or_true, true_or, or_self, ite_true, ite_false, Option.some.injEq, reduceCtorEq, Nat.reduceMod, Nat.reduceDiv, Nat.reduceLeDiff, Nat.reduceEqDiff, Nat.reduceAdd, Nat.reduceMul, Nat.reduceSub, Nat.reduceLT, sw_nil, sw_int, sw_long, sw_ref, li, lo, nI_m1, ng_eq, nn_eq, en_eq, ng_le, ng_lt, Int32.neg_neg, nI_add, pk_mul, nI_clampO, nI_ltO, nI_leO, nI_eqO, nI_subO, nle_t, nle_f, nlt_t, nlt_f, neq_f, c4, Nat.le_refl]
  | succ r ih =>
    intro a p v4 v5 ha Q
    obtain ⟨w5, k⟩ := c216_i (d := d) hF hM hP ho (show a < 7 by omega) a 0 p v5 (by omega)
    have k2 := ih (a + 1) (p ∧ PRo pa o a 0) (some (.int (nI a))) w5 (by omega)
    rw [r216_4]
    simp (disch := first | assumption | omega) only [r216_5, r216_6, r216_9, r216_12, r216_13, r216_90, r216_93, rI_wI, rL_wL, rR_wR, rI_wL, rI_wR, rL_wI, rL_wR, rR_wI, rR_wL, va_rf_some, va_rf_none, Option.toList_some, Option.toList_none, List.nil_append, List.cons_append, true_and, and_true, false_and, and_false, and_self, if_true, if_false, not_true_eq_false, not_false_eq_true, or_false, false_or, or_true, true_or, or_self, ite_true, ite_false, Option.some.injEq, reduceCtorEq, Nat.reduceMod, Nat.reduceDiv, Nat.reduceLeDiff, Nat.reduceEqDiff, Nat.reduceAdd, Nat.reduceMul, Nat.reduceSub, Nat.reduceLT, sw_nil, sw_int, sw_long, sw_ref, li, lo, nI_m1, ng_eq, nn_eq, en_eq, ng_le, ng_lt, Int32.neg_neg, nI_add, pk_mul, nI_clampO, nI_ltO, nI_leO, nI_eqO, nI_subO, nle_t, nle_f, nlt_t, nlt_f, neq_f, c4, k, k2]
    rw [pN_c (p := (p ∧ PRo pa o a 0) ∧ PRa pa o (a + 1)) (q := p ∧ PRa pa o a) ⟨fun q => ⟨q.1.1, fun a' h1 h2 => by
      by_cases e : a' = a
      · subst e; exact q.1.2
      · exact q.2 a' (by omega) h2⟩, fun q => ⟨⟨q.1, q.2 a (Nat.le_refl a) (by omega)⟩, fun a' h1 h2 => q.2 a' (by omega) h2⟩⟩]
theorem TM_iff (hP : PK pa) (hZ : TZ pa) {o : Nat} : (True ∧ PRa pa o 0) ↔ TM pa o := by
  have hp := hP.1.1
  have sy : ∀ a b, a < 7 → b < 7 → tw pa a b = tw pa b a := fun a b ha hb => (hP.2.2.2.1 a b ha hb).2
  have ps : ∀ a b, a < 7 → b < 7 → PP pa o a b → PP pa o b a := fun a b ha hb q => ⟨fun t => (q.1 ((sy a b ha hb).trans t)).symm, fun t k => q.2 ((sy a b ha hb).trans t) k.symm⟩
  constructor
  · intro h i hi b hb
    by_cases hbn : b < pa 0
    · rcases Nat.lt_trichotomy b i with q | q | q
      · exact h.2 i (by omega) hi b (by omega) q
      · subst q
        exact ⟨fun _ => rfl, fun t => by have := hP.2.2.2.2 b hb; have : tw pa b b = 0 := this; omega⟩
      · exact ps b i hb (by omega) (h.2 b (by omega) hbn i (by omega) q)
    · have t0 := hZ b i hb (by omega) (by omega)
      rw [sy b i hb (by omega)] at t0
      exact ⟨fun t => by omega, fun t => by omega⟩
  · exact fun h => ⟨trivial, fun a' _ ha b' _ hb => h a' ha b' (by omega)⟩
theorem c216 (hF : FX μ) (hM : MP μ pa) (hP : PK pa) (hZ : TZ pa) {o : Nat} (ho : o < 128) : ∀ Q, R (d + 1) 216 0 [some (.ref 110000011), some (.int (nI o)), none, none, none, none] [] μ Q = Q (some (.int (nI (tmN pa o)))) μ := by
  intro Q
  have k := c216_o (d := d) hF hM hP ho (pa 0) 0 True none none (by omega)
  rw [pN_t trivial] at k
  rw [show tmN pa o = pN (TM pa o) from rfl, ← pN_c (TM_iff hP hZ)]
  simp (disch := first | assumption | omega) only [r216_0, r216_1, r216_2, r216_3, rI_wI, rL_wL, rR_wR, rI_wL, rI_wR, rL_wI, rL_wR, rR_wI, rR_wL, va_rf_some, va_rf_none, Option.toList_some, Option.toList_none, List.nil_append, List.cons_append, true_and, and_true, false_and, and_false, and_self, if_true, if_false, not_true_eq_false, not_false_eq_true, or_false, false_or, or_true, true_or, or_self, ite_true, ite_false, Option.some.injEq, reduceCtorEq, Nat.reduceMod, Nat.reduceDiv, Nat.reduceLeDiff, Nat.reduceEqDiff, Nat.reduceAdd, Nat.reduceMul, Nat.reduceSub, Nat.reduceLT, sw_nil, sw_int, sw_long, sw_ref, li, lo, nI_m1, ng_eq, nn_eq, en_eq, ng_le, ng_lt, Int32.neg_neg, nI_add, pk_mul, nI_clampO, nI_ltO, nI_leO, nI_eqO, nI_subO, nle_t, nle_f, nlt_t, nlt_f, neq_f, k]
theorem c217_d (hF : FX μ) (hM : MP μ pa) (hP : PK pa) {o : Nat} (ho : o < 128) {v1 v2 v3 : Option Value} : ∀ (r k : Nat) (acc : Int32), k + r = pa 0 → ∀ Q, R (d + 1) 217 29 [some (.ref 110000011), v1, v2, v3, some (.int (nI o)), some (.int acc), some (.int (nI k))] [] μ Q = R (d + 1) 217 93 [some (.ref 110000011), v1, v2, v3, some (.int (nI o)), some (.int (aI (dfS pa o r k acc))), some (.int (nI (pa 0)))] [] μ Q := by
  have hp := hP.1.1
  have c4 := fun Q => c174 (d := d) (Q := Q) hF hM
  intro r
  induction r with
  | zero =>
    intro k acc hk Q
    have : k = pa 0 := by omega
    subst this
    rw [r217_29, dfS]
    unfold aI
    by_cases h : nI 0 ≤ acc
    · have h' := eq_true h
      simp (disch := first | assumption | omega) only [r217_0, r217_1, r217_2, r217_5, r217_6, r217_7, r217_8, r217_9, r217_10, r217_12, r217_14, r217_15, r217_16, r217_19, r217_20, r217_23, r217_24, r217_26, r217_27, r217_31, r217_32, r217_35, r217_38, r217_40, r217_42, r217_44, r217_45, r217_46, r217_47, r217_48, r217_51, r217_52, r217_54, r217_55, r217_58, r217_61, r217_62, r217_64, r217_65, r217_68, r217_69, r217_70, r217_72, r217_75, r217_78, r217_80, r217_83, r217_85, r217_86, r217_89, r217_91, r217_94, r217_96, r217_99, r217_102, r217_103, r217_106, r217_108, r217_109, r217_112, r217_114, r217_115, r217_117, r217_118, r217_121, r217_124, r217_125, r217_128, r217_129, r217_130, r217_131, r217_134, r217_137, r217_138, r217_141, r217_142, r217_145, r217_146, r217_149, r217_150, rI_wI, rL_wL, rR_wR, rI_wL, rI_wR, rL_wI, rL_wR, rR_wI, rR_wL, va_rf_some, va_rf_none, Option.toList_some, Option.toList_none, List.nil_append, List.cons_append, true_and, and_true, false_and, and_false, and_self, if_true, if_false, not_true_eq_false, not_false_eq_true, or_false, false_or, or_true, true_or, or_self, ite_true, ite_false, Option.some.injEq, reduceCtorEq, Nat.reduceMod, Nat.reduceDiv, Nat.reduceLeDiff, Nat.reduceEqDiff, Nat.reduceAdd, Nat.reduceMul, Nat.reduceSub, Nat.reduceLT, sw_nil, sw_int, sw_long, sw_ref, li, lo, nI_m1, ng_eq, nn_eq, en_eq, ng_le, ng_lt, Int32.neg_neg, nI_add, pk_mul, nI_clampO, nI_ltO, nI_leO, nI_eqO, nI_subO, nle_t, nle_f, nlt_t, nlt_f, neq_f, c4, h', Nat.le_refl]
    · have h' := eq_false h
      have e : nI 0 - acc = -acc := by rw [nI_0, Int32.zero_sub]
      simp (disch := first | assumption | omega) only [r217_0, r217_1, r217_2, r217_5, r217_6, r217_7, r217_8, r217_9, r217_10, r217_12, r217_14, r217_15, r217_16, r217_19, r217_20, r217_23, r217_24, r217_26, r217_27, r217_31, r217_32, r217_35, r217_38, r217_40, r217_42, r217_44, r217_45, r217_46, r217_47, r217_48, r217_51, r217_52, r217_54, r217_55, r217_58, r217_61, r217_62, r217_64, r217_65, r217_68, r217_69, r217_70, r217_72, r217_75, r217_78, r217_80, r217_83, r217_85, r217_86, r217_89, r217_91, r217_94, r217_96, r217_99, r217_102, r217_103, r217_106, r217_108, r217_109, r217_112, r217_114, r217_115, r217_117, r217_118, r217_121, r217_124, r217_125, r217_128, r217_129, r217_130, r217_131, r217_134, r217_137, r217_138, r217_141, r217_142, r217_145, r217_146, r217_149, r217_150, rI_wI, rL_wL, rR_wR, rI_wL, rI_wR, rL_wI, rL_wR, rR_wI, rR_wL, va_rf_some, va_rf_none, Option.toList_some, Option.toList_none, List.nil_append, List.cons_append, true_and, and_true, false_and, and_false, and_self, if_true, if_false, not_true_eq_false, not_false_eq_true, or_false, false_or, or_true, true_or, or_self, ite_true, ite_false, Option.some.injEq, reduceCtorEq, Nat.reduceMod, Nat.reduceDiv, Nat.reduceLeDiff, Nat.reduceEqDiff, Nat.reduceAdd, Nat.reduceMul, Nat.reduceSub, Nat.reduceLT, sw_nil, sw_int, sw_long, sw_ref, li, lo, nI_m1, ng_eq, nn_eq, en_eq, ng_le, ng_lt, Int32.neg_neg, nI_add, pk_mul, nI_clampO, nI_ltO, nI_leO, nI_eqO, nI_subO, nle_t, nle_f, nlt_t, nlt_f, neq_f, c4, h', Nat.le_refl, e]
  | succ r ih =>
    intro k acc hk Q
    have c7 := fun Q => c177 (d := d) (Q := Q) (w := 2) hF hM (show k < 7 by omega) (by omega)
    have htl : pa (8 + 4 * k + 2) = tl pa k := rfl
    rw [htl] at c7
    rw [r217_29, dfS]
    rcases bt_01 o k with e | e
    · have k1 := ih (k + 1) (acc + -nI (tl pa k)) (by omega)
      rw [if_neg (by omega)]
      simp (disch := first | assumption | omega) only [r217_0, r217_1, r217_2, r217_5, r217_6, r217_7, r217_8, r217_9, r217_10, r217_12, r217_14, r217_15, r217_16, r217_19, r217_20, r217_23, r217_24, r217_26, r217_27, r217_31, r217_32, r217_35, r217_38, r217_40, r217_42, r217_44, r217_45, r217_46, r217_47, r217_48, r217_51, r217_52, r217_54, r217_55, r217_58, r217_61, r217_62, r217_64, r217_65, r217_68, r217_69, r217_70, r217_72, r217_75, r217_78, r217_80, r217_83, r217_85, r217_86, r217_89, r217_91, r217_94, r217_96, r217_99, r217_102, r217_103, r217_106, r217_108, r217_109, r217_112, r217_114, r217_115, r217_117, r217_118, r217_121, r217_124, r217_125, r217_128, r217_129, r217_130, r217_131, r217_134, r217_137, r217_138, r217_141, r217_142, r217_145, r217_146, r217_149, r217_150, rI_wI, rL_wL, rR_wR, rI_wL, rI_wR, rL_wI, rL_wR, rR_wI, rR_wL, va_rf_some, va_rf_none, Option.toList_some, Option.toList_none, List.nil_append, List.cons_append, true_and, and_true, false_and, and_false, and_self, if_true, if_false, not_true_eq_false, not_false_eq_true, or_false, false_or, or_true, true_or, or_self, ite_true, ite_false, Option.some.injEq, reduceCtorEq, Nat.reduceMod, Nat.reduceDiv, Nat.reduceLeDiff, Nat.reduceEqDiff, Nat.reduceAdd, Nat.reduceMul, Nat.reduceSub, Nat.reduceLT, sw_nil, sw_int, sw_long, sw_ref, li, lo, nI_m1, ng_eq, nn_eq, en_eq, ng_le, ng_lt, Int32.neg_neg, nI_add, pk_mul, nI_clampO, nI_ltO, nI_leO, nI_eqO, nI_subO, nle_t, nle_f, nlt_t, nlt_f, neq_f, c4, c7, shr_1, e, k1]
    · have k1 := ih (k + 1) (acc + nI (tl pa k)) (by omega)
      rw [if_pos e]
      simp (disch := first | assumption | omega) only [r217_0, r217_1, r217_2, r217_5, r217_6, r217_7, r217_8, r217_9, r217_10, r217_12, r217_14, r217_15, r217_16, r217_19, r217_20, r217_23, r217_24, r217_26, r217_27, r217_31, r217_32, r217_35, r217_38, r217_40, r217_42, r217_44, r217_45, r217_46, r217_47, r217_48, r217_51, r217_52, r217_54, r217_55, r217_58, r217_61, r217_62, r217_64, r217_65, r217_68, r217_69, r217_70, r217_72, r217_75, r217_78, r217_80, r217_83, r217_85, r217_86, r217_89, r217_91, r217_94, r217_96, r217_99, r217_102, r217_103, r217_106, r217_108, r217_109, r217_112, r217_114, r217_115, r217_117, r217_118, r217_121, r217_124, r217_125, r217_128, r217_129, r217_130, r217_131, r217_134, r217_137, r217_138, r217_141, r217_142, r217_145, r217_146, r217_149, r217_150, rI_wI, rL_wL, rR_wR, rI_wL, rI_wR, rL_wI, rL_wR, rR_wI, rR_wL, va_rf_some, va_rf_none, Option.toList_some, Option.toList_none, List.nil_append, List.cons_append, true_and, and_true, false_and, and_false, and_self, if_true, if_false, not_true_eq_false, not_false_eq_true, or_false, false_or, or_true, true_or, or_self, ite_true, ite_false, Option.some.injEq, reduceCtorEq, Nat.reduceMod, Nat.reduceDiv, Nat.reduceLeDiff, Nat.reduceEqDiff, Nat.reduceAdd, Nat.reduceMul, Nat.reduceSub, Nat.reduceLT, sw_nil, sw_int, sw_long, sw_ref, li, lo, nI_m1, ng_eq, nn_eq, en_eq, ng_le, ng_lt, Int32.neg_neg, nI_add, pk_mul, nI_clampO, nI_ltO, nI_leO, nI_eqO, nI_subO, nle_t, nle_f, nlt_t, nlt_f, neq_f, c4, c7, shr_1, e, k1]
theorem c217_l (hF : FX μ) (hM : MP μ pa) (hP : PK pa) (hZ : TZ pa) {v1 : Option Value} : ∀ (r k : Nat) (acc : Option (Nat × Int32)) (v5 v6 : Option Value), k + r = 2 ^ pa 0 / 2 → enK pa acc → ∃ w4 w5 w6 : Option Value, ∀ Q, R (d + 2) 217 12 [some (.ref 110000011), v1, some (.int (enI acc)), some (.int (enL acc)), some (.int (nI (2 * k + 1))), v5, v6] [] μ Q = R (d + 2) 217 124 [some (.ref 110000011), v1, some (.int (enI (enS pa r k acc))), some (.int (enL (enS pa r k acc))), w4, w5, w6] [] μ Q := by
  have hp := hP.1.1
  obtain ⟨p1, p2, p3⟩ := p2_b hp
  have sh := sh2 (pa 0) (by omega)
  have c4 := fun Q => c174 (d := d + 1) (Q := Q) hF hM
  intro r
  induction r with
  | zero =>
    intro k acc v5 v6 hk hA
    have hlt : ¬ 2 * k + 1 < 2 ^ pa 0 := fun q => by have := p2_lt.mp q; omega
    refine ⟨some (.int (nI (2 * k + 1))), v5, v6, fun Q => ?_⟩
    rw [r217_12, enS]
    simp (disch := first | assumption | omega) only [r217_14, r217_15, r217_16, r217_19, r217_20, rI_wI, rL_wL, rR_wR, rI_wL, rI_wR, rL_wI, rL_wR, rR_wI, rR_wL, va_rf_some, va_rf_none, Option.toList_some, Option.toList_none, List.nil_append, List.cons_append, true_and, and_true, false_and, and_false, and_self, if_true, if_false, not_true_eq_false, not_false_eq_true, or_false, false_or, or_true, true_or, or_self, ite_true, ite_false, Option.some.injEq, reduceCtorEq, Nat.reduceMod, Nat.reduceDiv, Nat.reduceLeDiff, Nat.reduceEqDiff, Nat.reduceAdd, Nat.reduceMul, Nat.reduceSub, Nat.reduceLT, sw_nil, sw_int, sw_long, sw_ref, li, lo, nI_m1, ng_eq, nn_eq, en_eq, ng_le, ng_lt, Int32.neg_neg, nI_add, pk_mul, nI_clampO, nI_ltO, nI_leO, nI_eqO, nI_subO, nle_t, nle_f, nlt_t, nlt_f, neq_f, c4, sh]
  | succ r ih =>
    intro k acc v5 v6 hk hA
    have hlt : 2 * k + 1 < 2 ^ pa 0 := p2_lt.mpr (by omega)
    have t1 := c216 (d := d) hF hM hP hZ (show 2 * k + 1 < 128 by omega)
    have t2 := fun v1 v2 v3 => c217_d (d := d + 1) hF hM hP (show 2 * k + 1 < 128 by omega) (v1 := v1) (v2 := v2) (v3 := v3) (pa 0) 0 (nI 0) (by omega)
    have t3 : aI (dfS pa (2 * k + 1) (pa 0) 0 (nI 0)) = dfA pa (2 * k + 1) := rfl
    rw [t3] at t2
    rw [enS]
    have k1 := fun acc v5 v6 h => ih (k + 1) acc v5 v6 (by omega) h
    rw [show 2 * (k + 1) + 1 = 2 * k + 1 + 2 by omega] at k1
    rcases pN_01 (TM pa (2 * k + 1)) with e | e
    · have e' : tmN pa (2 * k + 1) = 0 := e
      rw [if_neg (by omega)]
      rw [e'] at t1
      obtain ⟨w4, w5, w6, k2⟩ := k1 acc (some (.int (dfA pa (2 * k + 1)))) (some (.int (nI (pa 0)))) hA
      refine ⟨w4, w5, w6, fun Q => ?_⟩
      rw [r217_12]
      simp (disch := first | assumption | omega) only [r217_0, r217_1, r217_2, r217_5, r217_6, r217_7, r217_8, r217_9, r217_10, r217_14, r217_15, r217_16, r217_19, r217_20, r217_23, r217_24, r217_26, r217_27, r217_31, r217_32, r217_35, r217_38, r217_40, r217_42, r217_44, r217_45, r217_46, r217_47, r217_48, r217_51, r217_52, r217_54, r217_55, r217_58, r217_61, r217_62, r217_64, r217_65, r217_68, r217_69, r217_70, r217_72, r217_75, r217_78, r217_80, r217_83, r217_85, r217_86, r217_89, r217_91, r217_93, r217_94, r217_96, r217_99, r217_102, r217_103, r217_106, r217_108, r217_109, r217_112, r217_114, r217_115, r217_117, r217_118, r217_121, r217_125, r217_128, r217_129, r217_130, r217_131, r217_134, r217_137, r217_138, r217_141, r217_142, r217_145, r217_146, r217_149, r217_150, rI_wI, rL_wL, rR_wR, rI_wL, rI_wR, rL_wI, rL_wR, rR_wI, rR_wL, va_rf_some, va_rf_none, Option.toList_some, Option.toList_none, List.nil_append, List.cons_append, true_and, and_true, false_and, and_false, and_self, if_true, if_false, not_true_eq_false, not_false_eq_true, or_false, false_or, or_true, true_or, or_self, ite_true, ite_false, Option.some.injEq, reduceCtorEq, Nat.reduceMod, Nat.reduceDiv, Nat.reduceLeDiff, Nat.reduceEqDiff, Nat.reduceAdd, Nat.reduceMul, Nat.reduceSub, Nat.reduceLT, sw_nil, sw_int, sw_long, sw_ref, li, lo, nI_m1, ng_eq, nn_eq, en_eq, ng_le, ng_lt, Int32.neg_neg, nI_add, pk_mul, nI_clampO, nI_ltO, nI_leO, nI_eqO, nI_subO, nle_t, nle_f, nlt_t, nlt_f, neq_f, c4, sh, t1, t2, k2]
    · have e' : tmN pa (2 * k + 1) = 1 := e
      rw [if_pos e']
      rw [e'] at t1
      have hA' := enT_K (pa := pa) (o := 2 * k + 1) (by omega) hA
      match acc, hA, hA' with
      | none, _, hA' =>
        rw [enT_n] at hA' ⊢
        obtain ⟨w4, w5, w6, k2⟩ := k1 _ (some (.int (dfA pa (2 * k + 1)))) (some (.int (nI (pa 0)))) hA'
        rw [enI_s, enL_s] at k2
        refine ⟨w4, w5, w6, fun Q => ?_⟩
        rw [r217_12, enI_n, enL_n]
        simp (disch := first | assumption | omega) only [r217_0, r217_1, r217_2, r217_5, r217_6, r217_7, r217_8, r217_9, r217_10, r217_14, r217_15, r217_16, r217_19, r217_20, r217_23, r217_24, r217_26, r217_27, r217_31, r217_32, r217_35, r217_38, r217_40, r217_42, r217_44, r217_45, r217_46, r217_47, r217_48, r217_51, r217_52, r217_54, r217_55, r217_58, r217_61, r217_62, r217_64, r217_65, r217_68, r217_69, r217_70, r217_72, r217_75, r217_78, r217_80, r217_83, r217_85, r217_86, r217_89, r217_91, r217_93, r217_94, r217_96, r217_99, r217_102, r217_103, r217_106, r217_108, r217_109, r217_112, r217_114, r217_115, r217_117, r217_118, r217_121, r217_125, r217_128, r217_129, r217_130, r217_131, r217_134, r217_137, r217_138, r217_141, r217_142, r217_145, r217_146, r217_149, r217_150, rI_wI, rL_wL, rR_wR, rI_wL, rI_wR, rL_wI, rL_wR, rR_wI, rR_wL, va_rf_some, va_rf_none, Option.toList_some, Option.toList_none, List.nil_append, List.cons_append, true_and, and_true, false_and, and_false, and_self, if_true, if_false, not_true_eq_false, not_false_eq_true, or_false, false_or, or_true, true_or, or_self, ite_true, ite_false, Option.some.injEq, reduceCtorEq, Nat.reduceMod, Nat.reduceDiv, Nat.reduceLeDiff, Nat.reduceEqDiff, Nat.reduceAdd, Nat.reduceMul, Nat.reduceSub, Nat.reduceLT, sw_nil, sw_int, sw_long, sw_ref, li, lo, nI_m1, ng_eq, nn_eq, en_eq, ng_le, ng_lt, Int32.neg_neg, nI_add, pk_mul, nI_clampO, nI_ltO, nI_leO, nI_eqO, nI_subO, nle_t, nle_f, nlt_t, nlt_f, neq_f, c4, sh, t1, t2, k2]
      | some (b, v), hA, hA' =>
        obtain ⟨hb, -⟩ := hA b v rfl
        by_cases h : dfA pa (2 * k + 1) < v
        · rw [enT_y h] at hA' ⊢
          obtain ⟨w4, w5, w6, k2⟩ := k1 _ (some (.int (dfA pa (2 * k + 1)))) (some (.int (nI (pa 0)))) hA'
          rw [enI_s, enL_s] at k2
          refine ⟨w4, w5, w6, fun Q => ?_⟩
          rw [r217_12, enI_s, enL_s]
          have hle := eq_false (Int32.not_le.mpr h)
          simp (disch := first | assumption | omega) only [r217_0, r217_1, r217_2, r217_5, r217_6, r217_7, r217_8, r217_9, r217_10, r217_14, r217_15, r217_16, r217_19, r217_20, r217_23, r217_24, r217_26, r217_27, r217_31, r217_32, r217_35, r217_38, r217_40, r217_42, r217_44, r217_45, r217_46, r217_47, r217_48, r217_51, r217_52, r217_54, r217_55, r217_58, r217_61, r217_62, r217_64, r217_65, r217_68, r217_69, r217_70, r217_72, r217_75, r217_78, r217_80, r217_83, r217_85, r217_86, r217_89, r217_91, r217_93, r217_94, r217_96, r217_99, r217_102, r217_103, r217_106, r217_108, r217_109, r217_112, r217_114, r217_115, r217_117, r217_118, r217_121, r217_125, r217_128, r217_129, r217_130, r217_131, r217_134, r217_137, r217_138, r217_141, r217_142, r217_145, r217_146, r217_149, r217_150, rI_wI, rL_wL, rR_wR, rI_wL, rI_wR, rL_wI, rL_wR, rR_wI, rR_wL, va_rf_some, va_rf_none, Option.toList_some, Option.toList_none, List.nil_append, List.cons_append, true_and, and_true, false_and, and_false, and_self, if_true, if_false, not_true_eq_false, not_false_eq_true, or_false, false_or, or_true, true_or, or_self, ite_true, ite_false, Option.some.injEq, reduceCtorEq, Nat.reduceMod, Nat.reduceDiv, Nat.reduceLeDiff, Nat.reduceEqDiff, Nat.reduceAdd, Nat.reduceMul, Nat.reduceSub, Nat.reduceLT, sw_nil, sw_int, sw_long, sw_ref, li, lo, nI_m1, ng_eq, nn_eq, en_eq, ng_le, ng_lt, Int32.neg_neg, nI_add, pk_mul, nI_clampO, nI_ltO, nI_leO, nI_eqO, nI_subO, nle_t, nle_f, nlt_t, nlt_f, neq_f, c4, sh, t1, t2, hle, k2]
        · rw [enT_m h]
          obtain ⟨w4, w5, w6, k2⟩ := k1 (some (b, v)) (some (.int (dfA pa (2 * k + 1)))) (some (.int (nI (pa 0)))) hA
          rw [enI_s, enL_s] at k2
          refine ⟨w4, w5, w6, fun Q => ?_⟩
          rw [r217_12, enI_s, enL_s]
          have hle := eq_true (Int32.not_lt.mp h)
          simp (disch := first | assumption | omega) only [r217_0, r217_1, r217_2, r217_5, r217_6, r217_7, r217_8, r217_9, r217_10, r217_14, r217_15, r217_16, r217_19, r217_20, r217_23, r217_24, r217_26, r217_27, r217_31, r217_32, r217_35, r217_38, r217_40, r217_42, r217_44, r217_45, r217_46, r217_47, r217_48, r217_51, r217_52, r217_54, r217_55, r217_58, r217_61, r217_62, r217_64, r217_65, r217_68, r217_69, r217_70, r217_72, r217_75, r217_78, r217_80, r217_83, r217_85, r217_86, r217_89, r217_91, r217_93, r217_94, r217_96, r217_99, r217_102, r217_103, r217_106, r217_108, r217_109, r217_112, r217_114, r217_115, r217_117, r217_118, r217_121, r217_125, r217_128, r217_129, r217_130, r217_131, r217_134, r217_137, r217_138, r217_141, r217_142, r217_145, r217_146, r217_149, r217_150, rI_wI, rL_wL, rR_wR, rI_wL, rI_wR, rL_wI, rL_wR, rR_wI, rR_wL, va_rf_some, va_rf_none, Option.toList_some, Option.toList_none, List.nil_append, List.cons_append, true_and, and_true, false_and, and_false, and_self, if_true, if_false, not_true_eq_false, not_false_eq_true, or_false, false_or, or_true, true_or, or_self, ite_true, ite_false, Option.some.injEq, reduceCtorEq, Nat.reduceMod, Nat.reduceDiv, Nat.reduceLeDiff, Nat.reduceEqDiff, Nat.reduceAdd, Nat.reduceMul, Nat.reduceSub, Nat.reduceLT, sw_nil, sw_int, sw_long, sw_ref, li, lo, nI_m1, ng_eq, nn_eq, en_eq, ng_le, ng_lt, Int32.neg_neg, nI_add, pk_mul, nI_clampO, nI_ltO, nI_leO, nI_eqO, nI_subO, nle_t, nle_f, nlt_t, nlt_f, neq_f, c4, sh, t1, t2, hle, k2]
theorem c217 (hM : MH μ pa lw s un mk tp) (hK : OKA pa s un mk tp) (hZ : TZ pa) {x : Int32} : ∃ ν, MSc μ ν ∧ (∀ w, w < 2 → x = nI w → ∀ Q, R (d + 2) 217 0 [some (.ref 110000011), some (.int x), none, none, none, none, none] [] μ Q = Q (some (.int (enA pa w))) ν) ∧ (((x < nI 0 ∨ nI 2 ≤ x) ∧ ¬ x = nI 0 ∧ ¬ x = nI 1) → ∀ Q, R (d + 2) 217 0 [some (.ref 110000011), some (.int x), none, none, none, none, none] [] μ Q = Q (some (.int (-nI 1))) ν) := by
  have hM1 := MSc_MH (th_MSc μ) hM
  have hp := hK.1.1.1
  have hA := enS_K (pa := pa) (2 ^ pa 0 / 2) 0 none (by have := p2_b hp; omega) (fun _ _ e => by simp at e)
  obtain ⟨w4, w5, w6, k⟩ := c217_l (d := d) hM1.1 hM1.2.1 hK.1 hZ (v1 := some (.int x)) (2 ^ pa 0 / 2) 0 none none none (by omega) (fun _ _ e => by simp at e)
  rw [enI_n, enL_n] at k
  refine ⟨_, th_MSc μ, fun w hw e Q => ?_, fun h Q => ?_⟩
  · subst e
    unfold enA
    cases he : enS pa (2 ^ pa 0 / 2) 0 none with
    | none =>
      rw [he, enI_n, enL_n] at k
      simp (disch := first | assumption | omega) only [r217_0, r217_1, r217_2, r217_5, r217_6, r217_7, r217_8, r217_9, r217_10, r217_14, r217_15, r217_16, r217_19, r217_20, r217_23, r217_24, r217_26, r217_27, r217_29, r217_31, r217_32, r217_35, r217_38, r217_40, r217_42, r217_44, r217_45, r217_46, r217_47, r217_48, r217_51, r217_52, r217_54, r217_55, r217_58, r217_61, r217_62, r217_64, r217_65, r217_68, r217_69, r217_70, r217_72, r217_75, r217_78, r217_80, r217_83, r217_85, r217_86, r217_89, r217_91, r217_93, r217_94, r217_96, r217_99, r217_102, r217_103, r217_106, r217_108, r217_109, r217_112, r217_114, r217_115, r217_117, r217_118, r217_121, r217_124, r217_125, r217_128, r217_129, r217_130, r217_131, r217_134, r217_137, r217_138, r217_141, r217_142, r217_145, r217_146, r217_149, r217_150, rI_wI, rL_wL, rR_wR, rI_wL, rI_wR, rL_wI, rL_wR, rR_wI, rR_wL, va_rf_some, va_rf_none, Option.toList_some, Option.toList_none, List.nil_append, List.cons_append, true_and, and_true, false_and, and_false, and_self, if_true, if_false, not_true_eq_false, not_false_eq_true, or_false, false_or, or_true, true_or, or_self, ite_true, ite_false, Option.some.injEq, reduceCtorEq, Nat.reduceMod, Nat.reduceDiv, Nat.reduceLeDiff, Nat.reduceEqDiff, Nat.reduceAdd, Nat.reduceMul, Nat.reduceSub, Nat.reduceLT, sw_nil, sw_int, sw_long, sw_ref, li, lo, nI_m1, ng_eq, nn_eq, en_eq, ng_le, ng_lt, Int32.neg_neg, nI_add, pk_mul, nI_clampO, nI_ltO, nI_leO, nI_eqO, nI_subO, nle_t, nle_f, nlt_t, nlt_f, neq_f, k]
    | some ov =>
      obtain ⟨o, v⟩ := ov
      rw [he, enI_s, enL_s] at k
      obtain ⟨ho, hv⟩ := hA o v he
      have cw := fun Q => c147y (d := d + 1) (μ := wI μ 110000011 0 (nI 0)) (Q := Q) (a := w) (l := 0) (h := 1) (by omega) (by omega) (by omega)
      rcases (show w = 0 ∨ w = 1 by omega) with e | e
      · subst e; simp (disch := first | assumption | omega) only [r217_0, r217_1, r217_2, r217_5, r217_6, r217_7, r217_8, r217_9, r217_10, r217_14, r217_15, r217_16, r217_19, r217_20, r217_23, r217_24, r217_26, r217_27, r217_29, r217_31, r217_32, r217_35, r217_38, r217_40, r217_42, r217_44, r217_45, r217_46, r217_47, r217_48, r217_51, r217_52, r217_54, r217_55, r217_58, r217_61, r217_62, r217_64, r217_65, r217_68, r217_69, r217_70, r217_72, r217_75, r217_78, r217_80, r217_83, r217_85, r217_86, r217_89, r217_91, r217_93, r217_94, r217_96, r217_99, r217_102, r217_103, r217_106, r217_108, r217_109, r217_112, r217_114, r217_115, r217_117, r217_118, r217_121, r217_124, r217_125, r217_128, r217_129, r217_130, r217_131, r217_134, r217_137, r217_138, r217_141, r217_142, r217_145, r217_146, r217_149, r217_150, rI_wI, rL_wL, rR_wR, rI_wL, rI_wR, rL_wI, rL_wR, rR_wI, rR_wL, va_rf_some, va_rf_none, Option.toList_some, Option.toList_none, List.nil_append, List.cons_append, true_and, and_true, false_and, and_false, and_self, if_true, if_false, not_true_eq_false, not_false_eq_true, or_false, false_or, or_true, true_or, or_self, ite_true, ite_false, Option.some.injEq, reduceCtorEq, Nat.reduceMod, Nat.reduceDiv, Nat.reduceLeDiff, Nat.reduceEqDiff, Nat.reduceAdd, Nat.reduceMul, Nat.reduceSub, Nat.reduceLT, sw_nil, sw_int, sw_long, sw_ref, li, lo, nI_m1, ng_eq, nn_eq, en_eq, ng_le, ng_lt, Int32.neg_neg, nI_add, pk_mul, nI_clampO, nI_ltO, nI_leO, nI_eqO, nI_subO, nle_t, nle_f, nlt_t, nlt_f, neq_f, k, cw]
      · subst e; simp (disch := first | assumption | omega) only [r217_0, r217_1, r217_2, r217_5, r217_6, r217_7, r217_8, r217_9, r217_10, r217_14, r217_15, r217_16, r217_19, r217_20, r217_23, r217_24, r217_26, r217_27, r217_29, r217_31, r217_32, r217_35, r217_38, r217_40, r217_42, r217_44, r217_45, r217_46, r217_47, r217_48, r217_51, r217_52, r217_54, r217_55, r217_58, r217_61, r217_62, r217_64, r217_65, r217_68, r217_69, r217_70, r217_72, r217_75, r217_78, r217_80, r217_83, r217_85, r217_86, r217_89, r217_91, r217_93, r217_94, r217_96, r217_99, r217_102, r217_103, r217_106, r217_108, r217_109, r217_112, r217_114, r217_115, r217_117, r217_118, r217_121, r217_124, r217_125, r217_128, r217_129, r217_130, r217_131, r217_134, r217_137, r217_138, r217_141, r217_142, r217_145, r217_146, r217_149, r217_150, rI_wI, rL_wL, rR_wR, rI_wL, rI_wR, rL_wI, rL_wR, rR_wI, rR_wL, va_rf_some, va_rf_none, Option.toList_some, Option.toList_none, List.nil_append, List.cons_append, true_and, and_true, false_and, and_false, and_self, if_true, if_false, not_true_eq_false, not_false_eq_true, or_false, false_or, or_true, true_or, or_self, ite_true, ite_false, Option.some.injEq, reduceCtorEq, Nat.reduceMod, Nat.reduceDiv, Nat.reduceLeDiff, Nat.reduceEqDiff, Nat.reduceAdd, Nat.reduceMul, Nat.reduceSub, Nat.reduceLT, sw_nil, sw_int, sw_long, sw_ref, li, lo, nI_m1, ng_eq, nn_eq, en_eq, ng_le, ng_lt, Int32.neg_neg, nI_add, pk_mul, nI_clampO, nI_ltO, nI_leO, nI_eqO, nI_subO, nle_t, nle_f, nlt_t, nlt_f, neq_f, k, cw]
  · have cw := fun Q => c147n (d := d + 1) (μ := wI μ 110000011 0 (nI 0)) (Q := Q) (x := x) (l := 0) (h := 1) (by omega) (by omega) h.1
    cases he : enS pa (2 ^ pa 0 / 2) 0 none with
    | none =>
      rw [he, enI_n, enL_n] at k
      simp (disch := first | assumption | omega) only [r217_0, r217_1, r217_2, r217_5, r217_6, r217_7, r217_8, r217_9, r217_10, r217_14, r217_15, r217_16, r217_19, r217_20, r217_23, r217_24, r217_26, r217_27, r217_29, r217_31, r217_32, r217_35, r217_38, r217_40, r217_42, r217_44, r217_45, r217_46, r217_47, r217_48, r217_51, r217_52, r217_54, r217_55, r217_58, r217_61, r217_62, r217_64, r217_65, r217_68, r217_69, r217_70, r217_72, r217_75, r217_78, r217_80, r217_83, r217_85, r217_86, r217_89, r217_91, r217_93, r217_94, r217_96, r217_99, r217_102, r217_103, r217_106, r217_108, r217_109, r217_112, r217_114, r217_115, r217_117, r217_118, r217_121, r217_124, r217_125, r217_128, r217_129, r217_130, r217_131, r217_134, r217_137, r217_138, r217_141, r217_142, r217_145, r217_146, r217_149, r217_150, rI_wI, rL_wL, rR_wR, rI_wL, rI_wR, rL_wI, rL_wR, rR_wI, rR_wL, va_rf_some, va_rf_none, Option.toList_some, Option.toList_none, List.nil_append, List.cons_append, true_and, and_true, false_and, and_false, and_self, if_true, if_false, not_true_eq_false, not_false_eq_true, or_false, false_or, or_true, true_or, or_self, ite_true, ite_false, Option.some.injEq, reduceCtorEq, Nat.reduceMod, Nat.reduceDiv, Nat.reduceLeDiff, Nat.reduceEqDiff, Nat.reduceAdd, Nat.reduceMul, Nat.reduceSub, Nat.reduceLT, sw_nil, sw_int, sw_long, sw_ref, li, lo, nI_m1, ng_eq, nn_eq, en_eq, ng_le, ng_lt, Int32.neg_neg, nI_add, pk_mul, nI_clampO, nI_ltO, nI_leO, nI_eqO, nI_subO, nle_t, nle_f, nlt_t, nlt_f, neq_f, k]
    | some ov =>
      obtain ⟨o, v⟩ := ov
      rw [he, enI_s, enL_s] at k
      obtain ⟨ho, hv⟩ := hA o v he
      simp (disch := first | assumption | omega) only [r217_0, r217_1, r217_2, r217_5, r217_6, r217_7, r217_8, r217_9, r217_10, r217_14, r217_15, r217_16, r217_19, r217_20, r217_23, r217_24, r217_26, r217_27, r217_29, r217_31, r217_32, r217_35, r217_38, r217_40, r217_42, r217_44, r217_45, r217_46, r217_47, r217_48, r217_51, r217_52, r217_54, r217_55, r217_58, r217_61, r217_62, r217_64, r217_65, r217_68, r217_69, r217_70, r217_72, r217_75, r217_78, r217_80, r217_83, r217_85, r217_86, r217_89, r217_91, r217_93, r217_94, r217_96, r217_99, r217_102, r217_103, r217_106, r217_108, r217_109, r217_112, r217_114, r217_115, r217_117, r217_118, r217_121, r217_124, r217_125, r217_128, r217_129, r217_130, r217_131, r217_134, r217_137, r217_138, r217_141, r217_142, r217_145, r217_146, r217_149, r217_150, rI_wI, rL_wL, rR_wR, rI_wL, rI_wR, rL_wI, rL_wR, rR_wI, rR_wL, va_rf_some, va_rf_none, Option.toList_some, Option.toList_none, List.nil_append, List.cons_append, true_and, and_true, false_and, and_false, and_self, if_true, if_false, not_true_eq_false, not_false_eq_true, or_false, false_or, or_true, true_or, or_self, ite_true, ite_false, Option.some.injEq, reduceCtorEq, Nat.reduceMod, Nat.reduceDiv, Nat.reduceLeDiff, Nat.reduceEqDiff, Nat.reduceAdd, Nat.reduceMul, Nat.reduceSub, Nat.reduceLT, sw_nil, sw_int, sw_long, sw_ref, li, lo, nI_m1, ng_eq, nn_eq, en_eq, ng_le, ng_lt, Int32.neg_neg, nI_add, pk_mul, nI_clampO, nI_ltO, nI_leO, nI_eqO, nI_subO, nle_t, nle_f, nlt_t, nlt_f, neq_f, k, cw]
end T1
