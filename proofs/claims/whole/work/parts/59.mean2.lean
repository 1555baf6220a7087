/-! THE MEAN IS SMALL; THE CLASS'S ANSWER -/
theorem coN_le {pa : Nat → Nat} (hP : PK pa) (lw : LW) (fz a b pc : Nat) : coN pa lw fz a b pc ≤ 2970 := by
  unfold coN
  have h1 := scN_le pa lw fz a b pc
  have h2 : (10 - chN pa lw fz a b pc) * pa 2 ≤ 10 * 99 := Nat.mul_le_mul (by omega) hP.1.2.2.1
  omega
theorem mnS_b {pa : Nat → Nat} (hP : PK pa) (lw : LW) (fz pc : Nat) : ∀ (l : List Nat) (n : Nat) (ab : Nat × Nat) (p a' b' : Nat), ab.1 ≤ 2970 * n * 10 ^ n → 1 ≤ ab.2 → ab.2 ≤ 10 ^ n → mnS pa lw fz pc ab p l = some (a', b') → a' ≤ 2970 * (n + l.length) * 10 ^ (n + l.length) ∧ 1 ≤ b' ∧ b' ≤ 10 ^ (n + l.length) := by
  intro l
  induction l with
  | nil =>
    intro n ab p a' b' h1 h2 h3 h
    rw [mnS] at h
    have e : ab = (a', b') := by simpa using h
    subst e
    exact ⟨h1, h2, h3⟩
  | cons q r ih =>
    intro n ab p a' b' h1 h2 h3 h
    rw [mnS] at h
    by_cases h0 : chN pa lw fz p q pc = 0
    · rw [if_pos h0] at h; simp at h
    · rw [if_neg h0] at h
      have hc := chN_le pa lw fz p q pc
      have hco := coN_le hP lw fz p q pc
      have k := ih (n + 1) _ q a' b' ?_ ?_ ?_ h
      · rw [List.length_cons, show n + (r.length + 1) = n + 1 + r.length by omega]; exact k
      · have hm : ab.1 * (if pa 3 = 1 then 10 else chN pa lw fz p q pc) ≤ (2970 * n * 10 ^ n) * 10 := Nat.mul_le_mul h1 (by split <;> omega)
        have hm2 : coN pa lw fz p q pc * ab.2 ≤ 2970 * 10 ^ n := Nat.mul_le_mul hco h3
        have e : 2970 * (n + 1) * 10 ^ (n + 1) = (2970 * n * 10 ^ n) * 10 + 2970 * 10 ^ n * 10 := by
          rw [Nat.pow_succ, Nat.mul_add, Nat.mul_one, Nat.add_mul, Nat.mul_assoc (2970 * n), Nat.mul_assoc 2970 (10 ^ n)]
        show ab.1 * (if pa 3 = 1 then 10 else chN pa lw fz p q pc) + coN pa lw fz p q pc * ab.2 ≤ _
        omega
      · show 1 ≤ ab.2 * chN pa lw fz p q pc
        exact Nat.mul_pos h2 (by omega)
      · show ab.2 * chN pa lw fz p q pc ≤ _
        rw [Nat.pow_succ]
        exact Nat.mul_le_mul h3 hc
theorem mnS_b0 {pa : Nat → Nat} (hP : PK pa) (lw : LW) (fz pc p : Nat) {l : List Nat} (hl : l.length ≤ 6) {a' b' : Nat} (h : mnS pa lw fz pc (0, 1) p l = some (a', b')) : a' < 2 ^ 49 ∧ 0 < b' ∧ b' < 9223372036854775808 := by
  obtain ⟨h1, h2, h3⟩ := mnS_b hP lw fz pc l 0 (0, 1) p a' b' (Nat.zero_le _) (Nat.le_refl 1) (Nat.le_refl 1) h
  rw [Nat.zero_add] at h1 h3
  have e : 10 ^ l.length ≤ 10 ^ 6 := Nat.pow_le_pow_right (by omega) hl
  have e2 : 2970 * l.length * 10 ^ l.length ≤ 2970 * 6 * 10 ^ 6 := Nat.mul_le_mul (Nat.mul_le_mul_left 2970 hl) e
  exact ⟨by omega, by omega, by omega⟩
section T1
variable {d : Nat} {μ : PM} {Q : Option Value → PM → Prop} {pa : Nat → Nat} {lw : LW} {s : Nat → Nat} {un : List (Nat → Nat)} {mk : Nat → Option (Nat → Nat)} {tp : List Nat}
theorem c124 (hC : CH μ pa lw s un mk tp) (hK : OKA pa s un mk tp) {fz : Nat} (hf : fz ≤ pa 1) : ∃ ν, CS5 μ ν ∧ (mnN pa lw fz (s 9) (ln pa s) = none → ∀ Q, R (d + 4) 124 0 [some (.ref 2000010), some (.int (fI fz)), none, none, none] [] μ Q = Q (some (.int (nI 0))) ν) ∧ ∀ a b, mnN pa lw fz (s 9) (ln pa s) = some (a, b) → rL ν 94000000 0 = lN (a / Nat.gcd a b) ∧ rL ν 94000000 1 = lN (b / Nat.gcd a b) ∧ ∀ Q, R (d + 4) 124 0 [some (.ref 2000010), some (.int (fI fz)), none, none, none] [] μ Q = Q (some (.int (nI 1))) ν := by
  have hl := ln7 (s := s) hK.1
  have hF := hC.1
  have hS := mu2_CS5 μ 0 1
  have hC1 := CSc_CH hS.1 hC
  have k1 := fun Q => c1 (d := d + 3) (μ := μ) (Q := Q) (F := 94000000) (a := lN 0) (b := lN 1) (v2 := none) (v4 := none) (by decide)
  have st : ∀ Q, R (d + 4) 124 0 [some (.ref 2000010), some (.int (fI fz)), none, none, none] [] μ Q = R (d + 4) 124 11 [some (.ref 2000010), some (.int (fI fz)), some (.int (nI 0)), none, none] [] (mu2 μ 0 1) Q := by
    intro Q
    simp (disch := first | assumption | omega) only [r124_0, r124_1, r124_4, r124_5, r124_6, r124_9, r124_10, rI_wI, rL_wL, rR_wR, rI_wL, rI_wR, rL_wI, rL_wR, rR_wI, rR_wL, va_rf_some, va_rf_none, Option.toList_some, Option.toList_none, List.nil_append, List.cons_append, true_and, and_true, false_and, and_false, and_self, if_true, if_false, not_true_eq_false, not_false_eq_true, or_false, false_or, or_true, true_or, or_self, ite_true, ite_false, Option.some.injEq, reduceCtorEq, Nat.reduceMod, Nat.reduceDiv, Nat.reduceLeDiff, Nat.reduceEqDiff, Nat.reduceAdd, Nat.reduceMul, Nat.reduceSub, Nat.reduceLT, sw_nil, sw_int, sw_long, sw_ref, li, lo, nI_m1, ng_eq, nn_eq, en_eq, ng_le, ng_lt, Int32.neg_neg, nI_add, pk_mul, nI_clampO, nI_ltO, nI_leO, nI_eqO, nI_subO, nle_t, nle_f, nlt_t, nlt_f, neq_f, fx_2000010_0, fx_2000010_1, fx_2000010_4, fx_2000010_5, fx_2000010_6, fx_2000010_8, fx_2000010_10, fx_2000010_11, fx_2000010_12, fx_2000010_13, fx_2000010_14, fx_2000010_15, fx_2000010_16, fx_2000010_17, fx_2000010_18, fx_3000009_0, fx_5000007_0, fx_5000007_1, fx_5000007_2, fx_5000007_3, fx_7000001_0, fx_11000005_1, fx_11000005_2, fx_11000005_3, fx_11000005_4, fx_11000005_5, fx_11000005_6, fx_11000005_10, fx_11000005_11, fx_11000005_12, fx_20000002_0, fx_20000002_2, fx_20000002_3, fx_20000002_4, fx_25000005_1, fx_25000005_2, fx_25000005_3, fx_25000005_4, fx_25000005_5, fx_25000005_6, fx_25000005_10, fx_25000005_11, fx_25000005_12, fx_34000002_0, fx_34000002_2, fx_34000002_3, fx_34000002_4, fx_39000008_0, fx_41000006_0, fx_42002024_0, fx_42002024_1, fx_42002024_2, fx_42002024_3, fx_42002024_4, fx_42002024_5, fx_42002024_6, fx_42002024_7, fx_42002024_8, fx_42002024_9, fx_42002024_10, fx_42002024_11, fx_42002024_12, fx_42002024_13, fx_42002024_14, fx_42002024_15, fx_42002024_16, fx_42002024_17, fx_42002024_18, fx_42002024_19, fx_43000008_0, fx_45000008_0, fx_47000008_0, fx_49000008_0, fx_51000008_0, fx_53000008_0, fx_55000008_0, fx_57000008_0, fx_59000008_0, fx_61000008_0, fx_63000008_0, fx_65000008_0, fx_67000008_0, fx_69000008_0, fx_71000008_0, fx_73000008_0, fx_75000008_0, fx_77000008_0, fx_79000008_0, fx_81000008_0, fx_83000424_0, fx_83000424_1, fx_83000424_2, fx_83000424_3, fx_85000004_0, fx_85000004_1, fx_85000004_2, fx_85000004_3, fx_85000004_4, fx_85000004_5, fx_85000004_6, fx_85000004_10, fx_102000008_0, fx_104000008_0, fx_106000008_0, fx_108000008_0, fx_110000011_1, fx_110000011_4, fx_110000011_5, fx_110000011_6, fx_110000011_9, fx_110000011_10, fx_110000011_11, fx_110000011_12, fx_110000011_14, fx_110000011_15, fx_110000011_20, fx_110000011_21, fx_110000011_22, fx_110000011_23, fx_110000011_25, fx_110000011_26, fx_110000011_31, fx_110000011_32, fx_110000011_37, fx_110000011_38, fx_110000011_39, fx_110000011_40, ll, k1]
    rfl
  have em : mnN pa lw fz (s 9) (ln pa s) = mnS pa lw fz (s 9) (0, 1) ((ln pa s).getD 0 0) ((ln pa s).drop 1) := by
    cases ln pa s with
    | nil => rfl
    | cons p r => rfl
  have hlen : ((ln pa s).drop 1).length ≤ 6 := by rw [List.length_drop]; omega
  obtain ⟨ν, n1, n2, n3⟩ := c124_l (d := d) (lw := lw) hK hf ((ln pa s).length - 1) 0 (mu2 μ 0 1) 0 1 none none (by omega) hC1 (mu2_0 _ _ _) (mu2_1 _ _ _) (fun a' b' q => mnS_b0 hK.1 lw fz (s 9) _ hlen q)
  refine ⟨ν, CS5_tr hS n1, fun q Q => ?_, fun a b q => ?_⟩
  · rw [em] at q
    rw [st]; exact n2 q Q
  · rw [em] at q
    refine ⟨(n3 a b q).1, (n3 a b q).2.1, fun Q => ?_⟩
    rw [st]; exact (n3 a b q).2.2 Q
/-- the answer to mean -/
def mnA (pa : Nat → Nat) (lw : LW) (s : Nat → Nat) (w : Int32) : Int64 := match mnN pa lw (s 8) (s 9) (ln pa s) with
  | none => -lN 1
  | some ab => rdI ab w
theorem c101 (hC : CH μ pa lw s un mk tp) (hK : OKA pa s un mk tp) {w : Int32} : ∃ ν, CSc μ ν ∧ ∀ Q, R (d + 5) 101 0 [some (.ref 2000010), some (.int w)] [] μ Q = Q (some (.long (mnA pa lw s w))) ν := by
  have hF := hC.1
  obtain ⟨ν, n1, n2, n3⟩ := c124 (d := d) hC hK (fz := s 8) hK.2.1.2.2.2.2.1
  have hF1 := CSc_FX n1.1 hF
  refine ⟨ν, n1.1, fun Q => ?_⟩
  unfold mnA
  cases hm : mnN pa lw (s 8) (s 9) (ln pa s) with
  | none =>
    have k := n2 hm
    simp (disch := first | assumption | omega) only [r101_0, r101_1, r101_2, r101_5, r101_8, r101_11, r101_14, r101_15, r101_18, r101_19, r101_22, r101_25, r101_28, rI_wI, rL_wL, rR_wR, rI_wL, rI_wR, rL_wI, rL_wR, rR_wI, rR_wL, va_rf_some, va_rf_none, Option.toList_some, Option.toList_none, List.nil_append, List.cons_append, true_and, and_true, false_and, and_false, and_self, if_true, if_false, not_true_eq_false, not_false_eq_true, or_false, false_or, or_true, true_or, or_self, ite_true, ite_false, Option.some.injEq, reduceCtorEq, Nat.reduceMod, Nat.reduceDiv, Nat.reduceLeDiff, Nat.reduceEqDiff, Nat.reduceAdd, Nat.reduceMul, Nat.reduceSub, Nat.reduceLT, sw_nil, sw_int, sw_long, sw_ref, li, lo, nI_m1, ng_eq, nn_eq, en_eq, ng_le, ng_lt, Int32.neg_neg, nI_add, pk_mul, nI_clampO, nI_ltO, nI_leO, nI_eqO, nI_subO, nle_t, nle_f, nlt_t, nlt_f, neq_f, fx_2000010_0, fx_2000010_1, fx_2000010_4, fx_2000010_5, fx_2000010_6, fx_2000010_8, fx_2000010_10, fx_2000010_11, fx_2000010_12, fx_2000010_13, fx_2000010_14, fx_2000010_15, fx_2000010_16, fx_2000010_17, fx_2000010_18, fx_3000009_0, fx_5000007_0, fx_5000007_1, fx_5000007_2, fx_5000007_3, fx_7000001_0, fx_11000005_1, fx_11000005_2, fx_11000005_3, fx_11000005_4, fx_11000005_5, fx_11000005_6, fx_11000005_10, fx_11000005_11, fx_11000005_12, fx_20000002_0, fx_20000002_2, fx_20000002_3, fx_20000002_4, fx_25000005_1, fx_25000005_2, fx_25000005_3, fx_25000005_4, fx_25000005_5, fx_25000005_6, fx_25000005_10, fx_25000005_11, fx_25000005_12, fx_34000002_0, fx_34000002_2, fx_34000002_3, fx_34000002_4, fx_39000008_0, fx_41000006_0, fx_42002024_0, fx_42002024_1, fx_42002024_2, fx_42002024_3, fx_42002024_4, fx_42002024_5, fx_42002024_6, fx_42002024_7, fx_42002024_8, fx_42002024_9, fx_42002024_10, fx_42002024_11, fx_42002024_12, fx_42002024_13, fx_42002024_14, fx_42002024_15, fx_42002024_16, fx_42002024_17, fx_42002024_18, fx_42002024_19, fx_43000008_0, fx_45000008_0, fx_47000008_0, fx_49000008_0, fx_51000008_0, fx_53000008_0, fx_55000008_0, fx_57000008_0, fx_59000008_0, fx_61000008_0, fx_63000008_0, fx_65000008_0, fx_67000008_0, fx_69000008_0, fx_71000008_0, fx_73000008_0, fx_75000008_0, fx_77000008_0, fx_79000008_0, fx_81000008_0, fx_83000424_0, fx_83000424_1, fx_83000424_2, fx_83000424_3, fx_85000004_0, fx_85000004_1, fx_85000004_2, fx_85000004_3, fx_85000004_4, fx_85000004_5, fx_85000004_6, fx_85000004_10, fx_102000008_0, fx_104000008_0, fx_106000008_0, fx_108000008_0, fx_110000011_1, fx_110000011_4, fx_110000011_5, fx_110000011_6, fx_110000011_9, fx_110000011_10, fx_110000011_11, fx_110000011_12, fx_110000011_14, fx_110000011_15, fx_110000011_20, fx_110000011_21, fx_110000011_22, fx_110000011_23, fx_110000011_25, fx_110000011_26, fx_110000011_31, fx_110000011_32, fx_110000011_37, fx_110000011_38, fx_110000011_39, fx_110000011_40, hC.2.2.1.2.2.1, k, ll]
  | some ab =>
    obtain ⟨a, b⟩ := ab
    obtain ⟨k1, k2, k3⟩ := n3 a b hm
    have k4 := fun Q => c6 (d := d + 4) (Q := Q) (w := w) (F := 94000000) (by decide) k1 k2
    simp (disch := first | assumption | omega) only [r101_0, r101_1, r101_2, r101_5, r101_8, r101_11, r101_14, r101_15, r101_18, r101_19, r101_22, r101_25, r101_28, rI_wI, rL_wL, rR_wR, rI_wL, rI_wR, rL_wI, rL_wR, rR_wI, rR_wL, va_rf_some, va_rf_none, Option.toList_some, Option.toList_none, List.nil_append, List.cons_append, true_and, and_true, false_and, and_false, and_self, if_true, if_false, not_true_eq_false, not_false_eq_true, or_false, false_or, or_true, true_or, or_self, ite_true, ite_false, Option.some.injEq, reduceCtorEq, Nat.reduceMod, Nat.reduceDiv, Nat.reduceLeDiff, Nat.reduceEqDiff, Nat.reduceAdd, Nat.reduceMul, Nat.reduceSub, Nat.reduceLT, sw_nil, sw_int, sw_long, sw_ref, li, lo, nI_m1, ng_eq, nn_eq, en_eq, ng_le, ng_lt, Int32.neg_neg, nI_add, pk_mul, nI_clampO, nI_ltO, nI_leO, nI_eqO, nI_subO, nle_t, nle_f, nlt_t, nlt_f, neq_f, fx_2000010_0, fx_2000010_1, fx_2000010_4, fx_2000010_5, fx_2000010_6, fx_2000010_8, fx_2000010_10, fx_2000010_11, fx_2000010_12, fx_2000010_13, fx_2000010_14, fx_2000010_15, fx_2000010_16, fx_2000010_17, fx_2000010_18, fx_3000009_0, fx_5000007_0, fx_5000007_1, fx_5000007_2, fx_5000007_3, fx_7000001_0, fx_11000005_1, fx_11000005_2, fx_11000005_3, fx_11000005_4, fx_11000005_5, fx_11000005_6, fx_11000005_10, fx_11000005_11, fx_11000005_12, fx_20000002_0, fx_20000002_2, fx_20000002_3, fx_20000002_4, fx_25000005_1, fx_25000005_2, fx_25000005_3, fx_25000005_4, fx_25000005_5, fx_25000005_6, fx_25000005_10, fx_25000005_11, fx_25000005_12, fx_34000002_0, fx_34000002_2, fx_34000002_3, fx_34000002_4, fx_39000008_0, fx_41000006_0, fx_42002024_0, fx_42002024_1, fx_42002024_2, fx_42002024_3, fx_42002024_4, fx_42002024_5, fx_42002024_6, fx_42002024_7, fx_42002024_8, fx_42002024_9, fx_42002024_10, fx_42002024_11, fx_42002024_12, fx_42002024_13, fx_42002024_14, fx_42002024_15, fx_42002024_16, fx_42002024_17, fx_42002024_18, fx_42002024_19, fx_43000008_0, fx_45000008_0, fx_47000008_0, fx_49000008_0, fx_51000008_0, fx_53000008_0, fx_55000008_0, fx_57000008_0, fx_59000008_0, fx_61000008_0, fx_63000008_0, fx_65000008_0, fx_67000008_0, fx_69000008_0, fx_71000008_0, fx_73000008_0, fx_75000008_0, fx_77000008_0, fx_79000008_0, fx_81000008_0, fx_83000424_0, fx_83000424_1, fx_83000424_2, fx_83000424_3, fx_85000004_0, fx_85000004_1, fx_85000004_2, fx_85000004_3, fx_85000004_4, fx_85000004_5, fx_85000004_6, fx_85000004_10, fx_102000008_0, fx_104000008_0, fx_106000008_0, fx_108000008_0, fx_110000011_1, fx_110000011_4, fx_110000011_5, fx_110000011_6, fx_110000011_9, fx_110000011_10, fx_110000011_11, fx_110000011_12, fx_110000011_14, fx_110000011_15, fx_110000011_20, fx_110000011_21, fx_110000011_22, fx_110000011_23, fx_110000011_25, fx_110000011_26, fx_110000011_31, fx_110000011_32, fx_110000011_37, fx_110000011_38, fx_110000011_39, fx_110000011_40, hC.2.2.1.2.2.1, k3, k4, ll, rdI]
end T1
