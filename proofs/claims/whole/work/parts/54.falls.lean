/-! WHERE IT FALLS FIRST: THE CLASS -/
def fcN (pa : Nat → Nat) (lw : LW) (s : Nat → Nat) (k : Nat) : Nat := chN pa lw (s 8) ((ln pa s).getD k 0) ((ln pa s).getD (k + 1) 0) (s 9)
def frp (f : Nat → Nat) : Nat → Nat → Nat
  | _, 0 => 1
  | k, r + 1 => f k * frp f (k + 1) r
theorem frp_le {f : Nat → Nat} (h : ∀ k, f k ≤ 10) : ∀ r k, frp f k r ≤ 10 ^ r := by
  intro r
  induction r with
  | zero => intro k; exact Nat.le_refl 1
  | succ r ih =>
    intro k
    rw [frp, Nat.pow_succ, Nat.mul_comm (10 ^ r)]
    exact Nat.mul_le_mul (h k) (ih (k + 1))
theorem frp_snoc (f : Nat → Nat) : ∀ r k, frp f k (r + 1) = frp f k r * f (k + r) := by
  intro r
  induction r with
  | zero => intro k; simp [frp]
  | succ r ih =>
    intro k
    rw [frp, ih (k + 1), frp, Nat.mul_assoc, show k + 1 + r = k + (r + 1) by omega]
def faP (pa : Nat → Nat) (lw : LW) (s : Nat → Nat) (i : Nat) : Nat × Nat := if i = 0 then (frp (fcN pa lw s) 0 ((ln pa s).length - 1), 10 ^ ((ln pa s).length - 1)) else (frp (fcN pa lw s) 0 (i - 1) * (10 - fcN pa lw s (i - 1)), 10 ^ i)
def rdI (ab : Nat × Nat) (w : Int32) : Int64 := ptI (ab.1 / Nat.gcd ab.1 ab.2) (ab.2 / Nat.gcd ab.1 ab.2) w
section T1
variable {d : Nat} {μ : PM} {Q : Option Value → PM → Prop} {pa : Nat → Nat} {lw : LW} {s : Nat → Nat} {un : List (Nat → Nat)} {mk : Nat → Option (Nat → Nat)} {tp : List Nat}
theorem c120 {l : List Nat} (hL : CLn μ l) (hl : l.length ≤ 7) : R d 120 0 [some (.ref 2000010)] [] μ Q = Q (some (.int (nI (l.length - 1)))) μ := by
  by_cases h : l.length = 0
  · have e : rI μ 2000010 9 = nI 0 := by rw [hL.1, h]
    simp (disch := first | assumption | omega) only [r120_0, r120_1, r120_4, r120_7, r120_8, r120_11, r120_12, r120_13, r120_16, r120_17, rI_wI, rL_wL, rR_wR, rI_wL, rI_wR, rL_wI, rL_wR, rR_wI, rR_wL, va_rf_some, va_rf_none, Option.toList_some, Option.toList_none, List.nil_append, List.cons_append, true_and, and_true, false_and, and_false, and_self, if_true, if_false, not_true_eq_false, not_false_eq_true, or_false, false_or, or_true, true_or, or_self, ite_true, ite_false, Option.some.injEq, reduceCtorEq, Nat.reduceMod, Nat.reduceDiv, Nat.reduceLeDiff, Nat.reduceEqDiff, Nat.reduceAdd, Nat.reduceMul, Nat.reduceSub, Nat.reduceLT, sw_nil, sw_int, sw_long, sw_ref, li, lo, nI_m1, ng_eq, nn_eq, en_eq, ng_le, ng_lt, Int32.neg_neg, nI_add, pk_mul, nI_clampO, nI_ltO, nI_leO, nI_eqO, nI_subO, nle_t, nle_f, nlt_t, nlt_f, neq_f, e, h]
  · simp (disch := first | assumption | omega) only [r120_0, r120_1, r120_4, r120_7, r120_8, r120_11, r120_12, r120_13, r120_16, r120_17, rI_wI, rL_wL, rR_wR, rI_wL, rI_wR, rL_wI, rL_wR, rR_wI, rR_wL, va_rf_some, va_rf_none, Option.toList_some, Option.toList_none, List.nil_append, List.cons_append, true_and, and_true, false_and, and_false, and_self, if_true, if_false, not_true_eq_false, not_false_eq_true, or_false, false_or, or_true, true_or, or_self, ite_true, ite_false, Option.some.injEq, reduceCtorEq, Nat.reduceMod, Nat.reduceDiv, Nat.reduceLeDiff, Nat.reduceEqDiff, Nat.reduceAdd, Nat.reduceMul, Nat.reduceSub, Nat.reduceLT, sw_nil, sw_int, sw_long, sw_ref, li, lo, nI_m1, ng_eq, nn_eq, en_eq, ng_le, ng_lt, Int32.neg_neg, nI_add, pk_mul, nI_clampO, nI_ltO, nI_leO, nI_eqO, nI_subO, nle_t, nle_f, nlt_t, nlt_f, neq_f, hL.1]
theorem ln_at (hK : OKA pa s un mk tp) {k : Nat} (hk : k < (ln pa s).length) : (ln pa s).getD k 0 < pa 0 := by
  have : (ln pa s).getD k 0 ∈ ln pa s := by
    rw [List.getD_eq_getElem?_getD, List.getElem?_eq_getElem hk]; exact List.getElem_mem hk
  exact ((ln_mem hK.1 hK.2.1 _).mp this).1
theorem c121 (hC : CH μ pa lw s un mk tp) (hK : OKA pa s un mk tp) {k pc : Nat} (hk : k + 1 < (ln pa s).length) : ∃ ν, SC μ ν ∧ ∀ Q, R (d + 4) 121 0 [some (.ref 2000010), some (.int (nI k)), some (.int (nI pc))] [] μ Q = Q (some (.int (nI (chN pa lw (s 8) ((ln pa s).getD k 0) ((ln pa s).getD (k + 1) 0) pc)))) ν := by
  have hF := hC.1
  have hl := ln7 (s := s) hK.1
  obtain ⟨P, ν, h5, hr, k1, k2⟩ := cCh (d := d) (pc := pc) hF hC.2.1 hK.1 (ln_at hK (show k < (ln pa s).length by omega)) (ln_at hK hk) hK.2.1.2.2.2.2.1
  have e1 := hC.2.2.2.2.2.1.2 k (by omega)
  have e2 := hC.2.2.2.2.2.1.2 (k + 1) hk
  refine ⟨ν, k1, fun Q => ?_⟩
  simp (disch := first | assumption | omega) only [r121_0, r121_1, r121_4, r121_5, r121_8, r121_9, r121_10, r121_11, r121_14, r121_15, r121_16, r121_17, r121_18, r121_19, r121_22, r121_25, r121_26, r121_29, rI_wI, rL_wL, rR_wR, rI_wL, rI_wR, rL_wI, rL_wR, rR_wI, rR_wL, va_rf_some, va_rf_none, Option.toList_some, Option.toList_none, List.nil_append, List.cons_append, true_and, and_true, false_and, and_false, and_self, if_true, if_false, not_true_eq_false, not_false_eq_true, or_false, false_or, or_true, true_or, or_self, ite_true, ite_false, Option.some.injEq, reduceCtorEq, Nat.reduceMod, Nat.reduceDiv, Nat.reduceLeDiff, Nat.reduceEqDiff, Nat.reduceAdd, Nat.reduceMul, Nat.reduceSub, Nat.reduceLT, sw_nil, sw_int, sw_long, sw_ref, li, lo, nI_m1, ng_eq, nn_eq, en_eq, ng_le, ng_lt, Int32.neg_neg, nI_add, pk_mul, nI_clampO, nI_ltO, nI_leO, nI_eqO, nI_subO, nle_t, nle_f, nlt_t, nlt_f, neq_f, fx_2000010_0, fx_2000010_1, fx_2000010_4, fx_2000010_5, fx_2000010_6, fx_2000010_8, fx_2000010_10, fx_2000010_11, fx_2000010_12, fx_2000010_13, fx_2000010_14, fx_2000010_15, fx_2000010_16, fx_2000010_17, fx_2000010_18, fx_3000009_0, fx_5000007_0, fx_5000007_1, fx_5000007_2, fx_5000007_3, fx_7000001_0, fx_11000005_1, fx_11000005_2, fx_11000005_3, fx_11000005_4, fx_11000005_5, fx_11000005_6, fx_11000005_10, fx_11000005_11, fx_11000005_12, fx_20000002_0, fx_20000002_2, fx_20000002_3, fx_20000002_4, fx_25000005_1, fx_25000005_2, fx_25000005_3, fx_25000005_4, fx_25000005_5, fx_25000005_6, fx_25000005_10, fx_25000005_11, fx_25000005_12, fx_34000002_0, fx_34000002_2, fx_34000002_3, fx_34000002_4, fx_39000008_0, fx_41000006_0, fx_42002024_0, fx_42002024_1, fx_42002024_2, fx_42002024_3, fx_42002024_4, fx_42002024_5, fx_42002024_6, fx_42002024_7, fx_42002024_8, fx_42002024_9, fx_42002024_10, fx_42002024_11, fx_42002024_12, fx_42002024_13, fx_42002024_14, fx_42002024_15, fx_42002024_16, fx_42002024_17, fx_42002024_18, fx_42002024_19, fx_43000008_0, fx_45000008_0, fx_47000008_0, fx_49000008_0, fx_51000008_0, fx_53000008_0, fx_55000008_0, fx_57000008_0, fx_59000008_0, fx_61000008_0, fx_63000008_0, fx_65000008_0, fx_67000008_0, fx_69000008_0, fx_71000008_0, fx_73000008_0, fx_75000008_0, fx_77000008_0, fx_79000008_0, fx_81000008_0, fx_83000424_0, fx_83000424_1, fx_83000424_2, fx_83000424_3, fx_85000004_0, fx_85000004_1, fx_85000004_2, fx_85000004_3, fx_85000004_4, fx_85000004_5, fx_85000004_6, fx_85000004_10, fx_102000008_0, fx_104000008_0, fx_106000008_0, fx_108000008_0, fx_110000011_1, fx_110000011_4, fx_110000011_5, fx_110000011_6, fx_110000011_9, fx_110000011_10, fx_110000011_11, fx_110000011_12, fx_110000011_14, fx_110000011_15, fx_110000011_20, fx_110000011_21, fx_110000011_22, fx_110000011_23, fx_110000011_25, fx_110000011_26, fx_110000011_31, fx_110000011_32, fx_110000011_37, fx_110000011_38, fx_110000011_39, fx_110000011_40, hr, h5, e1, e2, hC.2.2.1.2.2.1, k2]
theorem c2 {F a b x y : Nat} (hF : F % 100 = 0) (ha : rL μ F 0 = lN a) (hb : rL μ F 1 = lN b) (hx : x < 1000) (hy : y < 1000) : R d 2 0 [some (.ref F), some (.int (nI x)), some (.int (nI y))] [] μ Q = Q none (wL (wL μ F 0 (lN (a * x))) F 1 (lN (b * y))) := by
  simp (disch := first | assumption | omega) only [r2_0, r2_1, r2_1i, r2_2, r2_5, r2_6, r2_7, r2_8, r2_11, r2_12, r2_12i, r2_13, r2_16, r2_17, r2_18, r2_19, r2_22, rI_wI, rL_wL, rR_wR, rI_wL, rI_wR, rL_wI, rL_wR, rR_wI, rR_wL, va_rf_some, va_rf_none, Option.toList_some, Option.toList_none, List.nil_append, List.cons_append, true_and, and_true, false_and, and_false, and_self, if_true, if_false, not_true_eq_false, not_false_eq_true, or_false, false_or, or_true, true_or, or_self, ite_true, ite_false, Option.some.injEq, reduceCtorEq, Nat.reduceMod, Nat.reduceDiv, Nat.reduceLeDiff, Nat.reduceEqDiff, Nat.reduceAdd, Nat.reduceMul, Nat.reduceSub, Nat.reduceLT, sw_nil, sw_int, sw_long, sw_ref, li, lo, nI_m1, ng_eq, nn_eq, en_eq, ng_le, ng_lt, Int32.neg_neg, nI_add, pk_mul, nI_clampO, nI_ltO, nI_leO, nI_eqO, nI_subO, nle_t, nle_f, nlt_t, nlt_f, neq_f, hF, ha, hb, nI_l, lN_mul]
def mu2 (μ : PM) (a b : Nat) : PM := wL (wL μ 94000000 0 (lN a)) 94000000 1 (lN b)
theorem mu2_CSc (μ : PM) (a b : Nat) : CSc μ (mu2 μ a b) := CSc_tr (CSc_wL μ 0 _ (by omega)) (CSc_wL _ 1 _ (by omega))
theorem mu2_0 (μ : PM) (a b : Nat) : rL (mu2 μ a b) 94000000 0 = lN a := by unfold mu2; rw [rL_wL, if_neg (by decide), rL_wL, if_pos ⟨rfl, rfl⟩]
theorem mu2_1 (μ : PM) (a b : Nat) : rL (mu2 μ a b) 94000000 1 = lN b := by unfold mu2; rw [rL_wL, if_pos ⟨rfl, rfl⟩]
theorem c102_l (hK : OKA pa s un mk tp) {x w : Int32} {n held : Nat} (hh : held ≤ (ln pa s).length - 1) : ∀ (r k : Nat) (μ : PM) (a b : Nat), k + r = held → CH μ pa lw s un mk tp → rL μ 94000000 0 = lN a → rL μ 94000000 1 = lN b → ∃ ν, CSc μ ν ∧ rL ν 94000000 0 = lN (a * frp (fcN pa lw s) k r) ∧ rL ν 94000000 1 = lN (b * 10 ^ r) ∧ ∀ Q, R (d + 5) 102 43 [some (.ref 2000010), some (.int x), some (.int w), some (.int (nI n)), some (.int (nI held)), some (.int (nI k))] [] μ Q = R (d + 5) 102 78 [some (.ref 2000010), some (.int x), some (.int w), some (.int (nI n)), some (.int (nI held)), some (.int (nI held))] [] ν Q := by
  have hl := ln7 (s := s) hK.1
  intro r
  induction r with
  | zero =>
    intro k μ a b hk hC ha hb
    obtain rfl : k = held := by omega
    refine ⟨μ, CSc_rf μ, by rw [frp, Nat.mul_one]; exact ha, by rw [Nat.pow_zero, Nat.mul_one]; exact hb, fun Q => ?_⟩
    rw [r102_43]
    simp (disch := first | assumption | omega) only [r102_45, r102_47, rI_wI, rL_wL, rR_wR, rI_wL, rI_wR, rL_wI, rL_wR, rR_wI, rR_wL, va_rf_some, va_rf_none, Option.toList_some, Option.toList_none, List.nil_append, List.cons_append, true_and, and_true, false_and, and_false, and_self, if_true, if_false, not_true_eq_false, not_false_eq_true, or_false, false_or, or_true, true_or, or_self, ite_true, ite_false, Option.some.injEq, reduceCtorEq, Nat.reduceMod, Nat.reduceDiv, Nat.reduceLeDiff, Nat.reduceEqDiff, Nat.reduceAdd, Nat.reduceMul, Nat.reduceSub, Nat.reduceLT, sw_nil, sw_int, sw_long, sw_ref, li, lo, nI_m1, ng_eq, nn_eq, en_eq, ng_le, ng_lt, Int32.neg_neg, nI_add, pk_mul, nI_clampO, nI_ltO, nI_leO, nI_eqO, nI_subO, nle_t, nle_f, nlt_t, nlt_f, neq_f]
  | succ r ih =>
    intro k μ a b hk hC ha hb
    have hF := hC.1
    obtain ⟨ν, q1, q2⟩ := c121 (d := d) (pc := s 9) hC hK (show k + 1 < (ln pa s).length by omega)
    have hc := chN_le pa lw (s 8) ((ln pa s).getD k 0) ((ln pa s).getD (k + 1) 0) (s 9)
    have ea : rL ν 94000000 0 = lN a := (q1.2.1 _ _).trans ha
    have eb : rL ν 94000000 1 = lN b := (q1.2.1 _ _).trans hb
    have q3 := fun Q => c2 (d := d + 4) (Q := Q) (x := chN pa lw (s 8) ((ln pa s).getD k 0) ((ln pa s).getD (k + 1) 0) (s 9)) (y := 10) (by decide) ea eb (by omega) (by omega)
    have hS2 := CSc_tr (CSc_SC q1) (mu2_CSc ν (a * fcN pa lw s k) (b * 10))
    obtain ⟨ν2, j1, j2, j3, j4⟩ := ih (k + 1) (mu2 ν (a * fcN pa lw s k) (b * 10)) (a * fcN pa lw s k) (b * 10) (by omega) (CSc_CH hS2 hC) (mu2_0 _ _ _) (mu2_1 _ _ _)
    refine ⟨ν2, CSc_tr hS2 j1, by rw [j2, frp, Nat.mul_assoc], by rw [j3, Nat.pow_succ, Nat.mul_comm (10 ^ r), Nat.mul_assoc], fun Q => ?_⟩
    have j4 := j4 Q
    unfold mu2 fcN at j4
    have hF1 : FX ν := CSc_FX (CSc_SC q1) hF
    rw [r102_43]
    simp (disch := first | assumption | omega) only [r102_45, r102_47, r102_50, r102_51, r102_54, r102_55, r102_57, r102_58, r102_61, r102_64, r102_67, r102_69, r102_72, r102_75, rI_wI, rL_wL, rR_wR, rI_wL, rI_wR, rL_wI, rL_wR, rR_wI, rR_wL, va_rf_some, va_rf_none, Option.toList_some, Option.toList_none, List.nil_append, List.cons_append, true_and, and_true, false_and, and_false, and_self, if_true, if_false, not_true_eq_false, not_false_eq_true, or_false, false_or, or_true, true_or, or_self, ite_true, ite_false, Option.some.injEq, reduceCtorEq, Nat.reduceMod, Nat.reduceDiv, Nat.reduceLeDiff, Nat.reduceEqDiff, Nat.reduceAdd, Nat.reduceMul, Nat.reduceSub, Nat.reduceLT, sw_nil, sw_int, sw_long, sw_ref, li, lo, nI_m1, ng_eq, nn_eq, en_eq, ng_le, ng_lt, Int32.neg_neg, nI_add, pk_mul, nI_clampO, nI_ltO, nI_leO, nI_eqO, nI_subO, nle_t, nle_f, nlt_t, nlt_f, neq_f, fx_2000010_0, fx_2000010_1, fx_2000010_4, fx_2000010_5, fx_2000010_6, fx_2000010_8, fx_2000010_10, fx_2000010_11, fx_2000010_12, fx_2000010_13, fx_2000010_14, fx_2000010_15, fx_2000010_16, fx_2000010_17, fx_2000010_18, fx_3000009_0, fx_5000007_0, fx_5000007_1, fx_5000007_2, fx_5000007_3, fx_7000001_0, fx_11000005_1, fx_11000005_2, fx_11000005_3, fx_11000005_4, fx_11000005_5, fx_11000005_6, fx_11000005_10, fx_11000005_11, fx_11000005_12, fx_20000002_0, fx_20000002_2, fx_20000002_3, fx_20000002_4, fx_25000005_1, fx_25000005_2, fx_25000005_3, fx_25000005_4, fx_25000005_5, fx_25000005_6, fx_25000005_10, fx_25000005_11, fx_25000005_12, fx_34000002_0, fx_34000002_2, fx_34000002_3, fx_34000002_4, fx_39000008_0, fx_41000006_0, fx_42002024_0, fx_42002024_1, fx_42002024_2, fx_42002024_3, fx_42002024_4, fx_42002024_5, fx_42002024_6, fx_42002024_7, fx_42002024_8, fx_42002024_9, fx_42002024_10, fx_42002024_11, fx_42002024_12, fx_42002024_13, fx_42002024_14, fx_42002024_15, fx_42002024_16, fx_42002024_17, fx_42002024_18, fx_42002024_19, fx_43000008_0, fx_45000008_0, fx_47000008_0, fx_49000008_0, fx_51000008_0, fx_53000008_0, fx_55000008_0, fx_57000008_0, fx_59000008_0, fx_61000008_0, fx_63000008_0, fx_65000008_0, fx_67000008_0, fx_69000008_0, fx_71000008_0, fx_73000008_0, fx_75000008_0, fx_77000008_0, fx_79000008_0, fx_81000008_0, fx_83000424_0, fx_83000424_1, fx_83000424_2, fx_83000424_3, fx_85000004_0, fx_85000004_1, fx_85000004_2, fx_85000004_3, fx_85000004_4, fx_85000004_5, fx_85000004_6, fx_85000004_10, fx_102000008_0, fx_104000008_0, fx_106000008_0, fx_108000008_0, fx_110000011_1, fx_110000011_4, fx_110000011_5, fx_110000011_6, fx_110000011_9, fx_110000011_10, fx_110000011_11, fx_110000011_12, fx_110000011_14, fx_110000011_15, fx_110000011_20, fx_110000011_21, fx_110000011_22, fx_110000011_23, fx_110000011_25, fx_110000011_26, fx_110000011_31, fx_110000011_32, fx_110000011_37, fx_110000011_38, fx_110000011_39, fx_110000011_40, hC.2.2.1.2.2.2, q2, q3]
    exact j4
theorem c102_n (hC : CH μ pa lw s un mk tp) (hK : OKA pa s un mk tp) {x w : Int32} (h : ¬ ∃ i, i ≤ (ln pa s).length - 1 ∧ x = fI i) : R (d + 1) 102 0 [some (.ref 2000010), some (.int x), some (.int w), none, none, none] [] μ Q = Q (some (.long (-lN 1))) μ := by
  have hl := ln7 (s := s) hK.1
  have c := fun Q => c120 (d := d) (Q := Q) hC.2.2.2.2.2.1 hl
  by_cases h1 : x < -nI 1
  · have e := eq_true h1
    simp (disch := first | assumption | omega) only [r102_0, r102_1, r102_4, r102_5, r102_6, r102_7, r102_10, r102_11, r102_12, r102_15, r102_18, r102_19, r102_20, r102_23, r102_24, r102_25, r102_28, r102_29, r102_30, r102_33, r102_34, r102_37, r102_38, r102_40, r102_41, r102_45, r102_47, r102_50, r102_51, r102_54, r102_55, r102_57, r102_58, r102_61, r102_64, r102_67, r102_69, r102_72, r102_75, r102_78, r102_79, r102_80, r102_83, r102_84, r102_87, r102_89, r102_90, r102_91, r102_92, r102_95, r102_98, r102_101, r102_102, r102_104, r102_107, r102_108, r102_111, r102_114, r102_115, r102_118, r102_119, r102_122, rI_wI, rL_wL, rR_wR, rI_wL, rI_wR, rL_wI, rL_wR, rR_wI, rR_wL, va_rf_some, va_rf_none, Option.toList_some, Option.toList_none, List.nil_append, List.cons_append, true_and, and_true, false_and, and_false, and_self, if_true, if_false, not_true_eq_false, not_false_eq_true, or_false, false_or, or_true, true_or, or_self, ite_true, ite_false, Option.some.injEq, reduceCtorEq, Nat.reduceMod, Nat.reduceDiv, Nat.reduceLeDiff, Nat.reduceEqDiff, Nat.reduceAdd, Nat.reduceMul, Nat.reduceSub, Nat.reduceLT, sw_nil, sw_int, sw_long, sw_ref, li, lo, nI_m1, ng_eq, nn_eq, en_eq, ng_le, ng_lt, Int32.neg_neg, nI_add, pk_mul, nI_clampO, nI_ltO, nI_leO, nI_eqO, nI_subO, nle_t, nle_f, nlt_t, nlt_f, neq_f, c, e, ll]
  · have e := eq_false h1
    rcases xcs x ((ln pa s).length - 1) (by omega) with hx | hx | ⟨a, ha, rfl⟩
    · exfalso
      apply h
      refine ⟨0, by omega, ?_⟩
      unfold fI
      rw [if_pos rfl]
      apply Int32.toInt_inj.mp
      have hm : (-nI 1).toInt = -1 := by decide
      rw [Int32.lt_iff_toInt_lt, hm] at h1
      rw [Int32.lt_iff_toInt_lt, nI_toInt (by omega)] at hx
      rw [hm]; omega
    · simp (disch := first | assumption | omega) only [r102_0, r102_1, r102_4, r102_5, r102_6, r102_7, r102_10, r102_11, r102_12, r102_15, r102_18, r102_19, r102_20, r102_23, r102_24, r102_25, r102_28, r102_29, r102_30, r102_33, r102_34, r102_37, r102_38, r102_40, r102_41, r102_45, r102_47, r102_50, r102_51, r102_54, r102_55, r102_57, r102_58, r102_61, r102_64, r102_67, r102_69, r102_72, r102_75, r102_78, r102_79, r102_80, r102_83, r102_84, r102_87, r102_89, r102_90, r102_91, r102_92, r102_95, r102_98, r102_101, r102_102, r102_104, r102_107, r102_108, r102_111, r102_114, r102_115, r102_118, r102_119, r102_122, rI_wI, rL_wL, rR_wR, rI_wL, rI_wR, rL_wI, rL_wR, rR_wI, rR_wL, va_rf_some, va_rf_none, Option.toList_some, Option.toList_none, List.nil_append, List.cons_append, true_and, and_true, false_and, and_false, and_self, if_true, if_false, not_true_eq_false, not_false_eq_true, or_false, false_or, or_true, true_or, or_self, ite_true, ite_false, Option.some.injEq, reduceCtorEq, Nat.reduceMod, Nat.reduceDiv, Nat.reduceLeDiff, Nat.reduceEqDiff, Nat.reduceAdd, Nat.reduceMul, Nat.reduceSub, Nat.reduceLT, sw_nil, sw_int, sw_long, sw_ref, li, lo, nI_m1, ng_eq, nn_eq, en_eq, ng_le, ng_lt, Int32.neg_neg, nI_add, pk_mul, nI_clampO, nI_ltO, nI_leO, nI_eqO, nI_subO, nle_t, nle_f, nlt_t, nlt_f, neq_f, c, e, xg_lt hx, ll]
    · exact absurd ⟨a + 1, by omega, by unfold fI; rw [if_neg (by omega)]; rfl⟩ h
end T1
