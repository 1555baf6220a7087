/-! WHERE IT FALLS FIRST: THE REFERENCE -/
theorem frp_cong {f g : Nat → Nat} : ∀ r k, (∀ i, k ≤ i → i < k + r → f i = g i) → frp f k r = frp g k r := by
  intro r
  induction r with
  | zero => intro k h; rfl
  | succ r ih =>
    intro k h
    rw [frp, frp, h k (by omega) (by omega), ih (k + 1) (fun i h1 h2 => h i (by omega) (by omega))]
/-- the passes as the reference takes them: the one where it falls the other way round -/
def fxN (f : Nat → Nat) (i k : Nat) : Nat := if k + 1 = i then 10 - f k else f k
theorem fxN_le {f : Nat → Nat} (h : ∀ k, f k ≤ 10) (i k : Nat) : fxN f i k ≤ 10 := by
  unfold fxN
  split
  · omega
  · exact h k
theorem frp_fx (f : Nat → Nat) (j : Nat) : frp (fxN f (j + 1)) 0 (j + 1) = frp f 0 j * (10 - f j) := by
  rw [frp_snoc, Nat.zero_add]
  congr 1
  · refine frp_cong j 0 (fun i h1 h2 => ?_)
    unfold fxN; rw [if_neg (by omega)]
  · unfold fxN; rw [if_pos rfl]
theorem frp_f0 (f : Nat → Nat) (n : Nat) : frp (fxN f 0) 0 n = frp f 0 n := frp_cong n 0 (fun i _ _ => by unfold fxN; rw [if_neg (by omega)])
section T1
variable {d : Nat} {μ : PM} {Q : Option Value → PM → Prop} {pa : Nat → Nat} {lw : LW} {s : Nat → Nat} {un : List (Nat → Nat)} {mk : Nat → Option (Nat → Nat)} {tp : List Nat}
def mw2 (μ : PM) (a b : Nat) : PM := wL (wL μ 110000011 29 (lN a)) 110000011 30 (lN b)
theorem mw2_MSc (μ : PM) (a b : Nat) : MSc μ (mw2 μ a b) := MSc_tr (MSc_wL μ 29 _ (by omega)) (MSc_wL _ 30 _ (by omega))
theorem mw2_0 (μ : PM) (a b : Nat) : rL (mw2 μ a b) 110000011 29 = lN a := by unfold mw2; rw [rL_wL, if_neg (by decide), rL_wL, if_pos ⟨rfl, rfl⟩]
theorem mw2_1 (μ : PM) (a b : Nat) : rL (mw2 μ a b) 110000011 30 = lN b := by unfold mw2; rw [rL_wL, if_pos ⟨rfl, rfl⟩]
theorem mw2_ln {l : List Nat} {a b : Nat} (h : MLn μ l) : MLn (mw2 μ a b) l := h
theorem fr_ln {ν : PM} {l : List Nat} (h1 : ∀ j, rI ν 110000011 j = rI μ 110000011 j) (h2 : ∀ a j, a ≠ 122000520 → a ≠ 123110020 → rI ν a j = rI μ a j) (h : MLn μ l) : MLn ν l := ⟨(h1 27).trans h.1, fun i hi => (h2 _ _ (by decide) (by decide)).trans (h.2 i hi)⟩
theorem c200_l (hK : OKA pa s un mk tp) {w : Int32} {n i : Nat} (hn : n = (ln pa s).length - 1) (hi : i ≤ n) : ∀ (r k : Nat) (μ : PM) (a b : Nat) (v5 : Option Value), k + r = (if i = 0 then n else i) → MH μ pa lw s un mk tp → MLn μ (ln pa s) → rI μ 110000011 28 = fI (s 8) → rL μ 110000011 29 = lN a → rL μ 110000011 30 = lN b → ∃ ν, MSc μ ν ∧ rL ν 110000011 29 = lN (a * frp (fxN (fcN pa lw s) i) k r) ∧ rL ν 110000011 30 = lN (b * 10 ^ r) ∧ ∃ v5', ∀ Q, R (d + 4) 200 75 [some (.ref 110000011), some (.int (fI i)), some (.int w), some (.int (nI n)), some (.int (nI k)), v5] [] μ Q = R (d + 4) 200 164 [some (.ref 110000011), some (.int (fI i)), some (.int w), some (.int (nI n)), some (.int (nI (k + r))), v5'] [] ν Q := by
  have hl := ln7 (s := s) hK.1
  intro r
  induction r with
  | zero =>
    intro k μ a b v5 hk hM hL h28 ha hb
    refine ⟨μ, MSc_rf μ, by rw [frp, Nat.mul_one]; exact ha, by rw [Nat.pow_zero, Nat.mul_one]; exact hb, v5, fun Q => ?_⟩
    rw [r200_75]
    by_cases h0 : i = 0
    · subst h0
      rw [if_pos rfl] at hk
      have hx : fI 0 = -nI 1 := rfl
      have z : (nI 0 ≤ -nI 1) = False := ng_le (by omega) (by omega) (by omega)
      have z2 : (-nI 1 < nI 0) = True := eq_true (by decide)
      simp (disch := first | assumption | omega) only [r200_77, r200_78, r200_81, r200_82, r200_85, r200_86, r200_87, r200_88, rI_wI, rL_wL, rR_wR, rI_wL, rI_wR, rL_wI, rL_wR, rR_wI, rR_wL, va_rf_some, va_rf_none, Option.toList_some, Option.toList_none, List.nil_append, List.cons_append, true_and, and_true, false_and, and_false, and_self, if_true, if_false, not_true_eq_false, not_false_eq_true, or_false, false_or, or_true, true_or, or_self, ite_true, ite_false, Option.some.injEq, reduceCtorEq, Nat.reduceMod, Nat.reduceDiv, Nat.reduceLeDiff, Nat.reduceEqDiff, Nat.reduceAdd, Nat.reduceMul, Nat.reduceSub, Nat.reduceLT, sw_nil, sw_int, sw_long, sw_ref, li, lo, nI_m1, ng_eq, nn_eq, en_eq, ng_le, ng_lt, Int32.neg_neg, nI_add, pk_mul, nI_clampO, nI_ltO, nI_leO, nI_eqO, nI_subO, nle_t, nle_f, nlt_t, nlt_f, neq_f, hx, z, z2, Nat.add_zero]
    · rw [if_neg h0] at hk
      have hx : fI i = nI (i - 1) := by unfold fI; rw [if_neg h0]
      simp (disch := first | assumption | omega) only [r200_77, r200_78, r200_81, r200_82, r200_85, r200_86, r200_87, r200_88, rI_wI, rL_wL, rR_wR, rI_wL, rI_wR, rL_wI, rL_wR, rR_wI, rR_wL, va_rf_some, va_rf_none, Option.toList_some, Option.toList_none, List.nil_append, List.cons_append, true_and, and_true, false_and, and_false, and_self, if_true, if_false, not_true_eq_false, not_false_eq_true, or_false, false_or, or_true, true_or, or_self, ite_true, ite_false, Option.some.injEq, reduceCtorEq, Nat.reduceMod, Nat.reduceDiv, Nat.reduceLeDiff, Nat.reduceEqDiff, Nat.reduceAdd, Nat.reduceMul, Nat.reduceSub, Nat.reduceLT, sw_nil, sw_int, sw_long, sw_ref, li, lo, nI_m1, ng_eq, nn_eq, en_eq, ng_le, ng_lt, Int32.neg_neg, nI_add, pk_mul, nI_clampO, nI_ltO, nI_leO, nI_eqO, nI_subO, nle_t, nle_f, nlt_t, nlt_f, neq_f, hx, Nat.add_zero]
  | succ r ih =>
    intro k μ a b v5 hk hM hL h28 ha hb
    have hF := hM.1
    have hk2 : k < n := by split at hk <;> omega
    have hk3 : i ≠ 0 → k < i := fun q => by rw [if_neg q] at hk; omega
    have e1 := hL.2 k (by omega)
    have e2 := hL.2 (k + 1) (by omega)
    have q0 := ln_at hK (show k < (ln pa s).length by omega)
    have q1 := ln_at hK (show k + 1 < (ln pa s).length by omega)
    have hp := hK.1.1.1
    obtain ⟨ν, g1, g2, g3, g4, g5⟩ := mCh (d := d) (pc := s 9) hM hK.1 (a := (ln pa s).getD k 0) (b := (ln pa s).getD (k + 1) 0) (by omega) (by omega) hK.2.1.2.2.2.2.1 h28
    have hc := chN_le pa lw (s 8) ((ln pa s).getD k 0) ((ln pa s).getD (k + 1) 0) (s 9)
    have g5 : ∀ Q, R (d + 3) 193 0 [some (.ref 110000011), some (.int (nI ((ln pa s).getD k 0))), some (.int (nI ((ln pa s).getD (k + 1) 0))), some (.int (nI (s 9))), none] [] μ Q = Q (some (.int (nI (fcN pa lw s k)))) ν := g5
    have hc : fcN pa lw s k ≤ 10 := hc
    have ea : rL ν 110000011 29 = lN a := (g4 _ _).trans ha
    have eb : rL ν 110000011 30 = lN b := (g4 _ _).trans hb
    have hS := MSc_tr g1 (mw2_MSc ν (a * fxN (fcN pa lw s) i k) (b * 10))
    obtain ⟨ν2, j1, j2, j3, v5', j4⟩ := ih (k + 1) (mw2 ν (a * fxN (fcN pa lw s) i k) (b * 10)) (a * fxN (fcN pa lw s) i k) (b * 10) (some (.int (nI (fcN pa lw s k)))) (by omega) (MSc_MH hS hM) (mw2_ln (fr_ln g2 g3 hL)) ((g2 28).trans h28) (mw2_0 _ _ _) (mw2_1 _ _ _)
    refine ⟨ν2, MSc_tr hS j1, by rw [j2, frp, Nat.mul_assoc], by rw [j3, Nat.pow_succ, Nat.mul_comm (10 ^ r), Nat.mul_assoc], v5', fun Q => ?_⟩
    have j4 := j4 Q
    have h9 := MH_9 hM
    have hF1 := MSc_FX g1 hF
    rw [show k + 1 + r = k + (r + 1) by omega] at j4
    rw [r200_75]
    by_cases h0 : i = 0
    · subst h0
      have hx : fI 0 = -nI 1 := rfl
      have z : (nI 0 ≤ -nI 1) = False := ng_le (by omega) (by omega) (by omega)
      have z2 : (-nI 1 < nI 0) = True := eq_true (by decide)
      have z3 : fxN (fcN pa lw s) 0 k = fcN pa lw s k := by unfold fxN; rw [if_neg (by omega)]
      unfold mw2 at j4
      rw [z3] at j4
      simp (disch := first | assumption | omega) only [r200_0, r200_1, r200_2, r200_5, r200_6, r200_9, r200_10, r200_13, r200_14, r200_17, r200_18, r200_21, r200_22, r200_25, r200_26, r200_27, r200_28, r200_29, r200_30, r200_33, r200_34, r200_35, r200_38, r200_39, r200_40, r200_41, r200_44, r200_47, r200_50, r200_51, r200_52, r200_53, r200_56, r200_58, r200_59, r200_62, r200_63, r200_64, r200_67, r200_68, r200_69, r200_72, r200_73, r200_77, r200_78, r200_81, r200_82, r200_85, r200_86, r200_87, r200_88, r200_91, r200_92, r200_93, r200_96, r200_98, r200_99, r200_100, r200_103, r200_105, r200_106, r200_107, r200_108, r200_109, r200_112, r200_114, r200_115, r200_118, r200_120, r200_121, r200_122, r200_125, r200_127, r200_128, r200_131, r200_133, r200_135, r200_136, r200_139, r200_141, r200_142, r200_143, r200_146, r200_147, r200_148, r200_151, r200_154, r200_155, r200_158, r200_161, r200_165, r200_168, r200_169, r200_172, r200_173, r200_176, r200_179, r200_180, r200_183, rI_wI, rL_wL, rR_wR, rI_wL, rI_wR, rL_wI, rL_wR, rR_wI, rR_wL, va_rf_some, va_rf_none, Option.toList_some, Option.toList_none, List.nil_append, List.cons_append, true_and, and_true, false_and, and_false, and_self, if_true, if_false, not_true_eq_false, not_false_eq_true, or_false, false_or, or_true, true_or, or_self, ite_true, ite_false, Option.some.injEq, reduceCtorEq, Nat.reduceMod, Nat.reduceDiv, Nat.reduceLeDiff, Nat.reduceEqDiff, Nat.reduceAdd, Nat.reduceMul, Nat.reduceSub, Nat.reduceLT, sw_nil, sw_int, sw_long, sw_ref, li, lo, nI_m1, ng_eq, nn_eq, en_eq, ng_le, ng_lt, Int32.neg_neg, nI_add, pk_mul, nI_clampO, nI_ltO, nI_leO, nI_eqO, nI_subO, nle_t, nle_f, nlt_t, nlt_f, neq_f, fx_2000010_0, fx_2000010_1, fx_2000010_4, fx_2000010_5, fx_2000010_6, fx_2000010_8, fx_2000010_10, fx_2000010_11, fx_2000010_12, fx_2000010_13, fx_2000010_14, fx_2000010_15, fx_2000010_16, fx_2000010_17, fx_2000010_18, fx_3000009_0, fx_5000007_0, fx_5000007_1, fx_5000007_2, fx_5000007_3, fx_7000001_0, fx_11000005_1, fx_11000005_2, fx_11000005_3, fx_11000005_4, fx_11000005_5, fx_11000005_6, fx_11000005_10, fx_11000005_11, fx_11000005_12, fx_20000002_0, fx_20000002_2, fx_20000002_3, fx_20000002_4, fx_25000005_1, fx_25000005_2, fx_25000005_3, fx_25000005_4, fx_25000005_5, fx_25000005_6, fx_25000005_10, fx_25000005_11, fx_25000005_12, fx_34000002_0, fx_34000002_2, fx_34000002_3, fx_34000002_4, fx_39000008_0, fx_41000006_0, fx_42002024_0, fx_42002024_1, fx_42002024_2, fx_42002024_3, fx_42002024_4, fx_42002024_5, fx_42002024_6, fx_42002024_7, fx_42002024_8, fx_42002024_9, fx_42002024_10, fx_42002024_11, fx_42002024_12, fx_42002024_13, fx_42002024_14, fx_42002024_15, fx_42002024_16, fx_42002024_17, fx_42002024_18, fx_42002024_19, fx_43000008_0, fx_45000008_0, fx_47000008_0, fx_49000008_0, fx_51000008_0, fx_53000008_0, fx_55000008_0, fx_57000008_0, fx_59000008_0, fx_61000008_0, fx_63000008_0, fx_65000008_0, fx_67000008_0, fx_69000008_0, fx_71000008_0, fx_73000008_0, fx_75000008_0, fx_77000008_0, fx_79000008_0, fx_81000008_0, fx_83000424_0, fx_83000424_1, fx_83000424_2, fx_83000424_3, fx_85000004_0, fx_85000004_1, fx_85000004_2, fx_85000004_3, fx_85000004_4, fx_85000004_5, fx_85000004_6, fx_85000004_10, fx_102000008_0, fx_104000008_0, fx_106000008_0, fx_108000008_0, fx_110000011_1, fx_110000011_4, fx_110000011_5, fx_110000011_6, fx_110000011_9, fx_110000011_10, fx_110000011_11, fx_110000011_12, fx_110000011_14, fx_110000011_15, fx_110000011_20, fx_110000011_21, fx_110000011_22, fx_110000011_23, fx_110000011_25, fx_110000011_26, fx_110000011_31, fx_110000011_32, fx_110000011_37, fx_110000011_38, fx_110000011_39, fx_110000011_40, hx, z, z2, e1, e2, h9, g5, ea, eb, ll, nI_l, lN_mul] at j4 ⊢
      exact j4
    · have hx : fI i = nI (i - 1) := by unfold fI; rw [if_neg h0]
      have hk4 := hk3 h0
      by_cases hki : k + 1 = i
      · have z3 : fxN (fcN pa lw s) i k = 10 - fcN pa lw s k := by unfold fxN; rw [if_pos hki]
        have hki2 : i - 1 = k := by omega
        unfold mw2 at j4
        rw [z3] at j4
        simp (disch := first | assumption | omega) only [r200_0, r200_1, r200_2, r200_5, r200_6, r200_9, r200_10, r200_13, r200_14, r200_17, r200_18, r200_21, r200_22, r200_25, r200_26, r200_27, r200_28, r200_29, r200_30, r200_33, r200_34, r200_35, r200_38, r200_39, r200_40, r200_41, r200_44, r200_47, r200_50, r200_51, r200_52, r200_53, r200_56, r200_58, r200_59, r200_62, r200_63, r200_64, r200_67, r200_68, r200_69, r200_72, r200_73, r200_77, r200_78, r200_81, r200_82, r200_85, r200_86, r200_87, r200_88, r200_91, r200_92, r200_93, r200_96, r200_98, r200_99, r200_100, r200_103, r200_105, r200_106, r200_107, r200_108, r200_109, r200_112, r200_114, r200_115, r200_118, r200_120, r200_121, r200_122, r200_125, r200_127, r200_128, r200_131, r200_133, r200_135, r200_136, r200_139, r200_141, r200_142, r200_143, r200_146, r200_147, r200_148, r200_151, r200_154, r200_155, r200_158, r200_161, r200_165, r200_168, r200_169, r200_172, r200_173, r200_176, r200_179, r200_180, r200_183, rI_wI, rL_wL, rR_wR, rI_wL, rI_wR, rL_wI, rL_wR, rR_wI, rR_wL, va_rf_some, va_rf_none, Option.toList_some, Option.toList_none, List.nil_append, List.cons_append, true_and, and_true, false_and, and_false, and_self, if_true, if_false, not_true_eq_false, not_false_eq_true, or_false, false_or, or_true, true_or, or_self, ite_true, ite_false, Option.some.injEq, reduceCtorEq, Nat.reduceMod, Nat.reduceDiv, Nat.reduceLeDiff, Nat.reduceEqDiff, Nat.reduceAdd, Nat.reduceMul, Nat.reduceSub, Nat.reduceLT, sw_nil, sw_int, sw_long, sw_ref, li, lo, nI_m1, ng_eq, nn_eq, en_eq, ng_le, ng_lt, Int32.neg_neg, nI_add, pk_mul, nI_clampO, nI_ltO, nI_leO, nI_eqO, nI_subO, nle_t, nle_f, nlt_t, nlt_f, neq_f, fx_2000010_0, fx_2000010_1, fx_2000010_4, fx_2000010_5, fx_2000010_6, fx_2000010_8, fx_2000010_10, fx_2000010_11, fx_2000010_12, fx_2000010_13, fx_2000010_14, fx_2000010_15, fx_2000010_16, fx_2000010_17, fx_2000010_18, fx_3000009_0, fx_5000007_0, fx_5000007_1, fx_5000007_2, fx_5000007_3, fx_7000001_0, fx_11000005_1, fx_11000005_2, fx_11000005_3, fx_11000005_4, fx_11000005_5, fx_11000005_6, fx_11000005_10, fx_11000005_11, fx_11000005_12, fx_20000002_0, fx_20000002_2, fx_20000002_3, fx_20000002_4, fx_25000005_1, fx_25000005_2, fx_25000005_3, fx_25000005_4, fx_25000005_5, fx_25000005_6, fx_25000005_10, fx_25000005_11, fx_25000005_12, fx_34000002_0, fx_34000002_2, fx_34000002_3, fx_34000002_4, fx_39000008_0, fx_41000006_0, fx_42002024_0, fx_42002024_1, fx_42002024_2, fx_42002024_3, fx_42002024_4, fx_42002024_5, fx_42002024_6, fx_42002024_7, fx_42002024_8, fx_42002024_9, fx_42002024_10, fx_42002024_11, fx_42002024_12, fx_42002024_13, fx_42002024_14, fx_42002024_15, fx_42002024_16, fx_42002024_17, fx_42002024_18, fx_42002024_19, fx_43000008_0, fx_45000008_0, fx_47000008_0, fx_49000008_0, fx_51000008_0, fx_53000008_0, fx_55000008_0, fx_57000008_0, fx_59000008_0, fx_61000008_0, fx_63000008_0, fx_65000008_0, fx_67000008_0, fx_69000008_0, fx_71000008_0, fx_73000008_0, fx_75000008_0, fx_77000008_0, fx_79000008_0, fx_81000008_0, fx_83000424_0, fx_83000424_1, fx_83000424_2, fx_83000424_3, fx_85000004_0, fx_85000004_1, fx_85000004_2, fx_85000004_3, fx_85000004_4, fx_85000004_5, fx_85000004_6, fx_85000004_10, fx_102000008_0, fx_104000008_0, fx_106000008_0, fx_108000008_0, fx_110000011_1, fx_110000011_4, fx_110000011_5, fx_110000011_6, fx_110000011_9, fx_110000011_10, fx_110000011_11, fx_110000011_12, fx_110000011_14, fx_110000011_15, fx_110000011_20, fx_110000011_21, fx_110000011_22, fx_110000011_23, fx_110000011_25, fx_110000011_26, fx_110000011_31, fx_110000011_32, fx_110000011_37, fx_110000011_38, fx_110000011_39, fx_110000011_40, hx, hki2, e1, e2, h9, g5, ea, eb, ll, nI_l, lN_mul] at j4 ⊢
        exact j4
      · have z3 : fxN (fcN pa lw s) i k = fcN pa lw s k := by unfold fxN; rw [if_neg hki]
        have hki2 : k ≠ i - 1 := by omega
        unfold mw2 at j4
        rw [z3] at j4
        simp (disch := first | assumption | omega) only [r200_0, r200_1, r200_2, r200_5, r200_6, r200_9, r200_10, r200_13, r200_14, r200_17, r200_18, r200_21, r200_22, r200_25, r200_26, r200_27, r200_28, r200_29, r200_30, r200_33, r200_34, r200_35, r200_38, r200_39, r200_40, r200_41, r200_44, r200_47, r200_50, r200_51, r200_52, r200_53, r200_56, r200_58, r200_59, r200_62, r200_63, r200_64, r200_67, r200_68, r200_69, r200_72, r200_73, r200_77, r200_78, r200_81, r200_82, r200_85, r200_86, r200_87, r200_88, r200_91, r200_92, r200_93, r200_96, r200_98, r200_99, r200_100, r200_103, r200_105, r200_106, r200_107, r200_108, r200_109, r200_112, r200_114, r200_115, r200_118, r200_120, r200_121, r200_122, r200_125, r200_127, r200_128, r200_131, r200_133, r200_135, r200_136, r200_139, r200_141, r200_142, r200_143, r200_146, r200_147, r200_148, r200_151, r200_154, r200_155, r200_158, r200_161, r200_165, r200_168, r200_169, r200_172, r200_173, r200_176, r200_179, r200_180, r200_183, rI_wI, rL_wL, rR_wR, rI_wL, rI_wR, rL_wI, rL_wR, rR_wI, rR_wL, va_rf_some, va_rf_none, Option.toList_some, Option.toList_none, List.nil_append, List.cons_append, true_and, and_true, false_and, and_false, and_self, if_true, if_false, not_true_eq_false, not_false_eq_true, or_false, false_or, or_true, true_or, or_self, ite_true, ite_false, Option.some.injEq, reduceCtorEq, Nat.reduceMod, Nat.reduceDiv, Nat.reduceLeDiff, Nat.reduceEqDiff, Nat.reduceAdd, Nat.reduceMul, Nat.reduceSub, Nat.reduceLT, sw_nil, sw_int, sw_long, sw_ref, li, lo, nI_m1, ng_eq, nn_eq, en_eq, ng_le, ng_lt, Int32.neg_neg, nI_add, pk_mul, nI_clampO, nI_ltO, nI_leO, nI_eqO, nI_subO, nle_t, nle_f, nlt_t, nlt_f, neq_f, fx_2000010_0, fx_2000010_1, fx_2000010_4, fx_2000010_5, fx_2000010_6, fx_2000010_8, fx_2000010_10, fx_2000010_11, fx_2000010_12, fx_2000010_13, fx_2000010_14, fx_2000010_15, fx_2000010_16, fx_2000010_17, fx_2000010_18, fx_3000009_0, fx_5000007_0, fx_5000007_1, fx_5000007_2, fx_5000007_3, fx_7000001_0, fx_11000005_1, fx_11000005_2, fx_11000005_3, fx_11000005_4, fx_11000005_5, fx_11000005_6, fx_11000005_10, fx_11000005_11, fx_11000005_12, fx_20000002_0, fx_20000002_2, fx_20000002_3, fx_20000002_4, fx_25000005_1, fx_25000005_2, fx_25000005_3, fx_25000005_4, fx_25000005_5, fx_25000005_6, fx_25000005_10, fx_25000005_11, fx_25000005_12, fx_34000002_0, fx_34000002_2, fx_34000002_3, fx_34000002_4, fx_39000008_0, fx_41000006_0, fx_42002024_0, fx_42002024_1, fx_42002024_2, fx_42002024_3, fx_42002024_4, fx_42002024_5, fx_42002024_6, fx_42002024_7, fx_42002024_8, fx_42002024_9, fx_42002024_10, fx_42002024_11, fx_42002024_12, fx_42002024_13, fx_42002024_14, fx_42002024_15, fx_42002024_16, fx_42002024_17, fx_42002024_18, fx_42002024_19, fx_43000008_0, fx_45000008_0, fx_47000008_0, fx_49000008_0, fx_51000008_0, fx_53000008_0, fx_55000008_0, fx_57000008_0, fx_59000008_0, fx_61000008_0, fx_63000008_0, fx_65000008_0, fx_67000008_0, fx_69000008_0, fx_71000008_0, fx_73000008_0, fx_75000008_0, fx_77000008_0, fx_79000008_0, fx_81000008_0, fx_83000424_0, fx_83000424_1, fx_83000424_2, fx_83000424_3, fx_85000004_0, fx_85000004_1, fx_85000004_2, fx_85000004_3, fx_85000004_4, fx_85000004_5, fx_85000004_6, fx_85000004_10, fx_102000008_0, fx_104000008_0, fx_106000008_0, fx_108000008_0, fx_110000011_1, fx_110000011_4, fx_110000011_5, fx_110000011_6, fx_110000011_9, fx_110000011_10, fx_110000011_11, fx_110000011_12, fx_110000011_14, fx_110000011_15, fx_110000011_20, fx_110000011_21, fx_110000011_22, fx_110000011_23, fx_110000011_25, fx_110000011_26, fx_110000011_31, fx_110000011_32, fx_110000011_37, fx_110000011_38, fx_110000011_39, fx_110000011_40, hx, e1, e2, h9, g5, ea, eb, ll, nI_l, lN_mul] at j4 ⊢
        exact j4
theorem c200_e {a b : Nat} {x : Int32} {w : Nat} {v3 v4 v5 : Option Value} (hw : w < 2) (ha : rL μ 110000011 29 = lN a) (hb : rL μ 110000011 30 = lN b) (ha2 : a < 9223372036854775808) (hb0 : 0 < b) (hb2 : b < 9223372036854775808) : ∃ ρ, MSc μ ρ ∧ ∀ Q, R (d + 1) 200 164 [some (.ref 110000011), some (.int x), some (.int (nI w)), v3, v4, v5] [] μ Q = Q (some (.long (rdI (a, b) (nI w)))) ρ := by
  have k1 := fun Q => c197 (d := d) (Q := Q) ha hb ha2 hb0 hb2
  have r1 : rL (finM μ a b (Nat.gcd a b)) 110000011 29 = lN (a / Nat.gcd a b) := by unfold finM; rw [rL_wL, if_neg (by decide), rL_wL, if_pos ⟨rfl, rfl⟩]
  have r2 : rL (finM μ a b (Nat.gcd a b)) 110000011 30 = lN (b / Nat.gcd a b) := by unfold finM; rw [rL_wL, if_pos ⟨rfl, rfl⟩]
  refine ⟨finM μ a b (Nat.gcd a b), mw2_MSc μ _ _, fun Q => ?_⟩
  unfold rdI ptI
  obtain rfl | rfl : w = 0 ∨ w = 1 := by omega
  · simp (disch := first | assumption | omega) only [r200_164, r200_165, r200_168, r200_169, r200_172, r200_173, r200_176, r200_179, r200_180, r200_183, rI_wI, rL_wL, rR_wR, rI_wL, rI_wR, rL_wI, rL_wR, rR_wI, rR_wL, va_rf_some, va_rf_none, Option.toList_some, Option.toList_none, List.nil_append, List.cons_append, true_and, and_true, false_and, and_false, and_self, if_true, if_false, not_true_eq_false, not_false_eq_true, or_false, false_or, or_true, true_or, or_self, ite_true, ite_false, Option.some.injEq, reduceCtorEq, Nat.reduceMod, Nat.reduceDiv, Nat.reduceLeDiff, Nat.reduceEqDiff, Nat.reduceAdd, Nat.reduceMul, Nat.reduceSub, Nat.reduceLT, sw_nil, sw_int, sw_long, sw_ref, li, lo, nI_m1, ng_eq, nn_eq, en_eq, ng_le, ng_lt, Int32.neg_neg, nI_add, pk_mul, nI_clampO, nI_ltO, nI_leO, nI_eqO, nI_subO, nle_t, nle_f, nlt_t, nlt_f, neq_f, k1, r1, r2]
  · simp (disch := first | assumption | omega) only [r200_164, r200_165, r200_168, r200_169, r200_172, r200_173, r200_176, r200_179, r200_180, r200_183, rI_wI, rL_wL, rR_wR, rI_wL, rI_wR, rL_wI, rL_wR, rR_wI, rR_wL, va_rf_some, va_rf_none, Option.toList_some, Option.toList_none, List.nil_append, List.cons_append, true_and, and_true, false_and, and_false, and_self, if_true, if_false, not_true_eq_false, not_false_eq_true, or_false, false_or, or_true, true_or, or_self, ite_true, ite_false, Option.some.injEq, reduceCtorEq, Nat.reduceMod, Nat.reduceDiv, Nat.reduceLeDiff, Nat.reduceEqDiff, Nat.reduceAdd, Nat.reduceMul, Nat.reduceSub, Nat.reduceLT, sw_nil, sw_int, sw_long, sw_ref, li, lo, nI_m1, ng_eq, nn_eq, en_eq, ng_le, ng_lt, Int32.neg_neg, nI_add, pk_mul, nI_clampO, nI_ltO, nI_leO, nI_eqO, nI_subO, nle_t, nle_f, nlt_t, nlt_f, neq_f, k1, r1, r2]
end T1
