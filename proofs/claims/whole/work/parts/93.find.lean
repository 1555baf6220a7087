/-! ORDERS: FIND -/
section T1
variable {d : Nat} {μ : PM} {pa : Nat → Nat} {lw : LW} {s : Nat → Nat} {un : List (Nat → Nat)} {mk : Nat → Option (Nat → Nat)} {tp : List Nat}
theorem c39_l (hK : OKA pa s un mk tp) {P all : Nat} (hal : all < 128) (hA : ∀ p, p < 7 → (bt all p = 1 ↔ p < pa 0 ∧ bt (s 7) p = 0)) {v2 v3 v4 : Option Value} : ∀ (r S : Nat) (L : Nat → Nat → List (List Nat)) (μ : PM), S + r = all → 1 ≤ S → FX μ → CPt μ pa lw → rR μ 2000010 2 = some P → J pa (s 7) (49 * S) L → MI (mR pa lw (s 8) (s 9)) μ L → CCh μ pa lw (s 7) (s 8) (s 9) →
    ∃ ν L', LQ μ ν ∧ J pa (s 7) (49 * all) L' ∧ MI (mR pa lw (s 8) (s 9)) ν L' ∧ ∀ Q, R (d + 5) 39 81 [some (.ref 85000004), some (.ref P), v2, v3, v4, some (.int (nI all)), some (.int (nI S))] [] μ Q = R (d + 5) 39 113 [some (.ref 85000004), some (.ref P), v2, v3, v4, some (.int (nI all)), some (.int (nI all))] [] ν Q := by
  have hp := hK.1.1.1
  intro r
  induction r with
  | zero =>
    intro S L μ hS hS1 hF hC hr hJ hM hCC
    have : S = all := by omega
    subst this
    refine ⟨μ, L, LQ_rf μ, hJ, hM, fun Q => ?_⟩
    rw [r39_81]
    simp (disch := first | assumption | omega) only [r39_83, r39_85, rI_wI, rL_wL, rR_wR, rI_wL, rI_wR, rL_wI, rL_wR, rR_wI, rR_wL, va_rf_some, va_rf_none, Option.toList_some, Option.toList_none, List.nil_append, List.cons_append, true_and, and_true, false_and, and_false, and_self, if_true, if_false, not_true_eq_false, not_false_eq_true, or_false, false_or, or_true, true_or, or_self, ite_true, ite_false, Option.some.injEq, reduceCtorEq, Nat.reduceMod, Nat.reduceDiv, Nat.reduceLeDiff, Nat.reduceEqDiff, Nat.reduceAdd, Nat.reduceMul, Nat.reduceSub, Nat.reduceLT, sw_nil, sw_int, sw_long, sw_ref, li, lo, nI_m1, ng_eq, nn_eq, en_eq, ng_le, ng_lt, Int32.neg_neg, nI_add, pk_mul, nI_clampO, nI_ltO, nI_leO, nI_eqO, nI_subO, nle_t, nle_f, nlt_t, nlt_f, neq_f, Nat.le_refl]
  | succ r ih =>
    intro S L μ hS hS1 hF hC hr hJ hM hCC
    obtain ⟨h5, -⟩ := CPt_x hC
    rcases Classical.em (nI S &&& (nI all ^^^ -nI 1) = nI 0) with e | e
    · have e' := eq_true e
      obtain ⟨ν1, L1, n1, n2, n3, n4⟩ := c43 (d := d + 1) (lw := lw) (ob := s 7) (fz := s 8) (pc := s 9) hK.1 (P := P) hS1 (show S < 128 by omega) hal hA 7 0 L μ none none none none (by omega) hF hC hr hJ hM hCC
      obtain ⟨ν, L', k1, k2, k3, k4⟩ := ih (S + 1) L1 ν1 (by omega) (by omega) (CSc_FX n1.1 hF) (CSc_CPt n1.1 hC) ((n1.1.2.2.1 _ _).trans hr) n2 n3 (LQ_CC n1 hCC)
      have n4' : ∀ Q, R (d + 4) 43 0 [some (.ref 85000004), some (.ref P), some (.int (nI S)), some (.int (nI all)), none, none, none, none, none] [] μ Q = Q none ν1 := by
        intro Q
        simp (disch := first | assumption | omega) only [r43_0, r43_1, rI_wI, rL_wL, rR_wR, rI_wL, rI_wR, rL_wI, rL_wR, rR_wI, rR_wL, va_rf_some, va_rf_none, Option.toList_some, Option.toList_none, List.nil_append, List.cons_append, true_and, and_true, false_and, and_false, and_self, if_true, if_false, not_true_eq_false, not_false_eq_true, or_false, false_or, or_true, true_or, or_self, ite_true, ite_false, Option.some.injEq, reduceCtorEq, Nat.reduceMod, Nat.reduceDiv, Nat.reduceLeDiff, Nat.reduceEqDiff, Nat.reduceAdd, Nat.reduceMul, Nat.reduceSub, Nat.reduceLT, sw_nil, sw_int, sw_long, sw_ref, li, lo, nI_m1, ng_eq, nn_eq, en_eq, ng_le, ng_lt, Int32.neg_neg, nI_add, pk_mul, nI_clampO, nI_ltO, nI_leO, nI_eqO, nI_subO, nle_t, nle_f, nlt_t, nlt_f, neq_f, n4]
      refine ⟨ν, L', LQ_tr n1 k1, k2, k3, fun Q => ?_⟩
      rw [r39_81]
      simp (disch := first | assumption | omega) only [r39_83, r39_85, r39_88, r39_90, r39_92, r39_93, r39_94, r39_95, r39_98, r39_99, r39_100, r39_102, r39_104, r39_107, r39_110, rI_wI, rL_wL, rR_wR, rI_wL, rI_wR, rL_wI, rL_wR, rR_wI, rR_wL, va_rf_some, va_rf_none, Option.toList_some, Option.toList_none, List.nil_append, List.cons_append, true_and, and_true, false_and, and_false, and_self, if_true, if_false, not_true_eq_false, not_false_eq_true, or_false, false_or, or_true, true_or, or_self, ite_true, ite_false, Option.some.injEq, reduceCtorEq, Nat.reduceMod, Nat.reduceDiv, Nat.reduceLeDiff, Nat.reduceEqDiff, Nat.reduceAdd, Nat.reduceMul, Nat.reduceSub, Nat.reduceLT, sw_nil, sw_int, sw_long, sw_ref, li, lo, nI_m1, ng_eq, nn_eq, en_eq, ng_le, ng_lt, Int32.neg_neg, nI_add, pk_mul, nI_clampO, nI_ltO, nI_leO, nI_eqO, nI_subO, nle_t, nle_f, nlt_t, nlt_f, neq_f, e', n4', k4]
    · have e' := eq_false e
      have hJ2 : J pa (s 7) (49 * (S + 1)) L := by
        refine J_skip hJ (by omega) (fun l hv hn h1 h2 => ?_)
        match l, hv, hn, h1, h2 with
        | [], _, hn, _, _ => exact hn rfl
        | [_], _, hn, _, _ => exact hn rfl
        | p' :: q' :: t, hv, _, h1, h2 =>
          obtain ⟨k1, k2, k3⟩ := tau_el hp hv
          have h1' : 49 * S ≤ 49 * sR (q' :: t) + 7 * q' + p' := h1
          have h2' : 49 * sR (q' :: t) + 7 * q' + p' < 49 * (S + 1) := h2
          have e1 : sR (q' :: t) = S := by omega
          obtain ⟨nd, el⟩ := vR_el k3
          obtain ⟨-, sb⟩ := sR_b nd (fun x hx => by have := (el x hx).1; omega)
          rw [e1] at sb
          exact e ((an_A S (by omega) all hal).mpr (fun b hb q => (hA b hb).mpr (el b ((sb b hb).mp q))))
      obtain ⟨ν, L', k1, k2, k3, k4⟩ := ih (S + 1) L μ (by omega) (by omega) hF hC hr hJ2 hM hCC
      refine ⟨ν, L', k1, k2, k3, fun Q => ?_⟩
      rw [r39_81]
      simp (disch := first | assumption | omega) only [r39_83, r39_85, r39_88, r39_90, r39_92, r39_93, r39_94, r39_95, r39_107, r39_110, rI_wI, rL_wL, rR_wR, rI_wL, rI_wR, rL_wI, rL_wR, rR_wI, rR_wL, va_rf_some, va_rf_none, Option.toList_some, Option.toList_none, List.nil_append, List.cons_append, true_and, and_true, false_and, and_false, and_self, if_true, if_false, not_true_eq_false, not_false_eq_true, or_false, false_or, or_true, true_or, or_self, ite_true, ite_false, Option.some.injEq, reduceCtorEq, Nat.reduceMod, Nat.reduceDiv, Nat.reduceLeDiff, Nat.reduceEqDiff, Nat.reduceAdd, Nat.reduceMul, Nat.reduceSub, Nat.reduceLT, sw_nil, sw_int, sw_long, sw_ref, li, lo, nI_m1, ng_eq, nn_eq, en_eq, ng_le, ng_lt, Int32.neg_neg, nI_add, pk_mul, nI_clampO, nI_ltO, nI_leO, nI_eqO, nI_subO, nle_t, nle_f, nlt_t, nlt_f, neq_f, e', k4]
def pre6 (μ : PM) (k : Nat) : PM := wI (wL (wL (wI (wI (wI μ 85000004 7 (nI 1)) 85000004 8 (nI k)) 85000004 9 (nI k)) 93000000 0 (lN 0)) 93000000 1 (lN 1)) 85000004 11 (nI 0)
theorem pre6_KE (μ : PM) (k : Nat) : KE μ (pre6 μ k) := KE_tr (KE_tr (KE_tr (KE_tr (KE_tr (KE_wI μ 7 _) (KE_wI _ 8 _)) (KE_wI _ 9 _)) (KE_wL _ 0 _)) (KE_wL _ 1 _)) (KE_wI _ 11 _)
theorem pre6_v (μ : PM) (k : Nat) : rI (pre6 μ k) 85000004 7 = nI 1 ∧ rI (pre6 μ k) 85000004 8 = nI k ∧ rI (pre6 μ k) 85000004 9 = nI k ∧ rL (pre6 μ k) 93000000 0 = lN 0 ∧ rL (pre6 μ k) 93000000 1 = lN 1 ∧ rI (pre6 μ k) 85000004 11 = nI 0 := by
  unfold pre6
  refine ⟨?_, ?_, ?_, ?_, ?_, ?_⟩
  · rw [rI_wI, if_neg (by decide)]
    show rI (wI (wI (wI μ 85000004 7 (nI 1)) 85000004 8 (nI k)) 85000004 9 (nI k)) 85000004 7 = _
    rw [rI_wI, if_neg (by decide), rI_wI, if_neg (by decide), rI_wI, if_pos ⟨rfl, rfl⟩]
  · rw [rI_wI, if_neg (by decide)]
    show rI (wI (wI (wI μ 85000004 7 (nI 1)) 85000004 8 (nI k)) 85000004 9 (nI k)) 85000004 8 = _
    rw [rI_wI, if_neg (by decide), rI_wI, if_pos ⟨rfl, rfl⟩]
  · rw [rI_wI, if_neg (by decide)]
    show rI (wI (wI (wI μ 85000004 7 (nI 1)) 85000004 8 (nI k)) 85000004 9 (nI k)) 85000004 9 = _
    rw [rI_wI, if_pos ⟨rfl, rfl⟩]
  · show rL (wL (wL (wI (wI (wI μ 85000004 7 (nI 1)) 85000004 8 (nI k)) 85000004 9 (nI k)) 93000000 0 (lN 0)) 93000000 1 (lN 1)) 93000000 0 = _
    rw [rL_wL, if_neg (by decide), rL_wL, if_pos ⟨rfl, rfl⟩]
  · show rL (wL (wL (wI (wI (wI μ 85000004 7 (nI 1)) 85000004 8 (nI k)) 85000004 9 (nI k)) 93000000 0 (lN 0)) 93000000 1 (lN 1)) 93000000 1 = _
    rw [rL_wL, if_pos ⟨rfl, rfl⟩]
  · rw [rI_wI, if_pos ⟨rfl, rfl⟩]
theorem c39 (hC : CH μ pa lw s un mk tp) (hK : OKA pa s un mk tp) {P : Nat} (hr : rR μ 2000010 2 = some P) : ∃ ν, HE μ ν ∧ CH ν pa lw s un mk tp ∧ OCk ν pa lw s ∧ ∀ Q, R (d + 5) 39 0 [some (.ref 85000004), some (.ref P), some (.ref 39000008), some (.ref 84000720), some (.int (nI (ln pa s).length)), none, none] [] μ Q = Q none ν := by
  have hp := hK.1.1.1
  have hl := ln7 (s := s) hK.1
  have hCo := CH_CHo hC
  rcases hC.2.2.2.2.2.2.2 with hk | hk
  case inr =>
    have k7 := hk.1
    refine ⟨μ, ⟨fun _ _ _ => ⟨rfl, rfl, rfl⟩, rfl⟩, hC, hk, fun Q => ?_⟩
    simp (disch := first | assumption | omega) only [r39_0, r39_1, r39_4, r39_7, r39_8, r39_9, r39_10, r39_13, r39_14, j39_16, r39_19, r39_20, r39_23, r39_24, r39_27, r39_28, j39_30, r39_33, r39_34, r39_37, r39_38, r39_41, r39_42, r39_45, r39_46, r39_47, r39_50, r39_51, r39_52, r39_55, r39_57, r39_60, r39_61, r39_62, r39_63, r39_64, r39_66, r39_69, r39_70, r39_71, r39_73, r39_76, r39_78, r39_79, r39_83, r39_85, r39_88, r39_90, r39_92, r39_93, r39_94, r39_95, r39_98, r39_99, r39_100, r39_102, r39_104, r39_107, r39_110, r39_113, r39_114, r39_116, r39_119, rI_wI, rL_wL, rR_wR, rI_wL, rI_wR, rL_wI, rL_wR, rR_wI, rR_wL, va_rf_some, va_rf_none, Option.toList_some, Option.toList_none, List.nil_append, List.cons_append, true_and, and_true, false_and, and_false, and_self, if_true, if_false, not_true_eq_false, not_false_eq_true, or_false, false_or, or_true, true_or, or_self, ite_true, ite_false, Option.some.injEq, reduceCtorEq, Nat.reduceMod, Nat.reduceDiv, Nat.reduceLeDiff, Nat.reduceEqDiff, Nat.reduceAdd, Nat.reduceMul, Nat.reduceSub, Nat.reduceLT, sw_nil, sw_int, sw_long, sw_ref, li, lo, nI_m1, ng_eq, nn_eq, en_eq, ng_le, ng_lt, Int32.neg_neg, nI_add, pk_mul, nI_clampO, nI_ltO, nI_leO, nI_eqO, nI_subO, nle_t, nle_f, nlt_t, nlt_f, neq_f, k7]
  case inl =>
    have kc1 := fun μ' => fun Q => c1 (d := d + 4) (μ := μ') (Q := Q) (F := 93000000) (a := lN 0) (b := lN 1) (v2 := none) (v4 := none) (by decide)
    have hF := hC.1
    by_cases h0 : (ln pa s).length = 0
    · have hpre := pre6_KE μ 1
      obtain ⟨g1, g2, g3, g4, g5, g6⟩ := pre6_v μ 1
      have eo : orA pa s = [[]] := by
        unfold orA
        rw [h0, orL, if_pos (by rw [pr_iff]; intro k e h1 h2; simp at h2)]
        rfl
      have el : lsA pa lw s = some ([], 0, 1) := by
        unfold lsA
        rw [eo]
        rfl
      have hO : OCk (pre6 μ 1) pa lw s := by
        refine ⟨g1, by rw [eo]; exact g2, fun q => by rw [el] at q; simp at q, fun l a b q => ?_⟩
        rw [el] at q
        have q' : ([], 0, 1) = (l, a, b) := Option.some.inj q
        cases q'
        exact ⟨g3, g4, g5, g6⟩
      refine ⟨pre6 μ 1, KE_HE hpre, CHo_CH (KE_CHo hpre hCo) (Or.inr hO), hO, fun Q => ?_⟩
      rw [h0]
      simp (disch := first | assumption | omega) only [r39_0, r39_1, r39_4, r39_7, r39_8, r39_9, r39_10, r39_13, r39_14, j39_16, r39_19, r39_20, r39_23, r39_24, r39_27, r39_28, j39_30, r39_33, r39_34, r39_37, r39_38, r39_41, r39_42, r39_45, r39_46, r39_47, r39_50, r39_51, r39_52, r39_55, r39_57, r39_60, r39_61, r39_62, r39_63, r39_64, r39_66, r39_69, r39_70, r39_71, r39_73, r39_76, r39_78, r39_79, r39_83, r39_85, r39_88, r39_90, r39_92, r39_93, r39_94, r39_95, r39_98, r39_99, r39_100, r39_102, r39_104, r39_107, r39_110, r39_113, r39_114, r39_116, r39_119, rI_wI, rL_wL, rR_wR, rI_wL, rI_wR, rL_wI, rL_wR, rR_wI, rR_wL, va_rf_some, va_rf_none, Option.toList_some, Option.toList_none, List.nil_append, List.cons_append, true_and, and_true, false_and, and_false, and_self, if_true, if_false, not_true_eq_false, not_false_eq_true, or_false, false_or, or_true, true_or, or_self, ite_true, ite_false, Option.some.injEq, reduceCtorEq, Nat.reduceMod, Nat.reduceDiv, Nat.reduceLeDiff, Nat.reduceEqDiff, Nat.reduceAdd, Nat.reduceMul, Nat.reduceSub, Nat.reduceLT, sw_nil, sw_int, sw_long, sw_ref, li, lo, nI_m1, ng_eq, nn_eq, en_eq, ng_le, ng_lt, Int32.neg_neg, nI_add, pk_mul, nI_clampO, nI_ltO, nI_leO, nI_eqO, nI_subO, nle_t, nle_f, nlt_t, nlt_f, neq_f, fx_2000010_0, fx_2000010_1, fx_2000010_4, fx_2000010_5, fx_2000010_6, fx_2000010_8, fx_2000010_10, fx_2000010_11, fx_2000010_12, fx_2000010_13, fx_2000010_14, fx_2000010_15, fx_2000010_16, fx_2000010_17, fx_2000010_18, fx_3000009_0, fx_5000007_0, fx_5000007_1, fx_5000007_2, fx_5000007_3, fx_7000001_0, fx_11000005_1, fx_11000005_2, fx_11000005_3, fx_11000005_4, fx_11000005_5, fx_11000005_6, fx_11000005_10, fx_11000005_11, fx_11000005_12, fx_20000002_0, fx_20000002_2, fx_20000002_3, fx_20000002_4, fx_25000005_1, fx_25000005_2, fx_25000005_3, fx_25000005_4, fx_25000005_5, fx_25000005_6, fx_25000005_10, fx_25000005_11, fx_25000005_12, fx_34000002_0, fx_34000002_2, fx_34000002_3, fx_34000002_4, fx_39000008_0, fx_41000006_0, fx_42002024_0, fx_42002024_1, fx_42002024_2, fx_42002024_3, fx_42002024_4, fx_42002024_5, fx_42002024_6, fx_42002024_7, fx_42002024_8, fx_42002024_9, fx_42002024_10, fx_42002024_11, fx_42002024_12, fx_42002024_13, fx_42002024_14, fx_42002024_15, fx_42002024_16, fx_42002024_17, fx_42002024_18, fx_42002024_19, fx_43000008_0, fx_45000008_0, fx_47000008_0, fx_49000008_0, fx_51000008_0, fx_53000008_0, fx_55000008_0, fx_57000008_0, fx_59000008_0, fx_61000008_0, fx_63000008_0, fx_65000008_0, fx_67000008_0, fx_69000008_0, fx_71000008_0, fx_73000008_0, fx_75000008_0, fx_77000008_0, fx_79000008_0, fx_81000008_0, fx_83000424_0, fx_83000424_1, fx_83000424_2, fx_83000424_3, fx_85000004_0, fx_85000004_1, fx_85000004_2, fx_85000004_3, fx_85000004_4, fx_85000004_5, fx_85000004_6, fx_85000004_10, fx_102000008_0, fx_104000008_0, fx_106000008_0, fx_108000008_0, fx_110000011_1, fx_110000011_4, fx_110000011_5, fx_110000011_6, fx_110000011_9, fx_110000011_10, fx_110000011_11, fx_110000011_12, fx_110000011_14, fx_110000011_15, fx_110000011_20, fx_110000011_21, fx_110000011_22, fx_110000011_23, fx_110000011_25, fx_110000011_26, fx_110000011_31, fx_110000011_32, fx_110000011_37, fx_110000011_38, fx_110000011_39, fx_110000011_40, hk, ll, kc1, vnb1, vnb0, Nat.le_refl]
      rfl
    · have hpre := pre6_KE μ 0
      obtain ⟨g1, g2, g3, g4, g5, g6⟩ := pre6_v μ 0
      have hCo1 := KE_CHo hpre hCo
      have hr1 : rR (pre6 μ 0) 2000010 2 = some P := (hpre.2.2.1 _ _).trans hr
      obtain ⟨ν1, n1, n2, n3⟩ := c41 (d := d) (lw := lw) hK (P := P) (ln pa s).length 0 (pre6 μ 0) none none none none (by omega) hCo1 hr1 (fun i k h1 h2 h3 h4 => by omega)
      have hCo2 := CSc_CHo n1.1 hCo1
      have hCC1 := CCi_CC hK n2
      obtain ⟨ν2, AL, m1, m2, m3, m4⟩ := c42 (d := d + 3) (pa := pa) (lw := lw) (fz := s 8) (pc := s 9) hCo2.1 (ln_L7 hK) hl hCo2.2.2.2.2.2.1
      have hLQ2 := BG_LQ m1
      have hCo3 := CSc_CHo hLQ2.1 hCo2
      have hA : ∀ p, p < 7 → (bt AL p = 1 ↔ p < pa 0 ∧ bt (s 7) p = 0) := fun p hp' => by
        rw [m2.2 p hp', List.take_length, ln_mem hK.1 hK.2.1]
      have hAL : 1 ≤ AL := by
        have q := ln_at hK (show 0 < (ln pa s).length by omega)
        have hm := (ln_mem hK.1 hK.2.1 _).mp (gD_mem (show 0 < (ln pa s).length by omega))
        have := (hA _ (by omega)).mpr hm
        rcases Nat.eq_zero_or_pos AL with e | e
        · rw [e] at this; unfold bt at this; simp at this
        · exact e
      have eL : ∀ T z, z < 7 → Li (ln pa s) (ln pa s).length T z = L0 pa (s 7) T z := fun T z hz => by
        unfold Li L0
        rw [List.take_length]
        have lm := ln_mem hK.1 hK.2.1 z
        by_cases q : T = 2 ^ z ∧ z ∈ ln pa s
        · rw [if_pos q, if_pos ⟨q.1, lm.mp q.2⟩]
        · rw [if_neg q, if_neg (fun k => q ⟨k.1, lm.mpr k.2⟩)]
      have hM2 : MI (mR pa lw (s 8) (s 9)) ν2 (L0 pa (s 7)) := fun T z hT hz => by
        rw [← eL T z hz]
        exact m3 T z hT hz
      have hr3 : rR ν2 2000010 2 = some P := (m1.2.2.1 _ _).trans ((n1.1.2.2.1 _ _).trans hr1)
      obtain ⟨ν3, L, k1, k2, k3, k4⟩ := c39_l (d := d) (lw := lw) hK (P := P) m2.1 hA (v2 := some (.ref 39000008)) (v3 := some (.ref 84000720)) (v4 := some (.int (nI (ln pa s).length))) (AL - 1) 1 (L0 pa (s 7)) ν2 (by omega) (by omega) hCo3.1 hCo3.2.1 hr3 (J_0 hp) hM2 (LQ_CC hLQ2 hCC1)
      have hall : CSc (pre6 μ 0) ν3 := CSc_tr n1.1 (CSc_tr hLQ2.1 k1.1)
      have hCo4 := CSc_CHo hall hCo1
      have i85 : ∀ j, rI ν3 85000004 j = rI (pre6 μ 0) 85000004 j := fun j => hall.1 _ _ (ncs (by omega))
      have l93 : ∀ j, rL ν3 93000000 j = rL (pre6 μ 0) 93000000 j := fun j => hall.2.1 _ _ (by omega)
      have hTE : TE (mR pa lw (s 8) (s 9)) ν3 (Xz L AL 0) := ⟨(i85 8).trans g2, none, fun l hl => by simp [Xz] at hl, fun _ => ⟨(i85 9).trans g3, (l93 0).trans g4, (l93 1).trans g5⟩, fun r a b q => by simp at q⟩
      obtain ⟨ν, p1, p2, p3, p4⟩ := c45_l (d := d + 2) (lw := lw) (ob := s 7) (fz := s 8) (pc := s 9) hK.1 m2.1 k2 7 0 ν3 none none (by omega) hCo4.1 k3 hTE
      have hO : OCk ν pa lw s := by
        obtain ⟨t1, o, t2, t3, t4⟩ := p3
        obtain ⟨b1, b2⟩ := BR_ls (lw := lw) hK m2 k2 (by omega) t2
        refine ⟨p2.trans ((i85 7).trans g1), by rw [t1, orA_len hK m2 k2 (by omega)], fun q => t3 (b1.mpr q), fun l a b q => ?_⟩
        cases ho : o with
        | none => rw [b1.mp ho] at q; simp at q
        | some x =>
          obtain ⟨r, a', b'⟩ := x
          obtain ⟨c1, c2, c3⟩ := b2 l a b r a' b' q ho
          obtain ⟨f1, f2, f3, f4⟩ := t4 r a' b' ho
          subst c1; subst c2; subst c3
          exact ⟨f1, f2, f3, f4⟩
      have hCoν := KE_CHo p1 hCo4
      refine ⟨ν, HE_tr (KE_HE hpre) (HE_tr (CSc_HE hall) (KE_HE p1)), CHo_CH hCoν (Or.inr hO), hO, fun Q => ?_⟩
      have n3' : ∀ Q, R (d + 4) 41 0 [some (.ref 85000004), some (.ref P), some (.ref 39000008), some (.ref 84000720), some (.int (nI (ln pa s).length)), none, none, none, none, none] [] (pre6 μ 0) Q = Q none ν1 := by
        intro Q
        simp (disch := first | assumption | omega) only [r41_0, r41_1, rI_wI, rL_wL, rR_wR, rI_wL, rI_wR, rL_wI, rL_wR, rR_wI, rR_wL, va_rf_some, va_rf_none, Option.toList_some, Option.toList_none, List.nil_append, List.cons_append, true_and, and_true, false_and, and_false, and_self, if_true, if_false, not_true_eq_false, not_false_eq_true, or_false, false_or, or_true, true_or, or_self, ite_true, ite_false, Option.some.injEq, reduceCtorEq, Nat.reduceMod, Nat.reduceDiv, Nat.reduceLeDiff, Nat.reduceEqDiff, Nat.reduceAdd, Nat.reduceMul, Nat.reduceSub, Nat.reduceLT, sw_nil, sw_int, sw_long, sw_ref, li, lo, nI_m1, ng_eq, nn_eq, en_eq, ng_le, ng_lt, Int32.neg_neg, nI_add, pk_mul, nI_clampO, nI_ltO, nI_leO, nI_eqO, nI_subO, nle_t, nle_f, nlt_t, nlt_f, neq_f, n3]
      have p4' : ∀ Q, R (d + 4) 45 0 [some (.ref 85000004), some (.int (nI AL)), none, none, none] [] ν3 Q = Q none ν := by
        intro Q
        simp (disch := first | assumption | omega) only [r45_0, r45_1, rI_wI, rL_wL, rR_wR, rI_wL, rI_wR, rL_wI, rL_wR, rR_wI, rR_wL, va_rf_some, va_rf_none, Option.toList_some, Option.toList_none, List.nil_append, List.cons_append, true_and, and_true, false_and, and_false, and_self, if_true, if_false, not_true_eq_false, not_false_eq_true, or_false, false_or, or_true, true_or, or_self, ite_true, ite_false, Option.some.injEq, reduceCtorEq, Nat.reduceMod, Nat.reduceDiv, Nat.reduceLeDiff, Nat.reduceEqDiff, Nat.reduceAdd, Nat.reduceMul, Nat.reduceSub, Nat.reduceLT, sw_nil, sw_int, sw_long, sw_ref, li, lo, nI_m1, ng_eq, nn_eq, en_eq, ng_le, ng_lt, Int32.neg_neg, nI_add, pk_mul, nI_clampO, nI_ltO, nI_leO, nI_eqO, nI_subO, nle_t, nle_f, nlt_t, nlt_f, neq_f, p4]
      have head : ∀ Q, R (d + 5) 39 0 [some (.ref 85000004), some (.ref P), some (.ref 39000008), some (.ref 84000720), some (.int (nI (ln pa s).length)), none, none] [] μ Q = R (d + 5) 39 60 [some (.ref 85000004), some (.ref P), some (.ref 39000008), some (.ref 84000720), some (.int (nI (ln pa s).length)), none, none] [] (pre6 μ 0) Q := by
        intro Q
        simp (disch := first | assumption | omega) only [r39_0, r39_1, r39_4, r39_7, r39_8, r39_9, r39_10, r39_13, r39_14, j39_16, r39_19, r39_20, r39_23, r39_24, r39_27, r39_28, j39_30, r39_33, r39_34, r39_37, r39_38, r39_41, r39_42, r39_45, r39_46, r39_47, r39_50, r39_51, r39_52, r39_55, r39_57, r39_61, r39_62, r39_63, r39_64, r39_66, r39_69, r39_70, r39_71, r39_73, r39_76, r39_78, r39_79, r39_83, r39_85, r39_88, r39_90, r39_92, r39_93, r39_94, r39_95, r39_98, r39_99, r39_100, r39_102, r39_104, r39_107, r39_110, r39_113, r39_114, r39_116, r39_119, rI_wI, rL_wL, rR_wR, rI_wL, rI_wR, rL_wI, rL_wR, rR_wI, rR_wL, va_rf_some, va_rf_none, Option.toList_some, Option.toList_none, List.nil_append, List.cons_append, true_and, and_true, false_and, and_false, and_self, if_true, if_false, not_true_eq_false, not_false_eq_true, or_false, false_or, or_true, true_or, or_self, ite_true, ite_false, Option.some.injEq, reduceCtorEq, Nat.reduceMod, Nat.reduceDiv, Nat.reduceLeDiff, Nat.reduceEqDiff, Nat.reduceAdd, Nat.reduceMul, Nat.reduceSub, Nat.reduceLT, sw_nil, sw_int, sw_long, sw_ref, li, lo, nI_m1, ng_eq, nn_eq, en_eq, ng_le, ng_lt, Int32.neg_neg, nI_add, pk_mul, nI_clampO, nI_ltO, nI_leO, nI_eqO, nI_subO, nle_t, nle_f, nlt_t, nlt_f, neq_f, fx_2000010_0, fx_2000010_1, fx_2000010_4, fx_2000010_5, fx_2000010_6, fx_2000010_8, fx_2000010_10, fx_2000010_11, fx_2000010_12, fx_2000010_13, fx_2000010_14, fx_2000010_15, fx_2000010_16, fx_2000010_17, fx_2000010_18, fx_3000009_0, fx_5000007_0, fx_5000007_1, fx_5000007_2, fx_5000007_3, fx_7000001_0, fx_11000005_1, fx_11000005_2, fx_11000005_3, fx_11000005_4, fx_11000005_5, fx_11000005_6, fx_11000005_10, fx_11000005_11, fx_11000005_12, fx_20000002_0, fx_20000002_2, fx_20000002_3, fx_20000002_4, fx_25000005_1, fx_25000005_2, fx_25000005_3, fx_25000005_4, fx_25000005_5, fx_25000005_6, fx_25000005_10, fx_25000005_11, fx_25000005_12, fx_34000002_0, fx_34000002_2, fx_34000002_3, fx_34000002_4, fx_39000008_0, fx_41000006_0, fx_42002024_0, fx_42002024_1, fx_42002024_2, fx_42002024_3, fx_42002024_4, fx_42002024_5, fx_42002024_6, fx_42002024_7, fx_42002024_8, fx_42002024_9, fx_42002024_10, fx_42002024_11, fx_42002024_12, fx_42002024_13, fx_42002024_14, fx_42002024_15, fx_42002024_16, fx_42002024_17, fx_42002024_18, fx_42002024_19, fx_43000008_0, fx_45000008_0, fx_47000008_0, fx_49000008_0, fx_51000008_0, fx_53000008_0, fx_55000008_0, fx_57000008_0, fx_59000008_0, fx_61000008_0, fx_63000008_0, fx_65000008_0, fx_67000008_0, fx_69000008_0, fx_71000008_0, fx_73000008_0, fx_75000008_0, fx_77000008_0, fx_79000008_0, fx_81000008_0, fx_83000424_0, fx_83000424_1, fx_83000424_2, fx_83000424_3, fx_85000004_0, fx_85000004_1, fx_85000004_2, fx_85000004_3, fx_85000004_4, fx_85000004_5, fx_85000004_6, fx_85000004_10, fx_102000008_0, fx_104000008_0, fx_106000008_0, fx_108000008_0, fx_110000011_1, fx_110000011_4, fx_110000011_5, fx_110000011_6, fx_110000011_9, fx_110000011_10, fx_110000011_11, fx_110000011_12, fx_110000011_14, fx_110000011_15, fx_110000011_20, fx_110000011_21, fx_110000011_22, fx_110000011_23, fx_110000011_25, fx_110000011_26, fx_110000011_31, fx_110000011_32, fx_110000011_37, fx_110000011_38, fx_110000011_39, fx_110000011_40, hk, ll, kc1, vnb1, vnb0]
        rfl
      rw [head]
      simp (disch := first | assumption | omega) only [r39_0, r39_1, r39_4, r39_7, r39_8, r39_9, r39_10, r39_13, r39_14, j39_16, r39_19, r39_20, r39_23, r39_24, r39_27, r39_28, j39_30, r39_33, r39_34, r39_37, r39_38, r39_41, r39_42, r39_45, r39_46, r39_47, r39_50, r39_51, r39_52, r39_55, r39_57, r39_60, r39_61, r39_62, r39_63, r39_64, r39_66, r39_69, r39_70, r39_71, r39_73, r39_76, r39_78, r39_79, r39_83, r39_85, r39_88, r39_90, r39_92, r39_93, r39_94, r39_95, r39_98, r39_99, r39_100, r39_102, r39_104, r39_107, r39_110, r39_113, r39_114, r39_116, r39_119, rI_wI, rL_wL, rR_wR, rI_wL, rI_wR, rL_wI, rL_wR, rR_wI, rR_wL, va_rf_some, va_rf_none, Option.toList_some, Option.toList_none, List.nil_append, List.cons_append, true_and, and_true, false_and, and_false, and_self, if_true, if_false, not_true_eq_false, not_false_eq_true, or_false, false_or, or_true, true_or, or_self, ite_true, ite_false, Option.some.injEq, reduceCtorEq, Nat.reduceMod, Nat.reduceDiv, Nat.reduceLeDiff, Nat.reduceEqDiff, Nat.reduceAdd, Nat.reduceMul, Nat.reduceSub, Nat.reduceLT, sw_nil, sw_int, sw_long, sw_ref, li, lo, nI_m1, ng_eq, nn_eq, en_eq, ng_le, ng_lt, Int32.neg_neg, nI_add, pk_mul, nI_clampO, nI_ltO, nI_leO, nI_eqO, nI_subO, nle_t, nle_f, nlt_t, nlt_f, neq_f, fx_2000010_0, fx_2000010_1, fx_2000010_4, fx_2000010_5, fx_2000010_6, fx_2000010_8, fx_2000010_10, fx_2000010_11, fx_2000010_12, fx_2000010_13, fx_2000010_14, fx_2000010_15, fx_2000010_16, fx_2000010_17, fx_2000010_18, fx_3000009_0, fx_5000007_0, fx_5000007_1, fx_5000007_2, fx_5000007_3, fx_7000001_0, fx_11000005_1, fx_11000005_2, fx_11000005_3, fx_11000005_4, fx_11000005_5, fx_11000005_6, fx_11000005_10, fx_11000005_11, fx_11000005_12, fx_20000002_0, fx_20000002_2, fx_20000002_3, fx_20000002_4, fx_25000005_1, fx_25000005_2, fx_25000005_3, fx_25000005_4, fx_25000005_5, fx_25000005_6, fx_25000005_10, fx_25000005_11, fx_25000005_12, fx_34000002_0, fx_34000002_2, fx_34000002_3, fx_34000002_4, fx_39000008_0, fx_41000006_0, fx_42002024_0, fx_42002024_1, fx_42002024_2, fx_42002024_3, fx_42002024_4, fx_42002024_5, fx_42002024_6, fx_42002024_7, fx_42002024_8, fx_42002024_9, fx_42002024_10, fx_42002024_11, fx_42002024_12, fx_42002024_13, fx_42002024_14, fx_42002024_15, fx_42002024_16, fx_42002024_17, fx_42002024_18, fx_42002024_19, fx_43000008_0, fx_45000008_0, fx_47000008_0, fx_49000008_0, fx_51000008_0, fx_53000008_0, fx_55000008_0, fx_57000008_0, fx_59000008_0, fx_61000008_0, fx_63000008_0, fx_65000008_0, fx_67000008_0, fx_69000008_0, fx_71000008_0, fx_73000008_0, fx_75000008_0, fx_77000008_0, fx_79000008_0, fx_81000008_0, fx_83000424_0, fx_83000424_1, fx_83000424_2, fx_83000424_3, fx_85000004_0, fx_85000004_1, fx_85000004_2, fx_85000004_3, fx_85000004_4, fx_85000004_5, fx_85000004_6, fx_85000004_10, fx_102000008_0, fx_104000008_0, fx_106000008_0, fx_108000008_0, fx_110000011_1, fx_110000011_4, fx_110000011_5, fx_110000011_6, fx_110000011_9, fx_110000011_10, fx_110000011_11, fx_110000011_12, fx_110000011_14, fx_110000011_15, fx_110000011_20, fx_110000011_21, fx_110000011_22, fx_110000011_23, fx_110000011_25, fx_110000011_26, fx_110000011_31, fx_110000011_32, fx_110000011_37, fx_110000011_38, fx_110000011_39, fx_110000011_40, n3', m4, k4, p4']
end T1
