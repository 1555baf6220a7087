/-! A LAW READ: THE CLASS'S OPERATORS AND ITS LOOP -/
section T1
variable {d : Nat} {μ : PM} {tp : List Nat}
theorem rk_dec (t : Nat) : rk t = 0 ∨ rk t = 1 ∨ rk t = 2 ∨ rk t = 3 ∨ rk t = 4 := by have := rk_le t; omega
theorem hd_128 {σ : List Nat} (h : wfs σ) : σ.headD 30 < 128 := by
  cases σ with
  | nil => decide
  | cons x σ => exact wfs_128 h 0 (by simp)
theorem c13a {L0 r : Nat} (hr : 1 ≤ r) (hr4 : r ≤ 4) {σ : List Nat} {κ : List Cod} (hF : FX μ) (h4 : rR μ 7000001 4 = some 20000002) (hw : wfs σ) (hl : σ.length ≤ 60) (hW : WS μ σ) (hK : KSa μ L0 κ) (hb : L0 + κ.length + σ.length ≤ 1000) : ∃ ν, GFa L0 μ ν ∧ (∀ j, j ≠ 1 → rI ν 7000001 j = rI μ 7000001 j) ∧ WS ν (joi r σ).2 ∧ KSa ν L0 (κ ++ (joi r σ).1) ∧ ∀ Q, R (d + 1) 13 0 [some (.ref 7000001), some (.int (nI r)), none] [] μ Q = Q none ν := by
  obtain ⟨ν, k1, k2, k3, k4, k5⟩ := c13a_l (d := d) hr hr4 σ κ 0 μ hF h4 hw (by omega) hW hK hb
  refine ⟨ν, k1, k2, k3, k4, fun Q => ?_⟩
  simp (disch := first | assumption | omega) only [r13_0, r13_1, rI_wI, rL_wL, rR_wR, rI_wL, rI_wR, rL_wI, rL_wR, rR_wI, rR_wL, va_rf_some, va_rf_none, Option.toList_some, Option.toList_none, List.nil_append, List.cons_append, true_and, and_true, false_and, and_false, and_self, if_true, if_false, not_true_eq_false, not_false_eq_true, or_false, false_or, or_true, true_or, or_self, ite_true, ite_false, Option.some.injEq, reduceCtorEq, Nat.reduceMod, Nat.reduceDiv, Nat.reduceLeDiff, Nat.reduceEqDiff, Nat.reduceAdd, Nat.reduceMul, Nat.reduceSub, Nat.reduceLT, sw_nil, sw_int, sw_long, sw_ref, li, lo, nI_m1, ng_eq, nn_eq, en_eq, ng_le, ng_lt, Int32.neg_neg, nI_add, pk_mul, nI_clampO, nI_ltO, nI_leO, nI_eqO, nI_subO, nle_t, nle_f, nlt_t, nlt_f, neq_f, k5]
/-- ) -/
theorem c11a_p {L0 : Nat} {σ : List Nat} {κ : List Cod} (hS : LSa μ tp L0 σ false κ) (hw : wfs σ) (hn : nst σ ≤ 5) (h23 : σ.headD 30 ≠ 23) (h0 : 0 < nst σ) (hb : L0 + κ.length + σ.length ≤ 1000) : ∃ ν, GFa L0 μ ν ∧ LSa ν tp L0 (nots (joi 1 σ).2.tail).2 false (κ ++ (joi 1 σ).1 ++ (nots (joi 1 σ).2.tail).1) ∧ ∀ Q, R (d + 3) 11 0 [some (.ref 7000001), some (.int (nI 41)), none, none] [] μ Q = Q (some (.int (nI 0))) ν := by
  obtain ⟨hF, hCT, hKW, h6, h4, hW, h2, h3, hK⟩ := hS
  obtain ⟨wl, -⟩ := wfs_len hw hn
  obtain ⟨j1, j2, j3, j4⟩ := joi_wf 1 hw (by omega)
  have j5 := joi_23 1 hw (by omega) h23
  obtain ⟨τ, hτ⟩ := top_p j1 (by omega) (by omega) j5
  obtain ⟨ν1, n1, n2, n3, n4, n5⟩ := c13a (d := d + 1) (L0 := L0) (r := 1) (by omega) (by omega) hF h4 hw (by omega) hW hK hb
  obtain ⟨b1, b2, b3, b4, b5⟩ := GFa_b n1 hF hCT hKW h6 h4
  rw [hτ] at n3 j1 j2 j4 ⊢
  rw [List.tail_cons]
  have hns : nst (40 :: τ) = 1 + nst τ := rfl
  rw [hns] at j2
  have jl : (joi 1 σ).1.length + (τ.length + 1) = σ.length := by simpa using j4
  let ν2 := wI (wI ν1 7000001 1 (nI τ.length)) 7000001 2 (nI (nst τ))
  have hW2 : WS ν2 τ := WS_of (by show rI (wI (wI ν1 7000001 1 (nI τ.length)) 7000001 2 (nI (nst τ))) _ _ = _; rw [rI_wI, if_neg (by decide)]) (fun j => by show rI (wI (wI ν1 7000001 1 (nI τ.length)) 7000001 2 (nI (nst τ))) _ _ = _; rw [rI_wI, if_neg (by omega)]) (WS_pop n3)
  have hK2 : KSa ν2 L0 (κ ++ (joi 1 σ).1) := KSa_7 (KSa_7 n4 (Or.inl rfl)) (Or.inl rfl)
  have hG2 : GFa L0 ν1 ν2 := GFa_tr (GFa_w7 L0 _ _ (by omega)) (GFa_w7 L0 _ _ (by omega))
  obtain ⟨ν, k1, k2, k3, k4, k5, k6⟩ := c12a_l (d := d + 1) (L0 := L0) τ (κ ++ (joi 1 σ).1) 0 ν2 b1 b5 j1.1 (by omega) (by omega) hW2 (by show rI (wI (wI ν1 7000001 1 (nI τ.length)) 7000001 2 (nI (nst τ))) _ _ = _; rw [rI_wI, if_pos ⟨rfl, rfl⟩]) hK2 (by rw [List.length_append]; omega)
  have hG := GFa_tr n1 (GFa_tr hG2 k1)
  obtain ⟨c1, c2, c3, c4, c5⟩ := GFa_b hG hF hCT hKW h6 h4
  refine ⟨ν, hG, ⟨c1, c2, c3, c4, c5, k2, k3, k4, k5⟩, fun Q => ?_⟩
  have k6' : ∀ Q, R (d + 2) 12 0 [some (.ref 7000001), none] [] (wI (wI ν1 7000001 1 (nI τ.length)) 7000001 2 (nI (nst τ))) Q = Q none ν := by
    intro Q
    have := k6 Q
    simp (disch := first | assumption | omega) only [r12_0, r12_1, rI_wI, rL_wL, rR_wR, rI_wL, rI_wR, rL_wI, rL_wR, rR_wI, rR_wL, va_rf_some, va_rf_none, Option.toList_some, Option.toList_none, List.nil_append, List.cons_append, true_and, and_true, false_and, and_false, and_self, if_true, if_false, not_true_eq_false, not_false_eq_true, or_false, false_or, or_true, true_or, or_self, ite_true, ite_false, Option.some.injEq, reduceCtorEq, Nat.reduceMod, Nat.reduceDiv, Nat.reduceLeDiff, Nat.reduceEqDiff, Nat.reduceAdd, Nat.reduceMul, Nat.reduceSub, Nat.reduceLT, sw_nil, sw_int, sw_long, sw_ref, li, lo, nI_m1, ng_eq, nn_eq, en_eq, ng_le, ng_lt, Int32.neg_neg, nI_add, pk_mul, nI_clampO, nI_ltO, nI_leO, nI_eqO, nI_subO, nle_t, nle_f, nlt_t, nlt_f, neq_f]
    exact this
  have g1 : rI ν1 7000001 1 = nI (τ.length + 1) := n3.1
  have g2 : rI ν1 7000001 2 = nI (1 + nst τ) := by rw [n2 2 (by decide), h2, ← j2]
  have e1 : τ.length + 1 - 1 = τ.length := by omega
  have e2 : 1 + nst τ - 1 = nst τ := by omega
  simp (disch := first | assumption | omega) only [r11_0, r11_1, r11_3, r11_6, r11_7, r11_10, r11_13, r11_14, r11_15, r11_18, r11_19, r11_19i, r11_20, r11_23, r11_24, r11_25, r11_28, r11_29, r11_29i, r11_30, r11_33, r11_34, r11_35, r11_38, r11_39, r11_42, r11_43, r11_44, r11_45, r11_48, r11_49, r11_50, r11_53, r11_54, r11_55, r11_56, r11_58, j11_61, r11_64, r11_65, r11_68, r11_69, r11_70, r11_71, r11_72, r11_75, r11_76, r11_77, r11_78, r11_81, r11_82, r11_85, r11_86, r11_89, r11_90, r11_93, r11_96, r11_97, r11_100, r11_101, r11_102, r11_103, r11_104, r11_107, r11_108, r11_109, r11_112, r11_113, rI_wI, rL_wL, rR_wR, rI_wL, rI_wR, rL_wI, rL_wR, rR_wI, rR_wL, va_rf_some, va_rf_none, Option.toList_some, Option.toList_none, List.nil_append, List.cons_append, true_and, and_true, false_and, and_false, and_self, if_true, if_false, not_true_eq_false, not_false_eq_true, or_false, false_or, or_true, true_or, or_self, ite_true, ite_false, Option.some.injEq, reduceCtorEq, Nat.reduceMod, Nat.reduceDiv, Nat.reduceLeDiff, Nat.reduceEqDiff, Nat.reduceAdd, Nat.reduceMul, Nat.reduceSub, Nat.reduceLT, sw_nil, sw_int, sw_long, sw_ref, li, lo, nI_m1, ng_eq, nn_eq, en_eq, ng_le, ng_lt, Int32.neg_neg, nI_add, pk_mul, nI_clampO, nI_ltO, nI_leO, nI_eqO, nI_subO, nle_t, nle_f, nlt_t, nlt_f, neq_f, h2, n5, g1, g2, e1, e2, k6']
/-- an operator -/
theorem c11a_o {L0 t : Nat} (ht : t < 128) {σ : List Nat} {κ : List Cod} (hS : LSa μ tp L0 σ false κ) (hw : wfs σ) (hn : nst σ ≤ 5) (h41 : ¬ (t = 41 ∧ 0 < nst σ)) (hb : L0 + κ.length + σ.length < 1000) :
    (rk t = 0 → ∀ Q, R (d + 3) 11 0 [some (.ref 7000001), some (.int (nI t)), none, none] [] μ Q = Q (some (.int (nI 1))) μ) ∧
    (rk t = 2 → rk ((joi 3 σ).2.headD 30) = 2 → ∃ ν, GFa L0 μ ν ∧ ∀ Q, R (d + 3) 11 0 [some (.ref 7000001), some (.int (nI t)), none, none] [] μ Q = Q (some (.int (nI 1))) ν) ∧
    (∀ r, (rk t = 2 ∧ r = 3 ∧ rk ((joi 3 σ).2.headD 30) ≠ 2 ∨ rk t ≠ 2 ∧ 1 ≤ rk t ∧ r = rk t) → ∃ ν, GFa L0 μ ν ∧ LSa ν tp L0 (t :: (joi r σ).2) true (κ ++ (joi r σ).1) ∧ ∀ Q, R (d + 3) 11 0 [some (.ref 7000001), some (.int (nI t)), none, none] [] μ Q = Q (some (.int (nI 0))) ν) := by
  obtain ⟨hF, hCT, hKW, h6, h4, hW, h2, h3, hK⟩ := hS
  obtain ⟨wl, -⟩ := wfs_len hw hn
  have hrl := rk_le t
  have r1 := fun Q => c16 (d := d + 2) (μ := μ) (Q := Q) ht
  have r2 := fun Q => c16 (d := d + 2) (μ := μ) (Q := Q) (t := 60) (by omega)
  rw [show rk 60 = 2 from rfl] at r2
  have head : ∀ Q, R (d + 3) 11 0 [some (.ref 7000001), some (.int (nI t)), none, none] [] μ Q = R (d + 3) 11 49 [some (.ref 7000001), some (.int (nI t)), some (.int (nI (rk t))), none] [] μ Q := by
    intro Q
    by_cases a : t = 41
    · have hz : nst σ = 0 := by
        rcases Nat.eq_zero_or_pos (nst σ) with z | z
        · exact z
        · exact absurd ⟨a, z⟩ h41
      rw [hz] at h2
      rw [a] at r1 ⊢
      simp (disch := first | assumption | omega) only [r11_0, r11_1, r11_3, r11_6, r11_7, r11_10, r11_13, r11_14, r11_15, r11_18, r11_19, r11_19i, r11_20, r11_23, r11_24, r11_25, r11_28, r11_29, r11_29i, r11_30, r11_33, r11_34, r11_35, r11_38, r11_39, r11_42, r11_43, r11_44, r11_45, r11_48, r11_50, r11_53, r11_54, r11_55, r11_56, r11_58, j11_61, r11_64, r11_65, r11_68, r11_69, r11_70, r11_71, r11_72, r11_75, r11_76, r11_77, r11_78, r11_81, r11_82, r11_85, r11_86, r11_89, r11_90, r11_93, r11_96, r11_97, r11_100, r11_101, r11_102, r11_103, r11_104, r11_107, r11_108, r11_109, r11_112, r11_113, rI_wI, rL_wL, rR_wR, rI_wL, rI_wR, rL_wI, rL_wR, rR_wI, rR_wL, va_rf_some, va_rf_none, Option.toList_some, Option.toList_none, List.nil_append, List.cons_append, true_and, and_true, false_and, and_false, and_self, if_true, if_false, not_true_eq_false, not_false_eq_true, or_false, false_or, or_true, true_or, or_self, ite_true, ite_false, Option.some.injEq, reduceCtorEq, Nat.reduceMod, Nat.reduceDiv, Nat.reduceLeDiff, Nat.reduceEqDiff, Nat.reduceAdd, Nat.reduceMul, Nat.reduceSub, Nat.reduceLT, sw_nil, sw_int, sw_long, sw_ref, li, lo, nI_m1, ng_eq, nn_eq, en_eq, ng_le, ng_lt, Int32.neg_neg, nI_add, pk_mul, nI_clampO, nI_ltO, nI_leO, nI_eqO, nI_subO, nle_t, nle_f, nlt_t, nlt_f, neq_f, h2, r1, Nat.le_refl]
    · simp (disch := first | assumption | omega) only [r11_0, r11_1, r11_3, r11_6, r11_7, r11_10, r11_13, r11_14, r11_15, r11_18, r11_19, r11_19i, r11_20, r11_23, r11_24, r11_25, r11_28, r11_29, r11_29i, r11_30, r11_33, r11_34, r11_35, r11_38, r11_39, r11_42, r11_43, r11_44, r11_45, r11_48, r11_50, r11_53, r11_54, r11_55, r11_56, r11_58, j11_61, r11_64, r11_65, r11_68, r11_69, r11_70, r11_71, r11_72, r11_75, r11_76, r11_77, r11_78, r11_81, r11_82, r11_85, r11_86, r11_89, r11_90, r11_93, r11_96, r11_97, r11_100, r11_101, r11_102, r11_103, r11_104, r11_107, r11_108, r11_109, r11_112, r11_113, rI_wI, rL_wL, rR_wR, rI_wL, rI_wR, rL_wI, rL_wR, rR_wI, rR_wL, va_rf_some, va_rf_none, Option.toList_some, Option.toList_none, List.nil_append, List.cons_append, true_and, and_true, false_and, and_false, and_self, if_true, if_false, not_true_eq_false, not_false_eq_true, or_false, false_or, or_true, true_or, or_self, ite_true, ite_false, Option.some.injEq, reduceCtorEq, Nat.reduceMod, Nat.reduceDiv, Nat.reduceLeDiff, Nat.reduceEqDiff, Nat.reduceAdd, Nat.reduceMul, Nat.reduceSub, Nat.reduceLT, sw_nil, sw_int, sw_long, sw_ref, li, lo, nI_m1, ng_eq, nn_eq, en_eq, ng_le, ng_lt, Int32.neg_neg, nI_add, pk_mul, nI_clampO, nI_ltO, nI_leO, nI_eqO, nI_subO, nle_t, nle_f, nlt_t, nlt_f, neq_f, r1]
  refine ⟨fun h0 Q => ?_, fun h0 hh => ?_, fun r hr => ?_⟩
  · rw [head, h0]
    simp (disch := first | assumption | omega) only [r11_0, r11_1, r11_3, r11_6, r11_7, r11_10, r11_13, r11_14, r11_15, r11_18, r11_19, r11_19i, r11_20, r11_23, r11_24, r11_25, r11_28, r11_29, r11_29i, r11_30, r11_33, r11_34, r11_35, r11_38, r11_39, r11_42, r11_43, r11_44, r11_45, r11_48, r11_49, r11_50, r11_53, r11_54, r11_55, r11_56, r11_58, j11_61, r11_64, r11_65, r11_68, r11_69, r11_70, r11_71, r11_72, r11_75, r11_76, r11_77, r11_78, r11_81, r11_82, r11_85, r11_86, r11_89, r11_90, r11_93, r11_96, r11_97, r11_100, r11_101, r11_102, r11_103, r11_104, r11_107, r11_108, r11_109, r11_112, r11_113, rI_wI, rL_wL, rR_wR, rI_wL, rI_wR, rL_wI, rL_wR, rR_wI, rR_wL, va_rf_some, va_rf_none, Option.toList_some, Option.toList_none, List.nil_append, List.cons_append, true_and, and_true, false_and, and_false, and_self, if_true, if_false, not_true_eq_false, not_false_eq_true, or_false, false_or, or_true, true_or, or_self, ite_true, ite_false, Option.some.injEq, reduceCtorEq, Nat.reduceMod, Nat.reduceDiv, Nat.reduceLeDiff, Nat.reduceEqDiff, Nat.reduceAdd, Nat.reduceMul, Nat.reduceSub, Nat.reduceLT, sw_nil, sw_int, sw_long, sw_ref, li, lo, nI_m1, ng_eq, nn_eq, en_eq, ng_le, ng_lt, Int32.neg_neg, nI_add, pk_mul, nI_clampO, nI_ltO, nI_leO, nI_eqO, nI_subO, nle_t, nle_f, nlt_t, nlt_f, neq_f]
  · obtain ⟨j1, j2, j3, j4⟩ := joi_wf 3 hw (by omega)
    obtain ⟨ν1, n1, n2, n3, n4, n5⟩ := c13a (d := d + 1) (L0 := L0) (r := 3) (by omega) (by omega) hF h4 hw (by omega) hW hK (by omega)
    have hF1 := (GFa_b n1 hF hCT hKW h6 h4).1
    have tt := fun Q => c14 (d := d + 2) (μ := ν1) (Q := Q) hF1 n3 (by omega)
    have r3 := fun Q => c16 (d := d + 2) (μ := ν1) (Q := Q) (hd_128 j1)
    rw [hh] at r3
    refine ⟨ν1, n1, fun Q => ?_⟩
    rw [head, h0]
    simp (disch := first | assumption | omega) only [r11_0, r11_1, r11_3, r11_6, r11_7, r11_10, r11_13, r11_14, r11_15, r11_18, r11_19, r11_19i, r11_20, r11_23, r11_24, r11_25, r11_28, r11_29, r11_29i, r11_30, r11_33, r11_34, r11_35, r11_38, r11_39, r11_42, r11_43, r11_44, r11_45, r11_48, r11_49, r11_50, r11_53, r11_54, r11_55, r11_56, r11_58, j11_61, r11_64, r11_65, r11_68, r11_69, r11_70, r11_71, r11_72, r11_75, r11_76, r11_77, r11_78, r11_81, r11_82, r11_85, r11_86, r11_89, r11_90, r11_93, r11_96, r11_97, r11_100, r11_101, r11_102, r11_103, r11_104, r11_107, r11_108, r11_109, r11_112, r11_113, rI_wI, rL_wL, rR_wR, rI_wL, rI_wR, rL_wI, rL_wR, rR_wI, rR_wL, va_rf_some, va_rf_none, Option.toList_some, Option.toList_none, List.nil_append, List.cons_append, true_and, and_true, false_and, and_false, and_self, if_true, if_false, not_true_eq_false, not_false_eq_true, or_false, false_or, or_true, true_or, or_self, ite_true, ite_false, Option.some.injEq, reduceCtorEq, Nat.reduceMod, Nat.reduceDiv, Nat.reduceLeDiff, Nat.reduceEqDiff, Nat.reduceAdd, Nat.reduceMul, Nat.reduceSub, Nat.reduceLT, sw_nil, sw_int, sw_long, sw_ref, li, lo, nI_m1, ng_eq, nn_eq, en_eq, ng_le, ng_lt, Int32.neg_neg, nI_add, pk_mul, nI_clampO, nI_ltO, nI_leO, nI_eqO, nI_subO, nle_t, nle_f, nlt_t, nlt_f, neq_f, r2, n5, tt, r3]
  · have hr1 : 1 ≤ r ∧ r ≤ 4 := by omega
    obtain ⟨j1, j2, j3, j4⟩ := joi_wf r hw hr1.1
    obtain ⟨ν1, n1, n2, n3, n4, n5⟩ := c13a (d := d + 1) (L0 := L0) (r := r) hr1.1 hr1.2 hF h4 hw (by omega) hW hK (by omega)
    obtain ⟨b1, b2, b3, b4, b5⟩ := GFa_b n1 hF hCT hKW h6 h4
    have tt := fun Q => c14 (d := d + 2) (μ := ν1) (Q := Q) b1 n3 (by omega)
    have r3 := fun Q => c16 (d := d + 2) (μ := ν1) (Q := Q) (hd_128 j1)
    have cp := fun Q => c15 (d := d + 2) (μ := ν1) (Q := Q) (x := t) b1 n3 (by omega)
    have hG2 : GFa L0 ν1 (wI (wI (wI ν1 8006420 (joi r σ).2.length (nI t)) 7000001 1 (nI ((joi r σ).2.length + 1))) 7000001 3 (nI 1)) := GFa_tr (GFa_tr (GFa_w8 L0 _ _ _) (GFa_w7 L0 _ _ (by omega))) (GFa_w7 L0 _ _ (by omega))
    have hG := GFa_tr n1 hG2
    obtain ⟨c1, c2, c3, c4, c5⟩ := GFa_b hG hF hCT hKW h6 h4
    have htn : ¬ (t = 23 ∨ t = 40) := fun q => by rw [rk_c q] at hr; omega
    refine ⟨_, hG, ⟨c1, c2, c3, c4, c5, WS_of (by rw [rI_wI, if_neg (by decide)]) (fun j => by rw [rI_wI, if_neg (by omega)]) (WS_push n3), ?_, ?_, KSa_7 (KSa_7 (KSa_7 n4 (Or.inr rfl)) (Or.inl rfl)) (Or.inl rfl)⟩, fun Q => ?_⟩
    · rw [rI_wI, if_neg (by decide), rI_wI, if_neg (by decide), rI_wI, if_neg (by omega), n2 2 (by decide), h2]
      show _ = nI ((if t = 23 ∨ t = 40 then 1 else 0) + nst (joi r σ).2)
      rw [if_neg htn, j2, Nat.zero_add]
    · rw [rI_wI, if_pos ⟨rfl, rfl⟩]; rfl
    · rw [head]
      rcases hr with ⟨e1, e2, e3⟩ | ⟨e1, e2, e3⟩
      · subst e2
        have hne := e3
        have hb4 := rk_le ((joi 3 σ).2.headD 30)
        rw [e1]
        simp (disch := first | assumption | omega) only [r11_0, r11_1, r11_3, r11_6, r11_7, r11_10, r11_13, r11_14, r11_15, r11_18, r11_19, r11_19i, r11_20, r11_23, r11_24, r11_25, r11_28, r11_29, r11_29i, r11_30, r11_33, r11_34, r11_35, r11_38, r11_39, r11_42, r11_43, r11_44, r11_45, r11_48, r11_49, r11_50, r11_53, r11_54, r11_55, r11_56, r11_58, j11_61, r11_64, r11_65, r11_68, r11_69, r11_70, r11_71, r11_72, r11_75, r11_76, r11_77, r11_78, r11_81, r11_82, r11_85, r11_86, r11_89, r11_90, r11_93, r11_96, r11_97, r11_100, r11_101, r11_102, r11_103, r11_104, r11_107, r11_108, r11_109, r11_112, r11_113, rI_wI, rL_wL, rR_wR, rI_wL, rI_wR, rL_wI, rL_wR, rR_wI, rR_wL, va_rf_some, va_rf_none, Option.toList_some, Option.toList_none, List.nil_append, List.cons_append, true_and, and_true, false_and, and_false, and_self, if_true, if_false, not_true_eq_false, not_false_eq_true, or_false, false_or, or_true, true_or, or_self, ite_true, ite_false, Option.some.injEq, reduceCtorEq, Nat.reduceMod, Nat.reduceDiv, Nat.reduceLeDiff, Nat.reduceEqDiff, Nat.reduceAdd, Nat.reduceMul, Nat.reduceSub, Nat.reduceLT, sw_nil, sw_int, sw_long, sw_ref, li, lo, nI_m1, ng_eq, nn_eq, en_eq, ng_le, ng_lt, Int32.neg_neg, nI_add, pk_mul, nI_clampO, nI_ltO, nI_leO, nI_eqO, nI_subO, nle_t, nle_f, nlt_t, nlt_f, neq_f, r2, n5, tt, r3, cp, vnb1]
      · subst e3
        simp (disch := first | assumption | omega) only [r11_0, r11_1, r11_3, r11_6, r11_7, r11_10, r11_13, r11_14, r11_15, r11_18, r11_19, r11_19i, r11_20, r11_23, r11_24, r11_25, r11_28, r11_29, r11_29i, r11_30, r11_33, r11_34, r11_35, r11_38, r11_39, r11_42, r11_43, r11_44, r11_45, r11_48, r11_49, r11_50, r11_53, r11_54, r11_55, r11_56, r11_58, j11_61, r11_64, r11_65, r11_68, r11_69, r11_70, r11_71, r11_72, r11_75, r11_76, r11_77, r11_78, r11_81, r11_82, r11_85, r11_86, r11_89, r11_90, r11_93, r11_96, r11_97, r11_100, r11_101, r11_102, r11_103, r11_104, r11_107, r11_108, r11_109, r11_112, r11_113, rI_wI, rL_wL, rR_wR, rI_wL, rI_wR, rL_wI, rL_wR, rR_wI, rR_wL, va_rf_some, va_rf_none, Option.toList_some, Option.toList_none, List.nil_append, List.cons_append, true_and, and_true, false_and, and_false, and_self, if_true, if_false, not_true_eq_false, not_false_eq_true, or_false, false_or, or_true, true_or, or_self, ite_true, ite_false, Option.some.injEq, reduceCtorEq, Nat.reduceMod, Nat.reduceDiv, Nat.reduceLeDiff, Nat.reduceEqDiff, Nat.reduceAdd, Nat.reduceMul, Nat.reduceSub, Nat.reduceLT, sw_nil, sw_int, sw_long, sw_ref, li, lo, nI_m1, ng_eq, nn_eq, en_eq, ng_le, ng_lt, Int32.neg_neg, nI_add, pk_mul, nI_clampO, nI_ltO, nI_leO, nI_eqO, nI_subO, nle_t, nle_f, nlt_t, nlt_f, neq_f, r2, n5, cp, vnb1]
theorem c13b {L0 r : Nat} (hr : 1 ≤ r) (hr4 : r ≤ 4) {σ : List Nat} {κ : List Cod} (hF : FX μ) (h4 : rR μ 7000001 4 = some 34000002) (hw : wfs σ) (hl : σ.length ≤ 60) (hW : WS μ σ) (hK : KSb μ L0 κ) (hb : L0 + κ.length + σ.length ≤ 1000) : ∃ ν, GFb L0 μ ν ∧ (∀ j, j ≠ 1 → rI ν 7000001 j = rI μ 7000001 j) ∧ WS ν (joi r σ).2 ∧ KSb ν L0 (κ ++ (joi r σ).1) ∧ ∀ Q, R (d + 1) 13 0 [some (.ref 7000001), some (.int (nI r)), none] [] μ Q = Q none ν := by
  obtain ⟨ν, k1, k2, k3, k4, k5⟩ := c13b_l (d := d) hr hr4 σ κ 0 μ hF h4 hw (by omega) hW hK hb
  refine ⟨ν, k1, k2, k3, k4, fun Q => ?_⟩
  simp (disch := first | assumption | omega) only [r13_0, r13_1, rI_wI, rL_wL, rR_wR, rI_wL, rI_wR, rL_wI, rL_wR, rR_wI, rR_wL, va_rf_some, va_rf_none, Option.toList_some, Option.toList_none, List.nil_append, List.cons_append, true_and, and_true, false_and, and_false, and_self, if_true, if_false, not_true_eq_false, not_false_eq_true, or_false, false_or, or_true, true_or, or_self, ite_true, ite_false, Option.some.injEq, reduceCtorEq, Nat.reduceMod, Nat.reduceDiv, Nat.reduceLeDiff, Nat.reduceEqDiff, Nat.reduceAdd, Nat.reduceMul, Nat.reduceSub, Nat.reduceLT, sw_nil, sw_int, sw_long, sw_ref, li, lo, nI_m1, ng_eq, nn_eq, en_eq, ng_le, ng_lt, Int32.neg_neg, nI_add, pk_mul, nI_clampO, nI_ltO, nI_leO, nI_eqO, nI_subO, nle_t, nle_f, nlt_t, nlt_f, neq_f, k5]
/-- ) -/
theorem c11b_p {L0 : Nat} {σ : List Nat} {κ : List Cod} (hS : LSb μ tp L0 σ false κ) (hw : wfs σ) (hn : nst σ ≤ 5) (h23 : σ.headD 30 ≠ 23) (h0 : 0 < nst σ) (hb : L0 + κ.length + σ.length ≤ 1000) : ∃ ν, GFb L0 μ ν ∧ LSb ν tp L0 (nots (joi 1 σ).2.tail).2 false (κ ++ (joi 1 σ).1 ++ (nots (joi 1 σ).2.tail).1) ∧ ∀ Q, R (d + 3) 11 0 [some (.ref 7000001), some (.int (nI 41)), none, none] [] μ Q = Q (some (.int (nI 0))) ν := by
  obtain ⟨hF, hCT, hKW, h6, h4, hW, h2, h3, hK⟩ := hS
  obtain ⟨wl, -⟩ := wfs_len hw hn
  obtain ⟨j1, j2, j3, j4⟩ := joi_wf 1 hw (by omega)
  have j5 := joi_23 1 hw (by omega) h23
  obtain ⟨τ, hτ⟩ := top_p j1 (by omega) (by omega) j5
  obtain ⟨ν1, n1, n2, n3, n4, n5⟩ := c13b (d := d + 1) (L0 := L0) (r := 1) (by omega) (by omega) hF h4 hw (by omega) hW hK hb
  obtain ⟨b1, b2, b3, b4, b5⟩ := GFb_b n1 hF hCT hKW h6 h4
  rw [hτ] at n3 j1 j2 j4 ⊢
  rw [List.tail_cons]
  have hns : nst (40 :: τ) = 1 + nst τ := rfl
  rw [hns] at j2
  have jl : (joi 1 σ).1.length + (τ.length + 1) = σ.length := by simpa using j4
  let ν2 := wI (wI ν1 7000001 1 (nI τ.length)) 7000001 2 (nI (nst τ))
  have hW2 : WS ν2 τ := WS_of (by show rI (wI (wI ν1 7000001 1 (nI τ.length)) 7000001 2 (nI (nst τ))) _ _ = _; rw [rI_wI, if_neg (by decide)]) (fun j => by show rI (wI (wI ν1 7000001 1 (nI τ.length)) 7000001 2 (nI (nst τ))) _ _ = _; rw [rI_wI, if_neg (by omega)]) (WS_pop n3)
  have hK2 : KSb ν2 L0 (κ ++ (joi 1 σ).1) := KSb_7 (KSb_7 n4 (Or.inl rfl)) (Or.inl rfl)
  have hG2 : GFb L0 ν1 ν2 := GFb_tr (GFb_w7 L0 _ _ (by omega)) (GFb_w7 L0 _ _ (by omega))
  obtain ⟨ν, k1, k2, k3, k4, k5, k6⟩ := c12b_l (d := d + 1) (L0 := L0) τ (κ ++ (joi 1 σ).1) 0 ν2 b1 b5 j1.1 (by omega) (by omega) hW2 (by show rI (wI (wI ν1 7000001 1 (nI τ.length)) 7000001 2 (nI (nst τ))) _ _ = _; rw [rI_wI, if_pos ⟨rfl, rfl⟩]) hK2 (by rw [List.length_append]; omega)
  have hG := GFb_tr n1 (GFb_tr hG2 k1)
  obtain ⟨c1, c2, c3, c4, c5⟩ := GFb_b hG hF hCT hKW h6 h4
  refine ⟨ν, hG, ⟨c1, c2, c3, c4, c5, k2, k3, k4, k5⟩, fun Q => ?_⟩
  have k6' : ∀ Q, R (d + 2) 12 0 [some (.ref 7000001), none] [] (wI (wI ν1 7000001 1 (nI τ.length)) 7000001 2 (nI (nst τ))) Q = Q none ν := by
    intro Q
    have := k6 Q
    simp (disch := first | assumption | omega) only [r12_0, r12_1, rI_wI, rL_wL, rR_wR, rI_wL, rI_wR, rL_wI, rL_wR, rR_wI, rR_wL, va_rf_some, va_rf_none, Option.toList_some, Option.toList_none, List.nil_append, List.cons_append, true_and, and_true, false_and, and_false, and_self, if_true, if_false, not_true_eq_false, not_false_eq_true, or_false, false_or, or_true, true_or, or_self, ite_true, ite_false, Option.some.injEq, reduceCtorEq, Nat.reduceMod, Nat.reduceDiv, Nat.reduceLeDiff, Nat.reduceEqDiff, Nat.reduceAdd, Nat.reduceMul, Nat.reduceSub, Nat.reduceLT, sw_nil, sw_int, sw_long, sw_ref, li, lo, nI_m1, ng_eq, nn_eq, en_eq, ng_le, ng_lt, Int32.neg_neg, nI_add, pk_mul, nI_clampO, nI_ltO, nI_leO, nI_eqO, nI_subO, nle_t, nle_f, nlt_t, nlt_f, neq_f]
    exact this
  have g1 : rI ν1 7000001 1 = nI (τ.length + 1) := n3.1
  have g2 : rI ν1 7000001 2 = nI (1 + nst τ) := by rw [n2 2 (by decide), h2, ← j2]
  have e1 : τ.length + 1 - 1 = τ.length := by omega
  have e2 : 1 + nst τ - 1 = nst τ := by omega
  simp (disch := first | assumption | omega) only [r11_0, r11_1, r11_3, r11_6, r11_7, r11_10, r11_13, r11_14, r11_15, r11_18, r11_19, r11_19i, r11_20, r11_23, r11_24, r11_25, r11_28, r11_29, r11_29i, r11_30, r11_33, r11_34, r11_35, r11_38, r11_39, r11_42, r11_43, r11_44, r11_45, r11_48, r11_49, r11_50, r11_53, r11_54, r11_55, r11_56, r11_58, j11_61, r11_64, r11_65, r11_68, r11_69, r11_70, r11_71, r11_72, r11_75, r11_76, r11_77, r11_78, r11_81, r11_82, r11_85, r11_86, r11_89, r11_90, r11_93, r11_96, r11_97, r11_100, r11_101, r11_102, r11_103, r11_104, r11_107, r11_108, r11_109, r11_112, r11_113, rI_wI, rL_wL, rR_wR, rI_wL, rI_wR, rL_wI, rL_wR, rR_wI, rR_wL, va_rf_some, va_rf_none, Option.toList_some, Option.toList_none, List.nil_append, List.cons_append, true_and, and_true, false_and, and_false, and_self, if_true, if_false, not_true_eq_false, not_false_eq_true, or_false, false_or, or_true, true_or, or_self, ite_true, ite_false, Option.some.injEq, reduceCtorEq, Nat.reduceMod, Nat.reduceDiv, Nat.reduceLeDiff, Nat.reduceEqDiff, Nat.reduceAdd, Nat.reduceMul, Nat.reduceSub, Nat.reduceLT, sw_nil, sw_int, sw_long, sw_ref, li, lo, nI_m1, ng_eq, nn_eq, en_eq, ng_le, ng_lt, Int32.neg_neg, nI_add, pk_mul, nI_clampO, nI_ltO, nI_leO, nI_eqO, nI_subO, nle_t, nle_f, nlt_t, nlt_f, neq_f, h2, n5, g1, g2, e1, e2, k6']
/-- an operator -/
theorem c11b_o {L0 t : Nat} (ht : t < 128) {σ : List Nat} {κ : List Cod} (hS : LSb μ tp L0 σ false κ) (hw : wfs σ) (hn : nst σ ≤ 5) (h41 : ¬ (t = 41 ∧ 0 < nst σ)) (hb : L0 + κ.length + σ.length < 1000) :
    (rk t = 0 → ∀ Q, R (d + 3) 11 0 [some (.ref 7000001), some (.int (nI t)), none, none] [] μ Q = Q (some (.int (nI 1))) μ) ∧
    (rk t = 2 → rk ((joi 3 σ).2.headD 30) = 2 → ∃ ν, GFb L0 μ ν ∧ ∀ Q, R (d + 3) 11 0 [some (.ref 7000001), some (.int (nI t)), none, none] [] μ Q = Q (some (.int (nI 1))) ν) ∧
    (∀ r, (rk t = 2 ∧ r = 3 ∧ rk ((joi 3 σ).2.headD 30) ≠ 2 ∨ rk t ≠ 2 ∧ 1 ≤ rk t ∧ r = rk t) → ∃ ν, GFb L0 μ ν ∧ LSb ν tp L0 (t :: (joi r σ).2) true (κ ++ (joi r σ).1) ∧ ∀ Q, R (d + 3) 11 0 [some (.ref 7000001), some (.int (nI t)), none, none] [] μ Q = Q (some (.int (nI 0))) ν) := by
  obtain ⟨hF, hCT, hKW, h6, h4, hW, h2, h3, hK⟩ := hS
  obtain ⟨wl, -⟩ := wfs_len hw hn
  have hrl := rk_le t
  have r1 := fun Q => c16 (d := d + 2) (μ := μ) (Q := Q) ht
  have r2 := fun Q => c16 (d := d + 2) (μ := μ) (Q := Q) (t := 60) (by omega)
  rw [show rk 60 = 2 from rfl] at r2
  have head : ∀ Q, R (d + 3) 11 0 [some (.ref 7000001), some (.int (nI t)), none, none] [] μ Q = R (d + 3) 11 49 [some (.ref 7000001), some (.int (nI t)), some (.int (nI (rk t))), none] [] μ Q := by
    intro Q
    by_cases a : t = 41
    · have hz : nst σ = 0 := by
        rcases Nat.eq_zero_or_pos (nst σ) with z | z
        · exact z
        · exact absurd ⟨a, z⟩ h41
      rw [hz] at h2
      rw [a] at r1 ⊢
      simp (disch := first | assumption | omega) only [r11_0, r11_1, r11_3, r11_6, r11_7, r11_10, r11_13, r11_14, r11_15, r11_18, r11_19, r11_19i, r11_20, r11_23, r11_24, r11_25, r11_28, r11_29, r11_29i, r11_30, r11_33, r11_34, r11_35, r11_38, r11_39, r11_42, r11_43, r11_44, r11_45, r11_48, r11_50, r11_53, r11_54, r11_55, r11_56, r11_58, j11_61, r11_64, r11_65, r11_68, r11_69, r11_70, r11_71, r11_72, r11_75, r11_76, r11_77, r11_78, r11_81, r11_82, r11_85, r11_86, r11_89, r11_90, r11_93, r11_96, r11_97, r11_100, r11_101, r11_102, r11_103, r11_104, r11_107, r11_108, r11_109, r11_112, r11_113, rI_wI, rL_wL, rR_wR, rI_wL, rI_wR, rL_wI, rL_wR, rR_wI, rR_wL, va_rf_some, va_rf_none, Option.toList_some, Option.toList_none, List.nil_append, List.cons_append, true_and, and_true, false_and, and_false, and_self, if_true, if_false, not_true_eq_false, not_false_eq_true, or_false, false_or, or_true, true_or, or_self, ite_true, ite_false, Option.some.injEq, reduceCtorEq, Nat.reduceMod, Nat.reduceDiv, Nat.reduceLeDiff, Nat.reduceEqDiff, Nat.reduceAdd, Nat.reduceMul, Nat.reduceSub, Nat.reduceLT, sw_nil, sw_int, sw_long, sw_ref, li, lo, nI_m1, ng_eq, nn_eq, en_eq, ng_le, ng_lt, Int32.neg_neg, nI_add, pk_mul, nI_clampO, nI_ltO, nI_leO, nI_eqO, nI_subO, nle_t, nle_f, nlt_t, nlt_f, neq_f, h2, r1, Nat.le_refl]
    · simp (disch := first | assumption | omega) only [r11_0, r11_1, r11_3, r11_6, r11_7, r11_10, r11_13, r11_14, r11_15, r11_18, r11_19, r11_19i, r11_20, r11_23, r11_24, r11_25, r11_28, r11_29, r11_29i, r11_30, r11_33, r11_34, r11_35, r11_38, r11_39, r11_42, r11_43, r11_44, r11_45, r11_48, r11_50, r11_53, r11_54, r11_55, r11_56, r11_58, j11_61, r11_64, r11_65, r11_68, r11_69, r11_70, r11_71, r11_72, r11_75, r11_76, r11_77, r11_78, r11_81, r11_82, r11_85, r11_86, r11_89, r11_90, r11_93, r11_96, r11_97, r11_100, r11_101, r11_102, r11_103, r11_104, r11_107, r11_108, r11_109, r11_112, r11_113, rI_wI, rL_wL, rR_wR, rI_wL, rI_wR, rL_wI, rL_wR, rR_wI, rR_wL, va_rf_some, va_rf_none, Option.toList_some, Option.toList_none, List.nil_append, List.cons_append, true_and, and_true, false_and, and_false, and_self, if_true, if_false, not_true_eq_false, not_false_eq_true, or_false, false_or, or_true, true_or, or_self, ite_true, ite_false, Option.some.injEq, reduceCtorEq, Nat.reduceMod, Nat.reduceDiv, Nat.reduceLeDiff, Nat.reduceEqDiff, Nat.reduceAdd, Nat.reduceMul, Nat.reduceSub, Nat.reduceLT, sw_nil, sw_int, sw_long, sw_ref, li, lo, nI_m1, ng_eq, nn_eq, en_eq, ng_le, ng_lt, Int32.neg_neg, nI_add, pk_mul, nI_clampO, nI_ltO, nI_leO, nI_eqO, nI_subO, nle_t, nle_f, nlt_t, nlt_f, neq_f, r1]
  refine ⟨fun h0 Q => ?_, fun h0 hh => ?_, fun r hr => ?_⟩
  · rw [head, h0]
    simp (disch := first | assumption | omega) only [r11_0, r11_1, r11_3, r11_6, r11_7, r11_10, r11_13, r11_14, r11_15, r11_18, r11_19, r11_19i, r11_20, r11_23, r11_24, r11_25, r11_28, r11_29, r11_29i, r11_30, r11_33, r11_34, r11_35, r11_38, r11_39, r11_42, r11_43, r11_44, r11_45, r11_48, r11_49, r11_50, r11_53, r11_54, r11_55, r11_56, r11_58, j11_61, r11_64, r11_65, r11_68, r11_69, r11_70, r11_71, r11_72, r11_75, r11_76, r11_77, r11_78, r11_81, r11_82, r11_85, r11_86, r11_89, r11_90, r11_93, r11_96, r11_97, r11_100, r11_101, r11_102, r11_103, r11_104, r11_107, r11_108, r11_109, r11_112, r11_113, rI_wI, rL_wL, rR_wR, rI_wL, rI_wR, rL_wI, rL_wR, rR_wI, rR_wL, va_rf_some, va_rf_none, Option.toList_some, Option.toList_none, List.nil_append, List.cons_append, true_and, and_true, false_and, and_false, and_self, if_true, if_false, not_true_eq_false, not_false_eq_true, or_false, false_or, or_true, true_or, or_self, ite_true, ite_false, Option.some.injEq, reduceCtorEq, Nat.reduceMod, Nat.reduceDiv, Nat.reduceLeDiff, Nat.reduceEqDiff, Nat.reduceAdd, Nat.reduceMul, Nat.reduceSub, Nat.reduceLT, sw_nil, sw_int, sw_long, sw_ref, li, lo, nI_m1, ng_eq, nn_eq, en_eq, ng_le, ng_lt, Int32.neg_neg, nI_add, pk_mul, nI_clampO, nI_ltO, nI_leO, nI_eqO, nI_subO, nle_t, nle_f, nlt_t, nlt_f, neq_f]
  · obtain ⟨j1, j2, j3, j4⟩ := joi_wf 3 hw (by omega)
    obtain ⟨ν1, n1, n2, n3, n4, n5⟩ := c13b (d := d + 1) (L0 := L0) (r := 3) (by omega) (by omega) hF h4 hw (by omega) hW hK (by omega)
    have hF1 := (GFb_b n1 hF hCT hKW h6 h4).1
    have tt := fun Q => c14 (d := d + 2) (μ := ν1) (Q := Q) hF1 n3 (by omega)
    have r3 := fun Q => c16 (d := d + 2) (μ := ν1) (Q := Q) (hd_128 j1)
    rw [hh] at r3
    refine ⟨ν1, n1, fun Q => ?_⟩
    rw [head, h0]
    simp (disch := first | assumption | omega) only [r11_0, r11_1, r11_3, r11_6, r11_7, r11_10, r11_13, r11_14, r11_15, r11_18, r11_19, r11_19i, r11_20, r11_23, r11_24, r11_25, r11_28, r11_29, r11_29i, r11_30, r11_33, r11_34, r11_35, r11_38, r11_39, r11_42, r11_43, r11_44, r11_45, r11_48, r11_49, r11_50, r11_53, r11_54, r11_55, r11_56, r11_58, j11_61, r11_64, r11_65, r11_68, r11_69, r11_70, r11_71, r11_72, r11_75, r11_76, r11_77, r11_78, r11_81, r11_82, r11_85, r11_86, r11_89, r11_90, r11_93, r11_96, r11_97, r11_100, r11_101, r11_102, r11_103, r11_104, r11_107, r11_108, r11_109, r11_112, r11_113, rI_wI, rL_wL, rR_wR, rI_wL, rI_wR, rL_wI, rL_wR, rR_wI, rR_wL, va_rf_some, va_rf_none, Option.toList_some, Option.toList_none, List.nil_append, List.cons_append, true_and, and_true, false_and, and_false, and_self, if_true, if_false, not_true_eq_false, not_false_eq_true, or_false, false_or, or_true, true_or, or_self, ite_true, ite_false, Option.some.injEq, reduceCtorEq, Nat.reduceMod, Nat.reduceDiv, Nat.reduceLeDiff, Nat.reduceEqDiff, Nat.reduceAdd, Nat.reduceMul, Nat.reduceSub, Nat.reduceLT, sw_nil, sw_int, sw_long, sw_ref, li, lo, nI_m1, ng_eq, nn_eq, en_eq, ng_le, ng_lt, Int32.neg_neg, nI_add, pk_mul, nI_clampO, nI_ltO, nI_leO, nI_eqO, nI_subO, nle_t, nle_f, nlt_t, nlt_f, neq_f, r2, n5, tt, r3]
  · have hr1 : 1 ≤ r ∧ r ≤ 4 := by omega
    obtain ⟨j1, j2, j3, j4⟩ := joi_wf r hw hr1.1
    obtain ⟨ν1, n1, n2, n3, n4, n5⟩ := c13b (d := d + 1) (L0 := L0) (r := r) hr1.1 hr1.2 hF h4 hw (by omega) hW hK (by omega)
    obtain ⟨b1, b2, b3, b4, b5⟩ := GFb_b n1 hF hCT hKW h6 h4
    have tt := fun Q => c14 (d := d + 2) (μ := ν1) (Q := Q) b1 n3 (by omega)
    have r3 := fun Q => c16 (d := d + 2) (μ := ν1) (Q := Q) (hd_128 j1)
    have cp := fun Q => c15 (d := d + 2) (μ := ν1) (Q := Q) (x := t) b1 n3 (by omega)
    have hG2 : GFb L0 ν1 (wI (wI (wI ν1 8006420 (joi r σ).2.length (nI t)) 7000001 1 (nI ((joi r σ).2.length + 1))) 7000001 3 (nI 1)) := GFb_tr (GFb_tr (GFb_w8 L0 _ _ _) (GFb_w7 L0 _ _ (by omega))) (GFb_w7 L0 _ _ (by omega))
    have hG := GFb_tr n1 hG2
    obtain ⟨c1, c2, c3, c4, c5⟩ := GFb_b hG hF hCT hKW h6 h4
    have htn : ¬ (t = 23 ∨ t = 40) := fun q => by rw [rk_c q] at hr; omega
    refine ⟨_, hG, ⟨c1, c2, c3, c4, c5, WS_of (by rw [rI_wI, if_neg (by decide)]) (fun j => by rw [rI_wI, if_neg (by omega)]) (WS_push n3), ?_, ?_, KSb_7 (KSb_7 (KSb_7 n4 (Or.inr rfl)) (Or.inl rfl)) (Or.inl rfl)⟩, fun Q => ?_⟩
    · rw [rI_wI, if_neg (by decide), rI_wI, if_neg (by decide), rI_wI, if_neg (by omega), n2 2 (by decide), h2]
      show _ = nI ((if t = 23 ∨ t = 40 then 1 else 0) + nst (joi r σ).2)
      rw [if_neg htn, j2, Nat.zero_add]
    · rw [rI_wI, if_pos ⟨rfl, rfl⟩]; rfl
    · rw [head]
      rcases hr with ⟨e1, e2, e3⟩ | ⟨e1, e2, e3⟩
      · subst e2
        have hne := e3
        have hb4 := rk_le ((joi 3 σ).2.headD 30)
        rw [e1]
        simp (disch := first | assumption | omega) only [r11_0, r11_1, r11_3, r11_6, r11_7, r11_10, r11_13, r11_14, r11_15, r11_18, r11_19, r11_19i, r11_20, r11_23, r11_24, r11_25, r11_28, r11_29, r11_29i, r11_30, r11_33, r11_34, r11_35, r11_38, r11_39, r11_42, r11_43, r11_44, r11_45, r11_48, r11_49, r11_50, r11_53, r11_54, r11_55, r11_56, r11_58, j11_61, r11_64, r11_65, r11_68, r11_69, r11_70, r11_71, r11_72, r11_75, r11_76, r11_77, r11_78, r11_81, r11_82, r11_85, r11_86, r11_89, r11_90, r11_93, r11_96, r11_97, r11_100, r11_101, r11_102, r11_103, r11_104, r11_107, r11_108, r11_109, r11_112, r11_113, rI_wI, rL_wL, rR_wR, rI_wL, rI_wR, rL_wI, rL_wR, rR_wI, rR_wL, va_rf_some, va_rf_none, Option.toList_some, Option.toList_none, List.nil_append, List.cons_append, true_and, and_true, false_and, and_false, and_self, if_true, if_false, not_true_eq_false, not_false_eq_true, or_false, false_or, or_true, true_or, or_self, ite_true, ite_false, Option.some.injEq, reduceCtorEq, Nat.reduceMod, Nat.reduceDiv, Nat.reduceLeDiff, Nat.reduceEqDiff, Nat.reduceAdd, Nat.reduceMul, Nat.reduceSub, Nat.reduceLT, sw_nil, sw_int, sw_long, sw_ref, li, lo, nI_m1, ng_eq, nn_eq, en_eq, ng_le, ng_lt, Int32.neg_neg, nI_add, pk_mul, nI_clampO, nI_ltO, nI_leO, nI_eqO, nI_subO, nle_t, nle_f, nlt_t, nlt_f, neq_f, r2, n5, tt, r3, cp, vnb1]
      · subst e3
        simp (disch := first | assumption | omega) only [r11_0, r11_1, r11_3, r11_6, r11_7, r11_10, r11_13, r11_14, r11_15, r11_18, r11_19, r11_19i, r11_20, r11_23, r11_24, r11_25, r11_28, r11_29, r11_29i, r11_30, r11_33, r11_34, r11_35, r11_38, r11_39, r11_42, r11_43, r11_44, r11_45, r11_48, r11_49, r11_50, r11_53, r11_54, r11_55, r11_56, r11_58, j11_61, r11_64, r11_65, r11_68, r11_69, r11_70, r11_71, r11_72, r11_75, r11_76, r11_77, r11_78, r11_81, r11_82, r11_85, r11_86, r11_89, r11_90, r11_93, r11_96, r11_97, r11_100, r11_101, r11_102, r11_103, r11_104, r11_107, r11_108, r11_109, r11_112, r11_113, rI_wI, rL_wL, rR_wR, rI_wL, rI_wR, rL_wI, rL_wR, rR_wI, rR_wL, va_rf_some, va_rf_none, Option.toList_some, Option.toList_none, List.nil_append, List.cons_append, true_and, and_true, false_and, and_false, and_self, if_true, if_false, not_true_eq_false, not_false_eq_true, or_false, false_or, or_true, true_or, or_self, ite_true, ite_false, Option.some.injEq, reduceCtorEq, Nat.reduceMod, Nat.reduceDiv, Nat.reduceLeDiff, Nat.reduceEqDiff, Nat.reduceAdd, Nat.reduceMul, Nat.reduceSub, Nat.reduceLT, sw_nil, sw_int, sw_long, sw_ref, li, lo, nI_m1, ng_eq, nn_eq, en_eq, ng_le, ng_lt, Int32.neg_neg, nI_add, pk_mul, nI_clampO, nI_ltO, nI_leO, nI_eqO, nI_subO, nle_t, nle_f, nlt_t, nlt_f, neq_f, r2, n5, cp, vnb1]
end T1
