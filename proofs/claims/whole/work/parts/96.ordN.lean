/-! ORDERS: THE REFERENCE'S TRIES -/
def LR (μ : PM) (n : Nat) (acc : Option (List Nat × Nat × Nat)) : Prop := (acc = none → rI μ 110000011 34 = nI 0) ∧ ∀ l a b, acc = some (l, a, b) → rI μ 110000011 34 = nI 1 ∧ rL μ 110000011 35 = lN (a / Nat.gcd a b) ∧ rL μ 110000011 36 = lN (b / Nat.gcd a b) ∧ (∀ i, i < n → rI μ 128000820 i = nI (l.getD i 0)) ∧ a ≤ 17820000000 ∧ 1 ≤ b ∧ b ≤ 1000000
section T1
variable {d : Nat} {μ : PM} {pa : Nat → Nat} {lw : LW} {s : Nat → Nat} {un : List (Nat → Nat)} {mk : Nat → Option (Nat → Nat)} {tp : List Nat}
theorem c203_c (hF : FX μ) {l : List Nat} (hl : l.length ≤ 7) (hO : WL μ 127000820 l) {v2 : Option Value} : ∀ (r i : Nat) (μ' : PM), i + r = l.length → MO μ μ' → WL μ' 127000820 l → (∀ j, j < i → rI μ' 128000820 j = nI (l.getD j 0)) → FX μ' → ∃ ν, MO μ' ν ∧ (∀ a j, a ≠ 128000820 → rI ν a j = rI μ' a j) ∧ (∀ a j, rL ν a j = rL μ' a j) ∧ (∀ j, j < l.length → rI ν 128000820 j = nI (l.getD j 0)) ∧ ∀ Q, R d 203 93 [some (.ref 110000011), some (.int (nI l.length)), v2, some (.int (nI i))] [] μ' Q = Q none ν := by
  intro r
  induction r with
  | zero =>
    intro i μ' hi hm ho hb hF'
    refine ⟨μ', MO_rf _, fun _ _ _ => rfl, fun _ _ => rfl, fun j hj => hb j (by omega), fun Q => ?_⟩
    rw [r203_93]
    simp (disch := first | assumption | omega) only [r203_94, r203_95, r203_116, rI_wI, rL_wL, rR_wR, rI_wL, rI_wR, rL_wI, rL_wR, rR_wI, rR_wL, va_rf_some, va_rf_none, Option.toList_some, Option.toList_none, List.nil_append, List.cons_append, true_and, and_true, false_and, and_false, and_self, if_true, if_false, not_true_eq_false, not_false_eq_true, or_false, false_or, or_true, true_or, or_self, ite_true, ite_false, Option.some.injEq, reduceCtorEq, Nat.reduceMod, Nat.reduceDiv, Nat.reduceLeDiff, Nat.reduceEqDiff, Nat.reduceAdd, Nat.reduceMul, Nat.reduceSub, Nat.reduceLT, sw_nil, sw_int, sw_long, sw_ref, li, lo, nI_m1, ng_eq, nn_eq, en_eq, ng_le, ng_lt, Int32.neg_neg, nI_add, pk_mul, nI_clampO, nI_ltO, nI_leO, nI_eqO, nI_subO, nle_t, nle_f, nlt_t, nlt_f, neq_f]
  | succ r ih =>
    intro i μ' hi hm ho hb hF'
    have x := ho i (by omega)
    have hW := MO_wI μ' (a := 128000820) (j := i) (nI (l.getD i 0)) (by omega)
    obtain ⟨ν, k1, k2, k3, k4, k5⟩ := ih (i + 1) (wI μ' 128000820 i (nI (l.getD i 0))) (by omega) (MO_tr hm hW) (fun j hj => by rw [rI_wI, if_neg (by omega)]; exact ho j hj) (fun j hj => by
      rw [rI_wI]
      by_cases e : j = i
      · rw [if_pos ⟨rfl, e.symm⟩, e]
      · rw [if_neg (fun q => e q.2.symm)]; exact hb j (by omega)) hF'
    refine ⟨ν, MO_tr hW k1, fun a j q => (k2 a j q).trans (by rw [rI_wI, if_neg (fun e => q e.1.symm)]), fun a j => k3 a j, k4, fun Q => ?_⟩
    rw [r203_93]
    simp (disch := first | assumption | omega) only [r203_94, r203_95, r203_98, r203_99, r203_102, r203_103, r203_104, r203_107, r203_108, r203_109, r203_110, r203_113, rI_wI, rL_wL, rR_wR, rI_wL, rI_wR, rL_wI, rL_wR, rR_wI, rR_wL, va_rf_some, va_rf_none, Option.toList_some, Option.toList_none, List.nil_append, List.cons_append, true_and, and_true, false_and, and_false, and_self, if_true, if_false, not_true_eq_false, not_false_eq_true, or_false, false_or, or_true, true_or, or_self, ite_true, ite_false, Option.some.injEq, reduceCtorEq, Nat.reduceMod, Nat.reduceDiv, Nat.reduceLeDiff, Nat.reduceEqDiff, Nat.reduceAdd, Nat.reduceMul, Nat.reduceSub, Nat.reduceLT, sw_nil, sw_int, sw_long, sw_ref, li, lo, nI_m1, ng_eq, nn_eq, en_eq, ng_le, ng_lt, Int32.neg_neg, nI_add, pk_mul, nI_clampO, nI_ltO, nI_leO, nI_eqO, nI_subO, nle_t, nle_f, nlt_t, nlt_f, neq_f, fx_2000010_0, fx_2000010_1, fx_2000010_4, fx_2000010_5, fx_2000010_6, fx_2000010_8, fx_2000010_10, fx_2000010_11, fx_2000010_12, fx_2000010_13, fx_2000010_14, fx_2000010_15, fx_2000010_16, fx_2000010_17, fx_2000010_18, fx_3000009_0, fx_5000007_0, fx_5000007_1, fx_5000007_2, fx_5000007_3, fx_7000001_0, fx_11000005_1, fx_11000005_2, fx_11000005_3, fx_11000005_4, fx_11000005_5, fx_11000005_6, fx_11000005_10, fx_11000005_11, fx_11000005_12, fx_20000002_0, fx_20000002_2, fx_20000002_3, fx_20000002_4, fx_25000005_1, fx_25000005_2, fx_25000005_3, fx_25000005_4, fx_25000005_5, fx_25000005_6, fx_25000005_10, fx_25000005_11, fx_25000005_12, fx_34000002_0, fx_34000002_2, fx_34000002_3, fx_34000002_4, fx_39000008_0, fx_41000006_0, fx_42002024_0, fx_42002024_1, fx_42002024_2, fx_42002024_3, fx_42002024_4, fx_42002024_5, fx_42002024_6, fx_42002024_7, fx_42002024_8, fx_42002024_9, fx_42002024_10, fx_42002024_11, fx_42002024_12, fx_42002024_13, fx_42002024_14, fx_42002024_15, fx_42002024_16, fx_42002024_17, fx_42002024_18, fx_42002024_19, fx_43000008_0, fx_45000008_0, fx_47000008_0, fx_49000008_0, fx_51000008_0, fx_53000008_0, fx_55000008_0, fx_57000008_0, fx_59000008_0, fx_61000008_0, fx_63000008_0, fx_65000008_0, fx_67000008_0, fx_69000008_0, fx_71000008_0, fx_73000008_0, fx_75000008_0, fx_77000008_0, fx_79000008_0, fx_81000008_0, fx_83000424_0, fx_83000424_1, fx_83000424_2, fx_83000424_3, fx_85000004_0, fx_85000004_1, fx_85000004_2, fx_85000004_3, fx_85000004_4, fx_85000004_5, fx_85000004_6, fx_85000004_10, fx_102000008_0, fx_104000008_0, fx_106000008_0, fx_108000008_0, fx_110000011_1, fx_110000011_4, fx_110000011_5, fx_110000011_6, fx_110000011_9, fx_110000011_10, fx_110000011_11, fx_110000011_12, fx_110000011_14, fx_110000011_15, fx_110000011_20, fx_110000011_21, fx_110000011_22, fx_110000011_23, fx_110000011_25, fx_110000011_26, fx_110000011_31, fx_110000011_32, fx_110000011_37, fx_110000011_38, fx_110000011_39, fx_110000011_40, x, k5]
/-- an order is whole -/
theorem c203_0 (hM : MH μ pa lw s un mk tp) (hK : OKA pa s un mk tp) (hL : MLn μ (ln pa s)) (h28 : rI μ 110000011 28 = fI (s 8)) {l : List Nat} (hl : l.length = (ln pa s).length) (h7 : ∀ i, i < l.length → l.getD i 0 < 7) (hO : WL μ 127000820 l) {acc : Option (List Nat × Nat × Nat)} {cnt : Nat} (hA : LR μ (ln pa s).length acc) (hc : rI μ 110000011 33 = nI cnt) {v2 : Option Value} :
    ∃ ν, MO μ ν ∧ (∀ i, rI ν 127000820 i = rI μ 127000820 i) ∧ LR ν (ln pa s).length ((if prN pa l = true then [l] else []).foldl (lsF pa lw (s 8) (s 9)) acc) ∧ rI ν 110000011 33 = nI (cnt + (if prN pa l = true then [l] else []).length) ∧ ∀ Q, R (d + 6) 203 0 [some (.ref 110000011), some (.int (nI l.length)), v2, none] [] μ Q = Q none ν := by
  have hl7 := ln7 (s := s) hK.1
  have hF := hM.1
  have h27 := hL.1
  rw [← hl] at h27
  have cp := c202 (d := d + 4) hF hM.2.1 hK.1 h27 (by omega) h7 hO
  by_cases hp : prN pa l = true
  · rw [if_pos hp] at cp ⊢
    show ∃ ν, MO μ ν ∧ _ ∧ LR ν _ (lsF pa lw (s 8) (s 9) acc l) ∧ rI ν 110000011 33 = nI (cnt + 1) ∧ _
    have hW := MO_wI μ (a := 110000011) (j := 33) (nI (cnt + 1)) (by omega)
    have hM1 := MSc_MH (MO_MSc hW) hM
    have hL1 := MO_MLn hW hL
    obtain ⟨ν1, n1, n2, n3⟩ := c198 (d := d + 1) hM1 hK (fz := s 8) (W := 127000820) (l := l) hK.2.1.2.2.2.2.1 (by omega) h7 (by decide) (by decide) (by decide) (fun i hi => by rw [rI_wI, if_neg (by omega)]; exact hO i hi) (by rw [rI_wI, if_neg (by decide)]; exact h28)
    have hMO1 := MO_tr hW (MO_MF n1)
    have hF1 : FX (wI μ 110000011 33 (nI (cnt + 1))) := hF
    have hF2 := MSc_FX (MO_MSc hMO1) hF
    have i33 : rI ν1 110000011 33 = nI (cnt + 1) := (n1.1 _ _ (by decide) (by decide)).trans (by rw [rI_wI, if_pos ⟨rfl, rfl⟩])
    have i34 : rI ν1 110000011 34 = rI μ 110000011 34 := (n1.1 _ _ (by decide) (by decide)).trans (by rw [rI_wI, if_neg (by decide)])
    have i127 : ∀ i, rI ν1 127000820 i = rI μ 127000820 i := fun i => (n1.1 _ _ (by decide) (by decide)).trans (by rw [rI_wI, if_neg (by omega)])
    have i128 : ∀ i, rI ν1 128000820 i = rI μ 128000820 i := fun i => (n1.1 _ _ (by decide) (by decide)).trans (by rw [rI_wI, if_neg (by omega)])
    have l35 : rL ν1 110000011 35 = rL μ 110000011 35 := n1.2.1 _ _ (by decide)
    have l36 : rL ν1 110000011 36 = rL μ 110000011 36 := n1.2.1 _ _ (by decide)
    have kp : LR ν1 (ln pa s).length acc := ⟨fun q => i34.trans (hA.1 q), fun l' a b q => by
      obtain ⟨z1, z2, z3, z4, z5⟩ := hA.2 l' a b q
      exact ⟨i34.trans z1, l35.trans z2, l36.trans z3, fun i hi => (i128 i).trans (z4 i hi), z5⟩⟩
    have h27w : rI (wI μ 110000011 33 (nI (cnt + 1))) 110000011 27 = nI l.length := by rw [rI_wI, if_neg (by decide)]; exact h27
    cases hm : mnN pa lw (s 8) (s 9) l with
    | none =>
      have g := n2 hm
      have e : lsF pa lw (s 8) (s 9) acc l = acc := by unfold lsF; rw [hm]
      rw [e]
      refine ⟨ν1, hMO1, i127, kp, i33, fun Q => ?_⟩
      simp (disch := first | assumption | omega) only [r203_0, r203_1, r203_2, r203_5, r203_8, r203_9, r203_12, r203_16, r203_17, r203_18, r203_21, r203_22, r203_23, r203_26, r203_27, r203_28, r203_31, r203_32, r203_35, r203_38, r203_116, rI_wI, rL_wL, rR_wR, rI_wL, rI_wR, rL_wI, rL_wR, rR_wI, rR_wL, va_rf_some, va_rf_none, Option.toList_some, Option.toList_none, List.nil_append, List.cons_append, true_and, and_true, false_and, and_false, and_self, if_true, if_false, not_true_eq_false, not_false_eq_true, or_false, false_or, or_true, true_or, or_self, ite_true, ite_false, Option.some.injEq, reduceCtorEq, Nat.reduceMod, Nat.reduceDiv, Nat.reduceLeDiff, Nat.reduceEqDiff, Nat.reduceAdd, Nat.reduceMul, Nat.reduceSub, Nat.reduceLT, sw_nil, sw_int, sw_long, sw_ref, li, lo, nI_m1, ng_eq, nn_eq, en_eq, ng_le, ng_lt, Int32.neg_neg, nI_add, pk_mul, nI_clampO, nI_ltO, nI_leO, nI_eqO, nI_subO, nle_t, nle_f, nlt_t, nlt_f, neq_f, fx_2000010_0, fx_2000010_1, fx_2000010_4, fx_2000010_5, fx_2000010_6, fx_2000010_8, fx_2000010_10, fx_2000010_11, fx_2000010_12, fx_2000010_13, fx_2000010_14, fx_2000010_15, fx_2000010_16, fx_2000010_17, fx_2000010_18, fx_3000009_0, fx_5000007_0, fx_5000007_1, fx_5000007_2, fx_5000007_3, fx_7000001_0, fx_11000005_1, fx_11000005_2, fx_11000005_3, fx_11000005_4, fx_11000005_5, fx_11000005_6, fx_11000005_10, fx_11000005_11, fx_11000005_12, fx_20000002_0, fx_20000002_2, fx_20000002_3, fx_20000002_4, fx_25000005_1, fx_25000005_2, fx_25000005_3, fx_25000005_4, fx_25000005_5, fx_25000005_6, fx_25000005_10, fx_25000005_11, fx_25000005_12, fx_34000002_0, fx_34000002_2, fx_34000002_3, fx_34000002_4, fx_39000008_0, fx_41000006_0, fx_42002024_0, fx_42002024_1, fx_42002024_2, fx_42002024_3, fx_42002024_4, fx_42002024_5, fx_42002024_6, fx_42002024_7, fx_42002024_8, fx_42002024_9, fx_42002024_10, fx_42002024_11, fx_42002024_12, fx_42002024_13, fx_42002024_14, fx_42002024_15, fx_42002024_16, fx_42002024_17, fx_42002024_18, fx_42002024_19, fx_43000008_0, fx_45000008_0, fx_47000008_0, fx_49000008_0, fx_51000008_0, fx_53000008_0, fx_55000008_0, fx_57000008_0, fx_59000008_0, fx_61000008_0, fx_63000008_0, fx_65000008_0, fx_67000008_0, fx_69000008_0, fx_71000008_0, fx_73000008_0, fx_75000008_0, fx_77000008_0, fx_79000008_0, fx_81000008_0, fx_83000424_0, fx_83000424_1, fx_83000424_2, fx_83000424_3, fx_85000004_0, fx_85000004_1, fx_85000004_2, fx_85000004_3, fx_85000004_4, fx_85000004_5, fx_85000004_6, fx_85000004_10, fx_102000008_0, fx_104000008_0, fx_106000008_0, fx_108000008_0, fx_110000011_1, fx_110000011_4, fx_110000011_5, fx_110000011_6, fx_110000011_9, fx_110000011_10, fx_110000011_11, fx_110000011_12, fx_110000011_14, fx_110000011_15, fx_110000011_20, fx_110000011_21, fx_110000011_22, fx_110000011_23, fx_110000011_25, fx_110000011_26, fx_110000011_31, fx_110000011_32, fx_110000011_37, fx_110000011_38, fx_110000011_39, fx_110000011_40, h27, cp, hc, g]
    | some ab =>
      obtain ⟨a, b⟩ := ab
      obtain ⟨q1, q2, g⟩ := n3 a b hm
      obtain ⟨b1, b2, b3⟩ := mnN_b hK.1 lw _ _ (by omega) hm
      obtain ⟨c1, c2⟩ := rdP_b b1 b3
      have wr : ∃ ν, MO μ ν ∧ (∀ i, rI ν 127000820 i = rI μ 127000820 i) ∧ LR ν (ln pa s).length (some (l, a, b)) ∧ rI ν 110000011 33 = nI (cnt + 1) ∧ ∀ Q, R (d + 6) 203 70 [some (.ref 110000011), some (.int (nI l.length)), v2, none] [] ν1 Q = Q none ν := by
        let ν2 := wL (wL (wI ν1 110000011 34 (nI 1)) 110000011 35 (lN (a / Nat.gcd a b))) 110000011 36 (lN (b / Nat.gcd a b))
        have hM2 : MO μ ν2 := MO_tr hMO1 (MO_tr (MO_wI ν1 (a := 110000011) (j := 34) (nI 1) (by omega)) (MO_tr (MO_wL _ 35 _) (MO_wL _ 36 _)))
        have hFν2 : FX ν2 := hF2
        have hO2 : WL ν2 127000820 l := fun i hi => by
          show rI (wI ν1 110000011 34 (nI 1)) 127000820 i = _
          rw [rI_wI, if_neg (by omega), i127]
          exact hO i hi
        obtain ⟨ν3, m1, m2, m3, m4, m5⟩ := c203_c (d := d + 6) hFν2 (l := l) (by omega) hO2 (v2 := v2) l.length 0 ν2 (by omega) (MO_rf _) hO2 (fun j hj => by omega) hFν2
        refine ⟨ν3, MO_tr hM2 m1, fun i => ?_, ⟨fun q => by simp at q, fun l' a' b' q => ?_⟩, ?_, fun Q => ?_⟩
        · rw [m2 _ _ (by decide)]
          show rI (wI ν1 110000011 34 (nI 1)) 127000820 i = _
          rw [rI_wI, if_neg (by omega), i127]
        · have q' : (l, a, b) = (l', a', b') := Option.some.inj q
          cases q'
          refine ⟨?_, ?_, ?_, fun i hi => m4 i (by omega), b1, b2, b3⟩
          · rw [m2 _ _ (by decide)]
            show rI (wI ν1 110000011 34 (nI 1)) 110000011 34 = _
            rw [rI_wI, if_pos ⟨rfl, rfl⟩]
          · rw [m3]
            show rL ν2 110000011 35 = _
            rw [rL_wL, if_neg (by decide), rL_wL, if_pos ⟨rfl, rfl⟩]
          · rw [m3]
            show rL ν2 110000011 36 = _
            rw [rL_wL, if_pos ⟨rfl, rfl⟩]
        · rw [m2 _ _ (by decide)]
          show rI (wI ν1 110000011 34 (nI 1)) 110000011 33 = _
          rw [rI_wI, if_neg (by decide)]
          exact i33
        · have zw : wL (wL (wI ν1 110000011 34 (nI 1)) 110000011 35 (lN (a / Nat.gcd a b))) 110000011 36 (lN (b / Nat.gcd a b)) = ν2 := rfl
          simp (disch := first | assumption | omega) only [r203_70, r203_71, r203_72, r203_75, r203_76, r203_77, r203_80, r203_83, r203_84, r203_85, r203_88, r203_91, r203_92, rI_wI, rL_wL, rR_wR, rI_wL, rI_wR, rL_wI, rL_wR, rR_wI, rR_wL, va_rf_some, va_rf_none, Option.toList_some, Option.toList_none, List.nil_append, List.cons_append, true_and, and_true, false_and, and_false, and_self, if_true, if_false, not_true_eq_false, not_false_eq_true, or_false, false_or, or_true, true_or, or_self, ite_true, ite_false, Option.some.injEq, reduceCtorEq, Nat.reduceMod, Nat.reduceDiv, Nat.reduceLeDiff, Nat.reduceEqDiff, Nat.reduceAdd, Nat.reduceMul, Nat.reduceSub, Nat.reduceLT, sw_nil, sw_int, sw_long, sw_ref, li, lo, nI_m1, ng_eq, nn_eq, en_eq, ng_le, ng_lt, Int32.neg_neg, nI_add, pk_mul, nI_clampO, nI_ltO, nI_leO, nI_eqO, nI_subO, nle_t, nle_f, nlt_t, nlt_f, neq_f, vnb1, q1, q2, zw, m5]
      have head : ∀ Q, R (d + 6) 203 0 [some (.ref 110000011), some (.int (nI l.length)), v2, none] [] μ Q = R (d + 6) 203 41 [some (.ref 110000011), some (.int (nI l.length)), v2, none] [] ν1 Q := by
        intro Q
        simp (disch := first | assumption | omega) only [r203_0, r203_1, r203_2, r203_5, r203_8, r203_9, r203_12, r203_16, r203_17, r203_18, r203_21, r203_22, r203_23, r203_26, r203_27, r203_28, r203_31, r203_32, r203_35, r203_38, rI_wI, rL_wL, rR_wR, rI_wL, rI_wR, rL_wI, rL_wR, rR_wI, rR_wL, va_rf_some, va_rf_none, Option.toList_some, Option.toList_none, List.nil_append, List.cons_append, true_and, and_true, false_and, and_false, and_self, if_true, if_false, not_true_eq_false, not_false_eq_true, or_false, false_or, or_true, true_or, or_self, ite_true, ite_false, Option.some.injEq, reduceCtorEq, Nat.reduceMod, Nat.reduceDiv, Nat.reduceLeDiff, Nat.reduceEqDiff, Nat.reduceAdd, Nat.reduceMul, Nat.reduceSub, Nat.reduceLT, sw_nil, sw_int, sw_long, sw_ref, li, lo, nI_m1, ng_eq, nn_eq, en_eq, ng_le, ng_lt, Int32.neg_neg, nI_add, pk_mul, nI_clampO, nI_ltO, nI_leO, nI_eqO, nI_subO, nle_t, nle_f, nlt_t, nlt_f, neq_f, fx_2000010_0, fx_2000010_1, fx_2000010_4, fx_2000010_5, fx_2000010_6, fx_2000010_8, fx_2000010_10, fx_2000010_11, fx_2000010_12, fx_2000010_13, fx_2000010_14, fx_2000010_15, fx_2000010_16, fx_2000010_17, fx_2000010_18, fx_3000009_0, fx_5000007_0, fx_5000007_1, fx_5000007_2, fx_5000007_3, fx_7000001_0, fx_11000005_1, fx_11000005_2, fx_11000005_3, fx_11000005_4, fx_11000005_5, fx_11000005_6, fx_11000005_10, fx_11000005_11, fx_11000005_12, fx_20000002_0, fx_20000002_2, fx_20000002_3, fx_20000002_4, fx_25000005_1, fx_25000005_2, fx_25000005_3, fx_25000005_4, fx_25000005_5, fx_25000005_6, fx_25000005_10, fx_25000005_11, fx_25000005_12, fx_34000002_0, fx_34000002_2, fx_34000002_3, fx_34000002_4, fx_39000008_0, fx_41000006_0, fx_42002024_0, fx_42002024_1, fx_42002024_2, fx_42002024_3, fx_42002024_4, fx_42002024_5, fx_42002024_6, fx_42002024_7, fx_42002024_8, fx_42002024_9, fx_42002024_10, fx_42002024_11, fx_42002024_12, fx_42002024_13, fx_42002024_14, fx_42002024_15, fx_42002024_16, fx_42002024_17, fx_42002024_18, fx_42002024_19, fx_43000008_0, fx_45000008_0, fx_47000008_0, fx_49000008_0, fx_51000008_0, fx_53000008_0, fx_55000008_0, fx_57000008_0, fx_59000008_0, fx_61000008_0, fx_63000008_0, fx_65000008_0, fx_67000008_0, fx_69000008_0, fx_71000008_0, fx_73000008_0, fx_75000008_0, fx_77000008_0, fx_79000008_0, fx_81000008_0, fx_83000424_0, fx_83000424_1, fx_83000424_2, fx_83000424_3, fx_85000004_0, fx_85000004_1, fx_85000004_2, fx_85000004_3, fx_85000004_4, fx_85000004_5, fx_85000004_6, fx_85000004_10, fx_102000008_0, fx_104000008_0, fx_106000008_0, fx_108000008_0, fx_110000011_1, fx_110000011_4, fx_110000011_5, fx_110000011_6, fx_110000011_9, fx_110000011_10, fx_110000011_11, fx_110000011_12, fx_110000011_14, fx_110000011_15, fx_110000011_20, fx_110000011_21, fx_110000011_22, fx_110000011_23, fx_110000011_25, fx_110000011_26, fx_110000011_31, fx_110000011_32, fx_110000011_37, fx_110000011_38, fx_110000011_39, fx_110000011_40, h27, cp, hc, g]
      match acc, hA, kp with
      | none, hA, kp =>
        have e : lsF pa lw (s 8) (s 9) none l = some (l, a, b) := by unfold lsF; rw [hm]
        rw [e]
        obtain ⟨ν, w1, w2, w3, w4, w5⟩ := wr
        have h34 := i34.trans (hA.1 rfl)
        refine ⟨ν, w1, w2, w3, w4, fun Q => ?_⟩
        rw [head, ← w5 Q]
        simp (disch := first | assumption | omega) only [r203_41, r203_42, r203_45, rI_wI, rL_wL, rR_wR, rI_wL, rI_wR, rL_wI, rL_wR, rR_wI, rR_wL, va_rf_some, va_rf_none, Option.toList_some, Option.toList_none, List.nil_append, List.cons_append, true_and, and_true, false_and, and_false, and_self, if_true, if_false, not_true_eq_false, not_false_eq_true, or_false, false_or, or_true, true_or, or_self, ite_true, ite_false, Option.some.injEq, reduceCtorEq, Nat.reduceMod, Nat.reduceDiv, Nat.reduceLeDiff, Nat.reduceEqDiff, Nat.reduceAdd, Nat.reduceMul, Nat.reduceSub, Nat.reduceLT, sw_nil, sw_int, sw_long, sw_ref, li, lo, nI_m1, ng_eq, nn_eq, en_eq, ng_le, ng_lt, Int32.neg_neg, nI_add, pk_mul, nI_clampO, nI_ltO, nI_leO, nI_eqO, nI_subO, nle_t, nle_f, nlt_t, nlt_f, neq_f, h34]
      | some (l0, a0, b0), hA, kp =>
        obtain ⟨z1, z2, z3, z4, z5, z6, z7⟩ := hA.2 l0 a0 b0 rfl
        have h34 := i34.trans z1
        have h35 := l35.trans z2
        have h36 := l36.trans z3
        obtain ⟨f1, f2⟩ := rdP_b z5 z7
        have x1 := pr_b (a := a / Nat.gcd a b) (b := b0 / Nat.gcd a0 b0) c1 f2
        have x2 := pr_b (a := a0 / Nat.gcd a0 b0) (b := b / Nat.gcd a b) f1 c2
        have rl := red_lt (a := a) (b := b) (a' := a0) (b' := b0) (by omega) (by omega)
        have e : lsF pa lw (s 8) (s 9) (some (l0, a0, b0)) l = if a * b0 < a0 * b then some (l, a, b) else some (l0, a0, b0) := by unfold lsF; rw [hm]
        rw [e]
        by_cases hlt : a * b0 < a0 * b
        · rw [if_pos hlt]
          obtain ⟨ν, w1, w2, w3, w4, w5⟩ := wr
          have hlt2 := rl.mpr hlt
          refine ⟨ν, w1, w2, w3, w4, fun Q => ?_⟩
          rw [head, ← w5 Q]
          simp (disch := first | assumption | omega) only [r203_41, r203_42, r203_45, r203_48, r203_49, r203_52, r203_53, r203_56, r203_57, r203_58, r203_61, r203_62, r203_65, r203_66, r203_67, rI_wI, rL_wL, rR_wR, rI_wL, rI_wR, rL_wI, rL_wR, rR_wI, rR_wL, va_rf_some, va_rf_none, Option.toList_some, Option.toList_none, List.nil_append, List.cons_append, true_and, and_true, false_and, and_false, and_self, if_true, if_false, not_true_eq_false, not_false_eq_true, or_false, false_or, or_true, true_or, or_self, ite_true, ite_false, Option.some.injEq, reduceCtorEq, Nat.reduceMod, Nat.reduceDiv, Nat.reduceLeDiff, Nat.reduceEqDiff, Nat.reduceAdd, Nat.reduceMul, Nat.reduceSub, Nat.reduceLT, sw_nil, sw_int, sw_long, sw_ref, li, lo, nI_m1, ng_eq, nn_eq, en_eq, ng_le, ng_lt, Int32.neg_neg, nI_add, pk_mul, nI_clampO, nI_ltO, nI_leO, nI_eqO, nI_subO, nle_t, nle_f, nlt_t, nlt_f, neq_f, h34, h35, h36, q1, q2, lN_mul, cmp_ge]
        · rw [if_neg hlt]
          have hlt2 : ¬ a / Nat.gcd a b * (b0 / Nat.gcd a0 b0) < a0 / Nat.gcd a0 b0 * (b / Nat.gcd a b) := fun q => hlt (rl.mp q)
          refine ⟨ν1, hMO1, i127, kp, i33, fun Q => ?_⟩
          rw [head]
          simp (disch := first | assumption | omega) only [r203_41, r203_42, r203_45, r203_48, r203_49, r203_52, r203_53, r203_56, r203_57, r203_58, r203_61, r203_62, r203_65, r203_66, r203_67, r203_116, rI_wI, rL_wL, rR_wR, rI_wL, rI_wR, rL_wI, rL_wR, rR_wI, rR_wL, va_rf_some, va_rf_none, Option.toList_some, Option.toList_none, List.nil_append, List.cons_append, true_and, and_true, false_and, and_false, and_self, if_true, if_false, not_true_eq_false, not_false_eq_true, or_false, false_or, or_true, true_or, or_self, ite_true, ite_false, Option.some.injEq, reduceCtorEq, Nat.reduceMod, Nat.reduceDiv, Nat.reduceLeDiff, Nat.reduceEqDiff, Nat.reduceAdd, Nat.reduceMul, Nat.reduceSub, Nat.reduceLT, sw_nil, sw_int, sw_long, sw_ref, li, lo, nI_m1, ng_eq, nn_eq, en_eq, ng_le, ng_lt, Int32.neg_neg, nI_add, pk_mul, nI_clampO, nI_ltO, nI_leO, nI_eqO, nI_subO, nle_t, nle_f, nlt_t, nlt_f, neq_f, h34, h35, h36, q1, q2, lN_mul, cmp_ge]
  · rw [if_neg hp] at cp ⊢
    show ∃ ν, MO μ ν ∧ _ ∧ LR ν _ acc ∧ rI ν 110000011 33 = nI (cnt + 0) ∧ _
    refine ⟨μ, MO_rf _, fun _ => rfl, hA, hc, fun Q => ?_⟩
    simp (disch := first | assumption | omega) only [r203_0, r203_1, r203_2, r203_5, r203_8, r203_9, r203_12, r203_15, rI_wI, rL_wL, rR_wR, rI_wL, rI_wR, rL_wI, rL_wR, rR_wI, rR_wL, va_rf_some, va_rf_none, Option.toList_some, Option.toList_none, List.nil_append, List.cons_append, true_and, and_true, false_and, and_false, and_self, if_true, if_false, not_true_eq_false, not_false_eq_true, or_false, false_or, or_true, true_or, or_self, ite_true, ite_false, Option.some.injEq, reduceCtorEq, Nat.reduceMod, Nat.reduceDiv, Nat.reduceLeDiff, Nat.reduceEqDiff, Nat.reduceAdd, Nat.reduceMul, Nat.reduceSub, Nat.reduceLT, sw_nil, sw_int, sw_long, sw_ref, li, lo, nI_m1, ng_eq, nn_eq, en_eq, ng_le, ng_lt, Int32.neg_neg, nI_add, pk_mul, nI_clampO, nI_ltO, nI_leO, nI_eqO, nI_subO, nle_t, nle_f, nlt_t, nlt_f, neq_f, h27, cp]
end T1
