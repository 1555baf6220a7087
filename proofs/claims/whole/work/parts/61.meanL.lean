/-! THE MEAN OF THE REFERENCE: ITS LOOP -/
def MF (μ ν : PM) : Prop := (∀ a j, a ≠ 122000520 → a ≠ 123110020 → rI ν a j = rI μ a j) ∧ (∀ a j, ¬ (a = 110000011 ∧ (j = 29 ∨ j = 30)) → rL ν a j = rL μ a j) ∧ (∀ a j, rR ν a j = rR μ a j) ∧ aS ν = aS μ
theorem MF_rf (μ : PM) : MF μ μ := ⟨fun _ _ _ _ => rfl, fun _ _ _ => rfl, fun _ _ => rfl, rfl⟩
theorem MF_tr {μ ν ρ : PM} (h : MF μ ν) (k : MF ν ρ) : MF μ ρ := ⟨fun a j q1 q2 => (k.1 a j q1 q2).trans (h.1 a j q1 q2), fun a j q => (k.2.1 a j q).trans (h.2.1 a j q), fun a j => (k.2.2.1 a j).trans (h.2.2.1 a j), k.2.2.2.trans h.2.2.2⟩
theorem MF_MSc {μ ν : PM} (h : MF μ ν) : MSc μ ν := ⟨fun a j q => h.1 a j (by unfold mp at q; omega) (by unfold mp at q; omega), fun a j q => h.2.1 a j (by omega), h.2.2.1, h.2.2.2⟩
theorem MF_mw2 (μ : PM) (a b : Nat) : MF μ (mw2 μ a b) := ⟨fun _ _ _ _ => rfl, fun c j q => by unfold mw2; rw [rL_wL, if_neg (by omega), rL_wL, if_neg (by omega)], fun _ _ => rfl, rfl⟩
theorem fcB {n x y c e f : Nat} {a b : Nat} (hx : x ≤ a) (hy : y ≤ b) (ha : a ≤ 2970 * n * 10 ^ n) (hb : b ≤ 10 ^ n) (hc : c ≤ 10) (hf : f ≤ 10) (he : e ≤ 2970) (hn : n ≤ 6) : x * f + e * y < 9223372036854775808 ∧ y * c < 9223372036854775808 := by
  have e1 : 10 ^ n ≤ 10 ^ 6 := Nat.pow_le_pow_right (by omega) hn
  have e2 : 2970 * n * 10 ^ n ≤ 2970 * 6 * 10 ^ 6 := Nat.mul_le_mul (Nat.mul_le_mul_left 2970 hn) e1
  have e3 : x * f ≤ (2970 * 6 * 10 ^ 6) * 10 := Nat.mul_le_mul (by omega) hf
  have e4 : e * y ≤ 2970 * 10 ^ 6 := Nat.mul_le_mul he (by omega)
  have e5 : y * c ≤ 10 ^ 6 * 10 := Nat.mul_le_mul (by omega) hc
  omega
section T1
variable {d : Nat} {pa : Nat → Nat} {lw : LW} {s : Nat → Nat} {un : List (Nat → Nat)} {mk : Nat → Option (Nat → Nat)} {tp : List Nat}
theorem c198_l (hK : OKA pa s un mk tp) {fz W : Nat} {l : List Nat} (hf : fz ≤ pa 1) (hl : l.length ≤ 7) (h7 : ∀ i, i < l.length → l.getD i 0 < 7) (hW : W % 100 = 20) (hW2 : W / 100 % 10000 = 8) (hW3 : W ≠ 122000520 ∧ W ≠ 123110020) : ∀ (r k : Nat) (μ : PM) (a b : Nat) (v7 v8 v9 v10 v11 : Option Value), k + r = l.length - 1 → MH μ pa lw s un mk tp → WL μ W l → rI μ 110000011 28 = fI fz → rL μ 110000011 29 = lN (a / Nat.gcd a b) → rL μ 110000011 30 = lN (b / Nat.gcd a b) → a ≤ 2970 * k * 10 ^ k → 1 ≤ b → b ≤ 10 ^ k →
    ∃ ν, MF μ ν ∧ (mnS pa lw fz (s 9) (a, b) (l.getD k 0) (l.drop (k + 1)) = none → ∀ Q, R (d + 4) 198 38 [some (.ref 110000011), some (.ref W), some (.int (nI l.length)), some (.long (lN (pa 2))), none, some (.int (nI (pa 3))), some (.int (nI k)), v7, v8, v9, v10, v11] [] μ Q = Q (some (.int (nI 0))) ν) ∧ ∀ a' b', mnS pa lw fz (s 9) (a, b) (l.getD k 0) (l.drop (k + 1)) = some (a', b') → rL ν 110000011 29 = lN (a' / Nat.gcd a' b') ∧ rL ν 110000011 30 = lN (b' / Nat.gcd a' b') ∧ ∀ Q, R (d + 4) 198 38 [some (.ref 110000011), some (.ref W), some (.int (nI l.length)), some (.long (lN (pa 2))), none, some (.int (nI (pa 3))), some (.int (nI k)), v7, v8, v9, v10, v11] [] μ Q = Q (some (.int (nI 1))) ν := by
  intro r
  induction r with
  | zero =>
    intro k μ a b v7 v8 v9 v10 v11 hk hM hL h28 ha hb hA hB1 hB2
    have e : l.drop (k + 1) = [] := List.drop_of_length_le (by omega)
    rw [e, mnS]
    refine ⟨μ, MF_rf μ, fun q => by simp at q, fun a' b' q => ?_⟩
    have q' : a = a' ∧ b = b' := by simpa using q
    obtain ⟨rfl, rfl⟩ := q'
    refine ⟨ha, hb, fun Q => ?_⟩
    rw [r198_38]
    simp (disch := first | assumption | omega) only [r198_40, r198_41, r198_42, r198_43, r198_183, r198_184, rI_wI, rL_wL, rR_wR, rI_wL, rI_wR, rL_wI, rL_wR, rR_wI, rR_wL, va_rf_some, va_rf_none, Option.toList_some, Option.toList_none, List.nil_append, List.cons_append, true_and, and_true, false_and, and_false, and_self, if_true, if_false, not_true_eq_false, not_false_eq_true, or_false, false_or, or_true, true_or, or_self, ite_true, ite_false, Option.some.injEq, reduceCtorEq, Nat.reduceMod, Nat.reduceDiv, Nat.reduceLeDiff, Nat.reduceEqDiff, Nat.reduceAdd, Nat.reduceMul, Nat.reduceSub, Nat.reduceLT, sw_nil, sw_int, sw_long, sw_ref, li, lo, nI_m1, ng_eq, nn_eq, en_eq, ng_le, ng_lt, Int32.neg_neg, nI_add, pk_mul, nI_clampO, nI_ltO, nI_leO, nI_eqO, nI_subO, nle_t, nle_f, nlt_t, nlt_f, neq_f]
  | succ r ih =>
    intro k μ a b v7 v8 v9 v10 v11 hk hM hL h28 ha hb hA hB1 hB2
    have hF := hM.1
    rw [dropc (show k + 1 < l.length by omega), mnS]
    have w1 := hL k (by omega)
    have w2 := hL (k + 1) (by omega)
    have hp := h7 k (by omega)
    have hq := h7 (k + 1) (by omega)
    have h9 := MH_9 hM
    obtain ⟨ν1, g1, g2, g3, g4, g5⟩ := mCh (d := d) (pc := s 9) hM hK.1 (a := l.getD k 0) (b := l.getD (k + 1) 0) hp hq hf h28
    have hc := chN_le pa lw fz (l.getD k 0) (l.getD (k + 1) 0) (s 9)
    have G1 : MF μ ν1 := ⟨g3, fun a j _ => g4 a j, g1.2.2.1, g1.2.2.2⟩
    by_cases h0 : chN pa lw fz (l.getD k 0) (l.getD (k + 1) 0) (s 9) = 0
    · rw [if_pos h0]
      refine ⟨ν1, G1, fun _ Q => ?_, fun a' b' q => by simp at q⟩
      rw [h0] at g5
      rw [r198_38]
      simp (disch := first | assumption | omega) only [r198_0, r198_1, r198_2, r198_5, r198_6, r198_7, r198_10, r198_11, r198_14, r198_15, r198_16, r198_17, r198_18, r198_19, r198_22, r198_23, r198_24, j198_25, r198_28, r198_29, r198_32, r198_33, r198_35, r198_36, r198_40, r198_41, r198_42, r198_43, r198_46, r198_47, r198_48, r198_50, r198_51, r198_52, r198_54, r198_55, r198_56, r198_57, r198_58, r198_61, r198_63, r198_64, r198_67, r198_69, r198_71, r198_74, r198_75, r198_76, r198_77, r198_78, r198_80, r198_81, r198_82, r198_84, r198_85, r198_86, r198_87, r198_88, r198_91, r198_93, r198_94, r198_97, r198_98, r198_100, r198_103, r198_105, r198_106, r198_107, r198_109, r198_111, r198_112, r198_113, r198_114, r198_115, r198_117, r198_118, r198_120, r198_123, r198_126, r198_127, r198_130, r198_131, r198_133, r198_134, r198_137, r198_138, r198_139, r198_142, r198_143, r198_146, r198_148, r198_149, r198_150, r198_152, r198_153, r198_156, r198_157, r198_158, r198_161, r198_162, r198_163, r198_166, r198_168, r198_169, r198_170, r198_173, r198_174, r198_177, r198_180, r198_183, r198_184, rI_wI, rL_wL, rR_wR, rI_wL, rI_wR, rL_wI, rL_wR, rR_wI, rR_wL, va_rf_some, va_rf_none, Option.toList_some, Option.toList_none, List.nil_append, List.cons_append, true_and, and_true, false_and, and_false, and_self, if_true, if_false, not_true_eq_false, not_false_eq_true, or_false, false_or, or_true, true_or, or_self, ite_true, ite_false, Option.some.injEq, reduceCtorEq, Nat.reduceMod, Nat.reduceDiv, Nat.reduceLeDiff, Nat.reduceEqDiff, Nat.reduceAdd, Nat.reduceMul, Nat.reduceSub, Nat.reduceLT, sw_nil, sw_int, sw_long, sw_ref, li, lo, nI_m1, ng_eq, nn_eq, en_eq, ng_le, ng_lt, Int32.neg_neg, nI_add, pk_mul, nI_clampO, nI_ltO, nI_leO, nI_eqO, nI_subO, nle_t, nle_f, nlt_t, nlt_f, neq_f, fx_2000010_0, fx_2000010_1, fx_2000010_4, fx_2000010_5, fx_2000010_6, fx_2000010_8, fx_2000010_10, fx_2000010_11, fx_2000010_12, fx_2000010_13, fx_2000010_14, fx_2000010_15, fx_2000010_16, fx_2000010_17, fx_2000010_18, fx_3000009_0, fx_5000007_0, fx_5000007_1, fx_5000007_2, fx_5000007_3, fx_7000001_0, fx_11000005_1, fx_11000005_2, fx_11000005_3, fx_11000005_4, fx_11000005_5, fx_11000005_6, fx_11000005_10, fx_11000005_11, fx_11000005_12, fx_20000002_0, fx_20000002_2, fx_20000002_3, fx_20000002_4, fx_25000005_1, fx_25000005_2, fx_25000005_3, fx_25000005_4, fx_25000005_5, fx_25000005_6, fx_25000005_10, fx_25000005_11, fx_25000005_12, fx_34000002_0, fx_34000002_2, fx_34000002_3, fx_34000002_4, fx_39000008_0, fx_41000006_0, fx_42002024_0, fx_42002024_1, fx_42002024_2, fx_42002024_3, fx_42002024_4, fx_42002024_5, fx_42002024_6, fx_42002024_7, fx_42002024_8, fx_42002024_9, fx_42002024_10, fx_42002024_11, fx_42002024_12, fx_42002024_13, fx_42002024_14, fx_42002024_15, fx_42002024_16, fx_42002024_17, fx_42002024_18, fx_42002024_19, fx_43000008_0, fx_45000008_0, fx_47000008_0, fx_49000008_0, fx_51000008_0, fx_53000008_0, fx_55000008_0, fx_57000008_0, fx_59000008_0, fx_61000008_0, fx_63000008_0, fx_65000008_0, fx_67000008_0, fx_69000008_0, fx_71000008_0, fx_73000008_0, fx_75000008_0, fx_77000008_0, fx_79000008_0, fx_81000008_0, fx_83000424_0, fx_83000424_1, fx_83000424_2, fx_83000424_3, fx_85000004_0, fx_85000004_1, fx_85000004_2, fx_85000004_3, fx_85000004_4, fx_85000004_5, fx_85000004_6, fx_85000004_10, fx_102000008_0, fx_104000008_0, fx_106000008_0, fx_108000008_0, fx_110000011_1, fx_110000011_4, fx_110000011_5, fx_110000011_6, fx_110000011_9, fx_110000011_10, fx_110000011_11, fx_110000011_12, fx_110000011_14, fx_110000011_15, fx_110000011_20, fx_110000011_21, fx_110000011_22, fx_110000011_23, fx_110000011_25, fx_110000011_26, fx_110000011_31, fx_110000011_32, fx_110000011_37, fx_110000011_38, fx_110000011_39, fx_110000011_40, hW, hW2, w1, w2, h9, g5]
    · rw [if_neg h0]
      have hM1 := MSc_MH g1 hM
      obtain ⟨ν2, m1, m2, m3, m4, m5⟩ := mSe (d := d) (pc := s 9) hM1 hK.1 (a := l.getD k 0) (b := l.getD (k + 1) 0) hp hq hf ((g2 28).trans h28)
      have G2 : MF ν1 ν2 := ⟨m3, fun a j _ => m4 a j, m1.2.2.1, m1.2.2.2⟩
      have hs := scN_le pa lw fz (l.getD k 0) (l.getD (k + 1) 0) (s 9)
      have hco := coN_le hK.1 lw fz (l.getD k 0) (l.getD (k + 1) 0) (s 9)
      have ee : 10 * scN pa lw fz (l.getD k 0) (l.getD (k + 1) 0) (s 9) + pa 2 * (10 - chN pa lw fz (l.getD k 0) (l.getD (k + 1) 0) (s 9)) = coN pa lw fz (l.getD k 0) (l.getD (k + 1) 0) (s 9) := by unfold coN; rw [Nat.mul_comm (pa 2)]
      have hg : 0 < Nat.gcd a b := Nat.gcd_pos_of_pos_right a hB1
      obtain ⟨x, hx⟩ := Nat.gcd_dvd_left a b
      obtain ⟨y, hy⟩ := Nat.gcd_dvd_right a b
      have ex : a / Nat.gcd a b = x := Nat.div_eq_of_eq_mul_right hg hx
      have ey : b / Nat.gcd a b = y := Nat.div_eq_of_eq_mul_right hg hy
      rw [ex] at ha
      rw [ey] at hb
      generalize hgg : Nat.gcd a b = gg at *
      generalize hcc : chN pa lw fz (l.getD k 0) (l.getD (k + 1) 0) (s 9) = c at *
      generalize htt : scN pa lw fz (l.getD k 0) (l.getD (k + 1) 0) (s 9) = t at *
      generalize hee : coN pa lw fz (l.getD k 0) (l.getD (k + 1) 0) (s 9) = e at *
      have hff : (if pa 3 = 1 then 10 else c) ≤ 10 := by split <;> omega
      have hxa : x ≤ a := by rw [hx]; exact Nat.le_mul_of_pos_left x hg
      have hyb : y ≤ b := by rw [hy]; exact Nat.le_mul_of_pos_left y hg
      have hy0 : 0 < y := by
        rcases Nat.eq_zero_or_pos y with q | q
        · rw [q, Nat.mul_zero] at hy; omega
        · exact q
      obtain ⟨B1, B2⟩ := fcB hxa hyb hA hB2 hc hff hco (show k ≤ 6 by omega)
      have hv0 : 0 < y * c := Nat.mul_pos hy0 (by omega)
      have e1 : a * (if pa 3 = 1 then 10 else c) + e * b = gg * (x * (if pa 3 = 1 then 10 else c) + e * y) := by
        rw [Nat.mul_add, ← Nat.mul_assoc, ← hx, ← Nat.mul_assoc gg e y, Nat.mul_comm gg e, Nat.mul_assoc e gg y, ← hy]
      have e2 : b * c = gg * (y * c) := by rw [← Nat.mul_assoc, ← hy]
      have st := fun Q => c198_s (d := d) (s := s) (Q := Q) (k := k) (n := l.length) (pk := pa 2) (fr := pa 3) (v7 := v7) (v8 := v8) (v9 := v9) (v10 := v10) (v11 := v11) hF hM1.1 hW hW2 (by omega) hl hc h0 hs hK.1.1.2.2.2.1 hK.1.1.2.2.1 w1 w2 ((g3 _ _ hW3.1 hW3.2).trans w1) ((g3 _ _ hW3.1 hW3.2).trans w2) h9 (MH_9 hM1) g5 m5 ((m4 _ _).trans ((g4 _ _).trans ha)) ((m4 _ _).trans ((g4 _ _).trans hb)) ee B1 hv0 B2
      have G3 : MF μ (finM (mw2 ν2 (x * (if pa 3 = 1 then 10 else c) + e * y) (y * c)) (x * (if pa 3 = 1 then 10 else c) + e * y) (y * c) (Nat.gcd (x * (if pa 3 = 1 then 10 else c) + e * y) (y * c))) := MF_tr G1 (MF_tr G2 (MF_tr (MF_mw2 _ _ _) (MF_mw2 _ _ _)))
      have A1 : a * (if pa 3 = 1 then 10 else c) + e * b ≤ 2970 * (k + 1) * 10 ^ (k + 1) := by
        have hm : a * (if pa 3 = 1 then 10 else c) ≤ (2970 * k * 10 ^ k) * 10 := Nat.mul_le_mul hA hff
        have hm2 : e * b ≤ 2970 * 10 ^ k := Nat.mul_le_mul hco hB2
        have e3 : 2970 * (k + 1) * 10 ^ (k + 1) = (2970 * k * 10 ^ k) * 10 + 2970 * 10 ^ k * 10 := by
          rw [Nat.pow_succ, Nat.mul_add, Nat.mul_one, Nat.add_mul, Nat.mul_assoc (2970 * k), Nat.mul_assoc 2970 (10 ^ k)]
        omega
      have A2 : 1 ≤ b * c := Nat.mul_pos hB1 (by omega)
      have A3 : b * c ≤ 10 ^ (k + 1) := by
        rw [Nat.pow_succ]
        exact Nat.mul_le_mul hB2 hc
      obtain ⟨ν, n1, n2, n3⟩ := ih (k + 1) _ (a * (if pa 3 = 1 then 10 else c) + e * b) (b * c) (some (.int (nI c))) (some (.long (lN t))) none (some (.long (lN e))) none (by omega) (MSc_MH (MF_MSc G3) hM) (fun i hi => (G3.1 _ _ hW3.1 hW3.2).trans (hL i hi)) ((G3.1 _ _ (by decide) (by decide)).trans h28) (by rw [e1, e2, red_mul hg]; exact mw2_0 _ _ _) (by rw [e1, e2, red_mul2 hg]; exact mw2_1 _ _ _) A1 A2 A3
      refine ⟨ν, MF_tr G3 n1, fun q Q => ?_, fun a' b' q => ⟨(n3 a' b' q).1, (n3 a' b' q).2.1, fun Q => ?_⟩⟩
      · rw [st]; exact n2 q Q
      · rw [st]; exact (n3 a' b' q).2.2 Q
end T1
