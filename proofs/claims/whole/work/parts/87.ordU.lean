/-! ORDERS: LENGTHENING ONE SET -/
def MI (m : List Nat → Option (Nat × Nat)) (μ : PM) (L : Nat → Nat → List (List Nat)) : Prop := ∀ T z, T < 128 → z < 7 → rI μ 86089620 (T * 7 + z) = nI (L T z).length ∧ RB m μ (T * 7 + z) (L T z)
/-- chances and costs are read -/
def CCh (μ : PM) (pa : Nat → Nat) (lw : LW) (ob fz pc : Nat) : Prop := ∀ q p, q < pa 0 → p < pa 0 → bt ob q = 0 → bt ob p = 0 → q ≠ p → rI μ 90004920 (q * 7 + p) = nI (chN pa lw fz q p pc) ∧ rI μ 91004920 (q * 7 + p) = nI (coN pa lw fz q p pc)
def LQ (μ ν : PM) : Prop := CSc μ ν ∧ (∀ j, rI ν 90004920 j = rI μ 90004920 j) ∧ ∀ j, rI ν 91004920 j = rI μ 91004920 j
theorem LQ_rf (μ : PM) : LQ μ μ := ⟨CSc_rf μ, fun _ => rfl, fun _ => rfl⟩
theorem LQ_tr {μ ν ρ : PM} (h : LQ μ ν) (k : LQ ν ρ) : LQ μ ρ := ⟨CSc_tr h.1 k.1, fun j => (k.2.1 j).trans (h.2.1 j), fun j => (k.2.2 j).trans (h.2.2 j)⟩
theorem LQ_CC {μ ν : PM} {pa : Nat → Nat} {lw : LW} {ob fz pc : Nat} (h : LQ μ ν) (k : CCh μ pa lw ob fz pc) : CCh ν pa lw ob fz pc := fun q p h1 h2 h3 h4 h5 => ⟨(h.2.1 _).trans (k q p h1 h2 h3 h4 h5).1, (h.2.2 _).trans (k q p h1 h2 h3 h4 h5).2⟩
theorem RB_of {m : List Nat → Option (Nat × Nat)} {μ ν : PM} {i t : Nat} {X : List (List Nat)} (h : OF t μ ν) (hi : i ≠ t) (k : RB m μ i X) : RB m ν i X := by
  obtain ⟨o, k1, k2, k3⟩ := k
  refine ⟨o, k1, fun q => (h.2.1 _ _ (fun e => hi e.2) (by decide)).trans (k2 q), fun r a b q => ?_⟩
  obtain ⟨z1, z2, z3⟩ := k3 r a b q
  exact ⟨(h.2.1 _ _ (fun e => hi e.2) (by decide)).trans z1, (h.2.1 _ _ (fun e => hi e.2) (by decide)).trans z2, (h.1 _ _ (fun e => hi e.2)).trans z3⟩
section T1
variable {d : Nat} {μ : PM} {pa : Nat → Nat} {lw : LW} {ob fz pc : Nat}
/-- the one step where something is offered -/
theorem c43_y (hF : FX μ) (hC : CPt μ pa lw) (hP : PK pa) {P : Nat} (hr : rR μ 2000010 2 = some P) {S q p all : Nat} {L : Nat → Nat → List (List Nat)} (hS : S + 2 ^ p < 128) (hb : bt S p = 0) (hq : q < 7) (h7 : p < 7) (hJ : J pa ob (49 * S + 7 * q + p) L) (hM : MI (mR pa lw fz pc) μ L) (hCC : CCh μ pa lw ob fz pc) (ha : alw pa ob S q p) (hne : 0 < (L S q).length) {v7 v8 : Option Value} :
    ∃ ν, LQ μ ν ∧ MI (mR pa lw fz pc) ν (L2 L S q p) ∧ ∀ Q, R (d + 3) 43 76 [some (.ref 85000004), some (.ref P), some (.int (nI S)), some (.int (nI all)), some (.int (nI q)), some (.int (nI (S * 7 + q))), some (.int (nI p)), v7, v8] [] μ Q = R (d + 3) 43 127 [some (.ref 85000004), some (.ref P), some (.int (nI S)), some (.int (nI all)), some (.int (nI q)), some (.int (nI (S * 7 + q))), some (.int (nI p)), v7, some (.int (nI ((S + 2 ^ p) * 7 + p)))] [] ν Q := by
  have hp0 := hP.1.1
  obtain ⟨l0, hl0⟩ : ∃ l, l ∈ L S q := by
    cases hL : L S q with
    | nil => rw [hL] at hne; simp at hne
    | cons x t => exact ⟨x, List.mem_cons_self⟩
  have hel : ∀ l, l ∈ L S q → vR pa ob l ∧ vR pa ob (p :: l) ∧ ∃ t, l = q :: t := by
    intro l hl
    obtain ⟨m1, m2, m3, m4, -⟩ := (hJ.2 S q l).mp hl
    have h2 := J_y hp0 hJ hq h7 ha
    have h3 : p :: l ∈ L2 L S q p (S + 2 ^ p) p := by
      unfold L2
      rw [if_pos ⟨rfl, rfl⟩]
      exact List.mem_append_right _ (List.mem_map.mpr ⟨l, hl, rfl⟩)
    refine ⟨m1, ((h2.2 _ _ _).mp h3).1, ?_⟩
    cases l with
    | nil => exact absurd rfl m2
    | cons x t => exact ⟨t, by rw [show x = q from m4]⟩
  have hqin : q < pa 0 ∧ bt ob q = 0 ∧ bt S q = 1 := by
    obtain ⟨h1, -, t, h3⟩ := hel l0 hl0
    obtain ⟨nd, el⟩ := vR_el h1
    have hm : q ∈ l0 := by rw [h3]; exact List.mem_cons_self
    obtain ⟨-, sb⟩ := sR_b nd (fun x hx => by have := (el x hx).1; omega)
    rw [((hJ.2 S q l0).mp hl0).2.2.1] at sb
    exact ⟨(el q hm).1, (el q hm).2, (sb q hq).mpr hm⟩
  have hqp : q ≠ p := fun e => by rw [e] at hqin; omega
  obtain ⟨cc1, cc2⟩ := hCC q p hqin.1 ha.1 hqin.2.1 ha.2.1 hqp
  have hpow : 0 < 2 ^ p := Nat.pow_pos (by omega)
  obtain ⟨h5, hfr, -⟩ := cMs (d := 0) hF hC hP hr (S := S) (by omega) hqin.1 ha.1
  have eS : sbN S p = S + 2 ^ p := by unfold sbN; rw [if_pos hb]
  have so := sbN_or S (by omega) p h7
  rw [eS] at so
  have i1 := hM S q (by omega) hq
  have i2 := hM (S + 2 ^ p) p hS h7
  have cn1 := nd_cnt hp0 (hJ.1 S q) (fun l hl => ((hJ.2 S q l).mp hl).1)
  have cn2 := nd_cnt hp0 (hJ.1 (S + 2 ^ p) p) (fun l hl => ((hJ.2 (S + 2 ^ p) p l).mp hl).1)
  have hX1 : EX [86089620] μ (wI μ 86089620 ((S + 2 ^ p) * 7 + p) (nI ((L (S + 2 ^ p) p).length + (L S q).length))) := EX_wI _ _ _ _
  have hF1 := EX_FX hX1 hF
  have rb1 : ∀ i X, RB (mR pa lw fz pc) μ i X → RB (mR pa lw fz pc) (wI μ 86089620 ((S + 2 ^ p) * 7 + p) (nI ((L (S + 2 ^ p) p).length + (L S q).length))) i X := by
    intro i X k
    obtain ⟨o, k1, k2, k3⟩ := k
    exact ⟨o, k1, k2, fun r a b q => ⟨(k3 r a b q).1, (k3 r a b q).2.1, (EX_I hX1 (by decide)).trans (k3 r a b q).2.2⟩⟩
  obtain ⟨ν, n1, n2, n3⟩ := c44 (d := d) (lw := lw) (ob := ob) (fz := fz) (pc := pc) hF1 hP (f := S * 7 + q) (t := (S + 2 ^ p) * 7 + p) (q := q) (p := p) (by omega) (by omega) hq h7 (rb1 _ _ i2.2) (rb1 _ _ i1.2) (fun l hl => ((hJ.2 _ _ l).mp hl).1) hel ((EX_I hX1 (by decide)).trans cc1) ((EX_I hX1 (by decide)).trans cc2)
  have hLQ1 : LQ μ (wI μ 86089620 ((S + 2 ^ p) * 7 + p) (nI ((L (S + 2 ^ p) p).length + (L S q).length))) := ⟨CSc_wI μ _ _ (by omega), fun j => EX_I hX1 (by decide), fun j => EX_I hX1 (by decide)⟩
  have hLQ2 : LQ (wI μ 86089620 ((S + 2 ^ p) * 7 + p) (nI ((L (S + 2 ^ p) p).length + (L S q).length))) ν := ⟨OF_CSc n1, fun j => n1.1 _ _ (by omega), fun j => n1.1 _ _ (by omega)⟩
  refine ⟨ν, LQ_tr hLQ1 hLQ2, fun T z hT hz => ?_, fun Q => ?_⟩
  · unfold L2
    by_cases e : T = S + 2 ^ p ∧ z = p
    · obtain ⟨rfl, rfl⟩ := e
      rw [if_pos ⟨rfl, rfl⟩]
      refine ⟨?_, n2⟩
      rw [n1.1 _ _ (by omega), rI_wI, if_pos ⟨rfl, rfl⟩, List.length_append, List.length_map]
    · rw [if_neg e]
      have hne2 : T * 7 + z ≠ (S + 2 ^ p) * 7 + p := fun q => e ⟨by omega, by omega⟩
      obtain ⟨k1, k2⟩ := hM T z hT hz
      refine ⟨?_, RB_of n1 hne2 (rb1 _ _ k2)⟩
      rw [n1.1 _ _ (by omega), rI_wI, if_neg (fun q => hne2 q.2.symm)]
      exact k1
  · have w1 := i1.1
    have w2 := i2.1
    have hP2 : rI (wI μ 86089620 ((S + 2 ^ p) * 7 + p) (nI ((L (S + 2 ^ p) p).length + (L S q).length))) P 13 = nI (pa 3) := (EX_I hX1 (by intro q; simp at q; omega)).trans hfr
    simp (disch := first | assumption | omega) only [r43_0, r43_1, r43_3, r43_5, r43_7, r43_10, r43_11, r43_13, r43_14, r43_16, r43_17, r43_19, r43_20, r43_22, r43_24, r43_26, r43_29, r43_30, r43_33, r43_35, r43_36, r43_39, r43_40, r43_41, r43_42, r43_43, r43_44, r43_46, r43_47, r43_48, j43_49, r43_52, r43_53, r43_56, r43_57, r43_59, r43_61, r43_64, r43_65, r43_67, r43_69, r43_70, r43_73, r43_76, r43_77, r43_78, r43_80, r43_81, r43_82, r43_84, r43_85, r43_87, r43_88, r43_90, r43_91, r43_94, r43_96, r43_97, r43_98, r43_99, r43_102, r43_104, r43_105, r43_106, r43_107, r43_108, r43_110, r43_112, r43_114, r43_116, r43_117, r43_119, r43_120, r43_121, r43_124, r43_130, r43_133, r43_136, r43_139, rI_wI, rL_wL, rR_wR, rI_wL, rI_wR, rL_wI, rL_wR, rR_wI, rR_wL, va_rf_some, va_rf_none, Option.toList_some, Option.toList_none, List.nil_append, List.cons_append, true_and, and_true, false_and, and_false, and_self, if_true, if_false, not_true_eq_false, not_false_eq_true, or_false, false_or, or_true, true_or, or_self, ite_true, ite_false, Option.some.injEq, reduceCtorEq, Nat.reduceMod, Nat.reduceDiv, Nat.reduceLeDiff, Nat.reduceEqDiff, Nat.reduceAdd, Nat.reduceMul, Nat.reduceSub, Nat.reduceLT, sw_nil, sw_int, sw_long, sw_ref, li, lo, nI_m1, ng_eq, nn_eq, en_eq, ng_le, ng_lt, Int32.neg_neg, nI_add, pk_mul, nI_clampO, nI_ltO, nI_leO, nI_eqO, nI_subO, nle_t, nle_f, nlt_t, nlt_f, neq_f, fx_2000010_0, fx_2000010_1, fx_2000010_4, fx_2000010_5, fx_2000010_6, fx_2000010_8, fx_2000010_10, fx_2000010_11, fx_2000010_12, fx_2000010_13, fx_2000010_14, fx_2000010_15, fx_2000010_16, fx_2000010_17, fx_2000010_18, fx_3000009_0, fx_5000007_0, fx_5000007_1, fx_5000007_2, fx_5000007_3, fx_7000001_0, fx_11000005_1, fx_11000005_2, fx_11000005_3, fx_11000005_4, fx_11000005_5, fx_11000005_6, fx_11000005_10, fx_11000005_11, fx_11000005_12, fx_20000002_0, fx_20000002_2, fx_20000002_3, fx_20000002_4, fx_25000005_1, fx_25000005_2, fx_25000005_3, fx_25000005_4, fx_25000005_5, fx_25000005_6, fx_25000005_10, fx_25000005_11, fx_25000005_12, fx_34000002_0, fx_34000002_2, fx_34000002_3, fx_34000002_4, fx_39000008_0, fx_41000006_0, fx_42002024_0, fx_42002024_1, fx_42002024_2, fx_42002024_3, fx_42002024_4, fx_42002024_5, fx_42002024_6, fx_42002024_7, fx_42002024_8, fx_42002024_9, fx_42002024_10, fx_42002024_11, fx_42002024_12, fx_42002024_13, fx_42002024_14, fx_42002024_15, fx_42002024_16, fx_42002024_17, fx_42002024_18, fx_42002024_19, fx_43000008_0, fx_45000008_0, fx_47000008_0, fx_49000008_0, fx_51000008_0, fx_53000008_0, fx_55000008_0, fx_57000008_0, fx_59000008_0, fx_61000008_0, fx_63000008_0, fx_65000008_0, fx_67000008_0, fx_69000008_0, fx_71000008_0, fx_73000008_0, fx_75000008_0, fx_77000008_0, fx_79000008_0, fx_81000008_0, fx_83000424_0, fx_83000424_1, fx_83000424_2, fx_83000424_3, fx_85000004_0, fx_85000004_1, fx_85000004_2, fx_85000004_3, fx_85000004_4, fx_85000004_5, fx_85000004_6, fx_85000004_10, fx_102000008_0, fx_104000008_0, fx_106000008_0, fx_108000008_0, fx_110000011_1, fx_110000011_4, fx_110000011_5, fx_110000011_6, fx_110000011_9, fx_110000011_10, fx_110000011_11, fx_110000011_12, fx_110000011_14, fx_110000011_15, fx_110000011_20, fx_110000011_21, fx_110000011_22, fx_110000011_23, fx_110000011_25, fx_110000011_26, fx_110000011_31, fx_110000011_32, fx_110000011_37, fx_110000011_38, fx_110000011_39, fx_110000011_40, so, w1, w2, h5, hP2, n3]
/-- all who may come next behind one -/
theorem c43_n (hP : PK pa) {P : Nat} {S q all : Nat} (hS1 : 1 ≤ S) (hS : S < 128) (hal : all < 128) (hA : ∀ p, p < 7 → (bt all p = 1 ↔ p < pa 0 ∧ bt ob p = 0)) (hq : q < 7) : ∀ (r k : Nat) (L : Nat → Nat → List (List Nat)) (μ : PM) (v7 v8 : Option Value), k + r = 7 → FX μ → CPt μ pa lw → rR μ 2000010 2 = some P → J pa ob (49 * S + 7 * q + k) L → MI (mR pa lw fz pc) μ L → CCh μ pa lw ob fz pc →
    ∃ ν L' w6 w7 w8, LQ μ ν ∧ J pa ob (49 * S + 7 * (q + 1)) L' ∧ MI (mR pa lw fz pc) ν L' ∧ ∀ Q, R (d + 3) 43 22 [some (.ref 85000004), some (.ref P), some (.int (nI S)), some (.int (nI all)), some (.int (nI q)), some (.int (nI (S * 7 + q))), some (.int (nI k)), v7, v8] [] μ Q = R (d + 3) 43 133 [some (.ref 85000004), some (.ref P), some (.int (nI S)), some (.int (nI all)), some (.int (nI q)), some (.int (nI (S * 7 + q))), w6, w7, w8] [] ν Q := by
  have hp0 := hP.1.1
  intro r
  induction r with
  | zero =>
    intro k L μ v7 v8 hk hF hC hr hJ hM hCC
    obtain rfl : k = 7 := by omega
    refine ⟨μ, L, some (.int (nI 7)), v7, v8, LQ_rf μ, by rw [show 49 * S + 7 * (q + 1) = 49 * S + 7 * q + 7 by omega]; exact hJ, hM, fun Q => ?_⟩
    rw [r43_22]
    simp (disch := first | assumption | omega) only [r43_24, r43_26, rI_wI, rL_wL, rR_wR, rI_wL, rI_wR, rL_wI, rL_wR, rR_wI, rR_wL, va_rf_some, va_rf_none, Option.toList_some, Option.toList_none, List.nil_append, List.cons_append, true_and, and_true, false_and, and_false, and_self, if_true, if_false, not_true_eq_false, not_false_eq_true, or_false, false_or, or_true, true_or, or_self, ite_true, ite_false, Option.some.injEq, reduceCtorEq, Nat.reduceMod, Nat.reduceDiv, Nat.reduceLeDiff, Nat.reduceEqDiff, Nat.reduceAdd, Nat.reduceMul, Nat.reduceSub, Nat.reduceLT, sw_nil, sw_int, sw_long, sw_ref, li, lo, nI_m1, ng_eq, nn_eq, en_eq, ng_le, ng_lt, Int32.neg_neg, nI_add, pk_mul, nI_clampO, nI_ltO, nI_leO, nI_eqO, nI_subO, nle_t, nle_f, nlt_t, nlt_f, neq_f]
  | succ r ih =>
    intro k L μ v7 v8 hk hF hC hr hJ hM hCC
    have w1 := (hM S q hS hq).1
    have cn1 := nd_cnt hp0 (hJ.1 S q) (fun l hl => ((hJ.2 S q l).mp hl).1)
    by_cases he : (L S q).length = 0
    · have he' : L S q = [] := List.length_eq_zero_iff.mp he
      rw [he] at w1
      refine ⟨μ, L, some (.int (nI k)), v7, v8, LQ_rf μ, J_n hp0 hJ hq (by omega) (by omega) (by omega) he', hM, fun Q => ?_⟩
      rw [r43_22]
      simp (disch := first | assumption | omega) only [r43_24, r43_26, r43_29, r43_30, r43_33, r43_35, r43_36, rI_wI, rL_wL, rR_wR, rI_wL, rI_wR, rL_wI, rL_wR, rR_wI, rR_wL, va_rf_some, va_rf_none, Option.toList_some, Option.toList_none, List.nil_append, List.cons_append, true_and, and_true, false_and, and_false, and_self, if_true, if_false, not_true_eq_false, not_false_eq_true, or_false, false_or, or_true, true_or, or_self, ite_true, ite_false, Option.some.injEq, reduceCtorEq, Nat.reduceMod, Nat.reduceDiv, Nat.reduceLeDiff, Nat.reduceEqDiff, Nat.reduceAdd, Nat.reduceMul, Nat.reduceSub, Nat.reduceLT, sw_nil, sw_int, sw_long, sw_ref, li, lo, nI_m1, ng_eq, nn_eq, en_eq, ng_le, ng_lt, Int32.neg_neg, nI_add, pk_mul, nI_clampO, nI_ltO, nI_leO, nI_eqO, nI_subO, nle_t, nle_f, nlt_t, nlt_f, neq_f, fx_2000010_0, fx_2000010_1, fx_2000010_4, fx_2000010_5, fx_2000010_6, fx_2000010_8, fx_2000010_10, fx_2000010_11, fx_2000010_12, fx_2000010_13, fx_2000010_14, fx_2000010_15, fx_2000010_16, fx_2000010_17, fx_2000010_18, fx_3000009_0, fx_5000007_0, fx_5000007_1, fx_5000007_2, fx_5000007_3, fx_7000001_0, fx_11000005_1, fx_11000005_2, fx_11000005_3, fx_11000005_4, fx_11000005_5, fx_11000005_6, fx_11000005_10, fx_11000005_11, fx_11000005_12, fx_20000002_0, fx_20000002_2, fx_20000002_3, fx_20000002_4, fx_25000005_1, fx_25000005_2, fx_25000005_3, fx_25000005_4, fx_25000005_5, fx_25000005_6, fx_25000005_10, fx_25000005_11, fx_25000005_12, fx_34000002_0, fx_34000002_2, fx_34000002_3, fx_34000002_4, fx_39000008_0, fx_41000006_0, fx_42002024_0, fx_42002024_1, fx_42002024_2, fx_42002024_3, fx_42002024_4, fx_42002024_5, fx_42002024_6, fx_42002024_7, fx_42002024_8, fx_42002024_9, fx_42002024_10, fx_42002024_11, fx_42002024_12, fx_42002024_13, fx_42002024_14, fx_42002024_15, fx_42002024_16, fx_42002024_17, fx_42002024_18, fx_42002024_19, fx_43000008_0, fx_45000008_0, fx_47000008_0, fx_49000008_0, fx_51000008_0, fx_53000008_0, fx_55000008_0, fx_57000008_0, fx_59000008_0, fx_61000008_0, fx_63000008_0, fx_65000008_0, fx_67000008_0, fx_69000008_0, fx_71000008_0, fx_73000008_0, fx_75000008_0, fx_77000008_0, fx_79000008_0, fx_81000008_0, fx_83000424_0, fx_83000424_1, fx_83000424_2, fx_83000424_3, fx_85000004_0, fx_85000004_1, fx_85000004_2, fx_85000004_3, fx_85000004_4, fx_85000004_5, fx_85000004_6, fx_85000004_10, fx_102000008_0, fx_104000008_0, fx_106000008_0, fx_108000008_0, fx_110000011_1, fx_110000011_4, fx_110000011_5, fx_110000011_6, fx_110000011_9, fx_110000011_10, fx_110000011_11, fx_110000011_12, fx_110000011_14, fx_110000011_15, fx_110000011_20, fx_110000011_21, fx_110000011_22, fx_110000011_23, fx_110000011_25, fx_110000011_26, fx_110000011_31, fx_110000011_32, fx_110000011_37, fx_110000011_38, fx_110000011_39, fx_110000011_40, w1, Nat.le_refl]
    · have hq0 : q < pa 0 := by
        cases hL : L S q with
        | nil => rw [hL] at he; simp at he
        | cons x t =>
          have hx : x ∈ L S q := by rw [hL]; exact List.mem_cons_self
          obtain ⟨m1, m2, m3, m4, -⟩ := (hJ.2 S q x).mp hx
          cases x with
          | nil => exact absurd rfl m2
          | cons y t' => rw [← show y = q from m4]; exact m1.2.1
      have hd := an_D all hal S hS
      have hle : all - (all &&& S) < 128 := by omega
      have hE := an_E all hal S hS k (by omega)
      rcases bt_01 (all - (all &&& S)) k with e | e
      · have hn : ¬ alw pa ob S q k := fun ha => by
          have := hE.mpr ⟨(hA k (by omega)).mpr ⟨ha.1, ha.2.1⟩, ha.2.2.1⟩
          omega
        obtain ⟨ν, L', w6, w7, w8, k1, k2, k3, k4⟩ := ih (k + 1) L μ (some (.int (nI 0))) v8 (by omega) hF hC hr (J_m hp0 hJ hq (by omega) hn) hM hCC
        refine ⟨ν, L', w6, w7, w8, k1, k2, k3, fun Q => ?_⟩
        rw [r43_22]
        simp (disch := first | assumption | omega) only [r43_0, r43_1, r43_3, r43_5, r43_7, r43_10, r43_11, r43_13, r43_14, r43_16, r43_17, r43_19, r43_20, r43_24, r43_26, r43_29, r43_30, r43_33, r43_35, r43_36, r43_39, r43_40, r43_41, r43_42, r43_43, r43_44, r43_46, r43_47, r43_48, j43_49, r43_52, r43_53, r43_56, r43_57, r43_59, r43_61, r43_64, r43_65, r43_67, r43_69, r43_70, r43_73, r43_76, r43_77, r43_78, r43_80, r43_81, r43_82, r43_84, r43_85, r43_87, r43_88, r43_90, r43_91, r43_94, r43_96, r43_97, r43_98, r43_99, r43_102, r43_104, r43_105, r43_106, r43_107, r43_108, r43_110, r43_112, r43_114, r43_116, r43_117, r43_119, r43_120, r43_121, r43_124, r43_127, r43_130, r43_136, r43_139, rI_wI, rL_wL, rR_wR, rI_wL, rI_wR, rL_wI, rL_wR, rR_wI, rR_wL, va_rf_some, va_rf_none, Option.toList_some, Option.toList_none, List.nil_append, List.cons_append, true_and, and_true, false_and, and_false, and_self, if_true, if_false, not_true_eq_false, not_false_eq_true, or_false, false_or, or_true, true_or, or_self, ite_true, ite_false, Option.some.injEq, reduceCtorEq, Nat.reduceMod, Nat.reduceDiv, Nat.reduceLeDiff, Nat.reduceEqDiff, Nat.reduceAdd, Nat.reduceMul, Nat.reduceSub, Nat.reduceLT, sw_nil, sw_int, sw_long, sw_ref, li, lo, nI_m1, ng_eq, nn_eq, en_eq, ng_le, ng_lt, Int32.neg_neg, nI_add, pk_mul, nI_clampO, nI_ltO, nI_leO, nI_eqO, nI_subO, nle_t, nle_f, nlt_t, nlt_f, neq_f, fx_2000010_0, fx_2000010_1, fx_2000010_4, fx_2000010_5, fx_2000010_6, fx_2000010_8, fx_2000010_10, fx_2000010_11, fx_2000010_12, fx_2000010_13, fx_2000010_14, fx_2000010_15, fx_2000010_16, fx_2000010_17, fx_2000010_18, fx_3000009_0, fx_5000007_0, fx_5000007_1, fx_5000007_2, fx_5000007_3, fx_7000001_0, fx_11000005_1, fx_11000005_2, fx_11000005_3, fx_11000005_4, fx_11000005_5, fx_11000005_6, fx_11000005_10, fx_11000005_11, fx_11000005_12, fx_20000002_0, fx_20000002_2, fx_20000002_3, fx_20000002_4, fx_25000005_1, fx_25000005_2, fx_25000005_3, fx_25000005_4, fx_25000005_5, fx_25000005_6, fx_25000005_10, fx_25000005_11, fx_25000005_12, fx_34000002_0, fx_34000002_2, fx_34000002_3, fx_34000002_4, fx_39000008_0, fx_41000006_0, fx_42002024_0, fx_42002024_1, fx_42002024_2, fx_42002024_3, fx_42002024_4, fx_42002024_5, fx_42002024_6, fx_42002024_7, fx_42002024_8, fx_42002024_9, fx_42002024_10, fx_42002024_11, fx_42002024_12, fx_42002024_13, fx_42002024_14, fx_42002024_15, fx_42002024_16, fx_42002024_17, fx_42002024_18, fx_42002024_19, fx_43000008_0, fx_45000008_0, fx_47000008_0, fx_49000008_0, fx_51000008_0, fx_53000008_0, fx_55000008_0, fx_57000008_0, fx_59000008_0, fx_61000008_0, fx_63000008_0, fx_65000008_0, fx_67000008_0, fx_69000008_0, fx_71000008_0, fx_73000008_0, fx_75000008_0, fx_77000008_0, fx_79000008_0, fx_81000008_0, fx_83000424_0, fx_83000424_1, fx_83000424_2, fx_83000424_3, fx_85000004_0, fx_85000004_1, fx_85000004_2, fx_85000004_3, fx_85000004_4, fx_85000004_5, fx_85000004_6, fx_85000004_10, fx_102000008_0, fx_104000008_0, fx_106000008_0, fx_108000008_0, fx_110000011_1, fx_110000011_4, fx_110000011_5, fx_110000011_6, fx_110000011_9, fx_110000011_10, fx_110000011_11, fx_110000011_12, fx_110000011_14, fx_110000011_15, fx_110000011_20, fx_110000011_21, fx_110000011_22, fx_110000011_23, fx_110000011_25, fx_110000011_26, fx_110000011_31, fx_110000011_32, fx_110000011_37, fx_110000011_38, fx_110000011_39, fx_110000011_40, w1, hd, shr_1, e, k4]
      · obtain ⟨g1, g2⟩ := hE.mp e
        obtain ⟨g3, g4⟩ := (hA k (by omega)).mp g1
        obtain ⟨h5, -, ms⟩ := cMs (d := d + 2) hF hC hP hr (S := S) hS hq0 g3
        rcases Classical.em (msP pa S q k) with e2 | e2
        · have ha : alw pa ob S q k := ⟨g3, g4, g2, e2.1, e2.2⟩
          have hlt : S + 2 ^ k < 128 := by
            have := (sbN_b S hS k (by omega)).1
            unfold sbN at this
            rw [if_pos g2] at this
            exact this
          obtain ⟨ν1, n1, n2, n3⟩ := c43_y (d := d) (all := all) hF hC hP hr hlt g2 hq (by omega) hJ hM hCC ha (by omega) (v7 := some (.int (nI 1))) (v8 := v8)
          obtain ⟨ν, L', w6, w7, w8, k1, k2, k3, k4⟩ := ih (k + 1) (L2 L S q k) ν1 (some (.int (nI 1))) (some (.int (nI ((S + 2 ^ k) * 7 + k)))) (by omega) (CSc_FX n1.1 hF) (CSc_CPt n1.1 hC) ((n1.1.2.2.1 _ _).trans hr) (J_y hp0 hJ hq (by omega) ha) n2 (LQ_CC n1 hCC)
          refine ⟨ν, L', w6, w7, w8, LQ_tr n1 k1, k2, k3, fun Q => ?_⟩
          rw [pN_t e2] at ms
          rw [r43_22]
          simp (disch := first | assumption | omega) only [r43_0, r43_1, r43_3, r43_5, r43_7, r43_10, r43_11, r43_13, r43_14, r43_16, r43_17, r43_19, r43_20, r43_24, r43_26, r43_29, r43_30, r43_33, r43_35, r43_36, r43_39, r43_40, r43_41, r43_42, r43_43, r43_44, r43_46, r43_47, r43_48, j43_49, r43_52, r43_53, r43_56, r43_57, r43_59, r43_61, r43_64, r43_65, r43_67, r43_69, r43_70, r43_73, r43_77, r43_78, r43_80, r43_81, r43_82, r43_84, r43_85, r43_87, r43_88, r43_90, r43_91, r43_94, r43_96, r43_97, r43_98, r43_99, r43_102, r43_104, r43_105, r43_106, r43_107, r43_108, r43_110, r43_112, r43_114, r43_116, r43_117, r43_119, r43_120, r43_121, r43_124, r43_127, r43_130, r43_136, r43_139, rI_wI, rL_wL, rR_wR, rI_wL, rI_wR, rL_wI, rL_wR, rR_wI, rR_wL, va_rf_some, va_rf_none, Option.toList_some, Option.toList_none, List.nil_append, List.cons_append, true_and, and_true, false_and, and_false, and_self, if_true, if_false, not_true_eq_false, not_false_eq_true, or_false, false_or, or_true, true_or, or_self, ite_true, ite_false, Option.some.injEq, reduceCtorEq, Nat.reduceMod, Nat.reduceDiv, Nat.reduceLeDiff, Nat.reduceEqDiff, Nat.reduceAdd, Nat.reduceMul, Nat.reduceSub, Nat.reduceLT, sw_nil, sw_int, sw_long, sw_ref, li, lo, nI_m1, ng_eq, nn_eq, en_eq, ng_le, ng_lt, Int32.neg_neg, nI_add, pk_mul, nI_clampO, nI_ltO, nI_leO, nI_eqO, nI_subO, nle_t, nle_f, nlt_t, nlt_f, neq_f, fx_2000010_0, fx_2000010_1, fx_2000010_4, fx_2000010_5, fx_2000010_6, fx_2000010_8, fx_2000010_10, fx_2000010_11, fx_2000010_12, fx_2000010_13, fx_2000010_14, fx_2000010_15, fx_2000010_16, fx_2000010_17, fx_2000010_18, fx_3000009_0, fx_5000007_0, fx_5000007_1, fx_5000007_2, fx_5000007_3, fx_7000001_0, fx_11000005_1, fx_11000005_2, fx_11000005_3, fx_11000005_4, fx_11000005_5, fx_11000005_6, fx_11000005_10, fx_11000005_11, fx_11000005_12, fx_20000002_0, fx_20000002_2, fx_20000002_3, fx_20000002_4, fx_25000005_1, fx_25000005_2, fx_25000005_3, fx_25000005_4, fx_25000005_5, fx_25000005_6, fx_25000005_10, fx_25000005_11, fx_25000005_12, fx_34000002_0, fx_34000002_2, fx_34000002_3, fx_34000002_4, fx_39000008_0, fx_41000006_0, fx_42002024_0, fx_42002024_1, fx_42002024_2, fx_42002024_3, fx_42002024_4, fx_42002024_5, fx_42002024_6, fx_42002024_7, fx_42002024_8, fx_42002024_9, fx_42002024_10, fx_42002024_11, fx_42002024_12, fx_42002024_13, fx_42002024_14, fx_42002024_15, fx_42002024_16, fx_42002024_17, fx_42002024_18, fx_42002024_19, fx_43000008_0, fx_45000008_0, fx_47000008_0, fx_49000008_0, fx_51000008_0, fx_53000008_0, fx_55000008_0, fx_57000008_0, fx_59000008_0, fx_61000008_0, fx_63000008_0, fx_65000008_0, fx_67000008_0, fx_69000008_0, fx_71000008_0, fx_73000008_0, fx_75000008_0, fx_77000008_0, fx_79000008_0, fx_81000008_0, fx_83000424_0, fx_83000424_1, fx_83000424_2, fx_83000424_3, fx_85000004_0, fx_85000004_1, fx_85000004_2, fx_85000004_3, fx_85000004_4, fx_85000004_5, fx_85000004_6, fx_85000004_10, fx_102000008_0, fx_104000008_0, fx_106000008_0, fx_108000008_0, fx_110000011_1, fx_110000011_4, fx_110000011_5, fx_110000011_6, fx_110000011_9, fx_110000011_10, fx_110000011_11, fx_110000011_12, fx_110000011_14, fx_110000011_15, fx_110000011_20, fx_110000011_21, fx_110000011_22, fx_110000011_23, fx_110000011_25, fx_110000011_26, fx_110000011_31, fx_110000011_32, fx_110000011_37, fx_110000011_38, fx_110000011_39, fx_110000011_40, w1, hd, shr_1, e, ms, h5, n3, k4]
        · have hn : ¬ alw pa ob S q k := fun ha => e2 ⟨ha.2.2.2.1, ha.2.2.2.2⟩
          obtain ⟨ν, L', w6, w7, w8, k1, k2, k3, k4⟩ := ih (k + 1) L μ (some (.int (nI 1))) v8 (by omega) hF hC hr (J_m hp0 hJ hq (by omega) hn) hM hCC
          refine ⟨ν, L', w6, w7, w8, k1, k2, k3, fun Q => ?_⟩
          rw [pN_f e2] at ms
          rw [r43_22]
          simp (disch := first | assumption | omega) only [r43_0, r43_1, r43_3, r43_5, r43_7, r43_10, r43_11, r43_13, r43_14, r43_16, r43_17, r43_19, r43_20, r43_24, r43_26, r43_29, r43_30, r43_33, r43_35, r43_36, r43_39, r43_40, r43_41, r43_42, r43_43, r43_44, r43_46, r43_47, r43_48, j43_49, r43_52, r43_53, r43_56, r43_57, r43_59, r43_61, r43_64, r43_65, r43_67, r43_69, r43_70, r43_73, r43_76, r43_77, r43_78, r43_80, r43_81, r43_82, r43_84, r43_85, r43_87, r43_88, r43_90, r43_91, r43_94, r43_96, r43_97, r43_98, r43_99, r43_102, r43_104, r43_105, r43_106, r43_107, r43_108, r43_110, r43_112, r43_114, r43_116, r43_117, r43_119, r43_120, r43_121, r43_124, r43_127, r43_130, r43_136, r43_139, rI_wI, rL_wL, rR_wR, rI_wL, rI_wR, rL_wI, rL_wR, rR_wI, rR_wL, va_rf_some, va_rf_none, Option.toList_some, Option.toList_none, List.nil_append, List.cons_append, true_and, and_true, false_and, and_false, and_self, if_true, if_false, not_true_eq_false, not_false_eq_true, or_false, false_or, or_true, true_or, or_self, ite_true, ite_false, Option.some.injEq, reduceCtorEq, Nat.reduceMod, Nat.reduceDiv, Nat.reduceLeDiff, Nat.reduceEqDiff, Nat.reduceAdd, Nat.reduceMul, Nat.reduceSub, Nat.reduceLT, sw_nil, sw_int, sw_long, sw_ref, li, lo, nI_m1, ng_eq, nn_eq, en_eq, ng_le, ng_lt, Int32.neg_neg, nI_add, pk_mul, nI_clampO, nI_ltO, nI_leO, nI_eqO, nI_subO, nle_t, nle_f, nlt_t, nlt_f, neq_f, fx_2000010_0, fx_2000010_1, fx_2000010_4, fx_2000010_5, fx_2000010_6, fx_2000010_8, fx_2000010_10, fx_2000010_11, fx_2000010_12, fx_2000010_13, fx_2000010_14, fx_2000010_15, fx_2000010_16, fx_2000010_17, fx_2000010_18, fx_3000009_0, fx_5000007_0, fx_5000007_1, fx_5000007_2, fx_5000007_3, fx_7000001_0, fx_11000005_1, fx_11000005_2, fx_11000005_3, fx_11000005_4, fx_11000005_5, fx_11000005_6, fx_11000005_10, fx_11000005_11, fx_11000005_12, fx_20000002_0, fx_20000002_2, fx_20000002_3, fx_20000002_4, fx_25000005_1, fx_25000005_2, fx_25000005_3, fx_25000005_4, fx_25000005_5, fx_25000005_6, fx_25000005_10, fx_25000005_11, fx_25000005_12, fx_34000002_0, fx_34000002_2, fx_34000002_3, fx_34000002_4, fx_39000008_0, fx_41000006_0, fx_42002024_0, fx_42002024_1, fx_42002024_2, fx_42002024_3, fx_42002024_4, fx_42002024_5, fx_42002024_6, fx_42002024_7, fx_42002024_8, fx_42002024_9, fx_42002024_10, fx_42002024_11, fx_42002024_12, fx_42002024_13, fx_42002024_14, fx_42002024_15, fx_42002024_16, fx_42002024_17, fx_42002024_18, fx_42002024_19, fx_43000008_0, fx_45000008_0, fx_47000008_0, fx_49000008_0, fx_51000008_0, fx_53000008_0, fx_55000008_0, fx_57000008_0, fx_59000008_0, fx_61000008_0, fx_63000008_0, fx_65000008_0, fx_67000008_0, fx_69000008_0, fx_71000008_0, fx_73000008_0, fx_75000008_0, fx_77000008_0, fx_79000008_0, fx_81000008_0, fx_83000424_0, fx_83000424_1, fx_83000424_2, fx_83000424_3, fx_85000004_0, fx_85000004_1, fx_85000004_2, fx_85000004_3, fx_85000004_4, fx_85000004_5, fx_85000004_6, fx_85000004_10, fx_102000008_0, fx_104000008_0, fx_106000008_0, fx_108000008_0, fx_110000011_1, fx_110000011_4, fx_110000011_5, fx_110000011_6, fx_110000011_9, fx_110000011_10, fx_110000011_11, fx_110000011_12, fx_110000011_14, fx_110000011_15, fx_110000011_20, fx_110000011_21, fx_110000011_22, fx_110000011_23, fx_110000011_25, fx_110000011_26, fx_110000011_31, fx_110000011_32, fx_110000011_37, fx_110000011_38, fx_110000011_39, fx_110000011_40, w1, hd, shr_1, e, ms, h5, k4]
theorem c43 (hP : PK pa) {P : Nat} {S all : Nat} (hS1 : 1 ≤ S) (hS : S < 128) (hal : all < 128) (hA : ∀ p, p < 7 → (bt all p = 1 ↔ p < pa 0 ∧ bt ob p = 0)) : ∀ (r q : Nat) (L : Nat → Nat → List (List Nat)) (μ : PM) (v5 v6 v7 v8 : Option Value), q + r = 7 → FX μ → CPt μ pa lw → rR μ 2000010 2 = some P → J pa ob (49 * S + 7 * q) L → MI (mR pa lw fz pc) μ L → CCh μ pa lw ob fz pc →
    ∃ ν L', LQ μ ν ∧ J pa ob (49 * (S + 1)) L' ∧ MI (mR pa lw fz pc) ν L' ∧ ∀ Q, R (d + 3) 43 3 [some (.ref 85000004), some (.ref P), some (.int (nI S)), some (.int (nI all)), some (.int (nI q)), v5, v6, v7, v8] [] μ Q = Q none ν := by
  intro r
  induction r with
  | zero =>
    intro q L μ v5 v6 v7 v8 hk hF hC hr hJ hM hCC
    obtain rfl : q = 7 := by omega
    refine ⟨μ, L, LQ_rf μ, by rw [show 49 * (S + 1) = 49 * S + 7 * 7 by omega]; exact hJ, hM, fun Q => ?_⟩
    rw [r43_3]
    simp (disch := first | assumption | omega) only [r43_5, r43_7, r43_139, rI_wI, rL_wL, rR_wR, rI_wL, rI_wR, rL_wI, rL_wR, rR_wI, rR_wL, va_rf_some, va_rf_none, Option.toList_some, Option.toList_none, List.nil_append, List.cons_append, true_and, and_true, false_and, and_false, and_self, if_true, if_false, not_true_eq_false, not_false_eq_true, or_false, false_or, or_true, true_or, or_self, ite_true, ite_false, Option.some.injEq, reduceCtorEq, Nat.reduceMod, Nat.reduceDiv, Nat.reduceLeDiff, Nat.reduceEqDiff, Nat.reduceAdd, Nat.reduceMul, Nat.reduceSub, Nat.reduceLT, sw_nil, sw_int, sw_long, sw_ref, li, lo, nI_m1, ng_eq, nn_eq, en_eq, ng_le, ng_lt, Int32.neg_neg, nI_add, pk_mul, nI_clampO, nI_ltO, nI_leO, nI_eqO, nI_subO, nle_t, nle_f, nlt_t, nlt_f, neq_f]
  | succ r ih =>
    intro q L μ v5 v6 v7 v8 hk hF hC hr hJ hM hCC
    obtain ⟨ν1, L1, w6, w7, w8, n1, n2, n3, n4⟩ := c43_n (d := d) (lw := lw) (ob := ob) (fz := fz) (pc := pc) hP (P := P) (q := q) hS1 hS hal hA (by omega) 7 0 L μ v7 v8 (by omega) hF hC hr hJ hM hCC
    obtain ⟨ν, L', k1, k2, k3, k4⟩ := ih (q + 1) L1 ν1 (some (.int (nI (S * 7 + q)))) w6 w7 w8 (by omega) (CSc_FX n1.1 hF) (CSc_CPt n1.1 hC) ((n1.1.2.2.1 _ _).trans hr) n2 n3 (LQ_CC n1 hCC)
    refine ⟨ν, L', LQ_tr n1 k1, k2, k3, fun Q => ?_⟩
    rw [r43_3]
    simp (disch := first | assumption | omega) only [r43_5, r43_7, r43_10, r43_11, r43_13, r43_14, r43_16, r43_17, r43_19, r43_20, r43_133, r43_136, rI_wI, rL_wL, rR_wR, rI_wL, rI_wR, rL_wI, rL_wR, rR_wI, rR_wL, va_rf_some, va_rf_none, Option.toList_some, Option.toList_none, List.nil_append, List.cons_append, true_and, and_true, false_and, and_false, and_self, if_true, if_false, not_true_eq_false, not_false_eq_true, or_false, false_or, or_true, true_or, or_self, ite_true, ite_false, Option.some.injEq, reduceCtorEq, Nat.reduceMod, Nat.reduceDiv, Nat.reduceLeDiff, Nat.reduceEqDiff, Nat.reduceAdd, Nat.reduceMul, Nat.reduceSub, Nat.reduceLT, sw_nil, sw_int, sw_long, sw_ref, li, lo, nI_m1, ng_eq, nn_eq, en_eq, ng_le, ng_lt, Int32.neg_neg, nI_add, pk_mul, nI_clampO, nI_ltO, nI_leO, nI_eqO, nI_subO, nle_t, nle_f, nlt_t, nlt_f, neq_f, n4, k4]
end T1
