/-! ORDERS: THE BEGINNING -/
def Li (l : List Nat) (i : Nat) : Nat → Nat → List (List Nat) := fun T z => if T = 2 ^ z ∧ z ∈ l.take i then [[z]] else []
def AB (l : List Nat) (i o : Nat) : Prop := o < 128 ∧ ∀ p, p < 7 → (bt o p = 1 ↔ p ∈ l.take i)
theorem take_s {l : List Nat} {i : Nat} (hi : i < l.length) (p : Nat) : p ∈ l.take (i + 1) ↔ p ∈ l.take i ∨ p = l.getD i 0 := by
  rw [List.take_succ, List.getElem?_eq_getElem hi, List.mem_append, List.getD_eq_getElem?_getD, List.getElem?_eq_getElem hi]
  simp
theorem AB_s {l : List Nat} {i o : Nat} (h7 : L7 l) (hi : i < l.length) (h : AB l i o) : AB l (i + 1) (sbN o (l.getD i 0)) := by
  obtain ⟨s1, s2⟩ := sbN_b o h.1 _ (h7.2 i hi)
  refine ⟨s1, fun p hp => ?_⟩
  rw [s2 p hp, h.2 p hp, take_s hi]
theorem BR_1 (pa : Nat → Nat) (lw : LW) (fz pc z : Nat) : BR (mR pa lw fz pc) [[z]] (some (z, 0, 1)) := by
  refine ⟨⟨[z], List.mem_cons_self, ?_, rfl⟩, fun l ab h1 h2 => ?_⟩
  · show 8 * 0 + z = z; omega
  · have e : l = [z] := by simpa using h1
    subst e
    have e2 : (0, 1) = ab := Option.some.inj h2
    subst e2
    exact Or.inr ⟨rfl, by show z ≤ 8 * 0 + z; omega⟩
theorem RB_0 {m : List Nat → Option (Nat × Nat)} {μ : PM} {i : Nat} (h : rL μ 88089621 i = lN 0) : RB m μ i [] := ⟨none, fun l hl => by simp at hl, fun _ => h, fun r a b q => by simp at q⟩
/-- what the beginning may change -/
def BG (μ ν : PM) : Prop := (∀ a j, a ≠ 86089620 → a ≠ 89089620 → rI ν a j = rI μ a j) ∧ (∀ a j, a ≠ 87089621 → a ≠ 88089621 → rL ν a j = rL μ a j) ∧ (∀ a j, rR ν a j = rR μ a j) ∧ aS ν = aS μ
theorem BG_rf (μ : PM) : BG μ μ := ⟨fun _ _ _ _ => rfl, fun _ _ _ _ => rfl, fun _ _ => rfl, rfl⟩
theorem BG_tr {μ ν ρ : PM} (h : BG μ ν) (k : BG ν ρ) : BG μ ρ := ⟨fun a j q1 q2 => (k.1 a j q1 q2).trans (h.1 a j q1 q2), fun a j q1 q2 => (k.2.1 a j q1 q2).trans (h.2.1 a j q1 q2), fun a j => (k.2.2.1 a j).trans (h.2.2.1 a j), k.2.2.2.trans h.2.2.2⟩
theorem BG_LQ {μ ν : PM} (h : BG μ ν) : LQ μ ν := ⟨⟨fun a j q => h.1 a j (fun e => q (Or.inr (Or.inr (Or.inr (by omega))))) (fun e => q (Or.inr (Or.inr (Or.inr (by omega))))), fun a j q => h.2.1 a j (fun e => q (by omega)) (fun e => q (by omega)), h.2.2.1, h.2.2.2⟩, fun j => h.1 _ _ (by decide) (by decide), fun j => h.1 _ _ (by decide) (by decide)⟩
def b4 (μ : PM) (t z : Nat) : PM := wI (wL (wL (wI μ 86089620 t (nI 1)) 87089621 t (lN 0)) 88089621 t (lN 1)) 89089620 t (nI z)
theorem b4_BG (μ : PM) (t z : Nat) : BG μ (b4 μ t z) := ⟨fun a j h1 h2 => by
  unfold b4
  rw [rI_wI, if_neg (fun q => h2 q.1.symm)]
  show rI (wI μ 86089620 t (nI 1)) a j = _
  rw [rI_wI, if_neg (fun q => h1 q.1.symm)], fun a j h1 h2 => by
  unfold b4
  show rL (wL (wL (wI μ 86089620 t (nI 1)) 87089621 t (lN 0)) 88089621 t (lN 1)) a j = _
  rw [rL_wL, if_neg (fun q => h2 q.1.symm), rL_wL, if_neg (fun q => h1 q.1.symm)]
  rfl, fun _ _ => rfl, rfl⟩
theorem b4_v (μ : PM) (t z : Nat) : rI (b4 μ t z) 86089620 t = nI 1 ∧ rL (b4 μ t z) 87089621 t = lN 0 ∧ rL (b4 μ t z) 88089621 t = lN 1 ∧ rI (b4 μ t z) 89089620 t = nI z := by
  unfold b4
  refine ⟨?_, ?_, ?_, ?_⟩
  · rw [rI_wI, if_neg (by omega)]
    show rI (wI μ 86089620 t (nI 1)) 86089620 t = _
    rw [rI_wI, if_pos ⟨rfl, rfl⟩]
  · show rL (wL (wL (wI μ 86089620 t (nI 1)) 87089621 t (lN 0)) 88089621 t (lN 1)) 87089621 t = _
    rw [rL_wL, if_neg (by omega), rL_wL, if_pos ⟨rfl, rfl⟩]
  · show rL (wL (wL (wI μ 86089620 t (nI 1)) 87089621 t (lN 0)) 88089621 t (lN 1)) 88089621 t = _
    rw [rL_wL, if_pos ⟨rfl, rfl⟩]
  · rw [rI_wI, if_pos ⟨rfl, rfl⟩]
theorem b4_o (μ : PM) (t z : Nat) {i : Nat} (h : i ≠ t) : rI (b4 μ t z) 86089620 i = rI μ 86089620 i ∧ rL (b4 μ t z) 87089621 i = rL μ 87089621 i ∧ rL (b4 μ t z) 88089621 i = rL μ 88089621 i ∧ rI (b4 μ t z) 89089620 i = rI μ 89089620 i := by
  unfold b4
  refine ⟨?_, ?_, ?_, ?_⟩
  · rw [rI_wI, if_neg (by omega)]
    show rI (wI μ 86089620 t (nI 1)) 86089620 i = _
    rw [rI_wI, if_neg (by omega)]
  · show rL (wL (wL (wI μ 86089620 t (nI 1)) 87089621 t (lN 0)) 88089621 t (lN 1)) 87089621 i = _
    rw [rL_wL, if_neg (by omega), rL_wL, if_neg (by omega)]
    rfl
  · show rL (wL (wL (wI μ 86089620 t (nI 1)) 87089621 t (lN 0)) 88089621 t (lN 1)) 88089621 i = _
    rw [rL_wL, if_neg (by omega), rL_wL, if_neg (by omega)]
    rfl
  · rw [rI_wI, if_neg (by omega)]
    show rI (wI μ 86089620 t (nI 1)) 89089620 i = _
    rw [rI_wI, if_neg (by omega)]
theorem pw_inj : ∀ x, x < 7 → ∀ y, y < 7 → 2 ^ x = 2 ^ y → x = y := by decide
section T1
variable {d : Nat} {μ : PM} {pa : Nat → Nat} {lw : LW} {ob fz pc : Nat}
theorem MI_b4 {l : List Nat} (h7 : L7 l) {i : Nat} (hi : i < l.length) (hM : MI (mR pa lw fz pc) μ (Li l i)) : MI (mR pa lw fz pc) (b4 μ (2 ^ l.getD i 0 * 7 + l.getD i 0) (l.getD i 0)) (Li l (i + 1)) := by
  have hz := h7.2 i hi
  have hpw := bt_p _ hz
  intro T z hT hz'
  by_cases e : T = 2 ^ l.getD i 0 ∧ z = l.getD i 0
  · obtain ⟨rfl, rfl⟩ := e
    have eL : Li l (i + 1) (2 ^ l.getD i 0) (l.getD i 0) = [[l.getD i 0]] := by
      unfold Li
      rw [if_pos ⟨rfl, (take_s hi _).mpr (Or.inr rfl)⟩]
    rw [eL]
    obtain ⟨v1, v2, v3, v4⟩ := b4_v μ (2 ^ l.getD i 0 * 7 + l.getD i 0) (l.getD i 0)
    refine ⟨v1, some (l.getD i 0, 0, 1), BR_1 _ _ _ _ _, fun q => by simp at q, fun r a b q => ?_⟩
    have q' : (l.getD i 0, 0, 1) = (r, a, b) := by simpa using q
    cases q'
    exact ⟨v2, v3, v4⟩
  · have eL : Li l (i + 1) T z = Li l i T z := by
      unfold Li
      by_cases k : T = 2 ^ z
      · have hne : z ≠ l.getD i 0 := fun q => e ⟨by rw [k, q], q⟩
        by_cases k2 : z ∈ l.take i
        · rw [if_pos ⟨k, (take_s hi z).mpr (Or.inl k2)⟩, if_pos ⟨k, k2⟩]
        · rw [if_neg (fun q => by rcases (take_s hi z).mp q.2 with q' | q'; exact k2 q'; exact hne q'), if_neg (fun q => k2 q.2)]
      · rw [if_neg (fun q => k q.1), if_neg (fun q => k q.1)]
    rw [eL]
    have hne : T * 7 + z ≠ 2 ^ l.getD i 0 * 7 + l.getD i 0 := fun q => e ⟨by omega, by omega⟩
    obtain ⟨o1, o2, o3, o4⟩ := b4_o μ (2 ^ l.getD i 0 * 7 + l.getD i 0) (l.getD i 0) hne
    obtain ⟨k1, o, k2, k3, k4⟩ := hM T z hT hz'
    exact ⟨o1.trans k1, o, k2, fun q => o3.trans (k3 q), fun r a b q => ⟨o2.trans (k4 r a b q).1, o3.trans (k4 r a b q).2.1, o4.trans (k4 r a b q).2.2⟩⟩
theorem c42_l {l : List Nat} (h7 : L7 l) (hl : l.length ≤ 7) : ∀ (r i o : Nat) (μ : PM) (v5 : Option Value), i + r = l.length → FX μ → CLn μ l → AB l i o → MI (mR pa lw fz pc) μ (Li l i) → ∃ ν o', BG μ ν ∧ AB l l.length o' ∧ MI (mR pa lw fz pc) ν (Li l l.length) ∧ ∀ Q, R (d + 1) 42 21 [some (.ref 85000004), some (.ref 84000720), some (.int (nI l.length)), some (.int (nI o)), some (.int (nI i)), v5] [] μ Q = Q (some (.int (nI o'))) ν := by
  intro r
  induction r with
  | zero =>
    intro i o μ v5 hi hF hL hA hM
    have : i = l.length := by omega
    subst this
    refine ⟨μ, o, BG_rf μ, hA, hM, fun Q => ?_⟩
    rw [r42_21]
    simp (disch := first | assumption | omega) only [r42_23, r42_24, r42_93, r42_94, rI_wI, rL_wL, rR_wR, rI_wL, rI_wR, rL_wI, rL_wR, rR_wI, rR_wL, va_rf_some, va_rf_none, Option.toList_some, Option.toList_none, List.nil_append, List.cons_append, true_and, and_true, false_and, and_false, and_self, if_true, if_false, not_true_eq_false, not_false_eq_true, or_false, false_or, or_true, true_or, or_self, ite_true, ite_false, Option.some.injEq, reduceCtorEq, Nat.reduceMod, Nat.reduceDiv, Nat.reduceLeDiff, Nat.reduceEqDiff, Nat.reduceAdd, Nat.reduceMul, Nat.reduceSub, Nat.reduceLT, sw_nil, sw_int, sw_long, sw_ref, li, lo, nI_m1, ng_eq, nn_eq, en_eq, ng_le, ng_lt, Int32.neg_neg, nI_add, pk_mul, nI_clampO, nI_ltO, nI_leO, nI_eqO, nI_subO, nle_t, nle_f, nlt_t, nlt_f, neq_f, Nat.le_refl]
  | succ r ih =>
    intro i o μ v5 hi hF hL hA hM
    have hz := h7.2 i (by omega)
    have x := hL.2 i (by omega)
    have hB := b4_BG μ (2 ^ l.getD i 0 * 7 + l.getD i 0) (l.getD i 0)
    have hL2 : CLn (b4 μ (2 ^ l.getD i 0 * 7 + l.getD i 0) (l.getD i 0)) l := ⟨(hB.1 _ _ (by decide) (by decide)).trans hL.1, fun j hj => (hB.1 _ _ (by decide) (by decide)).trans (hL.2 j hj)⟩
    have hF2 : FX (b4 μ (2 ^ l.getD i 0 * 7 + l.getD i 0) (l.getD i 0)) := hF
    obtain ⟨ν, o', k1, k2, k3, k4⟩ := ih (i + 1) (sbN o (l.getD i 0)) _ (some (.int (nI (2 ^ l.getD i 0 * 7 + l.getD i 0)))) (by omega) hF2 hL2 (AB_s h7 (by omega) hA) (MI_b4 h7 (by omega) hM)
    refine ⟨ν, o', BG_tr hB k1, k2, k3, fun Q => ?_⟩
    have k4 := k4 Q
    rw [← k4, r42_21]
    have s1 := sh1 (l.getD i 0) hz
    have s2 := sbN_or o hA.1 (l.getD i 0) hz
    rw [s1] at s2
    have hpw := (bt_p _ hz).1
    simp (disch := first | assumption | omega) only [r42_0, r42_1, r42_4, r42_5, r42_8, r42_9, r42_12, r42_13, r42_16, r42_17, r42_18, r42_19, r42_23, r42_24, r42_27, r42_28, r42_29, r42_31, r42_32, r42_33, r42_35, r42_36, r42_37, r42_39, r42_40, r42_41, r42_43, r42_44, r42_47, r42_49, r42_50, r42_51, r42_52, r42_55, r42_57, r42_58, r42_59, r42_60, r42_63, r42_65, r42_66, r42_67, r42_68, r42_71, r42_73, r42_74, r42_76, r42_77, r42_78, r42_79, r42_80, r42_81, r42_83, r42_84, r42_85, r42_86, r42_87, r42_90, r42_93, r42_94, rI_wI, rL_wL, rR_wR, rI_wL, rI_wR, rL_wI, rL_wR, rR_wI, rR_wL, va_rf_some, va_rf_none, Option.toList_some, Option.toList_none, List.nil_append, List.cons_append, true_and, and_true, false_and, and_false, and_self, if_true, if_false, not_true_eq_false, not_false_eq_true, or_false, false_or, or_true, true_or, or_self, ite_true, ite_false, Option.some.injEq, reduceCtorEq, Nat.reduceMod, Nat.reduceDiv, Nat.reduceLeDiff, Nat.reduceEqDiff, Nat.reduceAdd, Nat.reduceMul, Nat.reduceSub, Nat.reduceLT, sw_nil, sw_int, sw_long, sw_ref, li, lo, nI_m1, ng_eq, nn_eq, en_eq, ng_le, ng_lt, Int32.neg_neg, nI_add, pk_mul, nI_clampO, nI_ltO, nI_leO, nI_eqO, nI_subO, nle_t, nle_f, nlt_t, nlt_f, neq_f, fx_2000010_0, fx_2000010_1, fx_2000010_4, fx_2000010_5, fx_2000010_6, fx_2000010_8, fx_2000010_10, fx_2000010_11, fx_2000010_12, fx_2000010_13, fx_2000010_14, fx_2000010_15, fx_2000010_16, fx_2000010_17, fx_2000010_18, fx_3000009_0, fx_5000007_0, fx_5000007_1, fx_5000007_2, fx_5000007_3, fx_7000001_0, fx_11000005_1, fx_11000005_2, fx_11000005_3, fx_11000005_4, fx_11000005_5, fx_11000005_6, fx_11000005_10, fx_11000005_11, fx_11000005_12, fx_20000002_0, fx_20000002_2, fx_20000002_3, fx_20000002_4, fx_25000005_1, fx_25000005_2, fx_25000005_3, fx_25000005_4, fx_25000005_5, fx_25000005_6, fx_25000005_10, fx_25000005_11, fx_25000005_12, fx_34000002_0, fx_34000002_2, fx_34000002_3, fx_34000002_4, fx_39000008_0, fx_41000006_0, fx_42002024_0, fx_42002024_1, fx_42002024_2, fx_42002024_3, fx_42002024_4, fx_42002024_5, fx_42002024_6, fx_42002024_7, fx_42002024_8, fx_42002024_9, fx_42002024_10, fx_42002024_11, fx_42002024_12, fx_42002024_13, fx_42002024_14, fx_42002024_15, fx_42002024_16, fx_42002024_17, fx_42002024_18, fx_42002024_19, fx_43000008_0, fx_45000008_0, fx_47000008_0, fx_49000008_0, fx_51000008_0, fx_53000008_0, fx_55000008_0, fx_57000008_0, fx_59000008_0, fx_61000008_0, fx_63000008_0, fx_65000008_0, fx_67000008_0, fx_69000008_0, fx_71000008_0, fx_73000008_0, fx_75000008_0, fx_77000008_0, fx_79000008_0, fx_81000008_0, fx_83000424_0, fx_83000424_1, fx_83000424_2, fx_83000424_3, fx_85000004_0, fx_85000004_1, fx_85000004_2, fx_85000004_3, fx_85000004_4, fx_85000004_5, fx_85000004_6, fx_85000004_10, fx_102000008_0, fx_104000008_0, fx_106000008_0, fx_108000008_0, fx_110000011_1, fx_110000011_4, fx_110000011_5, fx_110000011_6, fx_110000011_9, fx_110000011_10, fx_110000011_11, fx_110000011_12, fx_110000011_14, fx_110000011_15, fx_110000011_20, fx_110000011_21, fx_110000011_22, fx_110000011_23, fx_110000011_25, fx_110000011_26, fx_110000011_31, fx_110000011_32, fx_110000011_37, fx_110000011_38, fx_110000011_39, fx_110000011_40, x, s1, s2, ll]
    rfl
theorem c42 (hF : FX μ) {l : List Nat} (h7 : L7 l) (hl : l.length ≤ 7) (hL : CLn μ l) : ∃ ν o', BG μ ν ∧ AB l l.length o' ∧ MI (mR pa lw fz pc) ν (Li l l.length) ∧ ∀ Q, R (d + 1) 42 0 [some (.ref 85000004), some (.ref 84000720), some (.int (nI l.length)), none, none, none] [] μ Q = Q (some (.int (nI o'))) ν := by
  obtain ⟨g, e1, e2⟩ := c231 (d := d) (μ := μ) (a := 86089620) (n := 896) (x := nI 0) (by decide) (by decide) (by decide)
  have hF1 : FX (wA μ 86089620 g) := hF
  obtain ⟨ν1, n1, n2, n3⟩ := c230 (d := d) (μ := wA μ 86089620 g) (a := 88089621) (n := 896) (x := lN 0) (by decide) (by decide) (by decide)
  have hB : BG μ ν1 := ⟨fun a j h1 h2 => (n1.1 a j).trans (by rw [rI_wA, if_neg (fun q => h1 q.symm)]), fun a j h1 h2 => (n1.2.1 a j h2).trans rfl, fun a j => (n1.2.2.1 a j).trans rfl, n1.2.2.2.trans rfl⟩
  have hF2 : FX ν1 := fun q hq => (n1.2.2.1 _ _).trans (hF1 q hq)
  have hL2 : CLn ν1 l := ⟨(hB.1 _ _ (by decide) (by decide)).trans hL.1, fun j hj => (hB.1 _ _ (by decide) (by decide)).trans (hL.2 j hj)⟩
  have hM : MI (mR pa lw fz pc) ν1 (Li l 0) := by
    intro T z hT hz
    have eL : Li l 0 T z = [] := by
      unfold Li
      rw [if_neg (fun q => by have := q.2; simp at this)]
    rw [eL]
    refine ⟨?_, RB_0 (n2 _ (by omega))⟩
    rw [n1.1, rI_wA, if_pos rfl]
    exact e1 _ (by omega)
  obtain ⟨ν, o', k1, k2, k3, k4⟩ := c42_l (d := d) (pa := pa) (lw := lw) (fz := fz) (pc := pc) h7 hl l.length 0 0 ν1 none (by omega) hF2 hL2 ⟨by omega, fun p hp => ⟨fun q => by unfold bt at q; simp at q, fun q => by simp at q⟩⟩ hM
  refine ⟨ν, o', BG_tr hB k1, k2, k3, fun Q => ?_⟩
  simp (disch := first | assumption | omega) only [r42_0, r42_1, r42_4, r42_5, r42_8, r42_9, r42_12, r42_13, r42_16, r42_17, r42_18, r42_19, rI_wI, rL_wL, rR_wR, rI_wL, rI_wR, rL_wI, rL_wR, rR_wI, rR_wL, va_rf_some, va_rf_none, Option.toList_some, Option.toList_none, List.nil_append, List.cons_append, true_and, and_true, false_and, and_false, and_self, if_true, if_false, not_true_eq_false, not_false_eq_true, or_false, false_or, or_true, true_or, or_self, ite_true, ite_false, Option.some.injEq, reduceCtorEq, Nat.reduceMod, Nat.reduceDiv, Nat.reduceLeDiff, Nat.reduceEqDiff, Nat.reduceAdd, Nat.reduceMul, Nat.reduceSub, Nat.reduceLT, sw_nil, sw_int, sw_long, sw_ref, li, lo, nI_m1, ng_eq, nn_eq, en_eq, ng_le, ng_lt, Int32.neg_neg, nI_add, pk_mul, nI_clampO, nI_ltO, nI_leO, nI_eqO, nI_subO, nle_t, nle_f, nlt_t, nlt_f, neq_f, fx_2000010_0, fx_2000010_1, fx_2000010_4, fx_2000010_5, fx_2000010_6, fx_2000010_8, fx_2000010_10, fx_2000010_11, fx_2000010_12, fx_2000010_13, fx_2000010_14, fx_2000010_15, fx_2000010_16, fx_2000010_17, fx_2000010_18, fx_3000009_0, fx_5000007_0, fx_5000007_1, fx_5000007_2, fx_5000007_3, fx_7000001_0, fx_11000005_1, fx_11000005_2, fx_11000005_3, fx_11000005_4, fx_11000005_5, fx_11000005_6, fx_11000005_10, fx_11000005_11, fx_11000005_12, fx_20000002_0, fx_20000002_2, fx_20000002_3, fx_20000002_4, fx_25000005_1, fx_25000005_2, fx_25000005_3, fx_25000005_4, fx_25000005_5, fx_25000005_6, fx_25000005_10, fx_25000005_11, fx_25000005_12, fx_34000002_0, fx_34000002_2, fx_34000002_3, fx_34000002_4, fx_39000008_0, fx_41000006_0, fx_42002024_0, fx_42002024_1, fx_42002024_2, fx_42002024_3, fx_42002024_4, fx_42002024_5, fx_42002024_6, fx_42002024_7, fx_42002024_8, fx_42002024_9, fx_42002024_10, fx_42002024_11, fx_42002024_12, fx_42002024_13, fx_42002024_14, fx_42002024_15, fx_42002024_16, fx_42002024_17, fx_42002024_18, fx_42002024_19, fx_43000008_0, fx_45000008_0, fx_47000008_0, fx_49000008_0, fx_51000008_0, fx_53000008_0, fx_55000008_0, fx_57000008_0, fx_59000008_0, fx_61000008_0, fx_63000008_0, fx_65000008_0, fx_67000008_0, fx_69000008_0, fx_71000008_0, fx_73000008_0, fx_75000008_0, fx_77000008_0, fx_79000008_0, fx_81000008_0, fx_83000424_0, fx_83000424_1, fx_83000424_2, fx_83000424_3, fx_85000004_0, fx_85000004_1, fx_85000004_2, fx_85000004_3, fx_85000004_4, fx_85000004_5, fx_85000004_6, fx_85000004_10, fx_102000008_0, fx_104000008_0, fx_106000008_0, fx_108000008_0, fx_110000011_1, fx_110000011_4, fx_110000011_5, fx_110000011_6, fx_110000011_9, fx_110000011_10, fx_110000011_11, fx_110000011_12, fx_110000011_14, fx_110000011_15, fx_110000011_20, fx_110000011_21, fx_110000011_22, fx_110000011_23, fx_110000011_25, fx_110000011_26, fx_110000011_31, fx_110000011_32, fx_110000011_37, fx_110000011_38, fx_110000011_39, fx_110000011_40, ll, e2, rR_wA, n3, k4]
end T1
