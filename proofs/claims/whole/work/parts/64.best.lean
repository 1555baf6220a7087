/-! BEST -/
def rdP (ab : Nat × Nat) : Nat × Nat := (ab.1 / Nat.gcd ab.1 ab.2, ab.2 / Nat.gcd ab.1 ab.2)
def bsT (k : Nat) (pq : Nat × Nat) (acc : Option (Nat × Nat × Nat)) : Option (Nat × Nat × Nat) := match acc with
  | none => some (k, pq)
  | some (i, p, q) => if pq.1 * q < p * pq.2 then some (k, pq) else some (i, p, q)
def bsS (pa : Nat → Nat) (lw : LW) (s : Nat → Nat) : Nat → Nat → Option (Nat × Nat × Nat) → Option (Nat × Nat × Nat)
  | 0, _, acc => acc
  | r + 1, k, acc => bsS pa lw s r (k + 1) (match mnN pa lw (k + 1) (s 9) (ln pa s) with
    | none => acc
    | some ab => bsT (k + 1) (rdP ab) acc)
def bsI (acc : Option (Nat × Nat × Nat)) : Int32 := match acc with
  | none => fI 0
  | some (i, _) => fI i
def bsA (pa : Nat → Nat) (lw : LW) (s : Nat → Nat) : Int32 := bsI (bsS pa lw s (pa 1) 0 none)
def bsB (acc : Option (Nat × Nat × Nat)) : Prop := ∀ i p q, acc = some (i, p, q) → 1 ≤ i ∧ i ≤ 4 ∧ p ≤ 17820000000 ∧ q ≤ 1000000
theorem mnN_b {pa : Nat → Nat} (hP : PK pa) (lw : LW) (fz pc : Nat) {l : List Nat} (hl : l.length ≤ 7) {a b : Nat} (h : mnN pa lw fz pc l = some (a, b)) : a ≤ 17820000000 ∧ 1 ≤ b ∧ b ≤ 1000000 := by
  cases l with
  | nil => 
    unfold mnN at h
    have h' : 0 = a ∧ 1 = b := by simpa using h
    omega
  | cons p r =>
    unfold mnN at h
    have hr : r.length ≤ 6 := by simp at hl; omega
    obtain ⟨h1, h2, h3⟩ := mnS_b hP lw fz pc r 0 (0, 1) p a b (Nat.zero_le _) (Nat.le_refl 1) (Nat.le_refl 1) h
    rw [Nat.zero_add] at h1 h3
    have e : 10 ^ r.length ≤ 10 ^ 6 := Nat.pow_le_pow_right (by omega) hr
    have e2 : 2970 * r.length * 10 ^ r.length ≤ 2970 * 6 * 10 ^ 6 := Nat.mul_le_mul (Nat.mul_le_mul_left 2970 hr) e
    exact ⟨by omega, by omega, by omega⟩
theorem rdP_b {a b : Nat} (h1 : a ≤ 17820000000) (h2 : b ≤ 1000000) : (rdP (a, b)).1 ≤ 17820000000 ∧ (rdP (a, b)).2 ≤ 1000000 := ⟨Nat.le_trans (Nat.div_le_self _ _) h1, Nat.le_trans (Nat.div_le_self _ _) h2⟩
theorem pr_b {a b : Nat} (h1 : a ≤ 17820000000) (h2 : b ≤ 1000000) : a * b < 9223372036854775808 := Nat.lt_of_le_of_lt (Nat.mul_le_mul h1 h2) (by decide)
theorem bsT_B {k : Nat} {pq : Nat × Nat} {acc : Option (Nat × Nat × Nat)} (hk : 1 ≤ k ∧ k ≤ 4) (h1 : pq.1 ≤ 17820000000) (h2 : pq.2 ≤ 1000000) (h : bsB acc) : bsB (bsT k pq acc) := by
  intro i p q e
  unfold bsT at e
  split at e
  · have e' : (k, pq) = (i, p, q) := by simpa using e
    cases e'
    exact ⟨hk.1, hk.2, h1, h2⟩
  · rename_i i' p' q'
    split at e
    · have e' : (k, pq) = (i, p, q) := by simpa using e
      cases e'
      exact ⟨hk.1, hk.2, h1, h2⟩
    · exact h i p q e
theorem cmI_ge (a b : Nat) : (nI 0 ≤ cmI a b) = (b ≤ a) := by
  apply propext
  unfold cmI
  by_cases h : a < b
  · rw [if_pos h]; exact ⟨fun q => absurd q (by decide), fun q => by omega⟩
  · rw [if_neg h]
    by_cases h2 : a = b
    · rw [if_pos h2]; exact ⟨fun _ => by omega, fun _ => by decide⟩
    · rw [if_neg h2]; exact ⟨fun _ => by omega, fun _ => by decide⟩
theorem fI_s (j : Nat) : fI (j + 1) = nI j := by unfold fI; rw [if_neg (by omega)]; rfl
theorem fI_z : fI 0 = -nI 1 := rfl
theorem bsI_n : bsI none = -nI 1 := rfl
theorem bsI_s (j p q : Nat) : bsI (some (j + 1, p, q)) = nI j := fI_s j
theorem bsT_n (k p q : Nat) : bsT k (p, q) none = some (k, p, q) := rfl
section T1
variable {d : Nat} {μ : PM} {pa : Nat → Nat} {lw : LW} {s : Nat → Nat} {un : List (Nat → Nat)} {mk : Nat → Option (Nat → Nat)} {tp : List Nat}
def ls5 (μ : PM) (p q : Nat) : PM := wL (wL μ 95000000 0 (lN p)) 95000000 1 (lN q)
theorem ls5_CSc (μ : PM) (a b : Nat) : CSc μ (ls5 μ a b) := CSc_tr (CSc_wL μ 0 _ (by omega)) (CSc_wL _ 1 _ (by omega))
theorem ls5_0 (μ : PM) (a b : Nat) : rL (ls5 μ a b) 95000000 0 = lN a := by unfold ls5; rw [rL_wL, if_neg (by decide), rL_wL, if_pos ⟨rfl, rfl⟩]
theorem ls5_1 (μ : PM) (a b : Nat) : rL (ls5 μ a b) 95000000 1 = lN b := by unfold ls5; rw [rL_wL, if_pos ⟨rfl, rfl⟩]
def BC (μ : PM) (acc : Option (Nat × Nat × Nat)) : Prop := ∀ i p q, acc = some (i, p, q) → rL μ 95000000 0 = lN p ∧ rL μ 95000000 1 = lN q
theorem BC_5 {μ ν : PM} {acc : Option (Nat × Nat × Nat)} (h : ∀ j, rL ν 95000000 j = rL μ 95000000 j) (hb : BC μ acc) : BC ν acc := fun i p q e => ⟨(h 0).trans (hb i p q e).1, (h 1).trans (hb i p q e).2⟩
theorem BC_s (μ : PM) (k : Nat) (pq : Nat × Nat) : BC (ls5 μ pq.1 pq.2) (some (k, pq)) := fun i p q e => by
  have e' : (k, pq) = (i, p, q) := by simpa using e
  cases e'
  exact ⟨ls5_0 _ _ _, ls5_1 _ _ _⟩
/-- one fruit with a mean, the class: what comes of it -/
theorem c105_s (hF : FX μ) {k p q : Nat} {acc : Option (Nat × Nat × Nat)} (hp : p ≤ 17820000000) (hq : q ≤ 1000000) (h0 : rL μ 94000000 0 = lN p) (h1 : rL μ 94000000 1 = lN q) (hB : bsB acc) (hb : BC μ acc) (hk : k < 4) :
    ∃ ν, CSc μ ν ∧ BC ν (bsT (k + 1) (p, q) acc) ∧ ∀ Q, R (d + 2) 105 23 [some (.ref 2000010), some (.int (bsI acc)), some (.int (nI k))] [] μ Q = R (d + 2) 105 4 [some (.ref 2000010), some (.int (bsI (bsT (k + 1) (p, q) acc))), some (.int (nI (k + 1)))] [] ν Q := by
  have k1 := fun Q => c1 (d := d + 1) (μ := μ) (Q := Q) (F := 95000000) (a := lN p) (b := lN q) (v2 := none) (v4 := none) (by decide)
  match acc, hB, hb with
  | none, hB, hb =>
    refine ⟨ls5 μ p q, ls5_CSc _ _ _, BC_s μ (k + 1) (p, q), fun Q => ?_⟩
    rw [bsT_n, bsI_s, bsI_n]
    simp (disch := first | assumption | omega) only [r105_0, r105_1, r105_2, r105_3, r105_5, r105_6, r105_9, r105_12, r105_15, r105_16, r105_17, r105_20, r105_23, r105_24, r105_25, r105_28, r105_29, r105_32, r105_33, r105_36, r105_39, r105_40, r105_43, r105_46, r105_49, r105_52, r105_53, r105_54, r105_55, r105_58, r105_59, r105_62, r105_65, r105_66, r105_69, r105_72, r105_75, r105_78, r105_81, r105_82, rI_wI, rL_wL, rR_wR, rI_wL, rI_wR, rL_wI, rL_wR, rR_wI, rR_wL, va_rf_some, va_rf_none, Option.toList_some, Option.toList_none, List.nil_append, List.cons_append, true_and, and_true, false_and, and_false, and_self, if_true, if_false, not_true_eq_false, not_false_eq_true, or_false, false_or, or_true, true_or, or_self, ite_true, ite_false, Option.some.injEq, reduceCtorEq, Nat.reduceMod, Nat.reduceDiv, Nat.reduceLeDiff, Nat.reduceEqDiff, Nat.reduceAdd, Nat.reduceMul, Nat.reduceSub, Nat.reduceLT, sw_nil, sw_int, sw_long, sw_ref, li, lo, nI_m1, ng_eq, nn_eq, en_eq, ng_le, ng_lt, Int32.neg_neg, nI_add, pk_mul, nI_clampO, nI_ltO, nI_leO, nI_eqO, nI_subO, nle_t, nle_f, nlt_t, nlt_f, neq_f, fx_2000010_0, fx_2000010_1, fx_2000010_4, fx_2000010_5, fx_2000010_6, fx_2000010_8, fx_2000010_10, fx_2000010_11, fx_2000010_12, fx_2000010_13, fx_2000010_14, fx_2000010_15, fx_2000010_16, fx_2000010_17, fx_2000010_18, fx_3000009_0, fx_5000007_0, fx_5000007_1, fx_5000007_2, fx_5000007_3, fx_7000001_0, fx_11000005_1, fx_11000005_2, fx_11000005_3, fx_11000005_4, fx_11000005_5, fx_11000005_6, fx_11000005_10, fx_11000005_11, fx_11000005_12, fx_20000002_0, fx_20000002_2, fx_20000002_3, fx_20000002_4, fx_25000005_1, fx_25000005_2, fx_25000005_3, fx_25000005_4, fx_25000005_5, fx_25000005_6, fx_25000005_10, fx_25000005_11, fx_25000005_12, fx_34000002_0, fx_34000002_2, fx_34000002_3, fx_34000002_4, fx_39000008_0, fx_41000006_0, fx_42002024_0, fx_42002024_1, fx_42002024_2, fx_42002024_3, fx_42002024_4, fx_42002024_5, fx_42002024_6, fx_42002024_7, fx_42002024_8, fx_42002024_9, fx_42002024_10, fx_42002024_11, fx_42002024_12, fx_42002024_13, fx_42002024_14, fx_42002024_15, fx_42002024_16, fx_42002024_17, fx_42002024_18, fx_42002024_19, fx_43000008_0, fx_45000008_0, fx_47000008_0, fx_49000008_0, fx_51000008_0, fx_53000008_0, fx_55000008_0, fx_57000008_0, fx_59000008_0, fx_61000008_0, fx_63000008_0, fx_65000008_0, fx_67000008_0, fx_69000008_0, fx_71000008_0, fx_73000008_0, fx_75000008_0, fx_77000008_0, fx_79000008_0, fx_81000008_0, fx_83000424_0, fx_83000424_1, fx_83000424_2, fx_83000424_3, fx_85000004_0, fx_85000004_1, fx_85000004_2, fx_85000004_3, fx_85000004_4, fx_85000004_5, fx_85000004_6, fx_85000004_10, fx_102000008_0, fx_104000008_0, fx_106000008_0, fx_108000008_0, fx_110000011_1, fx_110000011_4, fx_110000011_5, fx_110000011_6, fx_110000011_9, fx_110000011_10, fx_110000011_11, fx_110000011_12, fx_110000011_14, fx_110000011_15, fx_110000011_20, fx_110000011_21, fx_110000011_22, fx_110000011_23, fx_110000011_25, fx_110000011_26, fx_110000011_31, fx_110000011_32, fx_110000011_37, fx_110000011_38, fx_110000011_39, fx_110000011_40, h0, h1, k1]
    rfl
  | some (i, p', q'), hB, hb =>
    obtain ⟨b1, b2, b3, b4⟩ := hB i p' q' rfl
    obtain ⟨e1, e2⟩ := hb i p' q' rfl
    obtain ⟨j, rfl⟩ : ∃ j, i = j + 1 := ⟨i - 1, by omega⟩
    have k4 := fun Q => c4 (d := d) (μ := μ) (Q := Q) (F := 94000000) (p := p') (q := q') (v2 := none) (v4 := none) (by decide) h0 h1 (pr_b hp b4) (pr_b b3 hq)
    by_cases hc : p * q' < p' * q
    · refine ⟨ls5 μ p q, ls5_CSc _ _ _, ?_, fun Q => ?_⟩
      · unfold bsT; show BC _ (if p * q' < p' * q then _ else _); rw [if_pos hc]; exact BC_s μ (k + 1) (p, q)
      · have e : bsT (k + 1) (p, q) (some (j + 1, p', q')) = some (k + 1, p, q) := by unfold bsT; show (if p * q' < p' * q then _ else _) = _; rw [if_pos hc]
        rw [e, bsI_s, bsI_s]
        simp (disch := first | assumption | omega) only [r105_0, r105_1, r105_2, r105_3, r105_5, r105_6, r105_9, r105_12, r105_15, r105_16, r105_17, r105_20, r105_23, r105_24, r105_25, r105_28, r105_29, r105_32, r105_33, r105_36, r105_39, r105_40, r105_43, r105_46, r105_49, r105_52, r105_53, r105_54, r105_55, r105_58, r105_59, r105_62, r105_65, r105_66, r105_69, r105_72, r105_75, r105_78, r105_81, r105_82, rI_wI, rL_wL, rR_wR, rI_wL, rI_wR, rL_wI, rL_wR, rR_wI, rR_wL, va_rf_some, va_rf_none, Option.toList_some, Option.toList_none, List.nil_append, List.cons_append, true_and, and_true, false_and, and_false, and_self, if_true, if_false, not_true_eq_false, not_false_eq_true, or_false, false_or, or_true, true_or, or_self, ite_true, ite_false, Option.some.injEq, reduceCtorEq, Nat.reduceMod, Nat.reduceDiv, Nat.reduceLeDiff, Nat.reduceEqDiff, Nat.reduceAdd, Nat.reduceMul, Nat.reduceSub, Nat.reduceLT, sw_nil, sw_int, sw_long, sw_ref, li, lo, nI_m1, ng_eq, nn_eq, en_eq, ng_le, ng_lt, Int32.neg_neg, nI_add, pk_mul, nI_clampO, nI_ltO, nI_leO, nI_eqO, nI_subO, nle_t, nle_f, nlt_t, nlt_f, neq_f, fx_2000010_0, fx_2000010_1, fx_2000010_4, fx_2000010_5, fx_2000010_6, fx_2000010_8, fx_2000010_10, fx_2000010_11, fx_2000010_12, fx_2000010_13, fx_2000010_14, fx_2000010_15, fx_2000010_16, fx_2000010_17, fx_2000010_18, fx_3000009_0, fx_5000007_0, fx_5000007_1, fx_5000007_2, fx_5000007_3, fx_7000001_0, fx_11000005_1, fx_11000005_2, fx_11000005_3, fx_11000005_4, fx_11000005_5, fx_11000005_6, fx_11000005_10, fx_11000005_11, fx_11000005_12, fx_20000002_0, fx_20000002_2, fx_20000002_3, fx_20000002_4, fx_25000005_1, fx_25000005_2, fx_25000005_3, fx_25000005_4, fx_25000005_5, fx_25000005_6, fx_25000005_10, fx_25000005_11, fx_25000005_12, fx_34000002_0, fx_34000002_2, fx_34000002_3, fx_34000002_4, fx_39000008_0, fx_41000006_0, fx_42002024_0, fx_42002024_1, fx_42002024_2, fx_42002024_3, fx_42002024_4, fx_42002024_5, fx_42002024_6, fx_42002024_7, fx_42002024_8, fx_42002024_9, fx_42002024_10, fx_42002024_11, fx_42002024_12, fx_42002024_13, fx_42002024_14, fx_42002024_15, fx_42002024_16, fx_42002024_17, fx_42002024_18, fx_42002024_19, fx_43000008_0, fx_45000008_0, fx_47000008_0, fx_49000008_0, fx_51000008_0, fx_53000008_0, fx_55000008_0, fx_57000008_0, fx_59000008_0, fx_61000008_0, fx_63000008_0, fx_65000008_0, fx_67000008_0, fx_69000008_0, fx_71000008_0, fx_73000008_0, fx_75000008_0, fx_77000008_0, fx_79000008_0, fx_81000008_0, fx_83000424_0, fx_83000424_1, fx_83000424_2, fx_83000424_3, fx_85000004_0, fx_85000004_1, fx_85000004_2, fx_85000004_3, fx_85000004_4, fx_85000004_5, fx_85000004_6, fx_85000004_10, fx_102000008_0, fx_104000008_0, fx_106000008_0, fx_108000008_0, fx_110000011_1, fx_110000011_4, fx_110000011_5, fx_110000011_6, fx_110000011_9, fx_110000011_10, fx_110000011_11, fx_110000011_12, fx_110000011_14, fx_110000011_15, fx_110000011_20, fx_110000011_21, fx_110000011_22, fx_110000011_23, fx_110000011_25, fx_110000011_26, fx_110000011_31, fx_110000011_32, fx_110000011_37, fx_110000011_38, fx_110000011_39, fx_110000011_40, h0, h1, k1, e1, e2, k4, cmI_ge]
        rfl
    · refine ⟨μ, CSc_rf _, ?_, fun Q => ?_⟩
      · unfold bsT; show BC _ (if p * q' < p' * q then _ else _); rw [if_neg hc]; exact hb
      · have e : bsT (k + 1) (p, q) (some (j + 1, p', q')) = some (j + 1, p', q') := by unfold bsT; show (if p * q' < p' * q then _ else _) = _; rw [if_neg hc]
        rw [e, bsI_s]
        simp (disch := first | assumption | omega) only [r105_0, r105_1, r105_2, r105_3, r105_5, r105_6, r105_9, r105_12, r105_15, r105_16, r105_17, r105_20, r105_23, r105_24, r105_25, r105_28, r105_29, r105_32, r105_33, r105_36, r105_39, r105_40, r105_43, r105_46, r105_49, r105_52, r105_53, r105_54, r105_55, r105_58, r105_59, r105_62, r105_65, r105_66, r105_69, r105_72, r105_75, r105_78, r105_81, r105_82, rI_wI, rL_wL, rR_wR, rI_wL, rI_wR, rL_wI, rL_wR, rR_wI, rR_wL, va_rf_some, va_rf_none, Option.toList_some, Option.toList_none, List.nil_append, List.cons_append, true_and, and_true, false_and, and_false, and_self, if_true, if_false, not_true_eq_false, not_false_eq_true, or_false, false_or, or_true, true_or, or_self, ite_true, ite_false, Option.some.injEq, reduceCtorEq, Nat.reduceMod, Nat.reduceDiv, Nat.reduceLeDiff, Nat.reduceEqDiff, Nat.reduceAdd, Nat.reduceMul, Nat.reduceSub, Nat.reduceLT, sw_nil, sw_int, sw_long, sw_ref, li, lo, nI_m1, ng_eq, nn_eq, en_eq, ng_le, ng_lt, Int32.neg_neg, nI_add, pk_mul, nI_clampO, nI_ltO, nI_leO, nI_eqO, nI_subO, nle_t, nle_f, nlt_t, nlt_f, neq_f, fx_2000010_0, fx_2000010_1, fx_2000010_4, fx_2000010_5, fx_2000010_6, fx_2000010_8, fx_2000010_10, fx_2000010_11, fx_2000010_12, fx_2000010_13, fx_2000010_14, fx_2000010_15, fx_2000010_16, fx_2000010_17, fx_2000010_18, fx_3000009_0, fx_5000007_0, fx_5000007_1, fx_5000007_2, fx_5000007_3, fx_7000001_0, fx_11000005_1, fx_11000005_2, fx_11000005_3, fx_11000005_4, fx_11000005_5, fx_11000005_6, fx_11000005_10, fx_11000005_11, fx_11000005_12, fx_20000002_0, fx_20000002_2, fx_20000002_3, fx_20000002_4, fx_25000005_1, fx_25000005_2, fx_25000005_3, fx_25000005_4, fx_25000005_5, fx_25000005_6, fx_25000005_10, fx_25000005_11, fx_25000005_12, fx_34000002_0, fx_34000002_2, fx_34000002_3, fx_34000002_4, fx_39000008_0, fx_41000006_0, fx_42002024_0, fx_42002024_1, fx_42002024_2, fx_42002024_3, fx_42002024_4, fx_42002024_5, fx_42002024_6, fx_42002024_7, fx_42002024_8, fx_42002024_9, fx_42002024_10, fx_42002024_11, fx_42002024_12, fx_42002024_13, fx_42002024_14, fx_42002024_15, fx_42002024_16, fx_42002024_17, fx_42002024_18, fx_42002024_19, fx_43000008_0, fx_45000008_0, fx_47000008_0, fx_49000008_0, fx_51000008_0, fx_53000008_0, fx_55000008_0, fx_57000008_0, fx_59000008_0, fx_61000008_0, fx_63000008_0, fx_65000008_0, fx_67000008_0, fx_69000008_0, fx_71000008_0, fx_73000008_0, fx_75000008_0, fx_77000008_0, fx_79000008_0, fx_81000008_0, fx_83000424_0, fx_83000424_1, fx_83000424_2, fx_83000424_3, fx_85000004_0, fx_85000004_1, fx_85000004_2, fx_85000004_3, fx_85000004_4, fx_85000004_5, fx_85000004_6, fx_85000004_10, fx_102000008_0, fx_104000008_0, fx_106000008_0, fx_108000008_0, fx_110000011_1, fx_110000011_4, fx_110000011_5, fx_110000011_6, fx_110000011_9, fx_110000011_10, fx_110000011_11, fx_110000011_12, fx_110000011_14, fx_110000011_15, fx_110000011_20, fx_110000011_21, fx_110000011_22, fx_110000011_23, fx_110000011_25, fx_110000011_26, fx_110000011_31, fx_110000011_32, fx_110000011_37, fx_110000011_38, fx_110000011_39, fx_110000011_40, h0, h1, k1, e1, e2, k4, cmI_ge]
theorem c105_l (hK : OKA pa s un mk tp) : ∀ (r k : Nat) (μ : PM) (acc : Option (Nat × Nat × Nat)), k + r = pa 1 → CH μ pa lw s un mk tp → bsB acc → BC μ acc → ∃ ν, CSc μ ν ∧ ∀ Q, R (d + 5) 105 4 [some (.ref 2000010), some (.int (bsI acc)), some (.int (nI k))] [] μ Q = Q (some (.int (bsI (bsS pa lw s r k acc)))) ν := by
  have hl := ln7 (s := s) hK.1
  have hp1 := hK.1.1.2.1
  intro r
  induction r with
  | zero =>
    intro k μ acc hk hC hB hb
    have hF := hC.1
    obtain ⟨P, h5, -, hr, -, hfr, -⟩ := CPt_x hC.2.1
    refine ⟨μ, CSc_rf _, fun Q => ?_⟩
    rw [r105_4, bsS]
    simp (disch := first | assumption | omega) only [r105_0, r105_1, r105_2, r105_3, r105_5, r105_6, r105_9, r105_12, r105_15, r105_16, r105_17, r105_20, r105_23, r105_24, r105_25, r105_28, r105_29, r105_32, r105_33, r105_36, r105_39, r105_40, r105_43, r105_46, r105_49, r105_52, r105_53, r105_54, r105_55, r105_58, r105_59, r105_62, r105_65, r105_66, r105_69, r105_72, r105_75, r105_78, r105_81, r105_82, rI_wI, rL_wL, rR_wR, rI_wL, rI_wR, rL_wI, rL_wR, rR_wI, rR_wL, va_rf_some, va_rf_none, Option.toList_some, Option.toList_none, List.nil_append, List.cons_append, true_and, and_true, false_and, and_false, and_self, if_true, if_false, not_true_eq_false, not_false_eq_true, or_false, false_or, or_true, true_or, or_self, ite_true, ite_false, Option.some.injEq, reduceCtorEq, Nat.reduceMod, Nat.reduceDiv, Nat.reduceLeDiff, Nat.reduceEqDiff, Nat.reduceAdd, Nat.reduceMul, Nat.reduceSub, Nat.reduceLT, sw_nil, sw_int, sw_long, sw_ref, li, lo, nI_m1, ng_eq, nn_eq, en_eq, ng_le, ng_lt, Int32.neg_neg, nI_add, pk_mul, nI_clampO, nI_ltO, nI_leO, nI_eqO, nI_subO, nle_t, nle_f, nlt_t, nlt_f, neq_f, fx_2000010_0, fx_2000010_1, fx_2000010_4, fx_2000010_5, fx_2000010_6, fx_2000010_8, fx_2000010_10, fx_2000010_11, fx_2000010_12, fx_2000010_13, fx_2000010_14, fx_2000010_15, fx_2000010_16, fx_2000010_17, fx_2000010_18, fx_3000009_0, fx_5000007_0, fx_5000007_1, fx_5000007_2, fx_5000007_3, fx_7000001_0, fx_11000005_1, fx_11000005_2, fx_11000005_3, fx_11000005_4, fx_11000005_5, fx_11000005_6, fx_11000005_10, fx_11000005_11, fx_11000005_12, fx_20000002_0, fx_20000002_2, fx_20000002_3, fx_20000002_4, fx_25000005_1, fx_25000005_2, fx_25000005_3, fx_25000005_4, fx_25000005_5, fx_25000005_6, fx_25000005_10, fx_25000005_11, fx_25000005_12, fx_34000002_0, fx_34000002_2, fx_34000002_3, fx_34000002_4, fx_39000008_0, fx_41000006_0, fx_42002024_0, fx_42002024_1, fx_42002024_2, fx_42002024_3, fx_42002024_4, fx_42002024_5, fx_42002024_6, fx_42002024_7, fx_42002024_8, fx_42002024_9, fx_42002024_10, fx_42002024_11, fx_42002024_12, fx_42002024_13, fx_42002024_14, fx_42002024_15, fx_42002024_16, fx_42002024_17, fx_42002024_18, fx_42002024_19, fx_43000008_0, fx_45000008_0, fx_47000008_0, fx_49000008_0, fx_51000008_0, fx_53000008_0, fx_55000008_0, fx_57000008_0, fx_59000008_0, fx_61000008_0, fx_63000008_0, fx_65000008_0, fx_67000008_0, fx_69000008_0, fx_71000008_0, fx_73000008_0, fx_75000008_0, fx_77000008_0, fx_79000008_0, fx_81000008_0, fx_83000424_0, fx_83000424_1, fx_83000424_2, fx_83000424_3, fx_85000004_0, fx_85000004_1, fx_85000004_2, fx_85000004_3, fx_85000004_4, fx_85000004_5, fx_85000004_6, fx_85000004_10, fx_102000008_0, fx_104000008_0, fx_106000008_0, fx_108000008_0, fx_110000011_1, fx_110000011_4, fx_110000011_5, fx_110000011_6, fx_110000011_9, fx_110000011_10, fx_110000011_11, fx_110000011_12, fx_110000011_14, fx_110000011_15, fx_110000011_20, fx_110000011_21, fx_110000011_22, fx_110000011_23, fx_110000011_25, fx_110000011_26, fx_110000011_31, fx_110000011_32, fx_110000011_37, fx_110000011_38, fx_110000011_39, fx_110000011_40, h5, hr, hfr]
  | succ r ih =>
    intro k μ acc hk hC hB hb
    have hF := hC.1
    obtain ⟨P, h5, -, hr, -, hfr, -⟩ := CPt_x hC.2.1
    obtain ⟨ν1, n1, n2, n3⟩ := c124 (d := d) hC hK (fz := k + 1) (by omega)
    have hC1 := CSc_CH n1.1 hC
    rw [bsS]
    cases hm : mnN pa lw (k + 1) (s 9) (ln pa s) with
    | none =>
      have g := n2 hm
      rw [fI_s] at g
      obtain ⟨ν, k1, k2⟩ := ih (k + 1) ν1 acc (by omega) hC1 hB (BC_5 n1.2 hb)
      refine ⟨ν, CSc_tr n1.1 k1, fun Q => ?_⟩
      rw [r105_4]
      simp (disch := first | assumption | omega) only [r105_0, r105_1, r105_2, r105_3, r105_5, r105_6, r105_9, r105_12, r105_15, r105_16, r105_17, r105_20, r105_23, r105_24, r105_25, r105_28, r105_29, r105_32, r105_33, r105_36, r105_39, r105_40, r105_43, r105_46, r105_49, r105_52, r105_53, r105_54, r105_55, r105_58, r105_59, r105_62, r105_65, r105_66, r105_69, r105_72, r105_75, r105_78, r105_81, r105_82, rI_wI, rL_wL, rR_wR, rI_wL, rI_wR, rL_wI, rL_wR, rR_wI, rR_wL, va_rf_some, va_rf_none, Option.toList_some, Option.toList_none, List.nil_append, List.cons_append, true_and, and_true, false_and, and_false, and_self, if_true, if_false, not_true_eq_false, not_false_eq_true, or_false, false_or, or_true, true_or, or_self, ite_true, ite_false, Option.some.injEq, reduceCtorEq, Nat.reduceMod, Nat.reduceDiv, Nat.reduceLeDiff, Nat.reduceEqDiff, Nat.reduceAdd, Nat.reduceMul, Nat.reduceSub, Nat.reduceLT, sw_nil, sw_int, sw_long, sw_ref, li, lo, nI_m1, ng_eq, nn_eq, en_eq, ng_le, ng_lt, Int32.neg_neg, nI_add, pk_mul, nI_clampO, nI_ltO, nI_leO, nI_eqO, nI_subO, nle_t, nle_f, nlt_t, nlt_f, neq_f, fx_2000010_0, fx_2000010_1, fx_2000010_4, fx_2000010_5, fx_2000010_6, fx_2000010_8, fx_2000010_10, fx_2000010_11, fx_2000010_12, fx_2000010_13, fx_2000010_14, fx_2000010_15, fx_2000010_16, fx_2000010_17, fx_2000010_18, fx_3000009_0, fx_5000007_0, fx_5000007_1, fx_5000007_2, fx_5000007_3, fx_7000001_0, fx_11000005_1, fx_11000005_2, fx_11000005_3, fx_11000005_4, fx_11000005_5, fx_11000005_6, fx_11000005_10, fx_11000005_11, fx_11000005_12, fx_20000002_0, fx_20000002_2, fx_20000002_3, fx_20000002_4, fx_25000005_1, fx_25000005_2, fx_25000005_3, fx_25000005_4, fx_25000005_5, fx_25000005_6, fx_25000005_10, fx_25000005_11, fx_25000005_12, fx_34000002_0, fx_34000002_2, fx_34000002_3, fx_34000002_4, fx_39000008_0, fx_41000006_0, fx_42002024_0, fx_42002024_1, fx_42002024_2, fx_42002024_3, fx_42002024_4, fx_42002024_5, fx_42002024_6, fx_42002024_7, fx_42002024_8, fx_42002024_9, fx_42002024_10, fx_42002024_11, fx_42002024_12, fx_42002024_13, fx_42002024_14, fx_42002024_15, fx_42002024_16, fx_42002024_17, fx_42002024_18, fx_42002024_19, fx_43000008_0, fx_45000008_0, fx_47000008_0, fx_49000008_0, fx_51000008_0, fx_53000008_0, fx_55000008_0, fx_57000008_0, fx_59000008_0, fx_61000008_0, fx_63000008_0, fx_65000008_0, fx_67000008_0, fx_69000008_0, fx_71000008_0, fx_73000008_0, fx_75000008_0, fx_77000008_0, fx_79000008_0, fx_81000008_0, fx_83000424_0, fx_83000424_1, fx_83000424_2, fx_83000424_3, fx_85000004_0, fx_85000004_1, fx_85000004_2, fx_85000004_3, fx_85000004_4, fx_85000004_5, fx_85000004_6, fx_85000004_10, fx_102000008_0, fx_104000008_0, fx_106000008_0, fx_108000008_0, fx_110000011_1, fx_110000011_4, fx_110000011_5, fx_110000011_6, fx_110000011_9, fx_110000011_10, fx_110000011_11, fx_110000011_12, fx_110000011_14, fx_110000011_15, fx_110000011_20, fx_110000011_21, fx_110000011_22, fx_110000011_23, fx_110000011_25, fx_110000011_26, fx_110000011_31, fx_110000011_32, fx_110000011_37, fx_110000011_38, fx_110000011_39, fx_110000011_40, h5, hr, hfr, g, k2]
    | some ab =>
      obtain ⟨a, b⟩ := ab
      obtain ⟨q1, q2, g⟩ := n3 a b hm
      rw [fI_s] at g
      obtain ⟨b1, b2, b3⟩ := mnN_b hK.1 lw _ _ hl hm
      obtain ⟨c1, c2⟩ := rdP_b b1 b3
      obtain ⟨ν2, m1, m2, m3⟩ := c105_s (d := d + 3) (k := k) hC1.1 c1 c2 q1 q2 hB (BC_5 n1.2 hb) (by omega)
      obtain ⟨ν, k1, k2⟩ := ih (k + 1) ν2 (bsT (k + 1) (rdP (a, b)) acc) (by omega) (CSc_CH m1 hC1) (bsT_B (by omega) c1 c2 hB) m2
      refine ⟨ν, CSc_tr n1.1 (CSc_tr m1 k1), fun Q => ?_⟩
      rw [r105_4]
      simp (disch := first | assumption | omega) only [r105_5, r105_6, r105_9, r105_12, r105_15, r105_16, r105_17, r105_20, rI_wI, rL_wL, rR_wR, rI_wL, rI_wR, rL_wI, rL_wR, rR_wI, rR_wL, va_rf_some, va_rf_none, Option.toList_some, Option.toList_none, List.nil_append, List.cons_append, true_and, and_true, false_and, and_false, and_self, if_true, if_false, not_true_eq_false, not_false_eq_true, or_false, false_or, or_true, true_or, or_self, ite_true, ite_false, Option.some.injEq, reduceCtorEq, Nat.reduceMod, Nat.reduceDiv, Nat.reduceLeDiff, Nat.reduceEqDiff, Nat.reduceAdd, Nat.reduceMul, Nat.reduceSub, Nat.reduceLT, sw_nil, sw_int, sw_long, sw_ref, li, lo, nI_m1, ng_eq, nn_eq, en_eq, ng_le, ng_lt, Int32.neg_neg, nI_add, pk_mul, nI_clampO, nI_ltO, nI_leO, nI_eqO, nI_subO, nle_t, nle_f, nlt_t, nlt_f, neq_f, fx_2000010_0, fx_2000010_1, fx_2000010_4, fx_2000010_5, fx_2000010_6, fx_2000010_8, fx_2000010_10, fx_2000010_11, fx_2000010_12, fx_2000010_13, fx_2000010_14, fx_2000010_15, fx_2000010_16, fx_2000010_17, fx_2000010_18, fx_3000009_0, fx_5000007_0, fx_5000007_1, fx_5000007_2, fx_5000007_3, fx_7000001_0, fx_11000005_1, fx_11000005_2, fx_11000005_3, fx_11000005_4, fx_11000005_5, fx_11000005_6, fx_11000005_10, fx_11000005_11, fx_11000005_12, fx_20000002_0, fx_20000002_2, fx_20000002_3, fx_20000002_4, fx_25000005_1, fx_25000005_2, fx_25000005_3, fx_25000005_4, fx_25000005_5, fx_25000005_6, fx_25000005_10, fx_25000005_11, fx_25000005_12, fx_34000002_0, fx_34000002_2, fx_34000002_3, fx_34000002_4, fx_39000008_0, fx_41000006_0, fx_42002024_0, fx_42002024_1, fx_42002024_2, fx_42002024_3, fx_42002024_4, fx_42002024_5, fx_42002024_6, fx_42002024_7, fx_42002024_8, fx_42002024_9, fx_42002024_10, fx_42002024_11, fx_42002024_12, fx_42002024_13, fx_42002024_14, fx_42002024_15, fx_42002024_16, fx_42002024_17, fx_42002024_18, fx_42002024_19, fx_43000008_0, fx_45000008_0, fx_47000008_0, fx_49000008_0, fx_51000008_0, fx_53000008_0, fx_55000008_0, fx_57000008_0, fx_59000008_0, fx_61000008_0, fx_63000008_0, fx_65000008_0, fx_67000008_0, fx_69000008_0, fx_71000008_0, fx_73000008_0, fx_75000008_0, fx_77000008_0, fx_79000008_0, fx_81000008_0, fx_83000424_0, fx_83000424_1, fx_83000424_2, fx_83000424_3, fx_85000004_0, fx_85000004_1, fx_85000004_2, fx_85000004_3, fx_85000004_4, fx_85000004_5, fx_85000004_6, fx_85000004_10, fx_102000008_0, fx_104000008_0, fx_106000008_0, fx_108000008_0, fx_110000011_1, fx_110000011_4, fx_110000011_5, fx_110000011_6, fx_110000011_9, fx_110000011_10, fx_110000011_11, fx_110000011_12, fx_110000011_14, fx_110000011_15, fx_110000011_20, fx_110000011_21, fx_110000011_22, fx_110000011_23, fx_110000011_25, fx_110000011_26, fx_110000011_31, fx_110000011_32, fx_110000011_37, fx_110000011_38, fx_110000011_39, fx_110000011_40, h5, hr, hfr, g]
      rw [m3]
      exact k2 Q
theorem c105 (hC : CH μ pa lw s un mk tp) (hK : OKA pa s un mk tp) : ∃ ν, CSc μ ν ∧ ∀ Q, R (d + 5) 105 0 [some (.ref 2000010), none, none] [] μ Q = Q (some (.int (bsA pa lw s))) ν := by
  obtain ⟨ν, k1, k2⟩ := c105_l (d := d) hK (pa 1) 0 μ none (by omega) hC (fun _ _ _ e => by simp at e) (fun _ _ _ e => by simp at e)
  refine ⟨ν, k1, fun Q => ?_⟩
  rw [show bsI none = -nI 1 from rfl] at k2
  unfold bsA
  simp (disch := first | assumption | omega) only [r105_0, r105_1, r105_2, r105_3, rI_wI, rL_wL, rR_wR, rI_wL, rI_wR, rL_wI, rL_wR, rR_wI, rR_wL, va_rf_some, va_rf_none, Option.toList_some, Option.toList_none, List.nil_append, List.cons_append, true_and, and_true, false_and, and_false, and_self, if_true, if_false, not_true_eq_false, not_false_eq_true, or_false, false_or, or_true, true_or, or_self, ite_true, ite_false, Option.some.injEq, reduceCtorEq, Nat.reduceMod, Nat.reduceDiv, Nat.reduceLeDiff, Nat.reduceEqDiff, Nat.reduceAdd, Nat.reduceMul, Nat.reduceSub, Nat.reduceLT, sw_nil, sw_int, sw_long, sw_ref, li, lo, nI_m1, ng_eq, nn_eq, en_eq, ng_le, ng_lt, Int32.neg_neg, nI_add, pk_mul, nI_clampO, nI_ltO, nI_leO, nI_eqO, nI_subO, nle_t, nle_f, nlt_t, nlt_f, neq_f, k2]
end T1
