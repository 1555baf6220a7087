/-! WHO SHOULD GO OUT -/
def popN (o : Nat) : Nat := bt o 0 + bt o 1 + bt o 2 + bt o 3 + bt o 4 + bt o 5 + bt o 6
theorem popN_le : ∀ o, o < 128 → popN o ≤ 7 := by decide +kernel
theorem er_getD (l : List Nat) (k j : Nat) : (l.eraseIdx k).getD j 0 = if j < k then l.getD j 0 else l.getD (j + 1) 0 := by
  rw [List.getD_eq_getElem?_getD, List.getElem?_eraseIdx]
  split
  · rw [List.getD_eq_getElem?_getD]
  · rw [List.getD_eq_getElem?_getD]
theorem er_len {l : List Nat} {k : Nat} (hk : k < l.length) : (l.eraseIdx k).length = l.length - 1 := by
  rw [List.length_eraseIdx, if_pos hk]
theorem er_fil : ∀ (l : List Nat) (k : Nat), l.Nodup → k < l.length → l.filter (fun p => decide (p + 1 ≠ l.getD k 0 + 1)) = l.eraseIdx k := by
  intro l
  induction l with
  | nil => intro k _ h; simp at h
  | cons q r ih =>
    intro k hn hk
    obtain ⟨h1, h2⟩ := List.nodup_cons.mp hn
    cases k with
    | zero =>
      show (q :: r).filter (fun p => decide (p + 1 ≠ q + 1)) = r
      rw [List.filter_cons_of_neg (by simp)]
      refine List.filter_eq_self.mpr (fun a ha => ?_)
      rw [decide_eq_true_eq]
      intro e
      have : a = q := by omega
      subst this
      exact h1 ha
    | succ k =>
      have hk' : k < r.length := by simp at hk; omega
      have hm : (q :: r).getD (k + 1) 0 = r.getD k 0 := rfl
      have hq : q ≠ r.getD k 0 := by
        intro e
        apply h1
        rw [e, List.getD_eq_getElem?_getD, List.getElem?_eq_getElem hk']
        exact List.getElem_mem hk'
      rw [hm, List.filter_cons_of_pos (by rw [decide_eq_true_eq]; omega), ih k h2 hk']
      rfl
theorem er_L7 {l : List Nat} (h : L7 l) {k : Nat} (hk : k < l.length) : L7 (l.eraseIdx k) := ⟨List.Nodup.sublist (List.eraseIdx_sublist l k) h.1, fun j hj => by
  rw [er_len hk] at hj
  rw [er_getD]
  split
  · exact h.2 j (by omega)
  · exact h.2 (j + 1) (by omega)⟩
def plN (i k : Nat) : Nat := if k < i then i - 1 else i
theorem pl_at (l : List Nat) {i k : Nat} (hik : i ≠ k) : (l.eraseIdx k).getD (plN i k) 0 = l.getD i 0 := by
  rw [er_getD]
  unfold plN
  by_cases h : k < i
  · rw [if_pos h, if_neg (by omega), show i - 1 + 1 = i by omega]
  · rw [if_neg h, if_pos (by omega)]
def ouV (pa : Nat → Nat) (lw : LW) (l : List Nat) (i k : Nat) : Nat := popN (laS (laN pa lw) (l.eraseIdx k) (plN i k))
def ouS (V : Nat → Nat) (l : List Nat) (i : Nat) : Nat → Nat → Nat → Nat → Nat
  | 0, _, b, _ => b
  | r + 1, k, b, fw => if k = i then ouS V l i r (k + 1) b fw else if V k < fw then ouS V l i r (k + 1) (l.getD k 0 + 1) (V k) else ouS V l i r (k + 1) b fw
def ouA (pa : Nat → Nat) (lw : LW) (s : Nat → Nat) (i : Nat) : Int32 := fI (ouS (ouV pa lw (ln pa s) i) (ln pa s) i (ln pa s).length 0 0 8)
section T1
variable {d : Nat} {μ : PM} {pa : Nat → Nat} {lw : LW} {s : Nat → Nat} {un : List (Nat → Nat)} {mk : Nat → Option (Nat → Nat)} {tp : List Nat}
def bu (x z : Int32) : Int32 := (x.toUInt32 >>> (z.toUInt32 &&& Int32.toUInt32 31)).toInt32
def bc1 (x : Int32) : Int32 := x - (bu x 1 &&& 1431655765)
def bc2 (x : Int32) : Int32 := (x &&& 858993459) + (bu x 2 &&& 858993459)
def bc3 (x : Int32) : Int32 := (x + bu x 4) &&& 252645135
def bc4 (x : Int32) : Int32 := x + bu x 8
def bc5 (x : Int32) : Int32 := x + bu x 16
theorem bc_key : ∀ o, o < 128 → bc5 (bc4 (bc3 (bc2 (bc1 (nI o))))) &&& 63 = nI (popN o) := by decide +kernel
theorem c225 {o : Nat} (ho : o < 128) {Q : Option Value → PM → Prop} : R d 225 0 [some (.int (nI o))] [] μ Q = Q (some (.int (nI (popN o)))) μ := by
  rw [← bc_key o ho]
  simp only [r225_0, r225_1, r225_2, r225_3, r225_4, r225_7, r225_8, r225_9, r225_10, r225_11, r225_14, r225_15, r225_16, r225_17, r225_18, r225_21, r225_22, r225_23, r225_24, r225_25, r225_26, r225_27, r225_28, r225_29, r225_32, r225_33, r225_34, r225_35, r225_36, r225_38, r225_39, r225_40, r225_41, r225_42, r225_43, r225_45, r225_46, r225_47, r225_48, r225_49, r225_51, r225_52]
  rfl
theorem c214_s {o k a : Nat} (ho : o < 128) (hk : k < 7) {Q : Option Value → PM → Prop} : R d 214 4 [some (.int (nI o)), some (.int (nI a)), some (.int (nI k))] [] μ Q = R d 214 4 [some (.int (nI o)), some (.int (nI (a + bt o k))), some (.int (nI (k + 1)))] [] μ Q := by
  rw [r214_4]
  simp (disch := first | assumption | omega) only [r214_0, r214_1, r214_2, r214_3, r214_5, r214_7, r214_10, r214_11, r214_12, r214_13, r214_14, r214_15, r214_16, r214_17, r214_18, r214_21, r214_24, r214_25, rI_wI, rL_wL, rR_wR, rI_wL, rI_wR, rL_wI, rL_wR, rR_wI, rR_wL, va_rf_some, va_rf_none, Option.toList_some, Option.toList_none, List.nil_append, List.cons_append, true_and, and_true, false_and, and_false, and_self, if_true, if_false, not_true_eq_false, not_false_eq_true, or_false, false_or, or_true, true_or, or_self, ite_true, ite_false, Option.some.injEq, reduceCtorEq, Nat.reduceMod, Nat.reduceDiv, Nat.reduceLeDiff, Nat.reduceEqDiff, Nat.reduceAdd, Nat.reduceMul, Nat.reduceSub, Nat.reduceLT, sw_nil, sw_int, sw_long, sw_ref, li, lo, nI_m1, ng_eq, nn_eq, en_eq, ng_le, ng_lt, Int32.neg_neg, nI_add, pk_mul, nI_clampO, nI_ltO, nI_leO, nI_eqO, nI_subO, nle_t, nle_f, nlt_t, nlt_f, neq_f, shr_1]
theorem c214 {o : Nat} (ho : o < 128) {Q : Option Value → PM → Prop} : R d 214 0 [some (.int (nI o)), none, none] [] μ Q = Q (some (.int (nI (popN o)))) μ := by
  have e : R d 214 0 [some (.int (nI o)), none, none] [] μ Q = R d 214 4 [some (.int (nI o)), some (.int (nI 0)), some (.int (nI 0))] [] μ Q := by
    simp (disch := first | assumption | omega) only [r214_0, r214_1, r214_2, r214_3, rI_wI, rL_wL, rR_wR, rI_wL, rI_wR, rL_wI, rL_wR, rR_wI, rR_wL, va_rf_some, va_rf_none, Option.toList_some, Option.toList_none, List.nil_append, List.cons_append, true_and, and_true, false_and, and_false, and_self, if_true, if_false, not_true_eq_false, not_false_eq_true, or_false, false_or, or_true, true_or, or_self, ite_true, ite_false, Option.some.injEq, reduceCtorEq, Nat.reduceMod, Nat.reduceDiv, Nat.reduceLeDiff, Nat.reduceEqDiff, Nat.reduceAdd, Nat.reduceMul, Nat.reduceSub, Nat.reduceLT, sw_nil, sw_int, sw_long, sw_ref, li, lo, nI_m1, ng_eq, nn_eq, en_eq, ng_le, ng_lt, Int32.neg_neg, nI_add, pk_mul, nI_clampO, nI_ltO, nI_leO, nI_eqO, nI_subO, nle_t, nle_f, nlt_t, nlt_f, neq_f]
  rw [e, c214_s ho (by omega), c214_s ho (by omega), c214_s ho (by omega), c214_s ho (by omega), c214_s ho (by omega), c214_s ho (by omega), c214_s ho (by omega), r214_4]
  simp (disch := first | assumption | omega) only [r214_0, r214_1, r214_2, r214_3, r214_5, r214_7, r214_10, r214_11, r214_12, r214_13, r214_14, r214_15, r214_16, r214_17, r214_18, r214_21, r214_24, r214_25, rI_wI, rL_wL, rR_wR, rI_wL, rI_wR, rL_wI, rL_wR, rR_wI, rR_wL, va_rf_some, va_rf_none, Option.toList_some, Option.toList_none, List.nil_append, List.cons_append, true_and, and_true, false_and, and_false, and_self, if_true, if_false, not_true_eq_false, not_false_eq_true, or_false, false_or, or_true, true_or, or_self, ite_true, ite_false, Option.some.injEq, reduceCtorEq, Nat.reduceMod, Nat.reduceDiv, Nat.reduceLeDiff, Nat.reduceEqDiff, Nat.reduceAdd, Nat.reduceMul, Nat.reduceSub, Nat.reduceLT, sw_nil, sw_int, sw_long, sw_ref, li, lo, nI_m1, ng_eq, nn_eq, en_eq, ng_le, ng_lt, Int32.neg_neg, nI_add, pk_mul, nI_clampO, nI_ltO, nI_leO, nI_eqO, nI_subO, nle_t, nle_f, nlt_t, nlt_f, neq_f]
  unfold popN
  rw [Nat.zero_add]
/-- the row without one -/
theorem c128_l (hF : FX μ) {l : List Nat} (hL : CLn μ l) (hl : l.length ≤ 7) {k : Nat} (hk : k < l.length) {v2 : Option Value} : ∀ (r j : Nat) (g : Nat → Int32), j + r = l.length → (∀ e, e < (if j ≤ k then j else j - 1) → g e = nI ((l.eraseIdx k).getD e 0)) → ∃ (g' : Nat → Int32) (w4 : Option Value), (∀ e, e < l.length - 1 → g' e = nI ((l.eraseIdx k).getD e 0)) ∧ ∀ Q, R d 128 5 [some (.ref 2000010), some (.int (nI k)), v2, some (.int (nI (if j ≤ k then j else j - 1))), some (.int (nI j))] [] (wA μ 101000720 g) Q = R d 128 42 [some (.ref 2000010), some (.int (nI k)), v2, some (.int (nI (l.length - 1))), w4] [] (wA μ 101000720 g') Q := by
  have hL1 := hL.1
  intro r
  induction r with
  | zero =>
    intro j g hj hg
    rw [if_neg (by omega)] at hg ⊢
    have : j = l.length := by omega
    subst this
    refine ⟨g, some (.int (nI l.length)), hg, fun Q => ?_⟩
    rw [r128_5]
    simp (disch := first | assumption | omega) only [r128_0, r128_1, r128_2, r128_3, r128_7, r128_8, r128_11, r128_14, r128_16, r128_17, r128_20, r128_21, r128_24, r128_25, r128_26, r128_29, r128_31, r128_32, r128_33, r128_36, r128_39, r128_43, r128_44, r128_47, r128_48, r128_49, r128_50, r128_53, r128_54, r128_56, r128_57, r128_60, r128_61, r128_64, r128_65, r128_67, r128_70, r128_73, rI_wI, rL_wL, rR_wR, rI_wL, rI_wR, rL_wI, rL_wR, rR_wI, rR_wL, va_rf_some, va_rf_none, Option.toList_some, Option.toList_none, List.nil_append, List.cons_append, true_and, and_true, false_and, and_false, and_self, if_true, if_false, not_true_eq_false, not_false_eq_true, or_false, false_or, or_true, true_or, or_self, ite_true, ite_false, Option.some.injEq, reduceCtorEq, Nat.reduceMod, Nat.reduceDiv, Nat.reduceLeDiff, Nat.reduceEqDiff, Nat.reduceAdd, Nat.reduceMul, Nat.reduceSub, Nat.reduceLT, sw_nil, sw_int, sw_long, sw_ref, li, lo, nI_m1, ng_eq, nn_eq, en_eq, ng_le, ng_lt, Int32.neg_neg, nI_add, pk_mul, nI_clampO, nI_ltO, nI_leO, nI_eqO, nI_subO, nle_t, nle_f, nlt_t, nlt_f, neq_f, rI_wA, hL1, Nat.le_refl]
  | succ r ih =>
    intro j g hj hg
    have hF1 : FX (wA μ 101000720 g) := hF
    have x1 := hL.2 j (by omega)
    by_cases e : j = k
    · subst e
      rw [if_pos (Nat.le_refl j)] at hg ⊢
      obtain ⟨g', w4, k1, k2⟩ := ih (j + 1) g (by omega) (by rw [if_neg (by omega), Nat.add_sub_cancel]; exact hg)
      rw [if_neg (by omega), Nat.add_sub_cancel] at k2
      refine ⟨g', w4, k1, fun Q => ?_⟩
      rw [r128_5]
      simp (disch := first | assumption | omega) only [r128_0, r128_1, r128_2, r128_3, r128_7, r128_8, r128_11, r128_14, r128_16, r128_17, r128_20, r128_21, r128_24, r128_25, r128_26, r128_29, r128_31, r128_32, r128_33, r128_36, r128_39, r128_43, r128_44, r128_47, r128_48, r128_49, r128_50, r128_53, r128_54, r128_56, r128_57, r128_60, r128_61, r128_64, r128_65, r128_67, r128_70, r128_73, rI_wI, rL_wL, rR_wR, rI_wL, rI_wR, rL_wI, rL_wR, rR_wI, rR_wL, va_rf_some, va_rf_none, Option.toList_some, Option.toList_none, List.nil_append, List.cons_append, true_and, and_true, false_and, and_false, and_self, if_true, if_false, not_true_eq_false, not_false_eq_true, or_false, false_or, or_true, true_or, or_self, ite_true, ite_false, Option.some.injEq, reduceCtorEq, Nat.reduceMod, Nat.reduceDiv, Nat.reduceLeDiff, Nat.reduceEqDiff, Nat.reduceAdd, Nat.reduceMul, Nat.reduceSub, Nat.reduceLT, sw_nil, sw_int, sw_long, sw_ref, li, lo, nI_m1, ng_eq, nn_eq, en_eq, ng_le, ng_lt, Int32.neg_neg, nI_add, pk_mul, nI_clampO, nI_ltO, nI_leO, nI_eqO, nI_subO, nle_t, nle_f, nlt_t, nlt_f, neq_f, rI_wA, hL1, k2]
    · obtain ⟨g', w4, k1, k2⟩ := ih (j + 1) (upd g (if j ≤ k then j else j - 1) (nI (l.getD j 0))) (by omega) (fun e' he => by
        rw [upd_at]
        by_cases q : e' = if j ≤ k then j else j - 1
        · rw [if_pos q, q, er_getD]
          by_cases q2 : j ≤ k
          · rw [if_pos q2, if_pos (by omega)]
          · rw [if_neg q2, if_neg (by omega), show j - 1 + 1 = j by omega]
        · rw [if_neg q]
          refine hg e' ?_
          by_cases q2 : j ≤ k
          · rw [if_pos q2] at q ⊢; rw [if_pos (by omega)] at he; omega
          · rw [if_neg q2] at q ⊢; rw [if_neg (by omega)] at he; omega)
      refine ⟨g', w4, k1, fun Q => ?_⟩
      rw [r128_5]
      by_cases q2 : j ≤ k
      · rw [if_pos q2] at k2 ⊢
        rw [if_pos (by omega)] at k2
        simp (disch := first | assumption | omega) only [r128_0, r128_1, r128_2, r128_3, r128_7, r128_8, r128_11, r128_14, r128_16, r128_17, r128_20, r128_21, r128_24, r128_25, r128_26, r128_29, r128_31, r128_32, r128_33, r128_36, r128_39, r128_43, r128_44, r128_47, r128_48, r128_49, r128_50, r128_53, r128_54, r128_56, r128_57, r128_60, r128_61, r128_64, r128_65, r128_67, r128_70, r128_73, rI_wI, rL_wL, rR_wR, rI_wL, rI_wR, rL_wI, rL_wR, rR_wI, rR_wL, va_rf_some, va_rf_none, Option.toList_some, Option.toList_none, List.nil_append, List.cons_append, true_and, and_true, false_and, and_false, and_self, if_true, if_false, not_true_eq_false, not_false_eq_true, or_false, false_or, or_true, true_or, or_self, ite_true, ite_false, Option.some.injEq, reduceCtorEq, Nat.reduceMod, Nat.reduceDiv, Nat.reduceLeDiff, Nat.reduceEqDiff, Nat.reduceAdd, Nat.reduceMul, Nat.reduceSub, Nat.reduceLT, sw_nil, sw_int, sw_long, sw_ref, li, lo, nI_m1, ng_eq, nn_eq, en_eq, ng_le, ng_lt, Int32.neg_neg, nI_add, pk_mul, nI_clampO, nI_ltO, nI_leO, nI_eqO, nI_subO, nle_t, nle_f, nlt_t, nlt_f, neq_f, fx_2000010_0, fx_2000010_1, fx_2000010_4, fx_2000010_5, fx_2000010_6, fx_2000010_8, fx_2000010_10, fx_2000010_11, fx_2000010_12, fx_2000010_13, fx_2000010_14, fx_2000010_15, fx_2000010_16, fx_2000010_17, fx_2000010_18, fx_3000009_0, fx_5000007_0, fx_5000007_1, fx_5000007_2, fx_5000007_3, fx_7000001_0, fx_11000005_1, fx_11000005_2, fx_11000005_3, fx_11000005_4, fx_11000005_5, fx_11000005_6, fx_11000005_10, fx_11000005_11, fx_11000005_12, fx_20000002_0, fx_20000002_2, fx_20000002_3, fx_20000002_4, fx_25000005_1, fx_25000005_2, fx_25000005_3, fx_25000005_4, fx_25000005_5, fx_25000005_6, fx_25000005_10, fx_25000005_11, fx_25000005_12, fx_34000002_0, fx_34000002_2, fx_34000002_3, fx_34000002_4, fx_39000008_0, fx_41000006_0, fx_42002024_0, fx_42002024_1, fx_42002024_2, fx_42002024_3, fx_42002024_4, fx_42002024_5, fx_42002024_6, fx_42002024_7, fx_42002024_8, fx_42002024_9, fx_42002024_10, fx_42002024_11, fx_42002024_12, fx_42002024_13, fx_42002024_14, fx_42002024_15, fx_42002024_16, fx_42002024_17, fx_42002024_18, fx_42002024_19, fx_43000008_0, fx_45000008_0, fx_47000008_0, fx_49000008_0, fx_51000008_0, fx_53000008_0, fx_55000008_0, fx_57000008_0, fx_59000008_0, fx_61000008_0, fx_63000008_0, fx_65000008_0, fx_67000008_0, fx_69000008_0, fx_71000008_0, fx_73000008_0, fx_75000008_0, fx_77000008_0, fx_79000008_0, fx_81000008_0, fx_83000424_0, fx_83000424_1, fx_83000424_2, fx_83000424_3, fx_85000004_0, fx_85000004_1, fx_85000004_2, fx_85000004_3, fx_85000004_4, fx_85000004_5, fx_85000004_6, fx_85000004_10, fx_102000008_0, fx_104000008_0, fx_106000008_0, fx_108000008_0, fx_110000011_1, fx_110000011_4, fx_110000011_5, fx_110000011_6, fx_110000011_9, fx_110000011_10, fx_110000011_11, fx_110000011_12, fx_110000011_14, fx_110000011_15, fx_110000011_20, fx_110000011_21, fx_110000011_22, fx_110000011_23, fx_110000011_25, fx_110000011_26, fx_110000011_31, fx_110000011_32, fx_110000011_37, fx_110000011_38, fx_110000011_39, fx_110000011_40, rI_wA, rR_wA, hL1, x1, wI_wA, k2]
      · rw [if_neg q2] at k2 ⊢
        rw [if_neg (by omega)] at k2
        rw [show j + 1 - 1 = j - 1 + 1 by omega] at k2
        simp (disch := first | assumption | omega) only [r128_0, r128_1, r128_2, r128_3, r128_7, r128_8, r128_11, r128_14, r128_16, r128_17, r128_20, r128_21, r128_24, r128_25, r128_26, r128_29, r128_31, r128_32, r128_33, r128_36, r128_39, r128_43, r128_44, r128_47, r128_48, r128_49, r128_50, r128_53, r128_54, r128_56, r128_57, r128_60, r128_61, r128_64, r128_65, r128_67, r128_70, r128_73, rI_wI, rL_wL, rR_wR, rI_wL, rI_wR, rL_wI, rL_wR, rR_wI, rR_wL, va_rf_some, va_rf_none, Option.toList_some, Option.toList_none, List.nil_append, List.cons_append, true_and, and_true, false_and, and_false, and_self, if_true, if_false, not_true_eq_false, not_false_eq_true, or_false, false_or, or_true, true_or, or_self, ite_true, ite_false, Option.some.injEq, reduceCtorEq, Nat.reduceMod, Nat.reduceDiv, Nat.reduceLeDiff, Nat.reduceEqDiff, Nat.reduceAdd, Nat.reduceMul, Nat.reduceSub, Nat.reduceLT, sw_nil, sw_int, sw_long, sw_ref, li, lo, nI_m1, ng_eq, nn_eq, en_eq, ng_le, ng_lt, Int32.neg_neg, nI_add, pk_mul, nI_clampO, nI_ltO, nI_leO, nI_eqO, nI_subO, nle_t, nle_f, nlt_t, nlt_f, neq_f, fx_2000010_0, fx_2000010_1, fx_2000010_4, fx_2000010_5, fx_2000010_6, fx_2000010_8, fx_2000010_10, fx_2000010_11, fx_2000010_12, fx_2000010_13, fx_2000010_14, fx_2000010_15, fx_2000010_16, fx_2000010_17, fx_2000010_18, fx_3000009_0, fx_5000007_0, fx_5000007_1, fx_5000007_2, fx_5000007_3, fx_7000001_0, fx_11000005_1, fx_11000005_2, fx_11000005_3, fx_11000005_4, fx_11000005_5, fx_11000005_6, fx_11000005_10, fx_11000005_11, fx_11000005_12, fx_20000002_0, fx_20000002_2, fx_20000002_3, fx_20000002_4, fx_25000005_1, fx_25000005_2, fx_25000005_3, fx_25000005_4, fx_25000005_5, fx_25000005_6, fx_25000005_10, fx_25000005_11, fx_25000005_12, fx_34000002_0, fx_34000002_2, fx_34000002_3, fx_34000002_4, fx_39000008_0, fx_41000006_0, fx_42002024_0, fx_42002024_1, fx_42002024_2, fx_42002024_3, fx_42002024_4, fx_42002024_5, fx_42002024_6, fx_42002024_7, fx_42002024_8, fx_42002024_9, fx_42002024_10, fx_42002024_11, fx_42002024_12, fx_42002024_13, fx_42002024_14, fx_42002024_15, fx_42002024_16, fx_42002024_17, fx_42002024_18, fx_42002024_19, fx_43000008_0, fx_45000008_0, fx_47000008_0, fx_49000008_0, fx_51000008_0, fx_53000008_0, fx_55000008_0, fx_57000008_0, fx_59000008_0, fx_61000008_0, fx_63000008_0, fx_65000008_0, fx_67000008_0, fx_69000008_0, fx_71000008_0, fx_73000008_0, fx_75000008_0, fx_77000008_0, fx_79000008_0, fx_81000008_0, fx_83000424_0, fx_83000424_1, fx_83000424_2, fx_83000424_3, fx_85000004_0, fx_85000004_1, fx_85000004_2, fx_85000004_3, fx_85000004_4, fx_85000004_5, fx_85000004_6, fx_85000004_10, fx_102000008_0, fx_104000008_0, fx_106000008_0, fx_108000008_0, fx_110000011_1, fx_110000011_4, fx_110000011_5, fx_110000011_6, fx_110000011_9, fx_110000011_10, fx_110000011_11, fx_110000011_12, fx_110000011_14, fx_110000011_15, fx_110000011_20, fx_110000011_21, fx_110000011_22, fx_110000011_23, fx_110000011_25, fx_110000011_26, fx_110000011_31, fx_110000011_32, fx_110000011_37, fx_110000011_38, fx_110000011_39, fx_110000011_40, rI_wA, rR_wA, hL1, x1, wI_wA, k2]
theorem c128 (hC : CH μ pa lw s un mk tp) (hK : OKA pa s un mk tp) (hW : LK lw) {i k : Nat} (hi : i < (ln pa s).length) (hk : k < (ln pa s).length) (hik : i ≠ k) : ∃ ν, CSc μ ν ∧ ouV pa lw (ln pa s) i k ≤ 7 ∧ ∀ Q, R (d + 5) 128 0 [some (.ref 2000010), some (.int (nI k)), some (.int (nI i)), none, none] [] μ Q = Q (some (.int (nI (ouV pa lw (ln pa s) i k)))) ν := by
  have hl := ln7 (s := s) hK.1
  have hF := hC.1
  have hL := hC.2.2.2.2.2.1
  obtain ⟨g, w4, k1, k2⟩ := c128_l (d := d + 5) hF hL hl hk (v2 := some (.int (nI i))) (ln pa s).length 0 (fun j => rI μ 101000720 j) (by omega) (fun e he => by rw [if_pos (by omega)] at he; omega)
  rw [wA_eta, if_pos (by omega)] at k2
  have hS : CN [101000720] μ (wA μ 101000720 g) := CN_EX (EX_wA _ _ _) (by simp)
  have hC1 := CSc_CH hS.1 hC
  obtain ⟨P, h5, -, hr, -⟩ := CPt_x hC1.2.1
  have hel := er_len hk
  have h7 := er_L7 (ln_L7 hK) hk
  have hpl : plN i k < ((ln pa s).eraseIdx k).length := by rw [hel]; unfold plN; split <;> omega
  obtain ⟨ν, n1, n2⟩ := c61 (d := d) hC1.1 hC1.2.1 hK.1 hW (W := 101000720) (l := (ln pa s).eraseIdx k) (i := plN i k) (by omega) (fun j hj => by
    rw [hel] at hj
    rw [er_getD]
    split
    · exact ln_at hK (by omega)
    · exact ln_at hK (by omega)) hpl (by decide) h5 (by decide) hr (fun e he => by rw [rI_wA, if_pos rfl]; exact k1 e (by omega))
  have hb := laS_b (laN pa lw) h7 hpl
  have c := fun Q => c225 (d := d + 4) (μ := ν) (Q := Q) hb
  have hF1 := hC1.1
  rw [hel] at n2
  have hr' : rR μ 2000010 2 = some P := hr
  refine ⟨ν, CSc_tr hS.1 (CSc_SC n1), popN_le _ hb, fun Q => ?_⟩
  unfold ouV
  by_cases h : k < i
  · rw [show plN i k = i - 1 from if_pos h] at n2 c ⊢
    simp (disch := first | assumption | omega) only [r128_0, r128_1, r128_2, r128_3, r128_7, r128_8, r128_11, r128_14, r128_16, r128_17, r128_20, r128_21, r128_24, r128_25, r128_26, r128_29, r128_31, r128_32, r128_33, r128_36, r128_39, r128_42, r128_43, r128_44, r128_47, r128_48, r128_49, r128_50, r128_53, r128_54, r128_56, r128_57, r128_60, r128_61, r128_64, r128_65, r128_67, r128_70, r128_73, rI_wI, rL_wL, rR_wR, rI_wL, rI_wR, rL_wI, rL_wR, rR_wI, rR_wL, va_rf_some, va_rf_none, Option.toList_some, Option.toList_none, List.nil_append, List.cons_append, true_and, and_true, false_and, and_false, and_self, if_true, if_false, not_true_eq_false, not_false_eq_true, or_false, false_or, or_true, true_or, or_self, ite_true, ite_false, Option.some.injEq, reduceCtorEq, Nat.reduceMod, Nat.reduceDiv, Nat.reduceLeDiff, Nat.reduceEqDiff, Nat.reduceAdd, Nat.reduceMul, Nat.reduceSub, Nat.reduceLT, sw_nil, sw_int, sw_long, sw_ref, li, lo, nI_m1, ng_eq, nn_eq, en_eq, ng_le, ng_lt, Int32.neg_neg, nI_add, pk_mul, nI_clampO, nI_ltO, nI_leO, nI_eqO, nI_subO, nle_t, nle_f, nlt_t, nlt_f, neq_f, fx_2000010_0, fx_2000010_1, fx_2000010_4, fx_2000010_5, fx_2000010_6, fx_2000010_8, fx_2000010_10, fx_2000010_11, fx_2000010_12, fx_2000010_13, fx_2000010_14, fx_2000010_15, fx_2000010_16, fx_2000010_17, fx_2000010_18, fx_3000009_0, fx_5000007_0, fx_5000007_1, fx_5000007_2, fx_5000007_3, fx_7000001_0, fx_11000005_1, fx_11000005_2, fx_11000005_3, fx_11000005_4, fx_11000005_5, fx_11000005_6, fx_11000005_10, fx_11000005_11, fx_11000005_12, fx_20000002_0, fx_20000002_2, fx_20000002_3, fx_20000002_4, fx_25000005_1, fx_25000005_2, fx_25000005_3, fx_25000005_4, fx_25000005_5, fx_25000005_6, fx_25000005_10, fx_25000005_11, fx_25000005_12, fx_34000002_0, fx_34000002_2, fx_34000002_3, fx_34000002_4, fx_39000008_0, fx_41000006_0, fx_42002024_0, fx_42002024_1, fx_42002024_2, fx_42002024_3, fx_42002024_4, fx_42002024_5, fx_42002024_6, fx_42002024_7, fx_42002024_8, fx_42002024_9, fx_42002024_10, fx_42002024_11, fx_42002024_12, fx_42002024_13, fx_42002024_14, fx_42002024_15, fx_42002024_16, fx_42002024_17, fx_42002024_18, fx_42002024_19, fx_43000008_0, fx_45000008_0, fx_47000008_0, fx_49000008_0, fx_51000008_0, fx_53000008_0, fx_55000008_0, fx_57000008_0, fx_59000008_0, fx_61000008_0, fx_63000008_0, fx_65000008_0, fx_67000008_0, fx_69000008_0, fx_71000008_0, fx_73000008_0, fx_75000008_0, fx_77000008_0, fx_79000008_0, fx_81000008_0, fx_83000424_0, fx_83000424_1, fx_83000424_2, fx_83000424_3, fx_85000004_0, fx_85000004_1, fx_85000004_2, fx_85000004_3, fx_85000004_4, fx_85000004_5, fx_85000004_6, fx_85000004_10, fx_102000008_0, fx_104000008_0, fx_106000008_0, fx_108000008_0, fx_110000011_1, fx_110000011_4, fx_110000011_5, fx_110000011_6, fx_110000011_9, fx_110000011_10, fx_110000011_11, fx_110000011_12, fx_110000011_14, fx_110000011_15, fx_110000011_20, fx_110000011_21, fx_110000011_22, fx_110000011_23, fx_110000011_25, fx_110000011_26, fx_110000011_31, fx_110000011_32, fx_110000011_37, fx_110000011_38, fx_110000011_39, fx_110000011_40, rR_wA, k2, hr', h5, n2, c]
  · rw [show plN i k = i from if_neg h] at n2 c ⊢
    simp (disch := first | assumption | omega) only [r128_0, r128_1, r128_2, r128_3, r128_7, r128_8, r128_11, r128_14, r128_16, r128_17, r128_20, r128_21, r128_24, r128_25, r128_26, r128_29, r128_31, r128_32, r128_33, r128_36, r128_39, r128_42, r128_43, r128_44, r128_47, r128_48, r128_49, r128_50, r128_53, r128_54, r128_56, r128_57, r128_60, r128_61, r128_64, r128_65, r128_67, r128_70, r128_73, rI_wI, rL_wL, rR_wR, rI_wL, rI_wR, rL_wI, rL_wR, rR_wI, rR_wL, va_rf_some, va_rf_none, Option.toList_some, Option.toList_none, List.nil_append, List.cons_append, true_and, and_true, false_and, and_false, and_self, if_true, if_false, not_true_eq_false, not_false_eq_true, or_false, false_or, or_true, true_or, or_self, ite_true, ite_false, Option.some.injEq, reduceCtorEq, Nat.reduceMod, Nat.reduceDiv, Nat.reduceLeDiff, Nat.reduceEqDiff, Nat.reduceAdd, Nat.reduceMul, Nat.reduceSub, Nat.reduceLT, sw_nil, sw_int, sw_long, sw_ref, li, lo, nI_m1, ng_eq, nn_eq, en_eq, ng_le, ng_lt, Int32.neg_neg, nI_add, pk_mul, nI_clampO, nI_ltO, nI_leO, nI_eqO, nI_subO, nle_t, nle_f, nlt_t, nlt_f, neq_f, fx_2000010_0, fx_2000010_1, fx_2000010_4, fx_2000010_5, fx_2000010_6, fx_2000010_8, fx_2000010_10, fx_2000010_11, fx_2000010_12, fx_2000010_13, fx_2000010_14, fx_2000010_15, fx_2000010_16, fx_2000010_17, fx_2000010_18, fx_3000009_0, fx_5000007_0, fx_5000007_1, fx_5000007_2, fx_5000007_3, fx_7000001_0, fx_11000005_1, fx_11000005_2, fx_11000005_3, fx_11000005_4, fx_11000005_5, fx_11000005_6, fx_11000005_10, fx_11000005_11, fx_11000005_12, fx_20000002_0, fx_20000002_2, fx_20000002_3, fx_20000002_4, fx_25000005_1, fx_25000005_2, fx_25000005_3, fx_25000005_4, fx_25000005_5, fx_25000005_6, fx_25000005_10, fx_25000005_11, fx_25000005_12, fx_34000002_0, fx_34000002_2, fx_34000002_3, fx_34000002_4, fx_39000008_0, fx_41000006_0, fx_42002024_0, fx_42002024_1, fx_42002024_2, fx_42002024_3, fx_42002024_4, fx_42002024_5, fx_42002024_6, fx_42002024_7, fx_42002024_8, fx_42002024_9, fx_42002024_10, fx_42002024_11, fx_42002024_12, fx_42002024_13, fx_42002024_14, fx_42002024_15, fx_42002024_16, fx_42002024_17, fx_42002024_18, fx_42002024_19, fx_43000008_0, fx_45000008_0, fx_47000008_0, fx_49000008_0, fx_51000008_0, fx_53000008_0, fx_55000008_0, fx_57000008_0, fx_59000008_0, fx_61000008_0, fx_63000008_0, fx_65000008_0, fx_67000008_0, fx_69000008_0, fx_71000008_0, fx_73000008_0, fx_75000008_0, fx_77000008_0, fx_79000008_0, fx_81000008_0, fx_83000424_0, fx_83000424_1, fx_83000424_2, fx_83000424_3, fx_85000004_0, fx_85000004_1, fx_85000004_2, fx_85000004_3, fx_85000004_4, fx_85000004_5, fx_85000004_6, fx_85000004_10, fx_102000008_0, fx_104000008_0, fx_106000008_0, fx_108000008_0, fx_110000011_1, fx_110000011_4, fx_110000011_5, fx_110000011_6, fx_110000011_9, fx_110000011_10, fx_110000011_11, fx_110000011_12, fx_110000011_14, fx_110000011_15, fx_110000011_20, fx_110000011_21, fx_110000011_22, fx_110000011_23, fx_110000011_25, fx_110000011_26, fx_110000011_31, fx_110000011_32, fx_110000011_37, fx_110000011_38, fx_110000011_39, fx_110000011_40, rR_wA, k2, hr', h5, n2, c]
theorem c109_l (hK : OKA pa s un mk tp) (hW : LK lw) {i : Nat} (hi : i < (ln pa s).length) {v1 : Option Value} : ∀ (r k b fw : Nat) (μ : PM) (v6 : Option Value), k + r = (ln pa s).length → fw ≤ 8 → CH μ pa lw s un mk tp → ∃ ν, CSc μ ν ∧ ∀ Q, R (d + 6) 109 22 [some (.ref 2000010), v1, some (.int (nI i)), some (.int (fI b)), some (.int (nI fw)), some (.int (nI k)), v6] [] μ Q = Q (some (.int (fI (ouS (ouV pa lw (ln pa s) i) (ln pa s) i r k b fw)))) ν := by
  have hl := ln7 (s := s) hK.1
  intro r
  induction r with
  | zero =>
    intro k b fw μ v6 hk hfw hC
    have hL1 := hC.2.2.2.2.2.1.1
    refine ⟨μ, CSc_rf _, fun Q => ?_⟩
    rw [r109_22, ouS]
    simp (disch := first | assumption | omega) only [r109_0, r109_1, r109_2, r109_5, r109_6, r109_7, r109_8, r109_11, r109_12, r109_13, r109_14, r109_15, r109_17, r109_19, r109_20, r109_24, r109_25, r109_28, r109_31, r109_33, r109_34, r109_37, r109_39, r109_42, r109_43, r109_45, r109_46, r109_49, r109_51, r109_53, r109_55, r109_58, r109_60, r109_62, r109_63, r109_66, r109_68, r109_69, r109_70, r109_73, r109_76, r109_77, rI_wI, rL_wL, rR_wR, rI_wL, rI_wR, rL_wI, rL_wR, rR_wI, rR_wL, va_rf_some, va_rf_none, Option.toList_some, Option.toList_none, List.nil_append, List.cons_append, true_and, and_true, false_and, and_false, and_self, if_true, if_false, not_true_eq_false, not_false_eq_true, or_false, false_or, or_true, true_or, or_self, ite_true, ite_false, Option.some.injEq, reduceCtorEq, Nat.reduceMod, Nat.reduceDiv, Nat.reduceLeDiff, Nat.reduceEqDiff, Nat.reduceAdd, Nat.reduceMul, Nat.reduceSub, Nat.reduceLT, sw_nil, sw_int, sw_long, sw_ref, li, lo, nI_m1, ng_eq, nn_eq, en_eq, ng_le, ng_lt, Int32.neg_neg, nI_add, pk_mul, nI_clampO, nI_ltO, nI_leO, nI_eqO, nI_subO, nle_t, nle_f, nlt_t, nlt_f, neq_f, hL1]
  | succ r ih =>
    intro k b fw μ v6 hk hfw hC
    have hF := hC.1
    have hL := hC.2.2.2.2.2.1
    have hL1 := hL.1
    rw [ouS]
    by_cases e : k = i
    · subst e
      rw [if_pos rfl]
      obtain ⟨ν, k1, k2⟩ := ih (k + 1) b fw μ (some (.int (nI fw))) (by omega) hfw hC
      refine ⟨ν, k1, fun Q => ?_⟩
      rw [r109_22]
      simp (disch := first | assumption | omega) only [r109_0, r109_1, r109_2, r109_5, r109_6, r109_7, r109_8, r109_11, r109_12, r109_13, r109_14, r109_15, r109_17, r109_19, r109_20, r109_24, r109_25, r109_28, r109_31, r109_33, r109_34, r109_37, r109_39, r109_42, r109_43, r109_45, r109_46, r109_49, r109_51, r109_53, r109_55, r109_58, r109_60, r109_62, r109_63, r109_66, r109_68, r109_69, r109_70, r109_73, r109_76, r109_77, rI_wI, rL_wL, rR_wR, rI_wL, rI_wR, rL_wI, rL_wR, rR_wI, rR_wL, va_rf_some, va_rf_none, Option.toList_some, Option.toList_none, List.nil_append, List.cons_append, true_and, and_true, false_and, and_false, and_self, if_true, if_false, not_true_eq_false, not_false_eq_true, or_false, false_or, or_true, true_or, or_self, ite_true, ite_false, Option.some.injEq, reduceCtorEq, Nat.reduceMod, Nat.reduceDiv, Nat.reduceLeDiff, Nat.reduceEqDiff, Nat.reduceAdd, Nat.reduceMul, Nat.reduceSub, Nat.reduceLT, sw_nil, sw_int, sw_long, sw_ref, li, lo, nI_m1, ng_eq, nn_eq, en_eq, ng_le, ng_lt, Int32.neg_neg, nI_add, pk_mul, nI_clampO, nI_ltO, nI_leO, nI_eqO, nI_subO, nle_t, nle_f, nlt_t, nlt_f, neq_f, hL1, Nat.le_refl, k2]
    · rw [if_neg e]
      obtain ⟨ν1, n1, n2, n3⟩ := c128 (d := d) hC hK hW hi (show k < (ln pa s).length by omega) (Ne.symm e)
      have hC1 := CSc_CH n1 hC
      have hF1 := hC1.1
      have x1 := hC1.2.2.2.2.2.1.2 k (by omega)
      generalize ouV pa lw (ln pa s) i k = V at *
      by_cases h : V < fw
      · rw [if_pos h]
        obtain ⟨ν, k1, k2⟩ := ih (k + 1) ((ln pa s).getD k 0 + 1) V ν1 (some (.int (nI V))) (by omega) (by omega) hC1
        rw [fI_s] at k2
        refine ⟨ν, CSc_tr n1 k1, fun Q => ?_⟩
        rw [r109_22]
        simp (disch := first | assumption | omega) only [r109_0, r109_1, r109_2, r109_5, r109_6, r109_7, r109_8, r109_11, r109_12, r109_13, r109_14, r109_15, r109_17, r109_19, r109_20, r109_24, r109_25, r109_28, r109_31, r109_33, r109_34, r109_37, r109_39, r109_42, r109_43, r109_45, r109_46, r109_49, r109_51, r109_53, r109_55, r109_58, r109_60, r109_62, r109_63, r109_66, r109_68, r109_69, r109_70, r109_73, r109_76, r109_77, rI_wI, rL_wL, rR_wR, rI_wL, rI_wR, rL_wI, rL_wR, rR_wI, rR_wL, va_rf_some, va_rf_none, Option.toList_some, Option.toList_none, List.nil_append, List.cons_append, true_and, and_true, false_and, and_false, and_self, if_true, if_false, not_true_eq_false, not_false_eq_true, or_false, false_or, or_true, true_or, or_self, ite_true, ite_false, Option.some.injEq, reduceCtorEq, Nat.reduceMod, Nat.reduceDiv, Nat.reduceLeDiff, Nat.reduceEqDiff, Nat.reduceAdd, Nat.reduceMul, Nat.reduceSub, Nat.reduceLT, sw_nil, sw_int, sw_long, sw_ref, li, lo, nI_m1, ng_eq, nn_eq, en_eq, ng_le, ng_lt, Int32.neg_neg, nI_add, pk_mul, nI_clampO, nI_ltO, nI_leO, nI_eqO, nI_subO, nle_t, nle_f, nlt_t, nlt_f, neq_f, fx_2000010_0, fx_2000010_1, fx_2000010_4, fx_2000010_5, fx_2000010_6, fx_2000010_8, fx_2000010_10, fx_2000010_11, fx_2000010_12, fx_2000010_13, fx_2000010_14, fx_2000010_15, fx_2000010_16, fx_2000010_17, fx_2000010_18, fx_3000009_0, fx_5000007_0, fx_5000007_1, fx_5000007_2, fx_5000007_3, fx_7000001_0, fx_11000005_1, fx_11000005_2, fx_11000005_3, fx_11000005_4, fx_11000005_5, fx_11000005_6, fx_11000005_10, fx_11000005_11, fx_11000005_12, fx_20000002_0, fx_20000002_2, fx_20000002_3, fx_20000002_4, fx_25000005_1, fx_25000005_2, fx_25000005_3, fx_25000005_4, fx_25000005_5, fx_25000005_6, fx_25000005_10, fx_25000005_11, fx_25000005_12, fx_34000002_0, fx_34000002_2, fx_34000002_3, fx_34000002_4, fx_39000008_0, fx_41000006_0, fx_42002024_0, fx_42002024_1, fx_42002024_2, fx_42002024_3, fx_42002024_4, fx_42002024_5, fx_42002024_6, fx_42002024_7, fx_42002024_8, fx_42002024_9, fx_42002024_10, fx_42002024_11, fx_42002024_12, fx_42002024_13, fx_42002024_14, fx_42002024_15, fx_42002024_16, fx_42002024_17, fx_42002024_18, fx_42002024_19, fx_43000008_0, fx_45000008_0, fx_47000008_0, fx_49000008_0, fx_51000008_0, fx_53000008_0, fx_55000008_0, fx_57000008_0, fx_59000008_0, fx_61000008_0, fx_63000008_0, fx_65000008_0, fx_67000008_0, fx_69000008_0, fx_71000008_0, fx_73000008_0, fx_75000008_0, fx_77000008_0, fx_79000008_0, fx_81000008_0, fx_83000424_0, fx_83000424_1, fx_83000424_2, fx_83000424_3, fx_85000004_0, fx_85000004_1, fx_85000004_2, fx_85000004_3, fx_85000004_4, fx_85000004_5, fx_85000004_6, fx_85000004_10, fx_102000008_0, fx_104000008_0, fx_106000008_0, fx_108000008_0, fx_110000011_1, fx_110000011_4, fx_110000011_5, fx_110000011_6, fx_110000011_9, fx_110000011_10, fx_110000011_11, fx_110000011_12, fx_110000011_14, fx_110000011_15, fx_110000011_20, fx_110000011_21, fx_110000011_22, fx_110000011_23, fx_110000011_25, fx_110000011_26, fx_110000011_31, fx_110000011_32, fx_110000011_37, fx_110000011_38, fx_110000011_39, fx_110000011_40, hL1, x1, n3, k2]
      · rw [if_neg h]
        obtain ⟨ν, k1, k2⟩ := ih (k + 1) b fw ν1 (some (.int (nI V))) (by omega) hfw hC1
        refine ⟨ν, CSc_tr n1 k1, fun Q => ?_⟩
        rw [r109_22]
        simp (disch := first | assumption | omega) only [r109_0, r109_1, r109_2, r109_5, r109_6, r109_7, r109_8, r109_11, r109_12, r109_13, r109_14, r109_15, r109_17, r109_19, r109_20, r109_24, r109_25, r109_28, r109_31, r109_33, r109_34, r109_37, r109_39, r109_42, r109_43, r109_45, r109_46, r109_49, r109_51, r109_53, r109_55, r109_58, r109_60, r109_62, r109_63, r109_66, r109_68, r109_69, r109_70, r109_73, r109_76, r109_77, rI_wI, rL_wL, rR_wR, rI_wL, rI_wR, rL_wI, rL_wR, rR_wI, rR_wL, va_rf_some, va_rf_none, Option.toList_some, Option.toList_none, List.nil_append, List.cons_append, true_and, and_true, false_and, and_false, and_self, if_true, if_false, not_true_eq_false, not_false_eq_true, or_false, false_or, or_true, true_or, or_self, ite_true, ite_false, Option.some.injEq, reduceCtorEq, Nat.reduceMod, Nat.reduceDiv, Nat.reduceLeDiff, Nat.reduceEqDiff, Nat.reduceAdd, Nat.reduceMul, Nat.reduceSub, Nat.reduceLT, sw_nil, sw_int, sw_long, sw_ref, li, lo, nI_m1, ng_eq, nn_eq, en_eq, ng_le, ng_lt, Int32.neg_neg, nI_add, pk_mul, nI_clampO, nI_ltO, nI_leO, nI_eqO, nI_subO, nle_t, nle_f, nlt_t, nlt_f, neq_f, fx_2000010_0, fx_2000010_1, fx_2000010_4, fx_2000010_5, fx_2000010_6, fx_2000010_8, fx_2000010_10, fx_2000010_11, fx_2000010_12, fx_2000010_13, fx_2000010_14, fx_2000010_15, fx_2000010_16, fx_2000010_17, fx_2000010_18, fx_3000009_0, fx_5000007_0, fx_5000007_1, fx_5000007_2, fx_5000007_3, fx_7000001_0, fx_11000005_1, fx_11000005_2, fx_11000005_3, fx_11000005_4, fx_11000005_5, fx_11000005_6, fx_11000005_10, fx_11000005_11, fx_11000005_12, fx_20000002_0, fx_20000002_2, fx_20000002_3, fx_20000002_4, fx_25000005_1, fx_25000005_2, fx_25000005_3, fx_25000005_4, fx_25000005_5, fx_25000005_6, fx_25000005_10, fx_25000005_11, fx_25000005_12, fx_34000002_0, fx_34000002_2, fx_34000002_3, fx_34000002_4, fx_39000008_0, fx_41000006_0, fx_42002024_0, fx_42002024_1, fx_42002024_2, fx_42002024_3, fx_42002024_4, fx_42002024_5, fx_42002024_6, fx_42002024_7, fx_42002024_8, fx_42002024_9, fx_42002024_10, fx_42002024_11, fx_42002024_12, fx_42002024_13, fx_42002024_14, fx_42002024_15, fx_42002024_16, fx_42002024_17, fx_42002024_18, fx_42002024_19, fx_43000008_0, fx_45000008_0, fx_47000008_0, fx_49000008_0, fx_51000008_0, fx_53000008_0, fx_55000008_0, fx_57000008_0, fx_59000008_0, fx_61000008_0, fx_63000008_0, fx_65000008_0, fx_67000008_0, fx_69000008_0, fx_71000008_0, fx_73000008_0, fx_75000008_0, fx_77000008_0, fx_79000008_0, fx_81000008_0, fx_83000424_0, fx_83000424_1, fx_83000424_2, fx_83000424_3, fx_85000004_0, fx_85000004_1, fx_85000004_2, fx_85000004_3, fx_85000004_4, fx_85000004_5, fx_85000004_6, fx_85000004_10, fx_102000008_0, fx_104000008_0, fx_106000008_0, fx_108000008_0, fx_110000011_1, fx_110000011_4, fx_110000011_5, fx_110000011_6, fx_110000011_9, fx_110000011_10, fx_110000011_11, fx_110000011_12, fx_110000011_14, fx_110000011_15, fx_110000011_20, fx_110000011_21, fx_110000011_22, fx_110000011_23, fx_110000011_25, fx_110000011_26, fx_110000011_31, fx_110000011_32, fx_110000011_37, fx_110000011_38, fx_110000011_39, fx_110000011_40, hL1, x1, n3, k2]
theorem c109y (hC : CH μ pa lw s un mk tp) (hK : OKA pa s un mk tp) (hW : LK lw) {i : Nat} (hi : i < (ln pa s).length) : ∃ ν, CSc μ ν ∧ ∀ Q, R (d + 6) 109 0 [some (.ref 2000010), some (.int (nI ((ln pa s).getD i 0))), none, none, none, none, none] [] μ Q = Q (some (.int (ouA pa lw s i))) ν := by
  have hl := ln7 (s := s) hK.1
  have c := fun Q => c119 (d := d + 5) (Q := Q) hC.1 hC.2.2.2.2.2.1 hl (x := nI ((ln pa s).getD i 0))
  rw [psI_at hK hi] at c
  obtain ⟨ν, k1, k2⟩ := c109_l (d := d) hK hW hi (v1 := some (.int (nI ((ln pa s).getD i 0)))) (ln pa s).length 0 0 8 μ none (by omega) (by omega) hC
  rw [fI_z] at k2
  refine ⟨ν, k1, fun Q => ?_⟩
  unfold ouA
  simp (disch := first | assumption | omega) only [r109_0, r109_1, r109_2, r109_5, r109_6, r109_7, r109_8, r109_11, r109_12, r109_13, r109_14, r109_15, r109_17, r109_19, r109_20, r109_24, r109_25, r109_28, r109_31, r109_33, r109_34, r109_37, r109_39, r109_42, r109_43, r109_45, r109_46, r109_49, r109_51, r109_53, r109_55, r109_58, r109_60, r109_62, r109_63, r109_66, r109_68, r109_69, r109_70, r109_73, r109_76, r109_77, rI_wI, rL_wL, rR_wR, rI_wL, rI_wR, rL_wI, rL_wR, rR_wI, rR_wL, va_rf_some, va_rf_none, Option.toList_some, Option.toList_none, List.nil_append, List.cons_append, true_and, and_true, false_and, and_false, and_self, if_true, if_false, not_true_eq_false, not_false_eq_true, or_false, false_or, or_true, true_or, or_self, ite_true, ite_false, Option.some.injEq, reduceCtorEq, Nat.reduceMod, Nat.reduceDiv, Nat.reduceLeDiff, Nat.reduceEqDiff, Nat.reduceAdd, Nat.reduceMul, Nat.reduceSub, Nat.reduceLT, sw_nil, sw_int, sw_long, sw_ref, li, lo, nI_m1, ng_eq, nn_eq, en_eq, ng_le, ng_lt, Int32.neg_neg, nI_add, pk_mul, nI_clampO, nI_ltO, nI_leO, nI_eqO, nI_subO, nle_t, nle_f, nlt_t, nlt_f, neq_f, c, k2]
theorem c109n (hC : CH μ pa lw s un mk tp) (hK : OKA pa s un mk tp) {x : Int32} {Q : Option Value → PM → Prop} (h : ¬ ∃ i, i < (ln pa s).length ∧ x = nI ((ln pa s).getD i 0)) : R (d + 1) 109 0 [some (.ref 2000010), some (.int x), none, none, none, none, none] [] μ Q = Q (some (.int (-nI 1))) μ := by
  have hl := ln7 (s := s) hK.1
  have c := fun Q => c119 (d := d) (Q := Q) hC.1 hC.2.2.2.2.2.1 hl (x := x)
  rw [psI_no h] at c
  simp (disch := first | assumption | omega) only [r109_0, r109_1, r109_2, r109_5, r109_6, r109_7, r109_8, r109_11, r109_12, r109_13, r109_14, r109_15, r109_17, r109_19, r109_20, r109_24, r109_25, r109_28, r109_31, r109_33, r109_34, r109_37, r109_39, r109_42, r109_43, r109_45, r109_46, r109_49, r109_51, r109_53, r109_55, r109_58, r109_60, r109_62, r109_63, r109_66, r109_68, r109_69, r109_70, r109_73, r109_76, r109_77, rI_wI, rL_wL, rR_wR, rI_wL, rI_wR, rL_wI, rL_wR, rR_wI, rR_wL, va_rf_some, va_rf_none, Option.toList_some, Option.toList_none, List.nil_append, List.cons_append, true_and, and_true, false_and, and_false, and_self, if_true, if_false, not_true_eq_false, not_false_eq_true, or_false, false_or, or_true, true_or, or_self, ite_true, ite_false, Option.some.injEq, reduceCtorEq, Nat.reduceMod, Nat.reduceDiv, Nat.reduceLeDiff, Nat.reduceEqDiff, Nat.reduceAdd, Nat.reduceMul, Nat.reduceSub, Nat.reduceLT, sw_nil, sw_int, sw_long, sw_ref, li, lo, nI_m1, ng_eq, nn_eq, en_eq, ng_le, ng_lt, Int32.neg_neg, nI_add, pk_mul, nI_clampO, nI_ltO, nI_leO, nI_eqO, nI_subO, nle_t, nle_f, nlt_t, nlt_f, neq_f, c]
/-- the reference -/
theorem c215_l (hK : OKA pa s un mk tp) (hW : LK lw) {i : Nat} (hi : i < (ln pa s).length) : ∀ (r k b fw : Nat) (μ : PM) (v5 : Option Value), k + r = (ln pa s).length → fw ≤ 8 → MH μ pa lw s un mk tp → MLn μ (ln pa s) → ∃ ν, MSc μ ν ∧ ∀ Q, R (d + 5) 215 17 [some (.ref 110000011), some (.int (nI ((ln pa s).getD i 0))), some (.int (fI b)), some (.int (nI fw)), some (.int (nI k)), v5] [] μ Q = Q (some (.int (fI (ouS (ouV pa lw (ln pa s) i) (ln pa s) i r k b fw)))) ν := by
  have hl := ln7 (s := s) hK.1
  have hp0 := hK.1.1.1
  have q1 := ln_at hK hi
  have hm : (ln pa s).getD i 0 ∈ ln pa s := by
    rw [List.getD_eq_getElem?_getD, List.getElem?_eq_getElem hi]
    exact List.getElem_mem hi
  have hb := ((ln_mem hK.1 hK.2.1 _).mp hm).2
  have ho := SO7 hK.1 hK.2.1
  intro r
  induction r with
  | zero =>
    intro k b fw μ v5 hk hfw hM hL
    have hL1 := hL.1
    refine ⟨μ, MSc_rf _, fun Q => ?_⟩
    rw [r215_17, ouS]
    simp (disch := first | assumption | omega) only [r215_0, r215_1, r215_2, r215_5, r215_6, r215_9, r215_10, r215_11, r215_13, r215_14, r215_15, r215_19, r215_20, r215_23, r215_26, r215_27, r215_28, r215_31, r215_34, r215_35, r215_36, r215_39, r215_42, r215_43, r215_46, r215_48, r215_49, r215_50, r215_53, r215_54, r215_55, r215_56, r215_59, r215_61, r215_62, r215_65, r215_68, r215_70, r215_72, r215_73, r215_76, r215_77, r215_80, r215_82, r215_83, r215_86, r215_87, r215_88, r215_90, r215_91, r215_94, r215_96, r215_99, r215_100, r215_101, r215_104, r215_107, r215_108, rI_wI, rL_wL, rR_wR, rI_wL, rI_wR, rL_wI, rL_wR, rR_wI, rR_wL, va_rf_some, va_rf_none, Option.toList_some, Option.toList_none, List.nil_append, List.cons_append, true_and, and_true, false_and, and_false, and_self, if_true, if_false, not_true_eq_false, not_false_eq_true, or_false, false_or, or_true, true_or, or_self, ite_true, ite_false, Option.some.injEq, reduceCtorEq, Nat.reduceMod, Nat.reduceDiv, Nat.reduceLeDiff, Nat.reduceEqDiff, Nat.reduceAdd, Nat.reduceMul, Nat.reduceSub, Nat.reduceLT, sw_nil, sw_int, sw_long, sw_ref, li, lo, nI_m1, ng_eq, nn_eq, en_eq, ng_le, ng_lt, Int32.neg_neg, nI_add, pk_mul, nI_clampO, nI_ltO, nI_leO, nI_eqO, nI_subO, nle_t, nle_f, nlt_t, nlt_f, neq_f, hL1]
  | succ r ih =>
    intro k b fw μ v5 hk hfw hM hL
    have hF := hM.1
    have hL1 := hL.1
    have x1 := hL.2 k (by omega)
    have qk := ln_at hK (show k < (ln pa s).length by omega)
    obtain ⟨sd, z1, z2⟩ := MK_s hM.2.2.2.1
    have c5 := fun Q => c175y (d := d + 3) (Q := Q) hM.1 hM.2.1 hp0 q1
    have c6 := fun Q => c176 (d := d + 4) (Q := Q) hM.1 z1 (i := (ln pa s).getD i 0) (by omega) (by rw [z2]; omega)
    rw [z2, hb] at c6
    rw [ouS]
    by_cases e : k = i
    · subst e
      rw [if_pos rfl]
      obtain ⟨ν, k1, k2⟩ := ih (k + 1) b fw μ v5 (by omega) hfw hM hL
      refine ⟨ν, k1, fun Q => ?_⟩
      rw [r215_17]
      simp (disch := first | assumption | omega) only [r215_0, r215_1, r215_2, r215_5, r215_6, r215_9, r215_10, r215_11, r215_13, r215_14, r215_15, r215_19, r215_20, r215_23, r215_26, r215_27, r215_28, r215_31, r215_34, r215_35, r215_36, r215_39, r215_42, r215_43, r215_46, r215_48, r215_49, r215_50, r215_53, r215_54, r215_55, r215_56, r215_59, r215_61, r215_62, r215_65, r215_68, r215_70, r215_72, r215_73, r215_76, r215_77, r215_80, r215_82, r215_83, r215_86, r215_87, r215_88, r215_90, r215_91, r215_94, r215_96, r215_99, r215_100, r215_101, r215_104, r215_107, r215_108, rI_wI, rL_wL, rR_wR, rI_wL, rI_wR, rL_wI, rL_wR, rR_wI, rR_wL, va_rf_some, va_rf_none, Option.toList_some, Option.toList_none, List.nil_append, List.cons_append, true_and, and_true, false_and, and_false, and_self, if_true, if_false, not_true_eq_false, not_false_eq_true, or_false, false_or, or_true, true_or, or_self, ite_true, ite_false, Option.some.injEq, reduceCtorEq, Nat.reduceMod, Nat.reduceDiv, Nat.reduceLeDiff, Nat.reduceEqDiff, Nat.reduceAdd, Nat.reduceMul, Nat.reduceSub, Nat.reduceLT, sw_nil, sw_int, sw_long, sw_ref, li, lo, nI_m1, ng_eq, nn_eq, en_eq, ng_le, ng_lt, Int32.neg_neg, nI_add, pk_mul, nI_clampO, nI_ltO, nI_leO, nI_eqO, nI_subO, nle_t, nle_f, nlt_t, nlt_f, neq_f, fx_2000010_0, fx_2000010_1, fx_2000010_4, fx_2000010_5, fx_2000010_6, fx_2000010_8, fx_2000010_10, fx_2000010_11, fx_2000010_12, fx_2000010_13, fx_2000010_14, fx_2000010_15, fx_2000010_16, fx_2000010_17, fx_2000010_18, fx_3000009_0, fx_5000007_0, fx_5000007_1, fx_5000007_2, fx_5000007_3, fx_7000001_0, fx_11000005_1, fx_11000005_2, fx_11000005_3, fx_11000005_4, fx_11000005_5, fx_11000005_6, fx_11000005_10, fx_11000005_11, fx_11000005_12, fx_20000002_0, fx_20000002_2, fx_20000002_3, fx_20000002_4, fx_25000005_1, fx_25000005_2, fx_25000005_3, fx_25000005_4, fx_25000005_5, fx_25000005_6, fx_25000005_10, fx_25000005_11, fx_25000005_12, fx_34000002_0, fx_34000002_2, fx_34000002_3, fx_34000002_4, fx_39000008_0, fx_41000006_0, fx_42002024_0, fx_42002024_1, fx_42002024_2, fx_42002024_3, fx_42002024_4, fx_42002024_5, fx_42002024_6, fx_42002024_7, fx_42002024_8, fx_42002024_9, fx_42002024_10, fx_42002024_11, fx_42002024_12, fx_42002024_13, fx_42002024_14, fx_42002024_15, fx_42002024_16, fx_42002024_17, fx_42002024_18, fx_42002024_19, fx_43000008_0, fx_45000008_0, fx_47000008_0, fx_49000008_0, fx_51000008_0, fx_53000008_0, fx_55000008_0, fx_57000008_0, fx_59000008_0, fx_61000008_0, fx_63000008_0, fx_65000008_0, fx_67000008_0, fx_69000008_0, fx_71000008_0, fx_73000008_0, fx_75000008_0, fx_77000008_0, fx_79000008_0, fx_81000008_0, fx_83000424_0, fx_83000424_1, fx_83000424_2, fx_83000424_3, fx_85000004_0, fx_85000004_1, fx_85000004_2, fx_85000004_3, fx_85000004_4, fx_85000004_5, fx_85000004_6, fx_85000004_10, fx_102000008_0, fx_104000008_0, fx_106000008_0, fx_108000008_0, fx_110000011_1, fx_110000011_4, fx_110000011_5, fx_110000011_6, fx_110000011_9, fx_110000011_10, fx_110000011_11, fx_110000011_12, fx_110000011_14, fx_110000011_15, fx_110000011_20, fx_110000011_21, fx_110000011_22, fx_110000011_23, fx_110000011_25, fx_110000011_26, fx_110000011_31, fx_110000011_32, fx_110000011_37, fx_110000011_38, fx_110000011_39, fx_110000011_40, hL1, x1, c5, c6, k2]
    · rw [if_neg e]
      have hne : (ln pa s).getD k 0 ≠ (ln pa s).getD i 0 := fun q => e (nd_inj (ln_L7 hK) (by omega) hi q)
      obtain ⟨ν1, n1, n2⟩ := c212 (d := d) hM hK hW hL (bz := (ln pa s).getD k 0 + 1) (p := (ln pa s).getD i 0) (by omega) (by omega)
      have hel := er_len (show k < (ln pa s).length by omega)
      have h7 := er_L7 (ln_L7 hK) (show k < (ln pa s).length by omega)
      have hpl : plN i k < ((ln pa s).eraseIdx k).length := by rw [hel]; unfold plN; split <;> omega
      have hbb := laS_b (laN pa lw) h7 hpl
      rw [er_fil _ _ (ln_L7 hK).1 (by omega), ← pl_at (ln pa s) (Ne.symm e), la_eq _ h7 (by omega) hpl, pl_at (ln pa s) (Ne.symm e), fI_s] at n2
      have c := fun Q => c214 (d := d + 4) (μ := ν1) (Q := Q) hbb
      have hM1 := MSc_MH (EX_MSc n1 l2_mp) hM
      have hF1 := hM1.1
      have hL2 := EX_MLn n1 (by decide) (by decide) hL
      have x2 := hL2.2 k (by omega)
      have hV : popN (laS (laN pa lw) ((ln pa s).eraseIdx k) (plN i k)) = ouV pa lw (ln pa s) i k := rfl
      have hV7 := popN_le _ hbb
      rw [hV] at c hV7
      generalize ouV pa lw (ln pa s) i k = V at *
      by_cases h : V < fw
      · rw [if_pos h]
        obtain ⟨ν, k1, k2⟩ := ih (k + 1) ((ln pa s).getD k 0 + 1) V ν1 (some (.int (nI V))) (by omega) (by omega) hM1 hL2
        rw [fI_s] at k2
        refine ⟨ν, MSc_tr (EX_MSc n1 l2_mp) k1, fun Q => ?_⟩
        rw [r215_17]
        simp (disch := first | assumption | omega) only [r215_0, r215_1, r215_2, r215_5, r215_6, r215_9, r215_10, r215_11, r215_13, r215_14, r215_15, r215_19, r215_20, r215_23, r215_26, r215_27, r215_28, r215_31, r215_34, r215_35, r215_36, r215_39, r215_42, r215_43, r215_46, r215_48, r215_49, r215_50, r215_53, r215_54, r215_55, r215_56, r215_59, r215_61, r215_62, r215_65, r215_68, r215_70, r215_72, r215_73, r215_76, r215_77, r215_80, r215_82, r215_83, r215_86, r215_87, r215_88, r215_90, r215_91, r215_94, r215_96, r215_99, r215_100, r215_101, r215_104, r215_107, r215_108, rI_wI, rL_wL, rR_wR, rI_wL, rI_wR, rL_wI, rL_wR, rR_wI, rR_wL, va_rf_some, va_rf_none, Option.toList_some, Option.toList_none, List.nil_append, List.cons_append, true_and, and_true, false_and, and_false, and_self, if_true, if_false, not_true_eq_false, not_false_eq_true, or_false, false_or, or_true, true_or, or_self, ite_true, ite_false, Option.some.injEq, reduceCtorEq, Nat.reduceMod, Nat.reduceDiv, Nat.reduceLeDiff, Nat.reduceEqDiff, Nat.reduceAdd, Nat.reduceMul, Nat.reduceSub, Nat.reduceLT, sw_nil, sw_int, sw_long, sw_ref, li, lo, nI_m1, ng_eq, nn_eq, en_eq, ng_le, ng_lt, Int32.neg_neg, nI_add, pk_mul, nI_clampO, nI_ltO, nI_leO, nI_eqO, nI_subO, nle_t, nle_f, nlt_t, nlt_f, neq_f, fx_2000010_0, fx_2000010_1, fx_2000010_4, fx_2000010_5, fx_2000010_6, fx_2000010_8, fx_2000010_10, fx_2000010_11, fx_2000010_12, fx_2000010_13, fx_2000010_14, fx_2000010_15, fx_2000010_16, fx_2000010_17, fx_2000010_18, fx_3000009_0, fx_5000007_0, fx_5000007_1, fx_5000007_2, fx_5000007_3, fx_7000001_0, fx_11000005_1, fx_11000005_2, fx_11000005_3, fx_11000005_4, fx_11000005_5, fx_11000005_6, fx_11000005_10, fx_11000005_11, fx_11000005_12, fx_20000002_0, fx_20000002_2, fx_20000002_3, fx_20000002_4, fx_25000005_1, fx_25000005_2, fx_25000005_3, fx_25000005_4, fx_25000005_5, fx_25000005_6, fx_25000005_10, fx_25000005_11, fx_25000005_12, fx_34000002_0, fx_34000002_2, fx_34000002_3, fx_34000002_4, fx_39000008_0, fx_41000006_0, fx_42002024_0, fx_42002024_1, fx_42002024_2, fx_42002024_3, fx_42002024_4, fx_42002024_5, fx_42002024_6, fx_42002024_7, fx_42002024_8, fx_42002024_9, fx_42002024_10, fx_42002024_11, fx_42002024_12, fx_42002024_13, fx_42002024_14, fx_42002024_15, fx_42002024_16, fx_42002024_17, fx_42002024_18, fx_42002024_19, fx_43000008_0, fx_45000008_0, fx_47000008_0, fx_49000008_0, fx_51000008_0, fx_53000008_0, fx_55000008_0, fx_57000008_0, fx_59000008_0, fx_61000008_0, fx_63000008_0, fx_65000008_0, fx_67000008_0, fx_69000008_0, fx_71000008_0, fx_73000008_0, fx_75000008_0, fx_77000008_0, fx_79000008_0, fx_81000008_0, fx_83000424_0, fx_83000424_1, fx_83000424_2, fx_83000424_3, fx_85000004_0, fx_85000004_1, fx_85000004_2, fx_85000004_3, fx_85000004_4, fx_85000004_5, fx_85000004_6, fx_85000004_10, fx_102000008_0, fx_104000008_0, fx_106000008_0, fx_108000008_0, fx_110000011_1, fx_110000011_4, fx_110000011_5, fx_110000011_6, fx_110000011_9, fx_110000011_10, fx_110000011_11, fx_110000011_12, fx_110000011_14, fx_110000011_15, fx_110000011_20, fx_110000011_21, fx_110000011_22, fx_110000011_23, fx_110000011_25, fx_110000011_26, fx_110000011_31, fx_110000011_32, fx_110000011_37, fx_110000011_38, fx_110000011_39, fx_110000011_40, hL1, x1, x2, c5, c6, n2, c, k2]
      · rw [if_neg h]
        obtain ⟨ν, k1, k2⟩ := ih (k + 1) b fw ν1 (some (.int (nI V))) (by omega) hfw hM1 hL2
        refine ⟨ν, MSc_tr (EX_MSc n1 l2_mp) k1, fun Q => ?_⟩
        rw [r215_17]
        simp (disch := first | assumption | omega) only [r215_0, r215_1, r215_2, r215_5, r215_6, r215_9, r215_10, r215_11, r215_13, r215_14, r215_15, r215_19, r215_20, r215_23, r215_26, r215_27, r215_28, r215_31, r215_34, r215_35, r215_36, r215_39, r215_42, r215_43, r215_46, r215_48, r215_49, r215_50, r215_53, r215_54, r215_55, r215_56, r215_59, r215_61, r215_62, r215_65, r215_68, r215_70, r215_72, r215_73, r215_76, r215_77, r215_80, r215_82, r215_83, r215_86, r215_87, r215_88, r215_90, r215_91, r215_94, r215_96, r215_99, r215_100, r215_101, r215_104, r215_107, r215_108, rI_wI, rL_wL, rR_wR, rI_wL, rI_wR, rL_wI, rL_wR, rR_wI, rR_wL, va_rf_some, va_rf_none, Option.toList_some, Option.toList_none, List.nil_append, List.cons_append, true_and, and_true, false_and, and_false, and_self, if_true, if_false, not_true_eq_false, not_false_eq_true, or_false, false_or, or_true, true_or, or_self, ite_true, ite_false, Option.some.injEq, reduceCtorEq, Nat.reduceMod, Nat.reduceDiv, Nat.reduceLeDiff, Nat.reduceEqDiff, Nat.reduceAdd, Nat.reduceMul, Nat.reduceSub, Nat.reduceLT, sw_nil, sw_int, sw_long, sw_ref, li, lo, nI_m1, ng_eq, nn_eq, en_eq, ng_le, ng_lt, Int32.neg_neg, nI_add, pk_mul, nI_clampO, nI_ltO, nI_leO, nI_eqO, nI_subO, nle_t, nle_f, nlt_t, nlt_f, neq_f, fx_2000010_0, fx_2000010_1, fx_2000010_4, fx_2000010_5, fx_2000010_6, fx_2000010_8, fx_2000010_10, fx_2000010_11, fx_2000010_12, fx_2000010_13, fx_2000010_14, fx_2000010_15, fx_2000010_16, fx_2000010_17, fx_2000010_18, fx_3000009_0, fx_5000007_0, fx_5000007_1, fx_5000007_2, fx_5000007_3, fx_7000001_0, fx_11000005_1, fx_11000005_2, fx_11000005_3, fx_11000005_4, fx_11000005_5, fx_11000005_6, fx_11000005_10, fx_11000005_11, fx_11000005_12, fx_20000002_0, fx_20000002_2, fx_20000002_3, fx_20000002_4, fx_25000005_1, fx_25000005_2, fx_25000005_3, fx_25000005_4, fx_25000005_5, fx_25000005_6, fx_25000005_10, fx_25000005_11, fx_25000005_12, fx_34000002_0, fx_34000002_2, fx_34000002_3, fx_34000002_4, fx_39000008_0, fx_41000006_0, fx_42002024_0, fx_42002024_1, fx_42002024_2, fx_42002024_3, fx_42002024_4, fx_42002024_5, fx_42002024_6, fx_42002024_7, fx_42002024_8, fx_42002024_9, fx_42002024_10, fx_42002024_11, fx_42002024_12, fx_42002024_13, fx_42002024_14, fx_42002024_15, fx_42002024_16, fx_42002024_17, fx_42002024_18, fx_42002024_19, fx_43000008_0, fx_45000008_0, fx_47000008_0, fx_49000008_0, fx_51000008_0, fx_53000008_0, fx_55000008_0, fx_57000008_0, fx_59000008_0, fx_61000008_0, fx_63000008_0, fx_65000008_0, fx_67000008_0, fx_69000008_0, fx_71000008_0, fx_73000008_0, fx_75000008_0, fx_77000008_0, fx_79000008_0, fx_81000008_0, fx_83000424_0, fx_83000424_1, fx_83000424_2, fx_83000424_3, fx_85000004_0, fx_85000004_1, fx_85000004_2, fx_85000004_3, fx_85000004_4, fx_85000004_5, fx_85000004_6, fx_85000004_10, fx_102000008_0, fx_104000008_0, fx_106000008_0, fx_108000008_0, fx_110000011_1, fx_110000011_4, fx_110000011_5, fx_110000011_6, fx_110000011_9, fx_110000011_10, fx_110000011_11, fx_110000011_12, fx_110000011_14, fx_110000011_15, fx_110000011_20, fx_110000011_21, fx_110000011_22, fx_110000011_23, fx_110000011_25, fx_110000011_26, fx_110000011_31, fx_110000011_32, fx_110000011_37, fx_110000011_38, fx_110000011_39, fx_110000011_40, hL1, x1, x2, c5, c6, n2, c, k2]
theorem c215y (hM : MH μ pa lw s un mk tp) (hK : OKA pa s un mk tp) (hW : LK lw) {i : Nat} (hi : i < (ln pa s).length) : ∃ ν, MSc μ ν ∧ ∀ Q, R (d + 5) 215 0 [some (.ref 110000011), some (.int (nI ((ln pa s).getD i 0))), none, none, none, none] [] μ Q = Q (some (.int (ouA pa lw s i))) ν := by
  obtain ⟨ν, k1, k2, k3⟩ := fLn (d := d + 3) (MSc_MH (th_MSc μ) hM) hK
  have k0 := MSc_tr (th_MSc μ) k1
  obtain ⟨ν2, n1, n2⟩ := c215_l (d := d) hK hW hi (ln pa s).length 0 0 8 ν none (by omega) (by omega) (MSc_MH k0 hM) k2
  rw [fI_z] at n2
  refine ⟨ν2, MSc_tr k0 n1, fun Q => ?_⟩
  unfold ouA
  simp (disch := first | assumption | omega) only [r215_0, r215_1, r215_2, r215_5, r215_6, r215_9, r215_10, r215_11, r215_13, r215_14, r215_15, rI_wI, rL_wL, rR_wR, rI_wL, rI_wR, rL_wI, rL_wR, rR_wI, rR_wL, va_rf_some, va_rf_none, Option.toList_some, Option.toList_none, List.nil_append, List.cons_append, true_and, and_true, false_and, and_false, and_self, if_true, if_false, not_true_eq_false, not_false_eq_true, or_false, false_or, or_true, true_or, or_self, ite_true, ite_false, Option.some.injEq, reduceCtorEq, Nat.reduceMod, Nat.reduceDiv, Nat.reduceLeDiff, Nat.reduceEqDiff, Nat.reduceAdd, Nat.reduceMul, Nat.reduceSub, Nat.reduceLT, sw_nil, sw_int, sw_long, sw_ref, li, lo, nI_m1, ng_eq, nn_eq, en_eq, ng_le, ng_lt, Int32.neg_neg, nI_add, pk_mul, nI_clampO, nI_ltO, nI_leO, nI_eqO, nI_subO, nle_t, nle_f, nlt_t, nlt_f, neq_f, k3, n2]
theorem c215n (hM : MH μ pa lw s un mk tp) (hK : OKA pa s un mk tp) {x : Int32} (h : ¬ ∃ i, i < (ln pa s).length ∧ x = nI ((ln pa s).getD i 0)) : ∃ ν, MSc μ ν ∧ ∀ Q, R (d + 2) 215 0 [some (.ref 110000011), some (.int x), none, none, none, none] [] μ Q = Q (some (.int (-nI 1))) ν := by
  have hp0 := hK.1.1.1
  have hl := ln7 (s := s) hK.1
  obtain ⟨ν, k1, k2, k3⟩ := fLn (d := d) (MSc_MH (th_MSc μ) hM) hK
  have k0 := MSc_tr (th_MSc μ) k1
  have hM1 := MSc_MH k0 hM
  have hL1 := k2.1
  refine ⟨ν, k0, fun Q => ?_⟩
  by_cases h0 : (ln pa s).length ≤ 0
  · simp (disch := first | assumption | omega) only [r215_0, r215_1, r215_2, r215_5, r215_6, r215_9, r215_10, r215_11, r215_13, r215_14, r215_15, r215_17, r215_19, r215_20, r215_23, r215_26, r215_27, r215_28, r215_31, r215_34, r215_35, r215_36, r215_39, r215_42, r215_43, r215_46, r215_48, r215_49, r215_50, r215_53, r215_54, r215_55, r215_56, r215_59, r215_61, r215_62, r215_65, r215_68, r215_70, r215_72, r215_73, r215_76, r215_77, r215_80, r215_82, r215_83, r215_86, r215_87, r215_88, r215_90, r215_91, r215_94, r215_96, r215_99, r215_100, r215_101, r215_104, r215_107, r215_108, rI_wI, rL_wL, rR_wR, rI_wL, rI_wR, rL_wI, rL_wR, rR_wI, rR_wL, va_rf_some, va_rf_none, Option.toList_some, Option.toList_none, List.nil_append, List.cons_append, true_and, and_true, false_and, and_false, and_self, if_true, if_false, not_true_eq_false, not_false_eq_true, or_false, false_or, or_true, true_or, or_self, ite_true, ite_false, Option.some.injEq, reduceCtorEq, Nat.reduceMod, Nat.reduceDiv, Nat.reduceLeDiff, Nat.reduceEqDiff, Nat.reduceAdd, Nat.reduceMul, Nat.reduceSub, Nat.reduceLT, sw_nil, sw_int, sw_long, sw_ref, li, lo, nI_m1, ng_eq, nn_eq, en_eq, ng_le, ng_lt, Int32.neg_neg, nI_add, pk_mul, nI_clampO, nI_ltO, nI_leO, nI_eqO, nI_subO, nle_t, nle_f, nlt_t, nlt_f, neq_f, k3, hL1]
  rcases xcs x (pa 0) (by omega) with q | q | ⟨j, q, rfl⟩
  · have c5 := fun Q => c175n (d := d) (Q := Q) hM1.1 hM1.2.1 hp0 (Or.inl q)
    simp (disch := first | assumption | omega) only [r215_0, r215_1, r215_2, r215_5, r215_6, r215_9, r215_10, r215_11, r215_13, r215_14, r215_15, r215_17, r215_19, r215_20, r215_23, r215_26, r215_27, r215_28, r215_31, r215_34, r215_35, r215_36, r215_39, r215_42, r215_43, r215_46, r215_48, r215_49, r215_50, r215_53, r215_54, r215_55, r215_56, r215_59, r215_61, r215_62, r215_65, r215_68, r215_70, r215_72, r215_73, r215_76, r215_77, r215_80, r215_82, r215_83, r215_86, r215_87, r215_88, r215_90, r215_91, r215_94, r215_96, r215_99, r215_100, r215_101, r215_104, r215_107, r215_108, rI_wI, rL_wL, rR_wR, rI_wL, rI_wR, rL_wI, rL_wR, rR_wI, rR_wL, va_rf_some, va_rf_none, Option.toList_some, Option.toList_none, List.nil_append, List.cons_append, true_and, and_true, false_and, and_false, and_self, if_true, if_false, not_true_eq_false, not_false_eq_true, or_false, false_or, or_true, true_or, or_self, ite_true, ite_false, Option.some.injEq, reduceCtorEq, Nat.reduceMod, Nat.reduceDiv, Nat.reduceLeDiff, Nat.reduceEqDiff, Nat.reduceAdd, Nat.reduceMul, Nat.reduceSub, Nat.reduceLT, sw_nil, sw_int, sw_long, sw_ref, li, lo, nI_m1, ng_eq, nn_eq, en_eq, ng_le, ng_lt, Int32.neg_neg, nI_add, pk_mul, nI_clampO, nI_ltO, nI_leO, nI_eqO, nI_subO, nle_t, nle_f, nlt_t, nlt_f, neq_f, k3, hL1, c5]
  · have c5 := fun Q => c175n (d := d) (Q := Q) hM1.1 hM1.2.1 hp0 (Or.inr q)
    simp (disch := first | assumption | omega) only [r215_0, r215_1, r215_2, r215_5, r215_6, r215_9, r215_10, r215_11, r215_13, r215_14, r215_15, r215_17, r215_19, r215_20, r215_23, r215_26, r215_27, r215_28, r215_31, r215_34, r215_35, r215_36, r215_39, r215_42, r215_43, r215_46, r215_48, r215_49, r215_50, r215_53, r215_54, r215_55, r215_56, r215_59, r215_61, r215_62, r215_65, r215_68, r215_70, r215_72, r215_73, r215_76, r215_77, r215_80, r215_82, r215_83, r215_86, r215_87, r215_88, r215_90, r215_91, r215_94, r215_96, r215_99, r215_100, r215_101, r215_104, r215_107, r215_108, rI_wI, rL_wL, rR_wR, rI_wL, rI_wR, rL_wI, rL_wR, rR_wI, rR_wL, va_rf_some, va_rf_none, Option.toList_some, Option.toList_none, List.nil_append, List.cons_append, true_and, and_true, false_and, and_false, and_self, if_true, if_false, not_true_eq_false, not_false_eq_true, or_false, false_or, or_true, true_or, or_self, ite_true, ite_false, Option.some.injEq, reduceCtorEq, Nat.reduceMod, Nat.reduceDiv, Nat.reduceLeDiff, Nat.reduceEqDiff, Nat.reduceAdd, Nat.reduceMul, Nat.reduceSub, Nat.reduceLT, sw_nil, sw_int, sw_long, sw_ref, li, lo, nI_m1, ng_eq, nn_eq, en_eq, ng_le, ng_lt, Int32.neg_neg, nI_add, pk_mul, nI_clampO, nI_ltO, nI_leO, nI_eqO, nI_subO, nle_t, nle_f, nlt_t, nlt_f, neq_f, k3, hL1, c5]
  · have c5 := fun Q => c175y (d := d) (Q := Q) hM1.1 hM1.2.1 hp0 q
    obtain ⟨sd, z1, z2⟩ := MK_s hM1.2.2.2.1
    have ho := SO7 hK.1 hK.2.1
    have c6 := fun Q => c176 (d := d + 1) (Q := Q) hM1.1 z1 (i := j) (by omega) (by rw [z2]; omega)
    have hb : bt (s 7) j = 1 := by
      rcases bt_01 (s 7) j with e | e
      · have hm := (ln_mem hK.1 hK.2.1 j).mpr ⟨q, e⟩
        obtain ⟨i, hi, e2⟩ := List.mem_iff_getElem.mp hm
        exact absurd ⟨i, hi, by rw [List.getD_eq_getElem?_getD, List.getElem?_eq_getElem hi, ← e2]; rfl⟩ h
      · exact e
    rw [z2, hb] at c6
    simp (disch := first | assumption | omega) only [r215_0, r215_1, r215_2, r215_5, r215_6, r215_9, r215_10, r215_11, r215_13, r215_14, r215_15, r215_17, r215_19, r215_20, r215_23, r215_26, r215_27, r215_28, r215_31, r215_34, r215_35, r215_36, r215_39, r215_42, r215_43, r215_46, r215_48, r215_49, r215_50, r215_53, r215_54, r215_55, r215_56, r215_59, r215_61, r215_62, r215_65, r215_68, r215_70, r215_72, r215_73, r215_76, r215_77, r215_80, r215_82, r215_83, r215_86, r215_87, r215_88, r215_90, r215_91, r215_94, r215_96, r215_99, r215_100, r215_101, r215_104, r215_107, r215_108, rI_wI, rL_wL, rR_wR, rI_wL, rI_wR, rL_wI, rL_wR, rR_wI, rR_wL, va_rf_some, va_rf_none, Option.toList_some, Option.toList_none, List.nil_append, List.cons_append, true_and, and_true, false_and, and_false, and_self, if_true, if_false, not_true_eq_false, not_false_eq_true, or_false, false_or, or_true, true_or, or_self, ite_true, ite_false, Option.some.injEq, reduceCtorEq, Nat.reduceMod, Nat.reduceDiv, Nat.reduceLeDiff, Nat.reduceEqDiff, Nat.reduceAdd, Nat.reduceMul, Nat.reduceSub, Nat.reduceLT, sw_nil, sw_int, sw_long, sw_ref, li, lo, nI_m1, ng_eq, nn_eq, en_eq, ng_le, ng_lt, Int32.neg_neg, nI_add, pk_mul, nI_clampO, nI_ltO, nI_leO, nI_eqO, nI_subO, nle_t, nle_f, nlt_t, nlt_f, neq_f, k3, hL1, c5, c6]
end T1
