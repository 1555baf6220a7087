/-! A LAW, A LINE: THE REFERENCE -/
theorem nst_0 : ∀ {π : List Nat}, (∀ x, x ∈ π → 1 ≤ rk x) → nst π = 0 := by
  intro π
  induction π with
  | nil => intro _; rfl
  | cons x π ih =>
    intro h
    show (if x = 23 ∨ x = 40 then 1 else 0) + nst π = 0
    have hx := h x List.mem_cons_self
    rw [if_neg (fun q => by rw [rk_c q] at hx; omega), ih (fun y hy => h y (List.mem_cons_of_mem _ hy))]
theorem mac_end {k : Nat} {π : List Nat} {T' : List Tok} {κ' : List Cod} (hG : GT T') (hx : ∀ x, x ∈ π → 1 ≤ rk x) (hN : NX 1 π [] T') : ((hdT T').2.1 = 59 → mac k T' (π ++ []) false κ' = .ok (κ' ++ fls π, T')) ∧ ((hdT T').2.1 ≠ 59 → mac k T' (π ++ []) false κ' = .error (flT 1 T')) := by
  cases T' with
  | nil => exact hG.1.elim
  | cons t T =>
    have hj : joi 1 (π ++ []) = (fls π, []) := joi_app (σ := []) (by show rk 30 < 1; decide) hx
    have hn : nst (π ++ []) = 0 := by rw [List.append_nil]; exact nst_0 hx
    refine ⟨fun e => ?_, fun e => ?_⟩
    · have e : t.2.1 = 59 := e
      rw [mac, if_pos ⟨e, hn⟩, hj]
    · have e : t.2.1 ≠ 59 := e
      rw [mac, if_neg (fun q => e q.1), if_neg (fun q => by have := q.2; omega)]
      rcases hN with h | ⟨h1, -, h3⟩
      · have h : rk t.2.1 < 1 := h
        rw [if_pos (by omega)]
        rfl
      · have h1 : rk t.2.1 = 2 := h1
        rw [if_neg (by omega), if_pos h1, if_pos h3]
        rfl
section T1
variable {d : Nat} {μ : PM} {T : List Tok} {S : SS} {c0 : Nat}
theorem m163_a (h : RM μ (.ok T)) : ∀ (r i : Nat) (x : Int32), i + r = 3 → (∀ w, i ≤ w → w < 3 → (hdT T).2.1 ≠ 7 + w) → ∀ Q, R (d + 1) 163 7 [some (.ref 110000011), some (.int (nI i))] [] (wI μ 110000011 19 x) Q = R (d + 1) 163 41 [some (.ref 110000011), some (.int (nI 3))] [] (wI μ 110000011 19 x) Q := by
  intro r
  induction r with
  | zero =>
    intro i x hi _ Q
    have e : i = 3 := by omega
    subst e
    rw [r163_7]
    simp (disch := first | assumption | omega) only [r163_0, r163_1, r163_2, r163_5, r163_6, r163_8, r163_9, r163_12, r163_13, r163_14, r163_16, r163_17, r163_18, r163_21, r163_24, r163_25, r163_28, r163_29, r163_32, r163_35, r163_38, r163_42, r163_45, r163_48, r163_49, r163_50, r163_53, r163_54, r163_56, r163_57, r163_60, r163_61, r163_62, r163_63, r163_66, r163_67, r163_68, r163_71, r163_72, r163_73, r163_76, r163_77, r163_78, r163_78i, r163_79, r163_82, r163_83, r163_84, r163_87, r163_88, r163_91, r163_92, r163_93, r163_96, r163_97, r163_98, r163_99, r163_102, r163_103, r163_104, r163_105, r163_108, rI_wI, rL_wL, rR_wR, rI_wL, rI_wR, rL_wI, rL_wR, rR_wI, rR_wL, va_rf_some, va_rf_none, Option.toList_some, Option.toList_none, List.nil_append, List.cons_append, true_and, and_true, false_and, and_false, and_self, if_true, if_false, not_true_eq_false, not_false_eq_true, or_false, false_or, or_true, true_or, or_self, ite_true, ite_false, Option.some.injEq, reduceCtorEq, Nat.reduceMod, Nat.reduceDiv, Nat.reduceLeDiff, Nat.reduceEqDiff, Nat.reduceAdd, Nat.reduceMul, Nat.reduceSub, Nat.reduceLT, sw_nil, sw_int, sw_long, sw_ref, li, lo, nI_m1, ng_eq, nn_eq, en_eq, ng_le, ng_lt, Int32.neg_neg, nI_add, pk_mul, nI_clampO, nI_ltO, nI_leO, nI_eqO, nI_subO, nle_t, nle_f, nlt_t, nlt_f, neq_f]
  | succ r ih =>
    intro i x hi hw Q
    have z := ih (i + 1) x (by omega) (fun w h1 h2 => hw w (by omega) h2) Q
    have r1 := RM_m h (j := 19) (by omega) x
    have k1 := c142 (d := d) r1.1 r1.2.1 (r1.2.2.2 T rfl) (w := 7 + i) (by omega)
    rw [if_neg (hw i (Nat.le_refl i) (by omega))] at k1
    rw [r163_7]
    simp (disch := first | assumption | omega) only [r163_0, r163_1, r163_2, r163_5, r163_6, r163_8, r163_9, r163_12, r163_13, r163_14, r163_16, r163_17, r163_18, r163_21, r163_24, r163_25, r163_28, r163_29, r163_32, r163_35, r163_38, r163_42, r163_45, r163_48, r163_49, r163_50, r163_53, r163_54, r163_56, r163_57, r163_60, r163_61, r163_62, r163_63, r163_66, r163_67, r163_68, r163_71, r163_72, r163_73, r163_76, r163_77, r163_78, r163_78i, r163_79, r163_82, r163_83, r163_84, r163_87, r163_88, r163_91, r163_92, r163_93, r163_96, r163_97, r163_98, r163_99, r163_102, r163_103, r163_104, r163_105, r163_108, rI_wI, rL_wL, rR_wR, rI_wL, rI_wR, rL_wI, rL_wR, rR_wI, rR_wL, va_rf_some, va_rf_none, Option.toList_some, Option.toList_none, List.nil_append, List.cons_append, true_and, and_true, false_and, and_false, and_self, if_true, if_false, not_true_eq_false, not_false_eq_true, or_false, false_or, or_true, true_or, or_self, ite_true, ite_false, Option.some.injEq, reduceCtorEq, Nat.reduceMod, Nat.reduceDiv, Nat.reduceLeDiff, Nat.reduceEqDiff, Nat.reduceAdd, Nat.reduceMul, Nat.reduceSub, Nat.reduceLT, sw_nil, sw_int, sw_long, sw_ref, li, lo, nI_m1, ng_eq, nn_eq, en_eq, ng_le, ng_lt, Int32.neg_neg, nI_add, pk_mul, nI_clampO, nI_ltO, nI_leO, nI_eqO, nI_subO, nle_t, nle_f, nlt_t, nlt_f, neq_f, k1, wIwI, z]
theorem m163_b (h : RM μ (.ok T)) {w : Nat} (hw : w < 3) (hd : (hdT T).2.1 = 7 + w) : ∀ (r i : Nat) (x : Int32), i + r = 3 → i ≤ w → ∀ Q, R (d + 1) 163 7 [some (.ref 110000011), some (.int (nI i))] [] (wI μ 110000011 19 x) Q = R (d + 1) 163 41 [some (.ref 110000011), some (.int (nI 3))] [] (wI μ 110000011 19 (nI w)) Q := by
  intro r
  induction r with
  | zero => intro i x hi hiw Q; omega
  | succ r ih =>
    intro i x hi hiw Q
    have r1 := RM_m h (j := 19) (by omega) x
    have k1 := c142 (d := d) r1.1 r1.2.1 (r1.2.2.2 T rfl) (w := 7 + i) (by omega)
    by_cases e : i = w
    · subst e
      rw [if_pos hd] at k1
      have z := m163_a (d := d) h r (i + 1) (nI i) (by omega) (fun w h1 h2 => by omega) Q
      rw [r163_7]
      simp (disch := first | assumption | omega) only [r163_0, r163_1, r163_2, r163_5, r163_6, r163_8, r163_9, r163_12, r163_13, r163_14, r163_16, r163_17, r163_18, r163_21, r163_24, r163_25, r163_28, r163_29, r163_32, r163_35, r163_38, r163_42, r163_45, r163_48, r163_49, r163_50, r163_53, r163_54, r163_56, r163_57, r163_60, r163_61, r163_62, r163_63, r163_66, r163_67, r163_68, r163_71, r163_72, r163_73, r163_76, r163_77, r163_78, r163_78i, r163_79, r163_82, r163_83, r163_84, r163_87, r163_88, r163_91, r163_92, r163_93, r163_96, r163_97, r163_98, r163_99, r163_102, r163_103, r163_104, r163_105, r163_108, rI_wI, rL_wL, rR_wR, rI_wL, rI_wR, rL_wI, rL_wR, rR_wI, rR_wL, va_rf_some, va_rf_none, Option.toList_some, Option.toList_none, List.nil_append, List.cons_append, true_and, and_true, false_and, and_false, and_self, if_true, if_false, not_true_eq_false, not_false_eq_true, or_false, false_or, or_true, true_or, or_self, ite_true, ite_false, Option.some.injEq, reduceCtorEq, Nat.reduceMod, Nat.reduceDiv, Nat.reduceLeDiff, Nat.reduceEqDiff, Nat.reduceAdd, Nat.reduceMul, Nat.reduceSub, Nat.reduceLT, sw_nil, sw_int, sw_long, sw_ref, li, lo, nI_m1, ng_eq, nn_eq, en_eq, ng_le, ng_lt, Int32.neg_neg, nI_add, pk_mul, nI_clampO, nI_ltO, nI_leO, nI_eqO, nI_subO, nle_t, nle_f, nlt_t, nlt_f, neq_f, k1, wIwI, z]
    · rw [if_neg (by omega)] at k1
      have z := ih (i + 1) x (by omega) (by omega) Q
      rw [r163_7]
      simp (disch := first | assumption | omega) only [r163_0, r163_1, r163_2, r163_5, r163_6, r163_8, r163_9, r163_12, r163_13, r163_14, r163_16, r163_17, r163_18, r163_21, r163_24, r163_25, r163_28, r163_29, r163_32, r163_35, r163_38, r163_42, r163_45, r163_48, r163_49, r163_50, r163_53, r163_54, r163_56, r163_57, r163_60, r163_61, r163_62, r163_63, r163_66, r163_67, r163_68, r163_71, r163_72, r163_73, r163_76, r163_77, r163_78, r163_78i, r163_79, r163_82, r163_83, r163_84, r163_87, r163_88, r163_91, r163_92, r163_93, r163_96, r163_97, r163_98, r163_99, r163_102, r163_103, r163_104, r163_105, r163_108, rI_wI, rL_wL, rR_wR, rI_wL, rI_wR, rL_wI, rL_wR, rR_wI, rR_wL, va_rf_some, va_rf_none, Option.toList_some, Option.toList_none, List.nil_append, List.cons_append, true_and, and_true, false_and, and_false, and_self, if_true, if_false, not_true_eq_false, not_false_eq_true, or_false, false_or, or_true, true_or, or_self, ite_true, ite_false, Option.some.injEq, reduceCtorEq, Nat.reduceMod, Nat.reduceDiv, Nat.reduceLeDiff, Nat.reduceEqDiff, Nat.reduceAdd, Nat.reduceMul, Nat.reduceSub, Nat.reduceLT, sw_nil, sw_int, sw_long, sw_ref, li, lo, nI_m1, ng_eq, nn_eq, en_eq, ng_le, ng_lt, Int32.neg_neg, nI_add, pk_mul, nI_clampO, nI_ltO, nI_leO, nI_eqO, nI_subO, nle_t, nle_f, nlt_t, nlt_f, neq_f, k1, wIwI, z]
theorem m163n (h : RM μ (.ok T)) (hd : ∀ w, w < 3 → (hdT T).2.1 ≠ 7 + w) : ∃ ν, GQ μ ν ∧ RM ν (.error (flT 1 T)) ∧ ∀ Q, R (d + 1) 163 0 [some (.ref 110000011), none] [] μ Q = Q none ν := by
  have r1 := RM_m h (j := 19) (by omega) (-nI 1)
  obtain ⟨l1, l2⟩ := m140 (d := d) r1.1 r1.2.1 (r1.2.2.2 T rfl) (k := 1) (by omega) (by omega)
  have z := m163_a (d := d) h 3 0 (-nI 1) (by omega) (fun w _ h2 => hd w h2)
  refine ⟨_, GQ_tr (GQ_m μ (-nI 1) (j := 19) (by omega)) (GQ_m _ _ (by omega)), l1, fun Q => ?_⟩
  have s1 : R (d + 1) 163 0 [some (.ref 110000011), none] [] μ Q = R (d + 1) 163 7 [some (.ref 110000011), some (.int (nI 0))] [] (wI μ 110000011 19 (-nI 1)) Q := by
    simp (disch := first | assumption | omega) only [r163_0, r163_1, r163_2, r163_5, r163_6, r163_8, r163_9, r163_12, r163_13, r163_14, r163_16, r163_17, r163_18, r163_21, r163_24, r163_25, r163_28, r163_29, r163_32, r163_35, r163_38, r163_41, r163_42, r163_45, r163_48, r163_49, r163_50, r163_53, r163_54, r163_56, r163_57, r163_60, r163_61, r163_62, r163_63, r163_66, r163_67, r163_68, r163_71, r163_72, r163_73, r163_76, r163_77, r163_78, r163_78i, r163_79, r163_82, r163_83, r163_84, r163_87, r163_88, r163_91, r163_92, r163_93, r163_96, r163_97, r163_98, r163_99, r163_102, r163_103, r163_104, r163_105, r163_108, rI_wI, rL_wL, rR_wR, rI_wL, rI_wR, rL_wI, rL_wR, rR_wI, rR_wL, va_rf_some, va_rf_none, Option.toList_some, Option.toList_none, List.nil_append, List.cons_append, true_and, and_true, false_and, and_false, and_self, if_true, if_false, not_true_eq_false, not_false_eq_true, or_false, false_or, or_true, true_or, or_self, ite_true, ite_false, Option.some.injEq, reduceCtorEq, Nat.reduceMod, Nat.reduceDiv, Nat.reduceLeDiff, Nat.reduceEqDiff, Nat.reduceAdd, Nat.reduceMul, Nat.reduceSub, Nat.reduceLT, sw_nil, sw_int, sw_long, sw_ref, li, lo, nI_m1, ng_eq, nn_eq, en_eq, ng_le, ng_lt, Int32.neg_neg, nI_add, pk_mul, nI_clampO, nI_ltO, nI_leO, nI_eqO, nI_subO, nle_t, nle_f, nlt_t, nlt_f, neq_f]
  rw [s1, z Q]
  simp (disch := first | assumption | omega) only [r163_0, r163_1, r163_2, r163_5, r163_6, r163_8, r163_9, r163_12, r163_13, r163_14, r163_16, r163_17, r163_18, r163_21, r163_24, r163_25, r163_28, r163_29, r163_32, r163_35, r163_38, r163_41, r163_42, r163_45, r163_48, r163_49, r163_50, r163_53, r163_54, r163_56, r163_57, r163_60, r163_61, r163_62, r163_63, r163_66, r163_67, r163_68, r163_71, r163_72, r163_73, r163_76, r163_77, r163_78, r163_78i, r163_79, r163_82, r163_83, r163_84, r163_87, r163_88, r163_91, r163_92, r163_93, r163_96, r163_97, r163_98, r163_99, r163_102, r163_103, r163_104, r163_105, r163_108, rI_wI, rL_wL, rR_wR, rI_wL, rI_wR, rL_wI, rL_wR, rR_wI, rR_wL, va_rf_some, va_rf_none, Option.toList_some, Option.toList_none, List.nil_append, List.cons_append, true_and, and_true, false_and, and_false, and_self, if_true, if_false, not_true_eq_false, not_false_eq_true, or_false, false_or, or_true, true_or, or_self, ite_true, ite_false, Option.some.injEq, reduceCtorEq, Nat.reduceMod, Nat.reduceDiv, Nat.reduceLeDiff, Nat.reduceEqDiff, Nat.reduceAdd, Nat.reduceMul, Nat.reduceSub, Nat.reduceLT, sw_nil, sw_int, sw_long, sw_ref, li, lo, nI_m1, ng_eq, nn_eq, en_eq, ng_le, ng_lt, Int32.neg_neg, nI_add, pk_mul, nI_clampO, nI_ltO, nI_leO, nI_eqO, nI_subO, nle_t, nle_f, nlt_t, nlt_f, neq_f, l2]
theorem m163f (h : RM μ (.ok T)) (hZ : MZ μ S c0) {k : Nat} (hk : k < 3) (hd : (hdT T).2.1 = 7 + k) (hc : c0 ≤ 1001) (hl : S.2.1 k ≠ none) : ∃ ν, GQ μ ν ∧ RM ν (.error (flT 3 T)) ∧ ∀ Q, R (d + 1) 163 0 [some (.ref 110000011), none] [] μ Q = Q none ν := by
  have r1 := RM_m h (j := 19) (by omega) (nI k)
  have hF := h.1
  obtain ⟨l1, l2⟩ := m140 (d := d) r1.1 r1.2.1 (r1.2.2.2 T rfl) (k := 3) (by omega) (by omega)
  have z := m163_b (d := d) h hk hd 3 0 (-nI 1) (by omega) (by omega)
  obtain ⟨l, hl'⟩ : ∃ l, S.2.1 k = some l := by
    cases e : S.2.1 k with
    | none => exact absurd e hl
    | some l => exact ⟨l, rfl⟩
  obtain ⟨st, t1, t2, -⟩ := (hZ.2.1 k hk).2 l hl'
  refine ⟨_, GQ_tr (GQ_m μ (nI k) (j := 19) (by omega)) (GQ_m _ _ (by omega)), l1, fun Q => ?_⟩
  have s1 : R (d + 1) 163 0 [some (.ref 110000011), none] [] μ Q = R (d + 1) 163 7 [some (.ref 110000011), some (.int (nI 0))] [] (wI μ 110000011 19 (-nI 1)) Q := by
    simp (disch := first | assumption | omega) only [r163_0, r163_1, r163_2, r163_5, r163_6, r163_8, r163_9, r163_12, r163_13, r163_14, r163_16, r163_17, r163_18, r163_21, r163_24, r163_25, r163_28, r163_29, r163_32, r163_35, r163_38, r163_41, r163_42, r163_45, r163_48, r163_49, r163_50, r163_53, r163_54, r163_56, r163_57, r163_60, r163_61, r163_62, r163_63, r163_66, r163_67, r163_68, r163_71, r163_72, r163_73, r163_76, r163_77, r163_78, r163_78i, r163_79, r163_82, r163_83, r163_84, r163_87, r163_88, r163_91, r163_92, r163_93, r163_96, r163_97, r163_98, r163_99, r163_102, r163_103, r163_104, r163_105, r163_108, rI_wI, rL_wL, rR_wR, rI_wL, rI_wR, rL_wI, rL_wR, rR_wI, rR_wL, va_rf_some, va_rf_none, Option.toList_some, Option.toList_none, List.nil_append, List.cons_append, true_and, and_true, false_and, and_false, and_self, if_true, if_false, not_true_eq_false, not_false_eq_true, or_false, false_or, or_true, true_or, or_self, ite_true, ite_false, Option.some.injEq, reduceCtorEq, Nat.reduceMod, Nat.reduceDiv, Nat.reduceLeDiff, Nat.reduceEqDiff, Nat.reduceAdd, Nat.reduceMul, Nat.reduceSub, Nat.reduceLT, sw_nil, sw_int, sw_long, sw_ref, li, lo, nI_m1, ng_eq, nn_eq, en_eq, ng_le, ng_lt, Int32.neg_neg, nI_add, pk_mul, nI_clampO, nI_ltO, nI_leO, nI_eqO, nI_subO, nle_t, nle_f, nlt_t, nlt_f, neq_f]
  rw [s1, z Q]
  simp (disch := first | assumption | omega) only [r163_0, r163_1, r163_2, r163_5, r163_6, r163_8, r163_9, r163_12, r163_13, r163_14, r163_16, r163_17, r163_18, r163_21, r163_24, r163_25, r163_28, r163_29, r163_32, r163_35, r163_38, r163_41, r163_42, r163_45, r163_48, r163_49, r163_50, r163_53, r163_54, r163_56, r163_57, r163_60, r163_61, r163_62, r163_63, r163_66, r163_67, r163_68, r163_71, r163_72, r163_73, r163_76, r163_77, r163_78, r163_78i, r163_79, r163_82, r163_83, r163_84, r163_87, r163_88, r163_91, r163_92, r163_93, r163_96, r163_97, r163_98, r163_99, r163_102, r163_103, r163_104, r163_105, r163_108, rI_wI, rL_wL, rR_wR, rI_wL, rI_wR, rL_wI, rL_wR, rR_wI, rR_wL, va_rf_some, va_rf_none, Option.toList_some, Option.toList_none, List.nil_append, List.cons_append, true_and, and_true, false_and, and_false, and_self, if_true, if_false, not_true_eq_false, not_false_eq_true, or_false, false_or, or_true, true_or, or_self, ite_true, ite_false, Option.some.injEq, reduceCtorEq, Nat.reduceMod, Nat.reduceDiv, Nat.reduceLeDiff, Nat.reduceEqDiff, Nat.reduceAdd, Nat.reduceMul, Nat.reduceSub, Nat.reduceLT, sw_nil, sw_int, sw_long, sw_ref, li, lo, nI_m1, ng_eq, nn_eq, en_eq, ng_le, ng_lt, Int32.neg_neg, nI_add, pk_mul, nI_clampO, nI_ltO, nI_leO, nI_eqO, nI_subO, nle_t, nle_f, nlt_t, nlt_f, neq_f, fx_2000010_0, fx_2000010_1, fx_2000010_4, fx_2000010_5, fx_2000010_6, fx_2000010_8, fx_2000010_10, fx_2000010_11, fx_2000010_12, fx_2000010_13, fx_2000010_14, fx_2000010_15, fx_2000010_16, fx_2000010_17, fx_2000010_18, fx_3000009_0, fx_5000007_0, fx_5000007_1, fx_5000007_2, fx_5000007_3, fx_7000001_0, fx_11000005_1, fx_11000005_2, fx_11000005_3, fx_11000005_4, fx_11000005_5, fx_11000005_6, fx_11000005_10, fx_11000005_11, fx_11000005_12, fx_20000002_0, fx_20000002_2, fx_20000002_3, fx_20000002_4, fx_25000005_1, fx_25000005_2, fx_25000005_3, fx_25000005_4, fx_25000005_5, fx_25000005_6, fx_25000005_10, fx_25000005_11, fx_25000005_12, fx_34000002_0, fx_34000002_2, fx_34000002_3, fx_34000002_4, fx_39000008_0, fx_41000006_0, fx_42002024_0, fx_42002024_1, fx_42002024_2, fx_42002024_3, fx_42002024_4, fx_42002024_5, fx_42002024_6, fx_42002024_7, fx_42002024_8, fx_42002024_9, fx_42002024_10, fx_42002024_11, fx_42002024_12, fx_42002024_13, fx_42002024_14, fx_42002024_15, fx_42002024_16, fx_42002024_17, fx_42002024_18, fx_42002024_19, fx_43000008_0, fx_45000008_0, fx_47000008_0, fx_49000008_0, fx_51000008_0, fx_53000008_0, fx_55000008_0, fx_57000008_0, fx_59000008_0, fx_61000008_0, fx_63000008_0, fx_65000008_0, fx_67000008_0, fx_69000008_0, fx_71000008_0, fx_73000008_0, fx_75000008_0, fx_77000008_0, fx_79000008_0, fx_81000008_0, fx_83000424_0, fx_83000424_1, fx_83000424_2, fx_83000424_3, fx_85000004_0, fx_85000004_1, fx_85000004_2, fx_85000004_3, fx_85000004_4, fx_85000004_5, fx_85000004_6, fx_85000004_10, fx_102000008_0, fx_104000008_0, fx_106000008_0, fx_108000008_0, fx_110000011_1, fx_110000011_4, fx_110000011_5, fx_110000011_6, fx_110000011_9, fx_110000011_10, fx_110000011_11, fx_110000011_12, fx_110000011_14, fx_110000011_15, fx_110000011_20, fx_110000011_21, fx_110000011_22, fx_110000011_23, fx_110000011_25, fx_110000011_26, fx_110000011_31, fx_110000011_32, fx_110000011_37, fx_110000011_38, fx_110000011_39, fx_110000011_40, t1, l2]
theorem GQ_P {c : Nat} {ν : PM} (h : PFr c μ ν) : GQ μ ν := ⟨fun a j q => h.1 a j (by omega), fun a j _ => h.2.1 a j, h.2.2.1, h.2.2.2⟩
theorem m163 (h : RM μ (.ok T)) (hZ : MZ μ S c0) (hS : SI S) {k : Nat} (hk : k < 3) (hd : (hdT T).2.1 = 7 + k) (hc : c0 + T.length ≤ 1001) (hl : S.2.1 k = none) {t : Nat} (ht : t = 7 + k) : ∃ ν, GQ μ ν ∧ ((RM ν (snx (ln1 (S.1, S.2.1, S.2.2.1, S.2.2.2 ||| 2 ^ t) t T.tail)) ∧ ∀ p, ln1 (S.1, S.2.1, S.2.2.1, S.2.2.2 ||| 2 ^ t) t T.tail = .ok p → ∃ c1, c1 + p.2.length ≤ c0 + T.length ∧ MZ ν p.1 c1) ∨ ∃ T', RM ν (.ok T') ∧ (hdT T').2.1 ≠ 59 ∧ ln1 (S.1, S.2.1, S.2.2.1, S.2.2.2 ||| 2 ^ t) t T.tail = .error (flT 1 T')) ∧ ∀ Q, R (d + 33) 163 0 [some (.ref 110000011), none] [] μ Q = Q none ν := by
  subst ht
  rw [ln1_l hk]
  have hF := h.1
  have hX := h.2.2.2 T rfl
  have tl := tl_len (RX_GT hX)
  have t1 := (hZ.2.1 k hk).1 hl
  have z := m163_b (d := d + 32) h hk hd 3 0 (-nI 1) (by omega) (by omega)
  obtain ⟨i, i1, i2, i3⟩ := RX_tl hX (by omega)
  have h13 := hZ.2.2.2.2.2
  have A1 : AQ μ (wI μ 110000011 7 (nI (i + 1))) := AQ_w μ _ (Or.inl rfl)
  have r1 : RM (wI μ 110000011 7 (nI (i + 1))) (.ok T.tail) := RM_o (AQ_FX A1 hF) (AQ_MC A1 h.2.1) i3
  have r2 := RM_p (RM_m r1 (j := 19) (by omega) (nI k)) (99 + k) (nI c0)
  have G3 : GQ μ (wI (wI (wI μ 110000011 19 (nI k)) 110000011 7 (nI (i + 1))) 116018820 (99 + k) (nI c0)) := GQ_tr (GQ_tr (GQ_m μ _ (by omega)) (GQ_m _ _ (by omega))) (GQ_p _ _ (by omega))
  have ri : ∀ a j, rI (wI (wI (wI μ 110000011 19 (nI k)) 110000011 7 (nI (i + 1))) 116018820 (99 + k) (nI c0)) a j = rI (wI (wI (wI μ 110000011 7 (nI (i + 1))) 110000011 19 (nI k)) 116018820 (99 + k) (nI c0)) a j := fun a j => by
    simp only [rI_wI]
    by_cases q1 : 116018820 = a ∧ 99 + k = j
    · rw [if_pos q1, if_pos q1]
    · rw [if_neg q1, if_neg q1]
      by_cases q2 : 110000011 = a ∧ 7 = j
      · rw [if_pos q2, if_neg (by omega), if_pos q2]
      · rw [if_neg q2, if_neg q2]
  have sx : SX (wI (wI (wI μ 110000011 19 (nI k)) 110000011 7 (nI (i + 1))) 116018820 (99 + k) (nI c0)) k c0 T.tail [] := by
    refine ⟨hF, ⟨h.2.1.1, fun j hj => (ri _ _).trans (r2.2.1.2 j hj)⟩, ?_, RX_o (r2.2.2.2 T.tail rfl) (ri _ _) (ri _ _) (fun j => ⟨ri _ _, ri _ _, rfl⟩), ?_, fun i hi => by simp at hi⟩
    · rw [rI_wI, if_neg (by omega), rI_wI, if_neg (by omega), rI_wI, if_pos ⟨rfl, rfl⟩]
    · rw [rI_wI, if_neg (by omega), rI_wI, if_neg (by omega), rI_wI, if_neg (by omega)]
      exact h13
  obtain ⟨ν, ⟨g1, g2⟩, g3⟩ := c165 (c166 (c167 (c168 (c169 (c0 := c0) hk 5 d)))) 0 _ T.tail [] [] rfl sx trivial rfl (by show rk 30 < 1; decide) (by decide) (by simp; omega)
  have g3 : ∀ Q, R (d + 32) 165 0 [some (.ref 110000011), some (.int (nI 0)), none] [] (wI (wI (wI μ 110000011 19 (nI k)) 110000011 7 (nI (i + 1))) 116018820 (99 + k) (nI c0)) Q = Q none ν := g3
  have st : ∀ {p : Nat}, rI ν 110000011 13 = nI p → p < 1100 → ∀ Q, R (d + 33) 163 0 [some (.ref 110000011), none] [] μ Q = Q none (em ν p (nI 0) (nI 0)) := by
    intro p hp hp2 Q
    have k64 := c164 (d := d + 32) (PFr_FX g1 hF) hp hp2 (o := nI 0) (a := nI 0)
    have s1 : R (d + 33) 163 0 [some (.ref 110000011), none] [] μ Q = R (d + 33) 163 7 [some (.ref 110000011), some (.int (nI 0))] [] (wI μ 110000011 19 (-nI 1)) Q := by
      simp (disch := first | assumption | omega) only [r163_0, r163_1, r163_2, r163_5, r163_6, r163_8, r163_9, r163_12, r163_13, r163_14, r163_16, r163_17, r163_18, r163_21, r163_24, r163_25, r163_28, r163_29, r163_32, r163_35, r163_38, r163_41, r163_42, r163_45, r163_48, r163_49, r163_50, r163_53, r163_54, r163_56, r163_57, r163_60, r163_61, r163_62, r163_63, r163_66, r163_67, r163_68, r163_71, r163_72, r163_73, r163_76, r163_77, r163_78, r163_78i, r163_79, r163_82, r163_83, r163_84, r163_87, r163_88, r163_91, r163_92, r163_93, r163_96, r163_97, r163_98, r163_99, r163_102, r163_103, r163_104, r163_105, r163_108, rI_wI, rL_wL, rR_wR, rI_wL, rI_wR, rL_wI, rL_wR, rR_wI, rR_wL, va_rf_some, va_rf_none, Option.toList_some, Option.toList_none, List.nil_append, List.cons_append, true_and, and_true, false_and, and_false, and_self, if_true, if_false, not_true_eq_false, not_false_eq_true, or_false, false_or, or_true, true_or, or_self, ite_true, ite_false, Option.some.injEq, reduceCtorEq, Nat.reduceMod, Nat.reduceDiv, Nat.reduceLeDiff, Nat.reduceEqDiff, Nat.reduceAdd, Nat.reduceMul, Nat.reduceSub, Nat.reduceLT, sw_nil, sw_int, sw_long, sw_ref, li, lo, nI_m1, ng_eq, nn_eq, en_eq, ng_le, ng_lt, Int32.neg_neg, nI_add, pk_mul, nI_clampO, nI_ltO, nI_leO, nI_eqO, nI_subO, nle_t, nle_f, nlt_t, nlt_f, neq_f]
    rw [s1, z Q]
    simp (disch := first | assumption | omega) only [r163_0, r163_1, r163_2, r163_5, r163_6, r163_8, r163_9, r163_12, r163_13, r163_14, r163_16, r163_17, r163_18, r163_21, r163_24, r163_25, r163_28, r163_29, r163_32, r163_35, r163_38, r163_41, r163_42, r163_45, r163_48, r163_49, r163_50, r163_53, r163_54, r163_56, r163_57, r163_60, r163_61, r163_62, r163_63, r163_66, r163_67, r163_68, r163_71, r163_72, r163_73, r163_76, r163_77, r163_78, r163_78i, r163_79, r163_82, r163_83, r163_84, r163_87, r163_88, r163_91, r163_92, r163_93, r163_96, r163_97, r163_98, r163_99, r163_102, r163_103, r163_104, r163_105, r163_108, rI_wI, rL_wL, rR_wR, rI_wL, rI_wR, rL_wI, rL_wR, rR_wI, rR_wL, va_rf_some, va_rf_none, Option.toList_some, Option.toList_none, List.nil_append, List.cons_append, true_and, and_true, false_and, and_false, and_self, if_true, if_false, not_true_eq_false, not_false_eq_true, or_false, false_or, or_true, true_or, or_self, ite_true, ite_false, Option.some.injEq, reduceCtorEq, Nat.reduceMod, Nat.reduceDiv, Nat.reduceLeDiff, Nat.reduceEqDiff, Nat.reduceAdd, Nat.reduceMul, Nat.reduceSub, Nat.reduceLT, sw_nil, sw_int, sw_long, sw_ref, li, lo, nI_m1, ng_eq, nn_eq, en_eq, ng_le, ng_lt, Int32.neg_neg, nI_add, pk_mul, nI_clampO, nI_ltO, nI_leO, nI_eqO, nI_subO, nle_t, nle_f, nlt_t, nlt_f, neq_f, fx_2000010_0, fx_2000010_1, fx_2000010_4, fx_2000010_5, fx_2000010_6, fx_2000010_8, fx_2000010_10, fx_2000010_11, fx_2000010_12, fx_2000010_13, fx_2000010_14, fx_2000010_15, fx_2000010_16, fx_2000010_17, fx_2000010_18, fx_3000009_0, fx_5000007_0, fx_5000007_1, fx_5000007_2, fx_5000007_3, fx_7000001_0, fx_11000005_1, fx_11000005_2, fx_11000005_3, fx_11000005_4, fx_11000005_5, fx_11000005_6, fx_11000005_10, fx_11000005_11, fx_11000005_12, fx_20000002_0, fx_20000002_2, fx_20000002_3, fx_20000002_4, fx_25000005_1, fx_25000005_2, fx_25000005_3, fx_25000005_4, fx_25000005_5, fx_25000005_6, fx_25000005_10, fx_25000005_11, fx_25000005_12, fx_34000002_0, fx_34000002_2, fx_34000002_3, fx_34000002_4, fx_39000008_0, fx_41000006_0, fx_42002024_0, fx_42002024_1, fx_42002024_2, fx_42002024_3, fx_42002024_4, fx_42002024_5, fx_42002024_6, fx_42002024_7, fx_42002024_8, fx_42002024_9, fx_42002024_10, fx_42002024_11, fx_42002024_12, fx_42002024_13, fx_42002024_14, fx_42002024_15, fx_42002024_16, fx_42002024_17, fx_42002024_18, fx_42002024_19, fx_43000008_0, fx_45000008_0, fx_47000008_0, fx_49000008_0, fx_51000008_0, fx_53000008_0, fx_55000008_0, fx_57000008_0, fx_59000008_0, fx_61000008_0, fx_63000008_0, fx_65000008_0, fx_67000008_0, fx_69000008_0, fx_71000008_0, fx_73000008_0, fx_75000008_0, fx_77000008_0, fx_79000008_0, fx_81000008_0, fx_83000424_0, fx_83000424_1, fx_83000424_2, fx_83000424_3, fx_85000004_0, fx_85000004_1, fx_85000004_2, fx_85000004_3, fx_85000004_4, fx_85000004_5, fx_85000004_6, fx_85000004_10, fx_102000008_0, fx_104000008_0, fx_106000008_0, fx_108000008_0, fx_110000011_1, fx_110000011_4, fx_110000011_5, fx_110000011_6, fx_110000011_9, fx_110000011_10, fx_110000011_11, fx_110000011_12, fx_110000011_14, fx_110000011_15, fx_110000011_20, fx_110000011_21, fx_110000011_22, fx_110000011_23, fx_110000011_25, fx_110000011_26, fx_110000011_31, fx_110000011_32, fx_110000011_37, fx_110000011_38, fx_110000011_39, fx_110000011_40, t1, i2, h13, g3, k64]
  rcases g2 with ⟨π, κ', T', s1, s2, s3, s4, s5, s6, s7⟩ | ⟨f, n, s1, s2, s3⟩
  · have s4 : κ'.length + π.length + T'.length ≤ T.tail.length := by simpa using s4
    have lk : (κ' ++ fls π).length = κ'.length + π.length := by rw [List.length_append, fls_len]
    have hGT : GT T' := ⟨s1.2.2.2.1.1.1, s1.2.2.2.1.1.2.1⟩
    have ml := tl_len hGT
    obtain ⟨me1, me2⟩ := mac_end (k := k) (κ' := κ') hGT s3 s6
    have sx' := em_SX s1 (0, 0)
    have P' := em_PF (c0 := c0) (n := (κ' ++ fls π).length) ν (nI 0) (nI 0)
    refine ⟨em ν (c0 + (κ' ++ fls π).length) (nI 0) (nI 0), GQ_tr (GQ_tr G3 (GQ_P g1)) (GQ_P P'), ?_, st s1.2.2.2.2.1 (by omega)⟩
    by_cases e59 : (hdT T').2.1 = 59
    · have hm := s7.trans (me1 e59)
      rw [hm]
      refine Or.inl ⟨RM_o sx'.1 sx'.2.1 sx'.2.2.2.1, fun p q => ?_⟩
      cases q
      refine ⟨c0 + (κ' ++ fls π).length + 1, by show c0 + (κ' ++ fls π).length + 1 + T'.length ≤ _; omega, ?_⟩
      have fr : ∀ a j, ¬ ((a = 110000011 ∧ (j = 7 ∨ j = 8 ∨ j = 13 ∨ j = 19)) ∨ ((a = 117220020 ∨ a = 118220020) ∧ 1100 + c0 ≤ j) ∨ (a = 116018820 ∧ j = 99 + k)) → rI (em ν (c0 + (κ' ++ fls π).length) (nI 0) (nI 0)) a j = rI μ a j := fun a j q => by
        rw [P'.1 a j (by omega), g1.1 a j (by omega), rI_wI, if_neg (by omega), rI_wI, if_neg (by omega), rI_wI, if_neg (by omega)]
      obtain ⟨z1, z2, z3, z4, z5, z6⟩ := hZ
      have lkk : (κ' ++ fls π ++ [((0, 0) : Cod)]).length = (κ' ++ fls π).length + 1 := by rw [List.length_append]; rfl
      have hkm := sx'.2.2.2.2
      refine ⟨fun x q1 q2 => (fr _ _ (by omega)).trans (z1 x q1 q2), fun j hj => ?_, NMr_o (fr _ _ (by omega)) (fun j => (P'.2.1 _ _).trans (g1.2.1 _ _)) (fun j => fr _ _ (by omega)) z3, ?_, ?_, ?_⟩
      · show (adL S.2.1 k (κ' ++ fls π) j = none → _) ∧ ∀ l, adL S.2.1 k (κ' ++ fls π) j = some l → _
        unfold adL
        by_cases ej : j = k
        · rw [if_pos ej]
          subst ej
          refine ⟨fun q => (by cases q), fun l q => ?_⟩
          cases q
          refine ⟨c0, ?_, by omega, fun i hi => ?_, ?_⟩
          · rw [P'.1 _ _ (by omega), g1.1 _ _ (by omega), rI_wI, if_pos ⟨rfl, rfl⟩]
          · have := hkm.2 i (by omega)
            have eg : (κ' ++ fls π ++ [((0, 0) : Cod)]).getD i (0, 0) = (κ' ++ fls π).getD i (0, 0) := by
              rw [List.getD_eq_getElem?_getD, List.getD_eq_getElem?_getD, List.getElem?_append_left hi]
            rw [eg] at this
            exact this
          · have := (hkm.2 (κ' ++ fls π).length (by omega)).1
            rw [List.getD_eq_getElem?_getD, List.getElem?_append_right (Nat.le_refl _), Nat.sub_self] at this
            exact this
        · rw [if_neg ej]
          obtain ⟨y1, y2⟩ := z2 j hj
          refine ⟨fun q => (fr _ _ (by omega)).trans (y1 q), fun l q => ?_⟩
          obtain ⟨st, w1, w2, w3, w4⟩ := y2 l q
          exact ⟨st, (fr _ _ (by omega)).trans w1, by omega, fun i hi => ⟨(fr _ _ (by omega)).trans (w3 i hi).1, (fr _ _ (by omega)).trans (w3 i hi).2⟩, (fr _ _ (by omega)).trans w4⟩
      · show _ = nI (bt (S.2.2.2 ||| 2 ^ (7 + k)) 15)
        rw [bt_or, if_neg (by omega)]
        exact (fr _ _ (by omega)).trans z4
      · show _ = nI (bt (S.2.2.2 ||| 2 ^ (7 + k)) 12)
        rw [bt_or, if_neg (by omega)]
        exact (fr _ _ (by omega)).trans z5
      · have := hkm.1
        rw [lkk] at this
        exact this
    · have hm := s7.trans (me2 e59)
      rw [hm]
      exact Or.inr ⟨T', RM_o sx'.1 sx'.2.1 sx'.2.2.2.1, e59, rfl⟩
  · have fs' := em_FS s1 (nI 0) (nI 0)
    have P' := em_PF (c0 := c0) (n := n) ν (nI 0) (nI 0)
    have s2 : n ≤ T.tail.length + 29 := by simpa using s2
    refine ⟨em ν (c0 + n) (nI 0) (nI 0), GQ_tr (GQ_tr G3 (GQ_P g1)) (GQ_P P'), Or.inl ⟨?_, fun p q => ?_⟩, st s1.2.2.2.2.2.2 (by omega)⟩
    · rw [s3]
      exact RM_e fs'.1 fs'.2.1 fs'.2.2.2.1 fs'.2.2.2.2.1 fs'.2.2.2.2.2.1
    · rw [s3] at q
      cases q
end T1
