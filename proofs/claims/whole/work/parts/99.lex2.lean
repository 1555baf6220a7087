/-! THE CLASS'S LEXER: A TOKEN -/
theorem b256_63 {u : List Nat} (h : ∀ c, c ∈ u → c ≤ 26) (hl : u.length ≤ 8) (h0 : u ≠ []) : b256 u < 9223372036854775808 := by
  have key : ∀ (u : List Nat) (x n : Nat), (∀ c, c ∈ u → c ≤ 26) → x < 123 * 256 ^ n → u.foldl (fun x c => 256 * x + (c + 96)) x < 123 * 256 ^ (n + u.length) := by
    intro u
    induction u with
    | nil => intro x n _ h; exact h
    | cons c u ih =>
      intro x n h hx
      have hc := h c List.mem_cons_self
      rw [List.foldl_cons, List.length_cons, show n + (u.length + 1) = (n + 1) + u.length by omega]
      refine ih _ (n + 1) (fun c' q => h c' (List.mem_cons_of_mem _ q)) ?_
      rw [Nat.pow_succ]
      have : 0 < 256 ^ n := Nat.pow_pos (by omega)
      omega
  cases u with
  | nil => exact absurd rfl h0
  | cons c u =>
    have hc := h c List.mem_cons_self
    have k := key u (256 * 0 + (c + 96)) 0 (fun c' q => h c' (List.mem_cons_of_mem _ q)) (by omega)
    rw [show 0 + u.length = u.length from Nat.zero_add _] at k
    have e : b256 (c :: u) = u.foldl (fun x c => 256 * x + (c + 96)) (256 * 0 + (c + 96)) := rfl
    rw [e]
    have hp : 256 ^ u.length ≤ 256 ^ 7 := Nat.pow_le_pow_right (by omega) (by simp at hl; omega)
    have : 123 * 256 ^ u.length ≤ 123 * 256 ^ 7 := Nat.mul_le_mul_left _ hp
    omega
theorem slc_el {tp : List Nat} {o k r c : Nat} (h : c ∈ slc tp o k r) : ∃ i, i < r ∧ c = tp.getD (k + i) 0 - o := by
  obtain ⟨i, h1, h2⟩ := List.mem_map.mp h
  exact ⟨i, List.mem_range.mp h1, h2.symm⟩
theorem slc_len (tp : List Nat) (o k r : Nat) : (slc tp o k r).length = r := by unfold slc; rw [List.length_map, List.length_range]
theorem en_all {f : Nat → Bool} {tp : List Nat} : ∀ (r k : Nat), k + r = tp.length → ∀ j, k ≤ j → j < en f tp k → f (tp.getD j 0) = true := by
  intro r
  induction r with
  | zero => intro k hk j h1 h2; rw [en_e (by omega)] at h2; omega
  | succ r ih =>
    intro k hk j h1 h2
    by_cases h : f (tp.getD k 0) = true
    · rw [en_y (by omega) h] at h2
      by_cases e : j = k
      · rw [e]; exact h
      · exact ih (k + 1) (by omega) j (by omega) h2
    · rw [en_n (by omega) h] at h2; omega
theorem wd_el {tp : List Nat} {k c : Nat} (hk : k ≤ tp.length) (h : c ∈ slc tp 96 k (en isL tp k - k)) : 1 ≤ c ∧ c ≤ 26 := by
  obtain ⟨i, h1, h2⟩ := slc_el h
  have := of_decide_eq_true (en_all (f := isL) (tp := tp) (tp.length - k) k (by omega) (k + i) (by omega) (by omega))
  omega
theorem kwS_le (v : Nat) : ∀ r i, i + r = 28 → kwS v r i ≤ 28 := by
  intro r
  induction r with
  | zero => intro i _; exact Nat.le_refl 28
  | succ r ih =>
    intro i hi
    rw [kwS]
    split
    · omega
    · exact ih (i + 1) (by omega)
theorem kw_b : ∀ i, i < 28 → kwL.getD i 0 < 9223372036854775808 := by decide
section T1
variable {d : Nat} {μ : PM} {tp : List Nat}
theorem c33 (hn : tp.length ≤ 1000) (hc : ∀ c, c ∈ tp → c < 127) {k : Nat} (hk : k < tp.length) (hF : FX μ) (hT : CTp μ tp) (hr : rR μ 6000003 0 = some 3000009) (h1 : rI μ 6000003 1 = nI k) (h3 : rI μ 6000003 3 = nI k) (hd : isD (tp.getD k 0) = true) : ∃ ν, LFr μ ν ∧ LXr ν (k, (if en isD tp k - k ≤ 4 then 29 else 31), slc tp 48 k (en isD tp k - k), en isD tp k) ∧ ∀ Q, R (d + 1) 33 0 [some (.ref 6000003), none] [] μ Q = Q none ν := by
  have hL0 := LFr_wI μ 4 (nI 0)
  obtain ⟨ν, w1, k1, k2, k3, k4, k5⟩ := c33_l (d := d) hn hc (k0 := k) (tp.length - k) 0 (wI μ 6000003 4 (nI 0)) (by omega) hF (LFr_CTp hL0 hT) hr (by rw [rI_wI, if_neg (by decide)]; exact h1) (by rw [rI_wI, if_pos ⟨rfl, rfl⟩]; rfl) (by omega)
  have k3' : rI ν 6000003 3 = nI k := k3.trans (by rw [rI_wI, if_neg (by decide)]; exact h3)
  rw [Nat.add_zero] at k2 k4
  obtain ⟨e1, e2⟩ := en_le isD tp (show k ≤ tp.length by omega)
  refine ⟨wI ν 6000003 2 (nI (if en isD tp k - k ≤ 4 then 29 else 31)), LFr_tr hL0 (LFr_tr k1 (LFr_wI _ _ _)), ⟨by rw [rI_wI, if_neg (by decide)]; exact k2, by rw [rI_wI, if_pos ⟨rfl, rfl⟩], by rw [rI_wI, if_neg (by decide)]; exact k3', fun _ => by rw [rI_wI, if_neg (by decide)]; exact k4, fun q => by simp only at q; split at q <;> omega⟩, fun Q => ?_⟩
  have ej : (if nI (en isD tp k - k) ≤ nI 4 then nI 29 else nI 31) = nI (if en isD tp k - k ≤ 4 then 29 else 31) := by
    by_cases q : en isD tp k - k ≤ 4
    · rw [if_pos q, if_pos ((nI_leI (by omega) (by omega)).mpr q)]
    · rw [if_neg q, if_neg (fun z => q ((nI_leI (by omega) (by omega)).mp z))]
  simp (disch := first | assumption | omega) only [r33_0, r33_1, r33_2, r33_5, r33_6, r33_67, r33_68, r33_69, r33_72, r33_73, r33_76, r33_77, j33_78, r33_88, r33_91, rI_wI, rL_wL, rR_wR, rI_wL, rI_wR, rL_wI, rL_wR, rR_wI, rR_wL, va_rf_some, va_rf_none, Option.toList_some, Option.toList_none, List.nil_append, List.cons_append, true_and, and_true, false_and, and_false, and_self, if_true, if_false, not_true_eq_false, not_false_eq_true, or_false, false_or, or_true, true_or, or_self, ite_true, ite_false, Option.some.injEq, reduceCtorEq, Nat.reduceMod, Nat.reduceDiv, Nat.reduceLeDiff, Nat.reduceEqDiff, Nat.reduceAdd, Nat.reduceMul, Nat.reduceSub, Nat.reduceLT, sw_nil, sw_int, sw_long, sw_ref, li, lo, nI_subO, k5, k2, k3', ej]
theorem c32_l (hn : tp.length ≤ 1000) (hc : ∀ c, c ∈ tp → c < 127) {k0 : Nat} : ∀ (r i : Nat) (μ : PM), k0 + i + r = tp.length → FX μ → CTp μ tp → rR μ 6000003 0 = some 3000009 → rI μ 6000003 1 = nI (k0 + i) → rL μ 6000003 5 = lN (b256 (slc tp 96 k0 i)) → i ≤ 1000 →
    ∃ ν w1, LFr μ ν ∧ rI ν 6000003 1 = nI (en isL tp (k0 + i)) ∧ rI ν 6000003 3 = rI μ 6000003 3 ∧ rL ν 6000003 5 = lN (b256 (slc tp 96 k0 (en isL tp (k0 + i) - k0))) ∧ ∀ Q, R (d + 1) 32 7 [some (.ref 6000003), some (.int (nI i))] [] μ Q = R (d + 1) 32 65 [some (.ref 6000003), w1] [] ν Q := by
  intro r
  induction r with
  | zero =>
    intro i μ hi hF hT hr h1 h5 hi2
    rw [en_e (show tp.length ≤ k0 + i by omega), show k0 + i - k0 = i by omega]
    refine ⟨μ, some (.int (nI i)), LFr_rf μ, h1, rfl, h5, fun Q => ?_⟩
    have s1 := fun Q => c34 (d := d) (Q := Q) hF hT hn hr (k := k0 + i) (by omega)
    have e : sgI tp (k0 + i) = -nI 1 := if_neg (by omega)
    rw [e] at s1
    have c6 := fun Q => c35m (d := d) (μ := μ) (Q := Q)
    rw [r32_7]
    by_cases hh : i < 1000
    · simp (disch := first | assumption | omega) only [r32_8, r32_11, r32_14, r32_15, r32_16, r32_19, r32_22, r32_25, rI_wI, rL_wL, rR_wR, rI_wL, rI_wR, rL_wI, rL_wR, rR_wI, rR_wL, va_rf_some, va_rf_none, Option.toList_some, Option.toList_none, List.nil_append, List.cons_append, true_and, and_true, false_and, and_false, and_self, if_true, if_false, not_true_eq_false, not_false_eq_true, or_false, false_or, or_true, true_or, or_self, ite_true, ite_false, Option.some.injEq, reduceCtorEq, Nat.reduceMod, Nat.reduceDiv, Nat.reduceLeDiff, Nat.reduceEqDiff, Nat.reduceAdd, Nat.reduceMul, Nat.reduceSub, Nat.reduceLT, sw_nil, sw_int, sw_long, sw_ref, li, lo, nI_m1, ng_eq, nn_eq, en_eq, ng_le, ng_lt, Int32.neg_neg, nI_add, pk_mul, nI_clampO, nI_ltO, nI_leO, nI_eqO, nI_subO, nle_t, nle_f, nlt_t, nlt_f, neq_f, h1, s1, c6]
    · simp (disch := first | assumption | omega) only [r32_8, r32_11, rI_wI, rL_wL, rR_wR, rI_wL, rI_wR, rL_wI, rL_wR, rR_wI, rR_wL, va_rf_some, va_rf_none, Option.toList_some, Option.toList_none, List.nil_append, List.cons_append, true_and, and_true, false_and, and_false, and_self, if_true, if_false, not_true_eq_false, not_false_eq_true, or_false, false_or, or_true, true_or, or_self, ite_true, ite_false, Option.some.injEq, reduceCtorEq, Nat.reduceMod, Nat.reduceDiv, Nat.reduceLeDiff, Nat.reduceEqDiff, Nat.reduceAdd, Nat.reduceMul, Nat.reduceSub, Nat.reduceLT, sw_nil, sw_int, sw_long, sw_ref, li, lo, nI_m1, ng_eq, nn_eq, en_eq, ng_le, ng_lt, Int32.neg_neg, nI_add, pk_mul, nI_clampO, nI_ltO, nI_leO, nI_eqO, nI_subO, nle_t, nle_f, nlt_t, nlt_f, neq_f]
  | succ r ih =>
    intro i μ hi hF hT hr h1 h5 hi2
    have s1 := fun Q => c34 (d := d) (Q := Q) hF hT hn hr (k := k0 + i) (by omega)
    have e : sgI tp (k0 + i) = nI (tp.getD (k0 + i) 0) := if_pos (by omega)
    rw [e] at s1
    have hm : tp.getD (k0 + i) 0 ∈ tp := gD_mem (by omega)
    have hb := hc _ hm
    have c6 := fun Q => c35 (d := d) (μ := μ) (Q := Q) hb
    by_cases hd : isL (tp.getD (k0 + i) 0) = true
    · rw [if_pos hd] at c6
      have hd2 : 97 ≤ tp.getD (k0 + i) 0 := (of_decide_eq_true hd).1
      have hv : b256 (slc tp 96 k0 (i + 1)) = 256 * b256 (slc tp 96 k0 i) + tp.getD (k0 + i) 0 := by
        rw [slc_s]
        have : b256 (slc tp 96 k0 i ++ [tp.getD (k0 + i) 0 - 96]) = 256 * b256 (slc tp 96 k0 i) + (tp.getD (k0 + i) 0 - 96 + 96) := fo_s _ _
        rw [this]
        omega
      have hL : LFr μ (wI (wL μ 6000003 5 (lN (256 * b256 (slc tp 96 k0 i) + tp.getD (k0 + i) 0))) 6000003 1 (nI (k0 + i + 1))) := LFr_tr (LFr_wL _ _ _) (LFr_wI _ _ _)
      obtain ⟨ν, w1, k1, k2, k3, k4, k5⟩ := ih (i + 1) (wI (wL μ 6000003 5 (lN (256 * b256 (slc tp 96 k0 i) + tp.getD (k0 + i) 0))) 6000003 1 (nI (k0 + i + 1))) (by omega) hF (LFr_CTp hL hT) hr (by rw [rI_wI, if_pos ⟨rfl, rfl⟩]; rfl) (by rw [rL_wI, rL_wL, if_pos ⟨rfl, rfl⟩, hv]) (by omega)
      rw [← show k0 + i + 1 = k0 + (i + 1) by omega, ← en_y (show k0 + i < tp.length by omega) hd] at k2 k4
      refine ⟨ν, w1, LFr_tr hL k1, k2, k3.trans (by rw [rI_wI, if_neg (by decide)]; rfl), k4, fun Q => ?_⟩
      have l8 := lor8 (x := b256 (slc tp 96 k0 i)) (c := tp.getD (k0 + i) 0) (by omega)
      rw [ll] at l8
      rw [r32_7]
      simp (disch := first | assumption | omega) only [r32_0, r32_1, r32_2, r32_5, r32_6, r32_8, r32_11, r32_14, r32_15, r32_16, r32_19, r32_22, r32_25, r32_28, r32_29, r32_30, r32_33, r32_35, r32_36, r32_37, r32_38, r32_41, r32_44, r32_45, r32_46, r32_49, r32_50, r32_50i, r32_51, r32_54, r32_55, r32_56, r32_59, r32_62, r32_66, r32_67, r32_70, r32_71, r32_74, r32_75, j32_77, r32_80, r32_82, r32_85, r32_87, r32_90, r32_91, r32_92, r32_93, r32_96, r32_97, r32_100, r32_101, r32_104, r32_106, r32_109, r32_112, r32_113, r32_114, r32_115, r32_118, r32_119, r32_122, r32_123, r32_124, r32_127, r32_130, r32_133, rI_wI, rL_wL, rR_wR, rI_wL, rI_wR, rL_wI, rL_wR, rR_wI, rR_wL, va_rf_some, va_rf_none, Option.toList_some, Option.toList_none, List.nil_append, List.cons_append, true_and, and_true, false_and, and_false, and_self, if_true, if_false, not_true_eq_false, not_false_eq_true, or_false, false_or, or_true, true_or, or_self, ite_true, ite_false, Option.some.injEq, reduceCtorEq, Nat.reduceMod, Nat.reduceDiv, Nat.reduceLeDiff, Nat.reduceEqDiff, Nat.reduceAdd, Nat.reduceMul, Nat.reduceSub, Nat.reduceLT, sw_nil, sw_int, sw_long, sw_ref, li, lo, nI_m1, ng_eq, nn_eq, en_eq, ng_le, ng_lt, Int32.neg_neg, nI_add, pk_mul, nI_clampO, nI_ltO, nI_leO, nI_eqO, nI_subO, nle_t, nle_f, nlt_t, nlt_f, neq_f, h1, h5, s1, c6, ll, nI_l]
      rw [← k5]
      rw [nI_l (show (8 : Nat) < 2 ^ 31 by omega)] at l8
      simp only [l8]
    · rw [if_neg hd] at c6
      rw [en_n (show k0 + i < tp.length by omega) hd, show k0 + i - k0 = i by omega]
      refine ⟨μ, some (.int (nI i)), LFr_rf μ, h1, rfl, h5, fun Q => ?_⟩
      rw [r32_7]
      by_cases hh : i < 1000
      · simp (disch := first | assumption | omega) only [r32_8, r32_11, r32_14, r32_15, r32_16, r32_19, r32_22, r32_25, rI_wI, rL_wL, rR_wR, rI_wL, rI_wR, rL_wI, rL_wR, rR_wI, rR_wL, va_rf_some, va_rf_none, Option.toList_some, Option.toList_none, List.nil_append, List.cons_append, true_and, and_true, false_and, and_false, and_self, if_true, if_false, not_true_eq_false, not_false_eq_true, or_false, false_or, or_true, true_or, or_self, ite_true, ite_false, Option.some.injEq, reduceCtorEq, Nat.reduceMod, Nat.reduceDiv, Nat.reduceLeDiff, Nat.reduceEqDiff, Nat.reduceAdd, Nat.reduceMul, Nat.reduceSub, Nat.reduceLT, sw_nil, sw_int, sw_long, sw_ref, li, lo, nI_m1, ng_eq, nn_eq, en_eq, ng_le, ng_lt, Int32.neg_neg, nI_add, pk_mul, nI_clampO, nI_ltO, nI_leO, nI_eqO, nI_subO, nle_t, nle_f, nlt_t, nlt_f, neq_f, h1, s1, c6]
      · simp (disch := first | assumption | omega) only [r32_8, r32_11, rI_wI, rL_wL, rR_wR, rI_wL, rI_wR, rL_wI, rL_wR, rR_wI, rR_wL, va_rf_some, va_rf_none, Option.toList_some, Option.toList_none, List.nil_append, List.cons_append, true_and, and_true, false_and, and_false, and_self, if_true, if_false, not_true_eq_false, not_false_eq_true, or_false, false_or, or_true, true_or, or_self, ite_true, ite_false, Option.some.injEq, reduceCtorEq, Nat.reduceMod, Nat.reduceDiv, Nat.reduceLeDiff, Nat.reduceEqDiff, Nat.reduceAdd, Nat.reduceMul, Nat.reduceSub, Nat.reduceLT, sw_nil, sw_int, sw_long, sw_ref, li, lo, nI_m1, ng_eq, nn_eq, en_eq, ng_le, ng_lt, Int32.neg_neg, nI_add, pk_mul, nI_clampO, nI_ltO, nI_leO, nI_eqO, nI_subO, nle_t, nle_f, nlt_t, nlt_f, neq_f]
theorem c32_k (hKW : KW μ) {v : Nat} (hv : v < 9223372036854775808) (h5 : rL μ 6000003 5 = lN v) (h2 : rI μ 6000003 2 = nI 28) : ∀ (r i : Nat), i + r = 28 → ∃ ν, LFr μ ν ∧ (∀ j, j ≠ 2 → rI ν 6000003 j = rI μ 6000003 j) ∧ (∀ a j, rL ν a j = rL μ a j) ∧ rI ν 6000003 2 = nI (kwS v r i) ∧ ∀ Q, R d 32 92 [some (.ref 6000003), some (.int (nI i))] [] μ Q = Q none ν := by
  intro r
  induction r with
  | zero =>
    intro i hi
    refine ⟨μ, LFr_rf μ, fun _ _ => rfl, fun _ _ => rfl, h2, fun Q => ?_⟩
    rw [r32_92]
    simp (disch := first | assumption | omega) only [r32_93, r32_96, r32_97, r32_133, rI_wI, rL_wL, rR_wR, rI_wL, rI_wR, rL_wI, rL_wR, rR_wI, rR_wL, va_rf_some, va_rf_none, Option.toList_some, Option.toList_none, List.nil_append, List.cons_append, true_and, and_true, false_and, and_false, and_self, if_true, if_false, not_true_eq_false, not_false_eq_true, or_false, false_or, or_true, true_or, or_self, ite_true, ite_false, Option.some.injEq, reduceCtorEq, Nat.reduceMod, Nat.reduceDiv, Nat.reduceLeDiff, Nat.reduceEqDiff, Nat.reduceAdd, Nat.reduceMul, Nat.reduceSub, Nat.reduceLT, sw_nil, sw_int, sw_long, sw_ref, li, lo, nI_m1, ng_eq, nn_eq, en_eq, ng_le, ng_lt, Int32.neg_neg, nI_add, pk_mul, nI_clampO, nI_ltO, nI_leO, nI_eqO, nI_subO, nle_t, nle_f, nlt_t, nlt_f, neq_f]
  | succ r ih =>
    intro i hi
    have kb := kw_b i (by omega)
    have kk := hKW i (by omega)
    rw [kwS]
    by_cases e : kwL.getD i 0 = v
    · rw [if_pos e]
      rw [e] at kk
      refine ⟨wI μ 6000003 2 (nI i), LFr_wI _ _ _, fun j hj => by rw [rI_wI, if_neg (fun q => hj q.2.symm)], fun _ _ => rfl, by rw [rI_wI, if_pos ⟨rfl, rfl⟩], fun Q => ?_⟩
      have ex : R d 32 92 [some (.ref 6000003), some (.int (nI (i + 1)))] [] (wI μ 6000003 2 (nI i)) Q = Q none (wI μ 6000003 2 (nI i)) := by
        rw [r32_92]
        by_cases z : 28 ≤ i + 1
        · simp (disch := first | assumption | omega) only [r32_93, r32_96, r32_97, r32_133, rI_wI, rL_wL, rR_wR, rI_wL, rI_wR, rL_wI, rL_wR, rR_wI, rR_wL, va_rf_some, va_rf_none, Option.toList_some, Option.toList_none, List.nil_append, List.cons_append, true_and, and_true, false_and, and_false, and_self, if_true, if_false, not_true_eq_false, not_false_eq_true, or_false, false_or, or_true, true_or, or_self, ite_true, ite_false, Option.some.injEq, reduceCtorEq, Nat.reduceMod, Nat.reduceDiv, Nat.reduceLeDiff, Nat.reduceEqDiff, Nat.reduceAdd, Nat.reduceMul, Nat.reduceSub, Nat.reduceLT, sw_nil, sw_int, sw_long, sw_ref, li, lo, nI_m1, ng_eq, nn_eq, en_eq, ng_le, ng_lt, Int32.neg_neg, nI_add, pk_mul, nI_clampO, nI_ltO, nI_leO, nI_eqO, nI_subO, nle_t, nle_f, nlt_t, nlt_f, neq_f]
        · simp (disch := first | assumption | omega) only [r32_93, r32_96, r32_97, r32_100, r32_101, r32_104, r32_106, r32_133, rI_wI, rL_wL, rR_wR, rI_wL, rI_wR, rL_wI, rL_wR, rR_wI, rR_wL, va_rf_some, va_rf_none, Option.toList_some, Option.toList_none, List.nil_append, List.cons_append, true_and, and_true, false_and, and_false, and_self, if_true, if_false, not_true_eq_false, not_false_eq_true, or_false, false_or, or_true, true_or, or_self, ite_true, ite_false, Option.some.injEq, reduceCtorEq, Nat.reduceMod, Nat.reduceDiv, Nat.reduceLeDiff, Nat.reduceEqDiff, Nat.reduceAdd, Nat.reduceMul, Nat.reduceSub, Nat.reduceLT, sw_nil, sw_int, sw_long, sw_ref, li, lo, nI_m1, ng_eq, nn_eq, en_eq, ng_le, ng_lt, Int32.neg_neg, nI_add, pk_mul, nI_clampO, nI_ltO, nI_leO, nI_eqO, nI_subO, nle_t, nle_f, nlt_t, nlt_f, neq_f]
      rw [r32_92]
      simp (disch := first | assumption | omega) only [r32_0, r32_1, r32_2, r32_5, r32_6, r32_7, r32_8, r32_11, r32_14, r32_15, r32_16, r32_19, r32_22, r32_25, r32_28, r32_29, r32_30, r32_33, r32_35, r32_36, r32_37, r32_38, r32_41, r32_44, r32_45, r32_46, r32_49, r32_50, r32_50i, r32_51, r32_54, r32_55, r32_56, r32_59, r32_62, r32_65, r32_66, r32_67, r32_70, r32_71, r32_74, r32_75, j32_77, r32_80, r32_82, r32_85, r32_87, r32_90, r32_91, r32_93, r32_96, r32_97, r32_100, r32_101, r32_104, r32_106, r32_109, r32_112, r32_113, r32_114, r32_115, r32_118, r32_119, r32_122, r32_123, r32_124, r32_127, r32_130, r32_133, rI_wI, rL_wL, rR_wR, rI_wL, rI_wR, rL_wI, rL_wR, rR_wI, rR_wL, va_rf_some, va_rf_none, Option.toList_some, Option.toList_none, List.nil_append, List.cons_append, true_and, and_true, false_and, and_false, and_self, if_true, if_false, not_true_eq_false, not_false_eq_true, or_false, false_or, or_true, true_or, or_self, ite_true, ite_false, Option.some.injEq, reduceCtorEq, Nat.reduceMod, Nat.reduceDiv, Nat.reduceLeDiff, Nat.reduceEqDiff, Nat.reduceAdd, Nat.reduceMul, Nat.reduceSub, Nat.reduceLT, sw_nil, sw_int, sw_long, sw_ref, li, lo, nI_m1, ng_eq, nn_eq, en_eq, ng_le, ng_lt, Int32.neg_neg, nI_add, pk_mul, nI_clampO, nI_ltO, nI_leO, nI_eqO, nI_subO, nle_t, nle_f, nlt_t, nlt_f, neq_f, h2, h5, kk, cmp_0, ex]
    · rw [if_neg e]
      obtain ⟨ν, k1, k2, k3, k4, k5⟩ := ih (i + 1) (by omega)
      refine ⟨ν, k1, k2, k3, k4, fun Q => ?_⟩
      rw [r32_92]
      simp (disch := first | assumption | omega) only [r32_0, r32_1, r32_2, r32_5, r32_6, r32_7, r32_8, r32_11, r32_14, r32_15, r32_16, r32_19, r32_22, r32_25, r32_28, r32_29, r32_30, r32_33, r32_35, r32_36, r32_37, r32_38, r32_41, r32_44, r32_45, r32_46, r32_49, r32_50, r32_50i, r32_51, r32_54, r32_55, r32_56, r32_59, r32_62, r32_65, r32_66, r32_67, r32_70, r32_71, r32_74, r32_75, j32_77, r32_80, r32_82, r32_85, r32_87, r32_90, r32_91, r32_93, r32_96, r32_97, r32_100, r32_101, r32_104, r32_106, r32_109, r32_112, r32_113, r32_114, r32_115, r32_118, r32_119, r32_122, r32_123, r32_124, r32_127, r32_130, r32_133, rI_wI, rL_wL, rR_wR, rI_wL, rI_wR, rL_wI, rL_wR, rR_wI, rR_wL, va_rf_some, va_rf_none, Option.toList_some, Option.toList_none, List.nil_append, List.cons_append, true_and, and_true, false_and, and_false, and_self, if_true, if_false, not_true_eq_false, not_false_eq_true, or_false, false_or, or_true, true_or, or_self, ite_true, ite_false, Option.some.injEq, reduceCtorEq, Nat.reduceMod, Nat.reduceDiv, Nat.reduceLeDiff, Nat.reduceEqDiff, Nat.reduceAdd, Nat.reduceMul, Nat.reduceSub, Nat.reduceLT, sw_nil, sw_int, sw_long, sw_ref, li, lo, nI_m1, ng_eq, nn_eq, en_eq, ng_le, ng_lt, Int32.neg_neg, nI_add, pk_mul, nI_clampO, nI_ltO, nI_leO, nI_eqO, nI_subO, nle_t, nle_f, nlt_t, nlt_f, neq_f, h2, h5, kk, cmp_0, lN_eqO, k5]
theorem c32 (hn : tp.length ≤ 1000) (hc : ∀ c, c ∈ tp → c < 127) {k : Nat} (hk : k < tp.length) (hF : FX μ) (hT : CTp μ tp) (hKW : KW μ) (hr : rR μ 6000003 0 = some 3000009) (h1 : rI μ 6000003 1 = nI k) (h3 : rI μ 6000003 3 = nI k) (hd : isL (tp.getD k 0) = true) : ∃ ν, LFr μ ν ∧ LXr ν (k, (if en isL tp k - k ≤ 8 then kwS (b256 (slc tp 96 k (en isL tp k - k))) 28 0 else 31), slc tp 96 k (en isL tp k - k), en isL tp k) ∧ ∀ Q, R (d + 1) 32 0 [some (.ref 6000003), none] [] μ Q = Q none ν := by
  have hL0 := LFr_wL μ 5 (lN 0)
  obtain ⟨ν, w1, k1, k2, k3, k4, k5⟩ := c32_l (d := d) hn hc (k0 := k) (tp.length - k) 0 (wL μ 6000003 5 (lN 0)) (by omega) hF (LFr_CTp hL0 hT) hr h1 (by rw [rL_wL, if_pos ⟨rfl, rfl⟩]; rfl) (by omega)
  have k3' : rI ν 6000003 3 = nI k := k3.trans h3
  rw [Nat.add_zero] at k2 k4
  obtain ⟨e1, e2⟩ := en_le isL tp (show k ≤ tp.length by omega)
  have e3 : k + 1 ≤ en isL tp k := by
    rw [en_y hk hd]
    exact (en_le isL tp (show k + 1 ≤ tp.length by omega)).1
  by_cases q : en isL tp k - k ≤ 8
  · rw [if_pos q]
    have hb := b256_63 (u := slc tp 96 k (en isL tp k - k)) (fun c hc' => (wd_el (by omega) hc').2) (by rw [slc_len]; exact q) (fun z => by have := slc_len tp 96 k (en isL tp k - k); rw [z] at this; simp at this; omega)
    have hL2 := LFr_tr k1 (LFr_wI ν 2 (nI 28))
    have hLa := LFr_tr hL0 hL2
    obtain ⟨ν3, n1, n2, n3, n4, n5⟩ := c32_k (d := d + 1) (μ := wI ν 6000003 2 (nI 28)) (LFr_KW hLa hKW) hb k4 (by rw [rI_wI, if_pos ⟨rfl, rfl⟩]) 28 0 (by omega)
    have hkl := kwS_le (b256 (slc tp 96 k (en isL tp k - k))) 28 0 (by omega)
    refine ⟨ν3, LFr_tr hLa n1, ⟨?_, n4, ?_, fun z => by simp only at z; omega, fun _ => (n3 _ _).trans k4⟩, fun Q => ?_⟩
    · rw [n2 1 (by decide), rI_wI, if_neg (by decide)]; exact k2
    · rw [n2 3 (by decide), rI_wI, if_neg (by decide)]; exact k3'
    · have ej : (if nI (en isL tp k - k) ≤ nI 8 then nI 28 else nI 31) = nI 28 := if_pos ((nI_leI (by omega) (by omega)).mpr q)
      simp (disch := first | assumption | omega) only [r32_0, r32_1, r32_2, r32_5, r32_6, r32_65, r32_66, r32_67, r32_70, r32_71, r32_74, r32_75, j32_77, r32_87, r32_90, r32_91, rI_wI, rL_wL, rR_wR, rI_wL, rI_wR, rL_wI, rL_wR, rR_wI, rR_wL, va_rf_some, va_rf_none, Option.toList_some, Option.toList_none, List.nil_append, List.cons_append, true_and, and_true, false_and, and_false, and_self, if_true, if_false, not_true_eq_false, not_false_eq_true, or_false, false_or, or_true, true_or, or_self, ite_true, ite_false, Option.some.injEq, reduceCtorEq, Nat.reduceMod, Nat.reduceDiv, Nat.reduceLeDiff, Nat.reduceEqDiff, Nat.reduceAdd, Nat.reduceMul, Nat.reduceSub, Nat.reduceLT, sw_nil, sw_int, sw_long, sw_ref, li, lo, ll, nI_subO, k5, k2, k3', ej, n5]
  · rw [if_neg q]
    refine ⟨wI ν 6000003 2 (nI 31), LFr_tr hL0 (LFr_tr k1 (LFr_wI _ _ _)), ⟨by rw [rI_wI, if_neg (by decide)]; exact k2, by rw [rI_wI, if_pos ⟨rfl, rfl⟩], by rw [rI_wI, if_neg (by decide)]; exact k3', fun z => by simp only at z; omega, fun z => by simp only at z; omega⟩, fun Q => ?_⟩
    have ej : (if nI (en isL tp k - k) ≤ nI 8 then nI 28 else nI 31) = nI 31 := if_neg (fun z => q ((nI_leI (by omega) (by omega)).mp z))
    have ex : R (d + 1) 32 92 [some (.ref 6000003), some (.int (nI 0))] [] (wI ν 6000003 2 (nI 31)) Q = Q none (wI ν 6000003 2 (nI 31)) := by
      rw [r32_92]
      simp (disch := first | assumption | omega) only [r32_93, r32_96, r32_97, r32_100, r32_101, r32_104, r32_106, r32_133, rI_wI, rL_wL, rR_wR, rI_wL, rI_wR, rL_wI, rL_wR, rR_wI, rR_wL, va_rf_some, va_rf_none, Option.toList_some, Option.toList_none, List.nil_append, List.cons_append, true_and, and_true, false_and, and_false, and_self, if_true, if_false, not_true_eq_false, not_false_eq_true, or_false, false_or, or_true, true_or, or_self, ite_true, ite_false, Option.some.injEq, reduceCtorEq, Nat.reduceMod, Nat.reduceDiv, Nat.reduceLeDiff, Nat.reduceEqDiff, Nat.reduceAdd, Nat.reduceMul, Nat.reduceSub, Nat.reduceLT, sw_nil, sw_int, sw_long, sw_ref, li, lo, nI_m1, ng_eq, nn_eq, en_eq, ng_le, ng_lt, Int32.neg_neg, nI_add, pk_mul, nI_clampO, nI_ltO, nI_leO, nI_eqO, nI_subO, nle_t, nle_f, nlt_t, nlt_f, neq_f]
    simp (disch := first | assumption | omega) only [r32_0, r32_1, r32_2, r32_5, r32_6, r32_65, r32_66, r32_67, r32_70, r32_71, r32_74, r32_75, j32_77, r32_87, r32_90, r32_91, rI_wI, rL_wL, rR_wR, rI_wL, rI_wR, rL_wI, rL_wR, rR_wI, rR_wL, va_rf_some, va_rf_none, Option.toList_some, Option.toList_none, List.nil_append, List.cons_append, true_and, and_true, false_and, and_false, and_self, if_true, if_false, not_true_eq_false, not_false_eq_true, or_false, false_or, or_true, true_or, or_self, ite_true, ite_false, Option.some.injEq, reduceCtorEq, Nat.reduceMod, Nat.reduceDiv, Nat.reduceLeDiff, Nat.reduceEqDiff, Nat.reduceAdd, Nat.reduceMul, Nat.reduceSub, Nat.reduceLT, sw_nil, sw_int, sw_long, sw_ref, li, lo, ll, nI_subO, k5, k2, k3', ej, ex]
theorem c31_w (hn : tp.length ≤ 1000) (hc : ∀ c, c ∈ tp → c < 127) : ∀ (r k i : Nat) (μ : PM), k + r = tp.length → i ≤ k → FX μ → CTp μ tp → rR μ 6000003 0 = some 3000009 → rI μ 6000003 1 = nI k → ∃ ν w2, LFr μ ν ∧ rI ν 6000003 1 = nI (en isW tp k) ∧ ∀ Q, R (d + 1) 31 11 [some (.ref 6000003), some (.int (sgI tp k)), some (.int (nI i))] [] μ Q = R (d + 1) 31 55 [some (.ref 6000003), some (.int (sgI tp (en isW tp k))), w2] [] ν Q := by
  intro r
  induction r with
  | zero =>
    intro k i μ hk hi hF hT hr h1
    rw [en_e (show tp.length ≤ k by omega)]
    refine ⟨μ, some (.int (nI i)), LFr_rf μ, h1, fun Q => ?_⟩
    have e : sgI tp k = -nI 1 := if_neg (by omega)
    rw [e, r31_11]
    by_cases z : i < 1000
    · simp (disch := first | assumption | omega) only [r31_12, r31_15, r31_18, r31_19, r31_21, r31_24, r31_25, r31_27, rI_wI, rL_wL, rR_wR, rI_wL, rI_wR, rL_wI, rL_wR, rR_wI, rR_wL, va_rf_some, va_rf_none, Option.toList_some, Option.toList_none, List.nil_append, List.cons_append, true_and, and_true, false_and, and_false, and_self, if_true, if_false, not_true_eq_false, not_false_eq_true, or_false, false_or, or_true, true_or, or_self, ite_true, ite_false, Option.some.injEq, reduceCtorEq, Nat.reduceMod, Nat.reduceDiv, Nat.reduceLeDiff, Nat.reduceEqDiff, Nat.reduceAdd, Nat.reduceMul, Nat.reduceSub, Nat.reduceLT, sw_nil, sw_int, sw_long, sw_ref, li, lo, nI_m1, ng_eq, nn_eq, en_eq, ng_le, ng_lt, Int32.neg_neg, nI_add, pk_mul, nI_clampO, nI_ltO, nI_leO, nI_eqO, nI_subO, nle_t, nle_f, nlt_t, nlt_f, neq_f]
    · simp (disch := first | assumption | omega) only [r31_12, r31_15, rI_wI, rL_wL, rR_wR, rI_wL, rI_wR, rL_wI, rL_wR, rR_wI, rR_wL, va_rf_some, va_rf_none, Option.toList_some, Option.toList_none, List.nil_append, List.cons_append, true_and, and_true, false_and, and_false, and_self, if_true, if_false, not_true_eq_false, not_false_eq_true, or_false, false_or, or_true, true_or, or_self, ite_true, ite_false, Option.some.injEq, reduceCtorEq, Nat.reduceMod, Nat.reduceDiv, Nat.reduceLeDiff, Nat.reduceEqDiff, Nat.reduceAdd, Nat.reduceMul, Nat.reduceSub, Nat.reduceLT, sw_nil, sw_int, sw_long, sw_ref, li, lo, nI_m1, ng_eq, nn_eq, en_eq, ng_le, ng_lt, Int32.neg_neg, nI_add, pk_mul, nI_clampO, nI_ltO, nI_leO, nI_eqO, nI_subO, nle_t, nle_f, nlt_t, nlt_f, neq_f]
  | succ r ih =>
    intro k i μ hk hi hF hT hr h1
    have e : sgI tp k = nI (tp.getD k 0) := if_pos (by omega)
    have hb := hc _ (gD_mem (show k < tp.length by omega))
    by_cases hw : isW (tp.getD k 0) = true
    · have hL := LFr_wI μ 1 (nI (k + 1))
      obtain ⟨ν, w2, k1, k2, k3⟩ := ih (k + 1) (i + 1) (wI μ 6000003 1 (nI (k + 1))) (by omega) (by omega) hF (LFr_CTp hL hT) hr (by rw [rI_wI, if_pos ⟨rfl, rfl⟩])
      rw [← en_y (show k < tp.length by omega) hw] at k2 k3
      refine ⟨ν, w2, LFr_tr hL k1, k2, fun Q => ?_⟩
      have s1 := fun Q => c34 (d := d) (μ := wI μ 6000003 1 (nI (k + 1))) (Q := Q) hF (LFr_CTp hL hT) hn hr (k := k + 1) (by omega)
      rw [r31_11, e]
      rcases of_decide_eq_true hw with z | z
      · rw [z]
        simp (disch := first | assumption | omega) only [r31_12, r31_15, r31_18, r31_19, r31_21, r31_30, r31_31, r31_32, r31_35, r31_36, r31_37, r31_40, r31_41, r31_42, r31_45, r31_48, r31_49, r31_52, rI_wI, rL_wL, rR_wR, rI_wL, rI_wR, rL_wI, rL_wR, rR_wI, rR_wL, va_rf_some, va_rf_none, Option.toList_some, Option.toList_none, List.nil_append, List.cons_append, true_and, and_true, false_and, and_false, and_self, if_true, if_false, not_true_eq_false, not_false_eq_true, or_false, false_or, or_true, true_or, or_self, ite_true, ite_false, Option.some.injEq, reduceCtorEq, Nat.reduceMod, Nat.reduceDiv, Nat.reduceLeDiff, Nat.reduceEqDiff, Nat.reduceAdd, Nat.reduceMul, Nat.reduceSub, Nat.reduceLT, sw_nil, sw_int, sw_long, sw_ref, li, lo, nI_m1, ng_eq, nn_eq, en_eq, ng_le, ng_lt, Int32.neg_neg, nI_add, pk_mul, nI_clampO, nI_ltO, nI_leO, nI_eqO, nI_subO, nle_t, nle_f, nlt_t, nlt_f, neq_f, h1, s1, k3]
      · rw [z]
        simp (disch := first | assumption | omega) only [r31_12, r31_15, r31_18, r31_19, r31_21, r31_24, r31_25, r31_27, r31_30, r31_31, r31_32, r31_35, r31_36, r31_37, r31_40, r31_41, r31_42, r31_45, r31_48, r31_49, r31_52, rI_wI, rL_wL, rR_wR, rI_wL, rI_wR, rL_wI, rL_wR, rR_wI, rR_wL, va_rf_some, va_rf_none, Option.toList_some, Option.toList_none, List.nil_append, List.cons_append, true_and, and_true, false_and, and_false, and_self, if_true, if_false, not_true_eq_false, not_false_eq_true, or_false, false_or, or_true, true_or, or_self, ite_true, ite_false, Option.some.injEq, reduceCtorEq, Nat.reduceMod, Nat.reduceDiv, Nat.reduceLeDiff, Nat.reduceEqDiff, Nat.reduceAdd, Nat.reduceMul, Nat.reduceSub, Nat.reduceLT, sw_nil, sw_int, sw_long, sw_ref, li, lo, nI_m1, ng_eq, nn_eq, en_eq, ng_le, ng_lt, Int32.neg_neg, nI_add, pk_mul, nI_clampO, nI_ltO, nI_leO, nI_eqO, nI_subO, nle_t, nle_f, nlt_t, nlt_f, neq_f, h1, s1, k3]
    · rw [en_n (show k < tp.length by omega) hw]
      refine ⟨μ, some (.int (nI i)), LFr_rf μ, h1, fun Q => ?_⟩
      have hw2 : ¬ (tp.getD k 0 = 10 ∨ tp.getD k 0 = 32) := fun q => hw (decide_eq_true q)
      rw [r31_11, e]
      by_cases z : i < 1000
      · simp (disch := first | assumption | omega) only [r31_12, r31_15, r31_18, r31_19, r31_21, r31_24, r31_25, r31_27, rI_wI, rL_wL, rR_wR, rI_wL, rI_wR, rL_wI, rL_wR, rR_wI, rR_wL, va_rf_some, va_rf_none, Option.toList_some, Option.toList_none, List.nil_append, List.cons_append, true_and, and_true, false_and, and_false, and_self, if_true, if_false, not_true_eq_false, not_false_eq_true, or_false, false_or, or_true, true_or, or_self, ite_true, ite_false, Option.some.injEq, reduceCtorEq, Nat.reduceMod, Nat.reduceDiv, Nat.reduceLeDiff, Nat.reduceEqDiff, Nat.reduceAdd, Nat.reduceMul, Nat.reduceSub, Nat.reduceLT, sw_nil, sw_int, sw_long, sw_ref, li, lo, nI_m1, ng_eq, nn_eq, en_eq, ng_le, ng_lt, Int32.neg_neg, nI_add, pk_mul, nI_clampO, nI_ltO, nI_leO, nI_eqO, nI_subO, nle_t, nle_f, nlt_t, nlt_f, neq_f]
      · simp (disch := first | assumption | omega) only [r31_12, r31_15, rI_wI, rL_wL, rR_wR, rI_wL, rI_wR, rL_wI, rL_wR, rR_wI, rR_wL, va_rf_some, va_rf_none, Option.toList_some, Option.toList_none, List.nil_append, List.cons_append, true_and, and_true, false_and, and_false, and_self, if_true, if_false, not_true_eq_false, not_false_eq_true, or_false, false_or, or_true, true_or, or_self, ite_true, ite_false, Option.some.injEq, reduceCtorEq, Nat.reduceMod, Nat.reduceDiv, Nat.reduceLeDiff, Nat.reduceEqDiff, Nat.reduceAdd, Nat.reduceMul, Nat.reduceSub, Nat.reduceLT, sw_nil, sw_int, sw_long, sw_ref, li, lo, nI_m1, ng_eq, nn_eq, en_eq, ng_le, ng_lt, Int32.neg_neg, nI_add, pk_mul, nI_clampO, nI_ltO, nI_leO, nI_eqO, nI_subO, nle_t, nle_f, nlt_t, nlt_f, neq_f]
theorem c31 (hn : tp.length ≤ 1000) (hc : ∀ c, c ∈ tp → c < 127) {k : Nat} (hk : k ≤ tp.length) (hF : FX μ) (hT : CTp μ tp) (hKW : KW μ) (hr : rR μ 6000003 0 = some 3000009) (h1 : rI μ 6000003 1 = nI k) : ∃ ν, LFr μ ν ∧ LXr ν (tok tp k) ∧ ∀ Q, R (d + 2) 31 0 [some (.ref 6000003), none, none] [] μ Q = Q none ν := by
  obtain ⟨ν1, w2, n1, n2, n3⟩ := c31_w (d := d + 1) hn hc (tp.length - k) k 0 μ (by omega) (by omega) hF hT hr h1
  obtain ⟨e1, e2⟩ := en_le isW tp hk
  have s1 := fun Q => c34 (d := d + 1) (μ := μ) (Q := Q) hF hT hn hr hk
  have hL := LFr_wI ν1 3 (nI (en isW tp k))
  have hLa := LFr_tr n1 hL
  have hF2 := LFr_FX hLa hF
  have hT2 := LFr_CTp hLa hT
  have hr2 : rR (wI ν1 6000003 3 (nI (en isW tp k))) 6000003 0 = some 3000009 := (hLa.2.2.1 _ _).trans hr
  have m1 : rI (wI ν1 6000003 3 (nI (en isW tp k))) 6000003 1 = nI (en isW tp k) := by rw [rI_wI, if_neg (by decide)]; exact n2
  have m3 : rI (wI ν1 6000003 3 (nI (en isW tp k))) 6000003 3 = nI (en isW tp k) := by rw [rI_wI, if_pos ⟨rfl, rfl⟩]
  have head : ∀ Q, R (d + 2) 31 0 [some (.ref 6000003), none, none] [] μ Q = R (d + 2) 31 63 [some (.ref 6000003), some (.int (sgI tp (en isW tp k))), w2] [] (wI ν1 6000003 3 (nI (en isW tp k))) Q := by
    intro Q
    simp (disch := first | assumption | omega) only [r31_0, r31_1, r31_2, r31_5, r31_8, r31_9, r31_10, r31_55, r31_56, r31_57, r31_60, rI_wI, rL_wL, rR_wR, rI_wL, rI_wR, rL_wI, rL_wR, rR_wI, rR_wL, va_rf_some, va_rf_none, Option.toList_some, Option.toList_none, List.nil_append, List.cons_append, true_and, and_true, false_and, and_false, and_self, if_true, if_false, not_true_eq_false, not_false_eq_true, or_false, false_or, or_true, true_or, or_self, ite_true, ite_false, Option.some.injEq, reduceCtorEq, Nat.reduceMod, Nat.reduceDiv, Nat.reduceLeDiff, Nat.reduceEqDiff, Nat.reduceAdd, Nat.reduceMul, Nat.reduceSub, Nat.reduceLT, sw_nil, sw_int, sw_long, sw_ref, li, lo, nI_m1, ng_eq, nn_eq, en_eq, ng_le, ng_lt, Int32.neg_neg, nI_add, pk_mul, nI_clampO, nI_ltO, nI_leO, nI_eqO, nI_subO, nle_t, nle_f, nlt_t, nlt_f, neq_f, h1, s1, n3, n2]
  unfold tok tokA
  by_cases z : tp.length ≤ en isW tp k
  · rw [if_pos z]
    have e : sgI tp (en isW tp k) = -nI 1 := if_neg (by omega)
    refine ⟨wI (wI ν1 6000003 3 (nI (en isW tp k))) 6000003 2 (nI 30), LFr_tr hLa (LFr_wI _ _ _), ⟨by rw [rI_wI, if_neg (by decide)]; exact m1, by rw [rI_wI, if_pos ⟨rfl, rfl⟩], by rw [rI_wI, if_neg (by decide)]; exact m3, fun q => by simp at q, fun q => by simp at q⟩, fun Q => ?_⟩
    have cc5 := fun μ' => fun Q => c35m (d := d + 1) (μ := μ') (Q := Q)
    have cc6 := fun μ' => fun Q => c36m (d := d + 1) (μ := μ') (Q := Q)
    rw [head, e]
    simp (disch := first | assumption | omega) only [r31_63, r31_64, r31_67, r31_77, r31_78, r31_81, r31_91, r31_92, r31_93, r31_96, r31_97, r31_99, r31_102, r31_132, rI_wI, rL_wL, rR_wR, rI_wL, rI_wR, rL_wI, rL_wR, rR_wI, rR_wL, va_rf_some, va_rf_none, Option.toList_some, Option.toList_none, List.nil_append, List.cons_append, true_and, and_true, false_and, and_false, and_self, if_true, if_false, not_true_eq_false, not_false_eq_true, or_false, false_or, or_true, true_or, or_self, ite_true, ite_false, Option.some.injEq, reduceCtorEq, Nat.reduceMod, Nat.reduceDiv, Nat.reduceLeDiff, Nat.reduceEqDiff, Nat.reduceAdd, Nat.reduceMul, Nat.reduceSub, Nat.reduceLT, sw_nil, sw_int, sw_long, sw_ref, li, lo, nI_m1, ng_eq, nn_eq, en_eq, ng_le, ng_lt, Int32.neg_neg, nI_add, pk_mul, nI_clampO, nI_ltO, nI_leO, nI_eqO, nI_subO, nle_t, nle_f, nlt_t, nlt_f, neq_f, cc5, cc6]
  · rw [if_neg z]
    have e : sgI tp (en isW tp k) = nI (tp.getD (en isW tp k) 0) := if_pos (by omega)
    rw [e] at head
    have hb := hc _ (gD_mem (show en isW tp k < tp.length by omega))
    have cc5 := fun μ' => fun Q => c35 (d := d + 1) (μ := μ') (Q := Q) hb
    have cc6 := fun μ' => fun Q => c36 (d := d + 1) (μ := μ') (Q := Q) hb
    have cc7 := fun μ' => fun Q => c37 (d := d + 1) (μ := μ') (Q := Q) hb
    by_cases y : isL (tp.getD (en isW tp k) 0) = true
    · rw [if_pos y] at cc5
      rw [if_pos y]
      obtain ⟨ν, k1, k2, k3⟩ := c32 (d := d) hn hc (show en isW tp k < tp.length by omega) hF2 hT2 (LFr_KW hLa hKW) hr2 m1 m3 y
      refine ⟨ν, LFr_tr hLa k1, k2, fun Q => ?_⟩
      rw [head]
      simp (disch := first | assumption | omega) only [r31_63, r31_64, r31_67, r31_70, r31_71, r31_74, r31_132, rI_wI, rL_wL, rR_wR, rI_wL, rI_wR, rL_wI, rL_wR, rR_wI, rR_wL, va_rf_some, va_rf_none, Option.toList_some, Option.toList_none, List.nil_append, List.cons_append, true_and, and_true, false_and, and_false, and_self, if_true, if_false, not_true_eq_false, not_false_eq_true, or_false, false_or, or_true, true_or, or_self, ite_true, ite_false, Option.some.injEq, reduceCtorEq, Nat.reduceMod, Nat.reduceDiv, Nat.reduceLeDiff, Nat.reduceEqDiff, Nat.reduceAdd, Nat.reduceMul, Nat.reduceSub, Nat.reduceLT, sw_nil, sw_int, sw_long, sw_ref, li, lo, nI_m1, ng_eq, nn_eq, en_eq, ng_le, ng_lt, Int32.neg_neg, nI_add, pk_mul, nI_clampO, nI_ltO, nI_leO, nI_eqO, nI_subO, nle_t, nle_f, nlt_t, nlt_f, neq_f, cc5, k3]
    · rw [if_neg y] at cc5
      rw [if_neg y]
      by_cases x : isD (tp.getD (en isW tp k) 0) = true
      · rw [if_pos x] at cc6
        rw [if_pos x]
        obtain ⟨ν, k1, k2, k3⟩ := c33 (d := d) hn hc (show en isW tp k < tp.length by omega) hF2 hT2 hr2 m1 m3 x
        refine ⟨ν, LFr_tr hLa k1, k2, fun Q => ?_⟩
        rw [head]
        simp (disch := first | assumption | omega) only [r31_63, r31_64, r31_67, r31_77, r31_78, r31_81, r31_84, r31_85, r31_88, r31_132, rI_wI, rL_wL, rR_wR, rI_wL, rI_wR, rL_wI, rL_wR, rR_wI, rR_wL, va_rf_some, va_rf_none, Option.toList_some, Option.toList_none, List.nil_append, List.cons_append, true_and, and_true, false_and, and_false, and_self, if_true, if_false, not_true_eq_false, not_false_eq_true, or_false, false_or, or_true, true_or, or_self, ite_true, ite_false, Option.some.injEq, reduceCtorEq, Nat.reduceMod, Nat.reduceDiv, Nat.reduceLeDiff, Nat.reduceEqDiff, Nat.reduceAdd, Nat.reduceMul, Nat.reduceSub, Nat.reduceLT, sw_nil, sw_int, sw_long, sw_ref, li, lo, nI_m1, ng_eq, nn_eq, en_eq, ng_le, ng_lt, Int32.neg_neg, nI_add, pk_mul, nI_clampO, nI_ltO, nI_leO, nI_eqO, nI_subO, nle_t, nle_f, nlt_t, nlt_f, neq_f, cc5, cc6, k3]
      · rw [if_neg x] at cc6
        rw [if_neg x]
        refine ⟨wI (wI (wI ν1 6000003 3 (nI (en isW tp k))) 6000003 1 (nI (en isW tp k + 1))) 6000003 2 (nI (if isM (tp.getD (en isW tp k) 0) = true then tp.getD (en isW tp k) 0 else 31)), LFr_tr hLa (LFr_tr (LFr_wI _ _ _) (LFr_wI _ _ _)), ⟨by rw [rI_wI, if_neg (by decide), rI_wI, if_pos ⟨rfl, rfl⟩], by rw [rI_wI, if_pos ⟨rfl, rfl⟩], by rw [rI_wI, if_neg (by decide), rI_wI, if_neg (by decide)]; exact m3, fun q => ?_, fun q => ?_⟩, fun Q => ?_⟩
        · simp only at q
          split at q
          · rename_i w
            have := of_decide_eq_true w
            omega
          · omega
        · simp only at q
          split at q
          · rename_i w
            have := of_decide_eq_true w
            omega
          · omega
        · rw [head]
          by_cases w : isM (tp.getD (en isW tp k) 0) = true
          · rw [if_pos w] at cc7 ⊢
            simp (disch := first | assumption | omega) only [r31_63, r31_64, r31_67, r31_77, r31_78, r31_81, r31_91, r31_92, r31_93, r31_105, r31_106, r31_107, r31_110, r31_111, r31_112, r31_115, r31_116, r31_117, r31_120, r31_123, r31_124, r31_129, r31_132, rI_wI, rL_wL, rR_wR, rI_wL, rI_wR, rL_wI, rL_wR, rR_wI, rR_wL, va_rf_some, va_rf_none, Option.toList_some, Option.toList_none, List.nil_append, List.cons_append, true_and, and_true, false_and, and_false, and_self, if_true, if_false, not_true_eq_false, not_false_eq_true, or_false, false_or, or_true, true_or, or_self, ite_true, ite_false, Option.some.injEq, reduceCtorEq, Nat.reduceMod, Nat.reduceDiv, Nat.reduceLeDiff, Nat.reduceEqDiff, Nat.reduceAdd, Nat.reduceMul, Nat.reduceSub, Nat.reduceLT, sw_nil, sw_int, sw_long, sw_ref, li, lo, nI_m1, ng_eq, nn_eq, en_eq, ng_le, ng_lt, Int32.neg_neg, nI_add, pk_mul, nI_clampO, nI_ltO, nI_leO, nI_eqO, nI_subO, nle_t, nle_f, nlt_t, nlt_f, neq_f, cc5, cc6, cc7, n2]
          · rw [if_neg w] at cc7 ⊢
            simp (disch := first | assumption | omega) only [r31_63, r31_64, r31_67, r31_77, r31_78, r31_81, r31_91, r31_92, r31_93, r31_105, r31_106, r31_107, r31_110, r31_111, r31_112, r31_115, r31_116, r31_117, r31_120, r31_127, r31_129, r31_132, rI_wI, rL_wL, rR_wR, rI_wL, rI_wR, rL_wI, rL_wR, rR_wI, rR_wL, va_rf_some, va_rf_none, Option.toList_some, Option.toList_none, List.nil_append, List.cons_append, true_and, and_true, false_and, and_false, and_self, if_true, if_false, not_true_eq_false, not_false_eq_true, or_false, false_or, or_true, true_or, or_self, ite_true, ite_false, Option.some.injEq, reduceCtorEq, Nat.reduceMod, Nat.reduceDiv, Nat.reduceLeDiff, Nat.reduceEqDiff, Nat.reduceAdd, Nat.reduceMul, Nat.reduceSub, Nat.reduceLT, sw_nil, sw_int, sw_long, sw_ref, li, lo, nI_m1, ng_eq, nn_eq, en_eq, ng_le, ng_lt, Int32.neg_neg, nI_add, pk_mul, nI_clampO, nI_ltO, nI_leO, nI_eqO, nI_subO, nle_t, nle_f, nlt_t, nlt_f, neq_f, cc5, cc6, cc7, n2]
end T1
