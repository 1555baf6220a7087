/-! THE REFERENCE READS A LAW: PRODUCTS, SUMS, TESTS, ALL -/
theorem mac_op {k r : Nat} {t : Tok} {T : List Tok} {σ : List Nat} {κ : List Cod} (h : rk t.2.1 = r) (h0 : r ≠ 0) (h2 : r ≠ 2) : mac k (t :: T) σ false κ = mac k T (t.2.1 :: (joi r σ).2) true (κ ++ (joi r σ).1) := by
  have n1 : t.2.1 ≠ 59 := fun q => by rw [q] at h; exact h0 h.symm
  have n2 : t.2.1 ≠ 41 := fun q => by rw [q] at h; exact h0 h.symm
  rw [mac, if_neg (fun q => n1 q.1), if_neg (fun q => n2 q.1), if_neg (by omega), if_neg (by omega), h]
theorem mac_cm {k : Nat} {t : Tok} {T : List Tok} {σ : List Nat} {κ : List Cod} (h : rk t.2.1 = 2) (hz : rk ((joi 3 σ).2.headD 30) ≠ 2) : mac k (t :: T) σ false κ = mac k T (t.2.1 :: (joi 3 σ).2) true (κ ++ (joi 3 σ).1) := by
  have n1 : t.2.1 ≠ 59 := fun q => by rw [q] at h; exact absurd h (by decide)
  have n2 : t.2.1 ≠ 41 := fun q => by rw [q] at h; exact absurd h (by decide)
  rw [mac, if_neg (fun q => n1 q.1), if_neg (fun q => n2 q.1), if_neg (by omega), if_pos h, if_neg hz]
/-- what reading so far comes to -/
def OUT (r k c0 b L tl : Nat) (X : Except Nat (List Cod × List Tok)) (σ : List Nat) (μ ν : PM) : Prop := PFr c0 μ ν ∧ ((∃ π κ' T', SX ν k c0 T' (κ' ++ fls π) ∧ wfs (π ++ σ) ∧ (∀ x, x ∈ π → r ≤ rk x) ∧ κ'.length + π.length + T'.length ≤ L ∧ T'.length ≤ tl ∧ NX r π σ T' ∧ X = mac k T' (π ++ σ) false κ') ∨ ∃ f n, FSx ν k c0 f n ∧ n ≤ L + b ∧ X = .error f)
def OUTp (k c0 b L tl : Nat) (X : Except Nat (List Cod × List Tok)) (σ : List Nat) (μ ν : PM) : Prop := PFr c0 μ ν ∧ ((∃ κ' T', SX ν k c0 T' κ' ∧ κ'.length + T'.length ≤ L ∧ T'.length ≤ tl ∧ X = mac k T' (nots σ).2 false (κ' ++ (nots σ).1)) ∨ ∃ f n, FSx ν k c0 f n ∧ n ≤ L + b ∧ X = .error f)
def PT (d k c0 e' : Nat) : Prop := ∀ (e : Nat) (μ : PM) (T : List Tok) (σ : List Nat) (κ : List Cod), e + e' = 5 → SX μ k c0 T κ → wfs σ → nst σ = e → c0 + κ.length + T.length ≤ 1000 → ∃ ν, OUTp k c0 (5 * e') (κ.length + T.length) T.length (mac k T σ true κ) σ μ ν ∧ ∀ Q, R (d + 5 * e' + 3) 169 0 [some (.ref 110000011), some (.int (nI e)), none, none, none] [] μ Q = Q none ν
theorem fls_len (π : List Nat) : (fls π).length = π.length := by unfold fls; rw [List.length_map]
theorem rk42 {t : Nat} (h : ¬ t = 42) : rk t < 4 := by
  unfold rk
  split
  · omega
  · split
    · omega
    · split
      · omega
      · omega
section T1
variable {d k c0 e' : Nat}
theorem c168_l (hP : PT d k c0 e') {e : Nat} (he : e + e' = 5) {σ : List Nat} (hw : wfs σ) (hn : nst σ = e) (hr : rk (σ.headD 30) < 4) (h23 : σ.headD 30 ≠ 23) {L : Nat} (hL : c0 + L ≤ 1000) : ∀ (N : Nat) (T : List Tok) (μ : PM) (κ : List Cod) (π : List Nat), T.length ≤ N → SX μ k c0 T (κ ++ fls π) → (π = [] ∨ π = [42]) → κ.length + π.length + T.length ≤ L → ∃ ν, OUT 4 k c0 (5 * e' + 1) L T.length (mac k T (π ++ σ) false κ) σ μ ν ∧ ∀ Q, R (d + 5 * e' + 4) 168 5 [some (.ref 110000011), some (.int (nI e))] [] μ Q = Q none ν := by
  have w42 : wfs (42 :: σ) := ⟨hw, Or.inr ⟨by decide, by show _ < 4; exact hr, h23⟩⟩
  have n42 : nst (42 :: σ) = nst σ := by show 0 + nst σ = _; omega
  intro N
  induction N with
  | zero =>
    intro T μ κ π hT hS _ _
    cases T with
    | nil => exact hS.2.2.2.1.1.1.elim
    | cons t T => simp at hT
  | succ N ih =>
    intro T μ κ π hT hS hπ hl
    have hπr : ∀ x, x ∈ π → 4 ≤ rk x := fun x hx => by
      rcases hπ with rfl | rfl
      · simp at hx
      · have : x = 42 := by simpa using hx
        rw [this]; decide
    have hwπ : wfs (π ++ σ) := by
      rcases hπ with rfl | rfl
      · exact hw
      · exact w42
    by_cases h42 : (hdT T).2.1 = 42
    · obtain ⟨t, T', e1, e2, ν1, p1, p2, p3⟩ := c144y (d := d + 5 * e' + 2) hS (c := 42) (by omega) (by omega) h42
      subst e1
      have hT' : T'.length + 1 ≤ N + 1 := by simpa using hT
      have hl' : κ.length + π.length + (T'.length + 1) ≤ L := by simpa using hl
      have hm : mac k (t :: T') (π ++ σ) false κ = mac k T' (42 :: σ) true (κ ++ fls π) := by
        rw [mac_op (r := 4) (by rw [e2]; rfl) (by omega) (by omega), joi_app hr hπr, e2]
      have hlen : (κ ++ fls π).length = κ.length + π.length := by rw [List.length_append, fls_len]
      obtain ⟨ν2, ⟨q1, q2⟩, q3⟩ := hP e ν1 T' (42 :: σ) (κ ++ fls π) he p2 w42 (by omega) (by omega)
      have hn42 : nots (42 :: σ) = ([], 42 :: σ) := nots_no (show (42 : Nat) ≠ 23 by decide)
      rw [hn42] at q2
      rcases q2 with ⟨κ', T1, s1, s2, s3, s4⟩ | ⟨f, n, s1, s2, s3⟩
      · have s4' : mac k T' (42 :: σ) true (κ ++ fls π) = mac k T1 ([42] ++ σ) false κ' := by
          rw [s4]
          show mac k T1 (42 :: σ) false (κ' ++ []) = _
          rw [List.append_nil]
          rfl
        have ce := c164 (d := d + 5 * e' + 3) s1.1 s1.2.2.2.2.1 (by omega) (o := nI 6) (a := nI 0)
        have s5 : SX (em ν2 (c0 + κ'.length) (nI 6) (nI 0)) k c0 T1 (κ' ++ fls [42]) := em_SX s1 (6, 0)
        obtain ⟨ν, ⟨i1, i2⟩, i3⟩ := ih T1 (em ν2 (c0 + κ'.length) (nI 6) (nI 0)) κ' [42] (by omega) s5 (Or.inr rfl) (by simp only [List.length_cons, List.length_nil]; omega)
        refine ⟨ν, ⟨PFr_tr p1 (PFr_tr q1 (PFr_tr (em_PF _ _ _) i1)), ?_⟩, fun Q => ?_⟩
        · rw [hm, s4']
          rcases i2 with ⟨π', κ'', T2, a1, a2, a3, a4, a5, a6, a7⟩ | a
          · exact Or.inl ⟨π', κ'', T2, a1, a2, a3, a4, by simp only [List.length_cons]; omega, a6, a7⟩
          · exact Or.inr a
        · rw [r168_5]
          simp (disch := first | assumption | omega) only [r168_6, r168_8, r168_11, r168_14, r168_15, r168_16, r168_19, r168_20, r168_22, r168_23, r168_26, rI_wI, rL_wL, rR_wR, rI_wL, rI_wR, rL_wI, rL_wR, rR_wI, rR_wL, va_rf_some, va_rf_none, Option.toList_some, Option.toList_none, List.nil_append, List.cons_append, true_and, and_true, false_and, and_false, and_self, if_true, if_false, not_true_eq_false, not_false_eq_true, or_false, false_or, or_true, true_or, or_self, ite_true, ite_false, Option.some.injEq, reduceCtorEq, Nat.reduceMod, Nat.reduceDiv, Nat.reduceLeDiff, Nat.reduceEqDiff, Nat.reduceAdd, Nat.reduceMul, Nat.reduceSub, Nat.reduceLT, sw_nil, sw_int, sw_long, sw_ref, li, lo, nI_m1, ng_eq, nn_eq, en_eq, ng_le, ng_lt, Int32.neg_neg, nI_add, pk_mul, nI_clampO, nI_ltO, nI_leO, nI_eqO, nI_subO, nle_t, nle_f, nlt_t, nlt_f, neq_f, p3, q3, ce, i3]
      · have ce := c164 (d := d + 5 * e' + 3) s1.1 s1.2.2.2.2.2.2 (by omega) (o := nI 6) (a := nI 0)
        have s5 := em_FS s1 (nI 6) (nI 0)
        obtain ⟨ν, i1, i2, i3⟩ := c144f (d := d + 5 * e' + 2) s5 (x := nI 42)
        refine ⟨ν, ⟨PFr_tr p1 (PFr_tr q1 (PFr_tr (em_PF _ _ _) i1)), Or.inr ⟨f, n + 1, i2, by omega, by rw [hm]; exact s3⟩⟩, fun Q => ?_⟩
        have tail : ∀ Q, R (d + 5 * e' + 4) 168 5 [some (.ref 110000011), some (.int (nI e))] [] (em ν2 (c0 + n) (nI 6) (nI 0)) Q = Q none ν := by
          intro Q
          rw [r168_5]
          simp (disch := first | assumption | omega) only [r168_6, r168_8, r168_11, r168_29, rI_wI, rL_wL, rR_wR, rI_wL, rI_wR, rL_wI, rL_wR, rR_wI, rR_wL, va_rf_some, va_rf_none, Option.toList_some, Option.toList_none, List.nil_append, List.cons_append, true_and, and_true, false_and, and_false, and_self, if_true, if_false, not_true_eq_false, not_false_eq_true, or_false, false_or, or_true, true_or, or_self, ite_true, ite_false, Option.some.injEq, reduceCtorEq, Nat.reduceMod, Nat.reduceDiv, Nat.reduceLeDiff, Nat.reduceEqDiff, Nat.reduceAdd, Nat.reduceMul, Nat.reduceSub, Nat.reduceLT, sw_nil, sw_int, sw_long, sw_ref, li, lo, nI_m1, ng_eq, nn_eq, en_eq, ng_le, ng_lt, Int32.neg_neg, nI_add, pk_mul, nI_clampO, nI_ltO, nI_leO, nI_eqO, nI_subO, nle_t, nle_f, nlt_t, nlt_f, neq_f, i3]
        rw [r168_5]
        simp (disch := first | assumption | omega) only [r168_6, r168_8, r168_11, r168_14, r168_15, r168_16, r168_19, r168_20, r168_22, r168_23, r168_26, rI_wI, rL_wL, rR_wR, rI_wL, rI_wR, rL_wI, rL_wR, rR_wI, rR_wL, va_rf_some, va_rf_none, Option.toList_some, Option.toList_none, List.nil_append, List.cons_append, true_and, and_true, false_and, and_false, and_self, if_true, if_false, not_true_eq_false, not_false_eq_true, or_false, false_or, or_true, true_or, or_self, ite_true, ite_false, Option.some.injEq, reduceCtorEq, Nat.reduceMod, Nat.reduceDiv, Nat.reduceLeDiff, Nat.reduceEqDiff, Nat.reduceAdd, Nat.reduceMul, Nat.reduceSub, Nat.reduceLT, sw_nil, sw_int, sw_long, sw_ref, li, lo, nI_m1, ng_eq, nn_eq, en_eq, ng_le, ng_lt, Int32.neg_neg, nI_add, pk_mul, nI_clampO, nI_ltO, nI_leO, nI_eqO, nI_subO, nle_t, nle_f, nlt_t, nlt_f, neq_f, p3, q3, ce, tail]
    · obtain ⟨ν1, p1, p2, p3⟩ := c144n (d := d + 5 * e' + 2) hS (c := 42) (by omega) (by omega) h42
      refine ⟨ν1, ⟨p1, Or.inl ⟨π, κ, T, p2, hwπ, hπr, hl, Nat.le_refl _, Or.inl (rk42 h42), rfl⟩⟩, fun Q => ?_⟩
      rw [r168_5]
      simp (disch := first | assumption | omega) only [r168_6, r168_8, r168_11, r168_29, rI_wI, rL_wL, rR_wR, rI_wL, rI_wR, rL_wI, rL_wR, rR_wI, rR_wL, va_rf_some, va_rf_none, Option.toList_some, Option.toList_none, List.nil_append, List.cons_append, true_and, and_true, false_and, and_false, and_self, if_true, if_false, not_true_eq_false, not_false_eq_true, or_false, false_or, or_true, true_or, or_self, ite_true, ite_false, Option.some.injEq, reduceCtorEq, Nat.reduceMod, Nat.reduceDiv, Nat.reduceLeDiff, Nat.reduceEqDiff, Nat.reduceAdd, Nat.reduceMul, Nat.reduceSub, Nat.reduceLT, sw_nil, sw_int, sw_long, sw_ref, li, lo, nI_m1, ng_eq, nn_eq, en_eq, ng_le, ng_lt, Int32.neg_neg, nI_add, pk_mul, nI_clampO, nI_ltO, nI_leO, nI_eqO, nI_subO, nle_t, nle_f, nlt_t, nlt_f, neq_f, p3]
def PLr (m r d k c0 e' : Nat) : Prop := ∀ (e : Nat) (μ : PM) (T : List Tok) (σ : List Nat) (κ : List Cod), e + e' = 5 → SX μ k c0 T κ → wfs σ → nst σ = e → rk (σ.headD 30) < r → σ.headD 30 ≠ 23 → c0 + κ.length + T.length ≤ 1000 → ∃ ν, OUT r k c0 (5 * e' + (5 - r)) (κ.length + T.length) T.length (mac k T σ true κ) σ μ ν ∧ ∀ Q, R (d + 5 * e' + 3 + (5 - r)) m 0 ([some (.ref 110000011), some (.int (nI e))] ++ (if m = 168 then [] else [none])) [] μ Q = Q none ν
theorem c168 (hP : PT d k c0 e') : PLr 168 4 d k c0 e' := by
  intro e μ T σ κ he hS hw hn hr h23 hb
  obtain ⟨ν1, ⟨q1, q2⟩, q3⟩ := hP e μ T σ κ he hS hw hn hb
  rw [nots_no h23] at q2
  have hb25 : 5 * e' ≤ 25 := by omega
  rcases q2 with ⟨κ', T1, s1, s2, s3, s4⟩ | ⟨f, n, s1, s2, s3⟩
  · have s4' : mac k T σ true κ = mac k T1 ([] ++ σ) false κ' := by
      rw [s4]
      show mac k T1 σ false (κ' ++ []) = _
      rw [List.append_nil]
      rfl
    have s1' : SX ν1 k c0 T1 (κ' ++ fls []) := by
      show SX ν1 k c0 T1 (κ' ++ [])
      rw [List.append_nil]
      exact s1
    obtain ⟨ν, ⟨i1, i2⟩, i3⟩ := c168_l hP he hw hn hr h23 (L := κ.length + T.length) (by omega) T1.length T1 ν1 κ' [] (Nat.le_refl _) s1' (Or.inl rfl) (by simp only [List.length_nil]; omega)
    refine ⟨ν, ⟨PFr_tr q1 i1, ?_⟩, fun Q => ?_⟩
    · rw [s4']
      rcases i2 with ⟨π', κ'', T2, a1, a2, a3, a4, a5, a6, a7⟩ | a
      · exact Or.inl ⟨π', κ'', T2, a1, a2, a3, a4, by omega, a6, a7⟩
      · exact Or.inr a
    · show R (d + 5 * e' + 4) 168 0 [some (.ref 110000011), some (.int (nI e))] [] μ Q = _
      simp (disch := first | assumption | omega) only [r168_0, r168_1, r168_2, rI_wI, rL_wL, rR_wR, rI_wL, rI_wR, rL_wI, rL_wR, rR_wI, rR_wL, va_rf_some, va_rf_none, Option.toList_some, Option.toList_none, List.nil_append, List.cons_append, true_and, and_true, false_and, and_false, and_self, if_true, if_false, not_true_eq_false, not_false_eq_true, or_false, false_or, or_true, true_or, or_self, ite_true, ite_false, Option.some.injEq, reduceCtorEq, Nat.reduceMod, Nat.reduceDiv, Nat.reduceLeDiff, Nat.reduceEqDiff, Nat.reduceAdd, Nat.reduceMul, Nat.reduceSub, Nat.reduceLT, sw_nil, sw_int, sw_long, sw_ref, li, lo, nI_m1, ng_eq, nn_eq, en_eq, ng_le, ng_lt, Int32.neg_neg, nI_add, pk_mul, nI_clampO, nI_ltO, nI_leO, nI_eqO, nI_subO, nle_t, nle_f, nlt_t, nlt_f, neq_f, q3, i3]
  · obtain ⟨ν, i1, i2, i3⟩ := c144f (d := d + 5 * e' + 2) s1 (x := nI 42)
    refine ⟨ν, ⟨PFr_tr q1 i1, Or.inr ⟨f, n, i2, by omega, s3⟩⟩, fun Q => ?_⟩
    have tail : ∀ Q, R (d + 5 * e' + 4) 168 5 [some (.ref 110000011), some (.int (nI e))] [] ν1 Q = Q none ν := by
      intro Q
      rw [r168_5]
      simp (disch := first | assumption | omega) only [r168_6, r168_8, r168_11, r168_29, rI_wI, rL_wL, rR_wR, rI_wL, rI_wR, rL_wI, rL_wR, rR_wI, rR_wL, va_rf_some, va_rf_none, Option.toList_some, Option.toList_none, List.nil_append, List.cons_append, true_and, and_true, false_and, and_false, and_self, if_true, if_false, not_true_eq_false, not_false_eq_true, or_false, false_or, or_true, true_or, or_self, ite_true, ite_false, Option.some.injEq, reduceCtorEq, Nat.reduceMod, Nat.reduceDiv, Nat.reduceLeDiff, Nat.reduceEqDiff, Nat.reduceAdd, Nat.reduceMul, Nat.reduceSub, Nat.reduceLT, sw_nil, sw_int, sw_long, sw_ref, li, lo, nI_m1, ng_eq, nn_eq, en_eq, ng_le, ng_lt, Int32.neg_neg, nI_add, pk_mul, nI_clampO, nI_ltO, nI_leO, nI_eqO, nI_subO, nle_t, nle_f, nlt_t, nlt_f, neq_f, i3]
    show R (d + 5 * e' + 4) 168 0 [some (.ref 110000011), some (.int (nI e))] [] μ Q = _
    simp (disch := first | assumption | omega) only [r168_0, r168_1, r168_2, rI_wI, rL_wL, rR_wR, rI_wL, rI_wR, rL_wI, rL_wR, rR_wI, rR_wL, va_rf_some, va_rf_none, Option.toList_some, Option.toList_none, List.nil_append, List.cons_append, true_and, and_true, false_and, and_false, and_self, if_true, if_false, not_true_eq_false, not_false_eq_true, or_false, false_or, or_true, true_or, or_self, ite_true, ite_false, Option.some.injEq, reduceCtorEq, Nat.reduceMod, Nat.reduceDiv, Nat.reduceLeDiff, Nat.reduceEqDiff, Nat.reduceAdd, Nat.reduceMul, Nat.reduceSub, Nat.reduceLT, sw_nil, sw_int, sw_long, sw_ref, li, lo, nI_m1, ng_eq, nn_eq, en_eq, ng_le, ng_lt, Int32.neg_neg, nI_add, pk_mul, nI_clampO, nI_ltO, nI_leO, nI_eqO, nI_subO, nle_t, nle_f, nlt_t, nlt_f, neq_f, q3, tail]
end T1
