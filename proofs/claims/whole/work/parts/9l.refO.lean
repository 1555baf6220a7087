/-! THE REFERENCE READS A LAW: A TEST, ALL -/
section T1
variable {d k c0 e' : Nat}
theorem c166 (hP : PLr 167 3 d k c0 e') : PLr 166 2 d k c0 e' := by
  intro e μ T σ κ he hS hw hn hr h23 hb
  obtain ⟨ν1, ⟨q1, q2⟩, q3⟩ := hP e μ T σ κ he hS hw hn (by omega) h23 hb
  have q3' : ∀ Q, R (d + 5 * e' + 5) 167 0 [some (.ref 110000011), some (.int (nI e)), none] [] μ Q = Q none ν1 := q3
  rcases q2 with ⟨π, κ', T1, a1, a2, a3, a4, a5, a6, a7⟩ | ⟨f, n, s1, s2, s3⟩
  · have hh1 : rk (hdT T1).2.1 < 3 := by
      rcases a6 with q | ⟨-, q, -⟩
      · exact q
      · omega
    have s60 := c141 (d := d + 5 * e' + 5) a1.1 a1.2.2.2.1 (c := 60) (by omega) (by omega)
    have hlk : (κ' ++ fls π).length = κ'.length + π.length := by rw [List.length_append, fls_len]
    by_cases hop : (hdT T1).2.1 = 60 ∨ (hdT T1).2.1 = 61
    · -- at the sign
      have hmv : ∃ t T' ν2 x, T1 = t :: T' ∧ (t.2.1 = 60 ∨ t.2.1 = 61) ∧ PFr c0 ν1 ν2 ∧ SX ν2 k c0 T' (κ' ++ fls π) ∧ x = (if t.2.1 = 60 then 1 else 0) ∧ ∀ Q, R (d + 5 * e' + 6) 166 5 [some (.ref 110000011), some (.int (nI e)), none] [] ν1 Q = R (d + 5 * e' + 6) 166 30 [some (.ref 110000011), some (.int (nI e)), some (.int (nI x))] [] ν2 Q := by
        by_cases h60 : (hdT T1).2.1 = 60
        · obtain ⟨t, T', e1, e2, ν2, p1, p2, p3⟩ := c144y (d := d + 5 * e' + 4) a1 (c := 60) (by omega) (by omega) h60
          rw [if_pos h60] at s60
          refine ⟨t, T', ν2, 1, e1, Or.inl e2, p1, p2, by rw [if_pos e2], fun Q => ?_⟩
          simp (disch := first | assumption | omega) only [r166_0, r166_1, r166_2, r166_5, r166_6, r166_8, r166_11, r166_12, r166_13, r166_15, r166_18, r166_21, r166_22, r166_24, r166_27, r166_31, r166_32, r166_35, r166_36, j166_37, r166_40, r166_42, r166_45, r166_47, r166_48, r166_51, rI_wI, rL_wL, rR_wR, rI_wL, rI_wR, rL_wI, rL_wR, rR_wI, rR_wL, va_rf_some, va_rf_none, Option.toList_some, Option.toList_none, List.nil_append, List.cons_append, true_and, and_true, false_and, and_false, and_self, if_true, if_false, not_true_eq_false, not_false_eq_true, or_false, false_or, or_true, true_or, or_self, ite_true, ite_false, Option.some.injEq, reduceCtorEq, Nat.reduceMod, Nat.reduceDiv, Nat.reduceLeDiff, Nat.reduceEqDiff, Nat.reduceAdd, Nat.reduceMul, Nat.reduceSub, Nat.reduceLT, sw_nil, sw_int, sw_long, sw_ref, li, lo, nI_m1, ng_eq, nn_eq, en_eq, ng_le, ng_lt, Int32.neg_neg, nI_add, pk_mul, nI_clampO, nI_ltO, nI_leO, nI_eqO, nI_subO, nle_t, nle_f, nlt_t, nlt_f, neq_f, s60, p3]
        · rw [if_neg h60] at s60
          obtain ⟨νa, m1, m2, m3⟩ := c144n (d := d + 5 * e' + 4) a1 (c := 60) (by omega) (by omega) h60
          have h61 : (hdT T1).2.1 = 61 := by rcases hop with q | q; exact absurd q h60; exact q
          obtain ⟨t, T', e1, e2, ν2, p1, p2, p3⟩ := c144y (d := d + 5 * e' + 4) m2 (c := 61) (by omega) (by omega) h61
          refine ⟨t, T', ν2, 0, e1, Or.inr e2, PFr_tr m1 p1, p2, by rw [if_neg (by omega)], fun Q => ?_⟩
          simp (disch := first | assumption | omega) only [r166_0, r166_1, r166_2, r166_5, r166_6, r166_8, r166_11, r166_12, r166_13, r166_15, r166_18, r166_21, r166_22, r166_24, r166_27, r166_31, r166_32, r166_35, r166_36, j166_37, r166_40, r166_42, r166_45, r166_47, r166_48, r166_51, rI_wI, rL_wL, rR_wR, rI_wL, rI_wR, rL_wI, rL_wR, rR_wI, rR_wL, va_rf_some, va_rf_none, Option.toList_some, Option.toList_none, List.nil_append, List.cons_append, true_and, and_true, false_and, and_false, and_self, if_true, if_false, not_true_eq_false, not_false_eq_true, or_false, false_or, or_true, true_or, or_self, ite_true, ite_false, Option.some.injEq, reduceCtorEq, Nat.reduceMod, Nat.reduceDiv, Nat.reduceLeDiff, Nat.reduceEqDiff, Nat.reduceAdd, Nat.reduceMul, Nat.reduceSub, Nat.reduceLT, sw_nil, sw_int, sw_long, sw_ref, li, lo, nI_m1, ng_eq, nn_eq, en_eq, ng_le, ng_lt, Int32.neg_neg, nI_add, pk_mul, nI_clampO, nI_ltO, nI_leO, nI_eqO, nI_subO, nle_t, nle_f, nlt_t, nlt_f, neq_f, s60, m3, p3]
      obtain ⟨t, T', ν2, x, e1, hop', p1, p2, hx, p3⟩ := hmv
      subst e1
      have hl' : κ'.length + π.length + (T'.length + 1) ≤ κ.length + T.length := by simpa using a4
      have hl2 : T'.length + 1 ≤ T.length := by simpa using a5
      have hrk : rk t.2.1 = 2 := by rcases hop' with q | q <;> rw [q] <;> rfl
      have hm : mac k (t :: T') (π ++ σ) false κ' = mac k T' (t.2.1 :: σ) true (κ' ++ fls π) := by
        have ja := joi_app (r := 3) (σ := σ) (by omega) a3
        rw [mac_cm hrk (by rw [ja]; show rk (σ.headD 30) ≠ 2; omega), ja]
      have wt : wfs (t.2.1 :: σ) := ⟨hw, Or.inr ⟨by omega, by omega, h23⟩⟩
      have nt : nst (t.2.1 :: σ) = nst σ := by show (if t.2.1 = 23 ∨ t.2.1 = 40 then 1 else 0) + nst σ = _; rw [if_neg (by omega)]; omega
      obtain ⟨ν3, ⟨w1, w2⟩, w3⟩ := hP e ν2 T' (t.2.1 :: σ) (κ' ++ fls π) he p2 wt (by omega) (by show rk t.2.1 < 3; omega) (by show t.2.1 ≠ 23; omega) (by omega)
      have w3' : ∀ Q, R (d + 5 * e' + 5) 167 0 [some (.ref 110000011), some (.int (nI e)), none] [] ν2 Q = Q none ν3 := w3
      have co : opc t.2.1 = (if t.2.1 = 60 then 7 else 8) := by rcases hop' with q | q <;> rw [q] <;> rfl
      have run : ∀ (Q : Option Value → PM → Prop) (ρ : PM), (∀ Q, R (d + 5 * e' + 5) 164 0 [some (.ref 110000011), some (.int (nI (opc t.2.1))), some (.int (nI 0))] [] ν3 Q = Q none ρ) → R (d + 5 * e' + 6) 166 0 [some (.ref 110000011), some (.int (nI e)), none] [] μ Q = Q none ρ := by
        intro Q ρ ce
        have st0 : R (d + 5 * e' + 6) 166 0 [some (.ref 110000011), some (.int (nI e)), none] [] μ Q = R (d + 5 * e' + 6) 166 5 [some (.ref 110000011), some (.int (nI e)), none] [] ν1 Q := by
          simp (disch := first | assumption | omega) only [r166_0, r166_1, r166_2, rI_wI, rL_wL, rR_wR, rI_wL, rI_wR, rL_wI, rL_wR, rR_wI, rR_wL, va_rf_some, va_rf_none, Option.toList_some, Option.toList_none, List.nil_append, List.cons_append, true_and, and_true, false_and, and_false, and_self, if_true, if_false, not_true_eq_false, not_false_eq_true, or_false, false_or, or_true, true_or, or_self, ite_true, ite_false, Option.some.injEq, reduceCtorEq, Nat.reduceMod, Nat.reduceDiv, Nat.reduceLeDiff, Nat.reduceEqDiff, Nat.reduceAdd, Nat.reduceMul, Nat.reduceSub, Nat.reduceLT, sw_nil, sw_int, sw_long, sw_ref, li, lo, nI_m1, ng_eq, nn_eq, en_eq, ng_le, ng_lt, Int32.neg_neg, nI_add, pk_mul, nI_clampO, nI_ltO, nI_leO, nI_eqO, nI_subO, nle_t, nle_f, nlt_t, nlt_f, neq_f, q3']
        rw [st0, p3, hx]
        rw [co] at ce
        rcases hop' with q | q
        · rw [q] at ce ⊢
          simp only [if_true, Nat.reduceEqDiff, if_false] at ce ⊢
          simp (disch := first | assumption | omega) only [r166_0, r166_1, r166_2, r166_5, r166_6, r166_8, r166_11, r166_12, r166_13, r166_15, r166_18, r166_21, r166_22, r166_24, r166_27, r166_30, r166_31, r166_32, r166_35, r166_36, j166_37, r166_40, r166_42, r166_45, r166_47, r166_48, r166_51, rI_wI, rL_wL, rR_wR, rI_wL, rI_wR, rL_wI, rL_wR, rR_wI, rR_wL, va_rf_some, va_rf_none, Option.toList_some, Option.toList_none, List.nil_append, List.cons_append, true_and, and_true, false_and, and_false, and_self, if_true, if_false, not_true_eq_false, not_false_eq_true, or_false, false_or, or_true, true_or, or_self, ite_true, ite_false, Option.some.injEq, reduceCtorEq, Nat.reduceMod, Nat.reduceDiv, Nat.reduceLeDiff, Nat.reduceEqDiff, Nat.reduceAdd, Nat.reduceMul, Nat.reduceSub, Nat.reduceLT, sw_nil, sw_int, sw_long, sw_ref, li, lo, nI_m1, ng_eq, nn_eq, en_eq, ng_le, ng_lt, Int32.neg_neg, nI_add, pk_mul, nI_clampO, nI_ltO, nI_leO, nI_eqO, nI_subO, nle_t, nle_f, nlt_t, nlt_f, neq_f, w3', ce]
        · rw [q] at ce ⊢
          simp only [if_true, Nat.reduceEqDiff, if_false] at ce ⊢
          simp (disch := first | assumption | omega) only [r166_0, r166_1, r166_2, r166_5, r166_6, r166_8, r166_11, r166_12, r166_13, r166_15, r166_18, r166_21, r166_22, r166_24, r166_27, r166_30, r166_31, r166_32, r166_35, r166_36, j166_37, r166_40, r166_42, r166_45, r166_47, r166_48, r166_51, rI_wI, rL_wL, rR_wR, rI_wL, rI_wR, rL_wI, rL_wR, rR_wI, rR_wL, va_rf_some, va_rf_none, Option.toList_some, Option.toList_none, List.nil_append, List.cons_append, true_and, and_true, false_and, and_false, and_self, if_true, if_false, not_true_eq_false, not_false_eq_true, or_false, false_or, or_true, true_or, or_self, ite_true, ite_false, Option.some.injEq, reduceCtorEq, Nat.reduceMod, Nat.reduceDiv, Nat.reduceLeDiff, Nat.reduceEqDiff, Nat.reduceAdd, Nat.reduceMul, Nat.reduceSub, Nat.reduceLT, sw_nil, sw_int, sw_long, sw_ref, li, lo, nI_m1, ng_eq, nn_eq, en_eq, ng_le, ng_lt, Int32.neg_neg, nI_add, pk_mul, nI_clampO, nI_ltO, nI_leO, nI_eqO, nI_subO, nle_t, nle_f, nlt_t, nlt_f, neq_f, w3', ce]
      rcases w2 with ⟨π2, κ2, T2, b1, b2, b3, b4, b5, b6, b7⟩ | ⟨f, n, s1, s2, s3⟩
      · have hlk2 : (κ2 ++ fls π2).length = κ2.length + π2.length := by rw [List.length_append, fls_len]
        have ce := c164 (d := d + 5 * e' + 5) b1.1 b1.2.2.2.2.1 (by omega) (o := nI (opc t.2.1)) (a := nI 0)
        have s5 := em_SX b1 (opc t.2.1, 0)
        rw [List.append_assoc, ← fls_s] at s5
        have hh2 : rk (hdT T2).2.1 < 3 := by
          rcases b6 with q | ⟨-, q, -⟩
          · exact q
          · omega
        refine ⟨em ν3 (c0 + (κ2 ++ fls π2).length) (nI (opc t.2.1)) (nI 0), ⟨PFr_tr q1 (PFr_tr p1 (PFr_tr w1 (em_PF _ _ _))), Or.inl ⟨π2 ++ [t.2.1], κ2, T2, s5, by rw [app1]; exact b2, fun x hx => ?_, by rw [List.length_append]; simp only [List.length_cons, List.length_nil]; omega, by omega, ?_, ?_⟩⟩, fun Q => run Q _ ce⟩
        · rcases List.mem_append.mp hx with q | q
          · have := b3 x q; omega
          · rw [show x = t.2.1 by simpa using q]; omega
        · by_cases z : rk (hdT T2).2.1 = 2
          · refine Or.inr ⟨z, by omega, ?_⟩
            rw [app1, joi_app (r := 3) (σ := t.2.1 :: σ) (by show rk t.2.1 < 3; omega) b3]
            exact hrk
          · exact Or.inl (by omega)
        · rw [a7, hm, b7, app1]
      · have ce := c164 (d := d + 5 * e' + 5) s1.1 s1.2.2.2.2.2.2 (by omega) (o := nI (opc t.2.1)) (a := nI 0)
        have s5 := em_FS s1 (nI (opc t.2.1)) (nI 0)
        exact ⟨_, ⟨PFr_tr q1 (PFr_tr p1 (PFr_tr w1 (em_PF (n := n) ν3 (nI (opc t.2.1)) (nI 0)))), Or.inr ⟨f, n + 1, s5, by omega, by rw [a7, hm]; exact s3⟩⟩, fun Q => run Q _ ce⟩
    · have h60 : ¬ (hdT T1).2.1 = 60 := fun q => hop (Or.inl q)
      have h61 : ¬ (hdT T1).2.1 = 61 := fun q => hop (Or.inr q)
      rw [if_neg h60] at s60
      obtain ⟨νa, m1, m2, m3⟩ := c144n (d := d + 5 * e' + 4) a1 (c := 60) (by omega) (by omega) h60
      obtain ⟨νb, p1, p2, p3⟩ := c144n (d := d + 5 * e' + 4) m2 (c := 61) (by omega) (by omega) h61
      refine ⟨νb, ⟨PFr_tr q1 (PFr_tr m1 p1), Or.inl ⟨π, κ', T1, p2, a2, fun x hx => by have := a3 x hx; omega, a4, a5, Or.inl (rk2 h60 h61 hh1), a7⟩⟩, fun Q => ?_⟩
      show R (d + 5 * e' + 6) 166 0 [some (.ref 110000011), some (.int (nI e)), none] [] μ Q = _
      simp (disch := first | assumption | omega) only [r166_0, r166_1, r166_2, r166_5, r166_6, r166_8, r166_11, r166_12, r166_13, r166_15, r166_18, r166_21, r166_22, r166_24, r166_27, r166_30, r166_31, r166_32, r166_35, r166_36, j166_37, r166_40, r166_42, r166_45, r166_47, r166_48, r166_51, rI_wI, rL_wL, rR_wR, rI_wL, rI_wR, rL_wI, rL_wR, rR_wI, rR_wL, va_rf_some, va_rf_none, Option.toList_some, Option.toList_none, List.nil_append, List.cons_append, true_and, and_true, false_and, and_false, and_self, if_true, if_false, not_true_eq_false, not_false_eq_true, or_false, false_or, or_true, true_or, or_self, ite_true, ite_false, Option.some.injEq, reduceCtorEq, Nat.reduceMod, Nat.reduceDiv, Nat.reduceLeDiff, Nat.reduceEqDiff, Nat.reduceAdd, Nat.reduceMul, Nat.reduceSub, Nat.reduceLT, sw_nil, sw_int, sw_long, sw_ref, li, lo, nI_m1, ng_eq, nn_eq, en_eq, ng_le, ng_lt, Int32.neg_neg, nI_add, pk_mul, nI_clampO, nI_ltO, nI_leO, nI_eqO, nI_subO, nle_t, nle_f, nlt_t, nlt_f, neq_f, q3', s60, m3, p3]
  · have f60 := c141f (d := d + 5 * e' + 5) (x := nI 60) s1.2.2.2.1 s1.2.2.2.2.1 s1.2.2.2.2.2.1
    obtain ⟨νa, m1, m2, m3⟩ := c144f (d := d + 5 * e' + 4) s1 (x := nI 60)
    obtain ⟨νb, p1, p2, p3⟩ := c144f (d := d + 5 * e' + 4) m2 (x := nI 61)
    refine ⟨νb, ⟨PFr_tr q1 (PFr_tr m1 p1), Or.inr ⟨f, n, p2, by omega, s3⟩⟩, fun Q => ?_⟩
    show R (d + 5 * e' + 6) 166 0 [some (.ref 110000011), some (.int (nI e)), none] [] μ Q = _
    simp (disch := first | assumption | omega) only [r166_0, r166_1, r166_2, r166_5, r166_6, r166_8, r166_11, r166_12, r166_13, r166_15, r166_18, r166_21, r166_22, r166_24, r166_27, r166_30, r166_31, r166_32, r166_35, r166_36, j166_37, r166_40, r166_42, r166_45, r166_47, r166_48, r166_51, rI_wI, rL_wL, rR_wR, rI_wL, rI_wR, rL_wI, rL_wR, rR_wI, rR_wL, va_rf_some, va_rf_none, Option.toList_some, Option.toList_none, List.nil_append, List.cons_append, true_and, and_true, false_and, and_false, and_self, if_true, if_false, not_true_eq_false, not_false_eq_true, or_false, false_or, or_true, true_or, or_self, ite_true, ite_false, Option.some.injEq, reduceCtorEq, Nat.reduceMod, Nat.reduceDiv, Nat.reduceLeDiff, Nat.reduceEqDiff, Nat.reduceAdd, Nat.reduceMul, Nat.reduceSub, Nat.reduceLT, sw_nil, sw_int, sw_long, sw_ref, li, lo, nI_m1, ng_eq, nn_eq, en_eq, ng_le, ng_lt, Int32.neg_neg, nI_add, pk_mul, nI_clampO, nI_ltO, nI_leO, nI_eqO, nI_subO, nle_t, nle_f, nlt_t, nlt_f, neq_f, q3', f60, m3, p3]
theorem c165_l (hP : PLr 166 2 d k c0 e') {e : Nat} (he : e + e' = 5) {σ : List Nat} (hw : wfs σ) (hn : nst σ = e) (hr : rk (σ.headD 30) < 1) (h23 : σ.headD 30 ≠ 23) {L : Nat} (hL : c0 + L ≤ 1000) : ∀ (N : Nat) (T : List Tok) (μ : PM) (κ : List Cod) (π : List Nat) (v2 : Option Value), T.length ≤ N → SX μ k c0 T (κ ++ fls π) → wfs (π ++ σ) → (∀ x, x ∈ π → 1 ≤ rk x) → NX 2 π σ T → κ.length + π.length + T.length ≤ L → ∃ ν, OUT 1 k c0 (5 * e' + 4) L T.length (mac k T (π ++ σ) false κ) σ μ ν ∧ ∀ Q, R (d + 5 * e' + 7) 165 5 [some (.ref 110000011), some (.int (nI e)), v2] [] μ Q = Q none ν := by
  intro N
  induction N with
  | zero =>
    intro T μ κ π v2 hT hS
    cases T with
    | nil => exact hS.2.2.2.1.1.1.elim
    | cons t T => simp at hT
  | succ N ih =>
    intro T μ κ π v2 hT hS hwπ hπr hh hl
    have s43 := c142 (d := d + 5 * e' + 6) hS.1 hS.2.1 hS.2.2.2.1 (w := 24) (by omega)
    have s45 := c142 (d := d + 5 * e' + 6) hS.1 hS.2.1 hS.2.2.2.1 (w := 25) (by omega)
    by_cases hop : (hdT T).2.1 = 24 ∨ (hdT T).2.1 = 25
    · cases T with
      | nil => exact hS.2.2.2.1.1.1.elim
      | cons t T' =>
        have hop' : t.2.1 = 24 ∨ t.2.1 = 25 := hop
        have hT' : T'.length + 1 ≤ N + 1 := by simpa using hT
        have hl' : κ.length + π.length + (T'.length + 1) ≤ L := by simpa using hl
        have hrk : rk t.2.1 = 1 := by rcases hop' with q | q <;> rw [q] <;> rfl
        have h30 : t.2.1 ≠ 30 := by omega
        obtain ⟨i, z1, z2, z3⟩ := at1 hS h30
        have hP1 : PFr c0 μ (wI μ 110000011 7 (nI (i + 1))) := PFr_w c0 μ _ (by omega)
        have hm : mac k (t :: T') (π ++ σ) false κ = mac k T' (t.2.1 :: σ) true (κ ++ fls π) := by
          rw [mac_op (r := 1) hrk (by omega) (by omega), joi_app hr hπr]
        have hlen : (κ ++ fls π).length = κ.length + π.length := by rw [List.length_append, fls_len]
        have wt : wfs (t.2.1 :: σ) := ⟨hw, Or.inr ⟨by omega, by omega, h23⟩⟩
        have nt : nst (t.2.1 :: σ) = nst σ := by show (if t.2.1 = 23 ∨ t.2.1 = 40 then 1 else 0) + nst σ = _; rw [if_neg (by omega)]; omega
        obtain ⟨ν2, ⟨q1, q2⟩, q3⟩ := hP e (wI μ 110000011 7 (nI (i + 1))) T' (t.2.1 :: σ) (κ ++ fls π) he z3 wt (by omega) (by show rk t.2.1 < 2; omega) (by show t.2.1 ≠ 23; omega) (by omega)
        have q3' : ∀ Q, R (d + 5 * e' + 6) 166 0 [some (.ref 110000011), some (.int (nI e)), none] [] (wI μ 110000011 7 (nI (i + 1))) Q = Q none ν2 := q3
        have co : opc t.2.1 = (if t.2.1 = 24 then 9 else 10) := by rcases hop' with q | q <;> rw [q] <;> rfl
        have run : ∀ (Q : Option Value → PM → Prop) (ρ : PM), (∀ Q, R (d + 5 * e' + 6) 164 0 [some (.ref 110000011), some (.int (nI (opc t.2.1))), some (.int (nI 0))] [] ν2 Q = Q none ρ) → R (d + 5 * e' + 7) 165 5 [some (.ref 110000011), some (.int (nI e)), v2] [] μ Q = R (d + 5 * e' + 7) 165 5 [some (.ref 110000011), some (.int (nI e)), some (.int (nI (if t.2.1 = 24 then 1 else 0)))] [] ρ Q := by
          intro Q ρ ce
          have s43' : ∀ Q, R (d + 5 * e' + 6) 142 0 [some (.ref 110000011), some (.int (nI 24))] [] μ Q = Q (some (.int (nI (if t.2.1 = 24 then 1 else 0)))) μ := s43
          have s45' : ∀ Q, R (d + 5 * e' + 6) 142 0 [some (.ref 110000011), some (.int (nI 25))] [] μ Q = Q (some (.int (nI (if t.2.1 = 25 then 1 else 0)))) μ := s45
          rw [co] at ce
          rw [r165_5]
          rcases hop' with q | q
          · rw [q] at s43' s45' ce ⊢
            simp only [if_true, Nat.reduceEqDiff, if_false] at s43' s45' ce ⊢
            simp (disch := first | assumption | omega) only [r165_0, r165_1, r165_2, r165_6, r165_8, r165_11, r165_14, r165_15, r165_17, r165_20, r165_23, r165_24, r165_26, r165_29, r165_30, r165_31, r165_31i, r165_32, r165_35, r165_36, r165_37, r165_40, r165_41, r165_42, r165_45, r165_46, j165_47, r165_50, r165_52, r165_55, r165_57, r165_58, r165_61, r165_64, rI_wI, rL_wL, rR_wR, rI_wL, rI_wR, rL_wI, rL_wR, rR_wI, rR_wL, va_rf_some, va_rf_none, Option.toList_some, Option.toList_none, List.nil_append, List.cons_append, true_and, and_true, false_and, and_false, and_self, if_true, if_false, not_true_eq_false, not_false_eq_true, or_false, false_or, or_true, true_or, or_self, ite_true, ite_false, Option.some.injEq, reduceCtorEq, Nat.reduceMod, Nat.reduceDiv, Nat.reduceLeDiff, Nat.reduceEqDiff, Nat.reduceAdd, Nat.reduceMul, Nat.reduceSub, Nat.reduceLT, sw_nil, sw_int, sw_long, sw_ref, li, lo, nI_m1, ng_eq, nn_eq, en_eq, ng_le, ng_lt, Int32.neg_neg, nI_add, pk_mul, nI_clampO, nI_ltO, nI_leO, nI_eqO, nI_subO, nle_t, nle_f, nlt_t, nlt_f, neq_f, s43', z2, q3', ce]
          · rw [q] at s43' s45' ce ⊢
            simp only [if_true, Nat.reduceEqDiff, if_false] at s43' s45' ce ⊢
            simp (disch := first | assumption | omega) only [r165_0, r165_1, r165_2, r165_6, r165_8, r165_11, r165_14, r165_15, r165_17, r165_20, r165_23, r165_24, r165_26, r165_29, r165_30, r165_31, r165_31i, r165_32, r165_35, r165_36, r165_37, r165_40, r165_41, r165_42, r165_45, r165_46, j165_47, r165_50, r165_52, r165_55, r165_57, r165_58, r165_61, r165_64, rI_wI, rL_wL, rR_wR, rI_wL, rI_wR, rL_wI, rL_wR, rR_wI, rR_wL, va_rf_some, va_rf_none, Option.toList_some, Option.toList_none, List.nil_append, List.cons_append, true_and, and_true, false_and, and_false, and_self, if_true, if_false, not_true_eq_false, not_false_eq_true, or_false, false_or, or_true, true_or, or_self, ite_true, ite_false, Option.some.injEq, reduceCtorEq, Nat.reduceMod, Nat.reduceDiv, Nat.reduceLeDiff, Nat.reduceEqDiff, Nat.reduceAdd, Nat.reduceMul, Nat.reduceSub, Nat.reduceLT, sw_nil, sw_int, sw_long, sw_ref, li, lo, nI_m1, ng_eq, nn_eq, en_eq, ng_le, ng_lt, Int32.neg_neg, nI_add, pk_mul, nI_clampO, nI_ltO, nI_leO, nI_eqO, nI_subO, nle_t, nle_f, nlt_t, nlt_f, neq_f, s43', s45', z2, q3', ce]
        rcases q2 with ⟨π2, κ', T1, a1, a2, a3, a4, a5, a6, a7⟩ | ⟨f, n, s1, s2, s3⟩
        · have hlk : (κ' ++ fls π2).length = κ'.length + π2.length := by rw [List.length_append, fls_len]
          have ce := c164 (d := d + 5 * e' + 6) a1.1 a1.2.2.2.2.1 (by omega) (o := nI (opc t.2.1)) (a := nI 0)
          have s5 := em_SX a1 (opc t.2.1, 0)
          rw [List.append_assoc, ← fls_s] at s5
          have hh1 : NX 2 (π2 ++ [t.2.1]) σ T1 := by
            unfold NX at a6 ⊢
            rw [app1]
            exact a6
          obtain ⟨ν, ⟨i1, i2⟩, i3⟩ := ih T1 (em ν2 (c0 + (κ' ++ fls π2).length) (nI (opc t.2.1)) (nI 0)) κ' (π2 ++ [t.2.1]) (some (.int (nI (if t.2.1 = 24 then 1 else 0)))) (by omega) s5 (by rw [app1]; exact a2) (fun x hx => by
            rcases List.mem_append.mp hx with q | q
            · have := a3 x q; omega
            · rw [show x = t.2.1 by simpa using q]; omega) hh1 (by rw [List.length_append]; simp only [List.length_cons, List.length_nil]; omega)
          refine ⟨ν, ⟨PFr_tr hP1 (PFr_tr q1 (PFr_tr (em_PF _ _ _) i1)), ?_⟩, fun Q => (run Q _ ce).trans (i3 Q)⟩
          rw [hm, a7, ← app1]
          rcases i2 with ⟨π', κ'', T2, b1, b2, b3, b4, b5, b6, b7⟩ | b
          · exact Or.inl ⟨π', κ'', T2, b1, b2, b3, b4, by simp only [List.length_cons]; omega, b6, b7⟩
          · exact Or.inr b
        · have ce := c164 (d := d + 5 * e' + 6) s1.1 s1.2.2.2.2.2.2 (by omega) (o := nI (opc t.2.1)) (a := nI 0)
          have s5 := em_FS s1 (nI (opc t.2.1)) (nI 0)
          have f43 := c142f (d := d + 5 * e' + 6) (x := nI 24) s5.2.2.2.1 s5.2.2.2.2.1 s5.2.2.2.2.2.1
          have f45 := c142f (d := d + 5 * e' + 6) (x := nI 25) s5.2.2.2.1 s5.2.2.2.2.1 s5.2.2.2.2.2.1
          refine ⟨_, ⟨PFr_tr hP1 (PFr_tr q1 (em_PF (n := n) ν2 (nI (opc t.2.1)) (nI 0))), Or.inr ⟨f, n + 1, s5, by omega, by rw [hm]; exact s3⟩⟩, fun Q => ?_⟩
          rw [run Q _ ce, r165_5]
          simp (disch := first | assumption | omega) only [r165_0, r165_1, r165_2, r165_6, r165_8, r165_11, r165_14, r165_15, r165_17, r165_20, r165_23, r165_24, r165_26, r165_29, r165_30, r165_31, r165_31i, r165_32, r165_35, r165_36, r165_37, r165_40, r165_41, r165_42, r165_45, r165_46, j165_47, r165_50, r165_52, r165_55, r165_57, r165_58, r165_61, r165_64, rI_wI, rL_wL, rR_wR, rI_wL, rI_wR, rL_wI, rL_wR, rR_wI, rR_wL, va_rf_some, va_rf_none, Option.toList_some, Option.toList_none, List.nil_append, List.cons_append, true_and, and_true, false_and, and_false, and_self, if_true, if_false, not_true_eq_false, not_false_eq_true, or_false, false_or, or_true, true_or, or_self, ite_true, ite_false, Option.some.injEq, reduceCtorEq, Nat.reduceMod, Nat.reduceDiv, Nat.reduceLeDiff, Nat.reduceEqDiff, Nat.reduceAdd, Nat.reduceMul, Nat.reduceSub, Nat.reduceLT, sw_nil, sw_int, sw_long, sw_ref, li, lo, nI_m1, ng_eq, nn_eq, en_eq, ng_le, ng_lt, Int32.neg_neg, nI_add, pk_mul, nI_clampO, nI_ltO, nI_leO, nI_eqO, nI_subO, nle_t, nle_f, nlt_t, nlt_f, neq_f, f43, f45]
    · rw [if_neg (fun q => hop (Or.inl q))] at s43
      rw [if_neg (fun q => hop (Or.inr q))] at s45
      have hnx : NX 1 π σ T := by
        rcases hh with q | ⟨q1, q2, q3⟩
        · exact Or.inl (rk1 (fun z => hop (Or.inl z)) (fun z => hop (Or.inr z)) q)
        · exact Or.inr ⟨q1, by omega, q3⟩
      refine ⟨μ, ⟨PFr_rf _ _, Or.inl ⟨π, κ, T, hS, hwπ, hπr, hl, Nat.le_refl _, hnx, rfl⟩⟩, fun Q => ?_⟩
      rw [r165_5]
      simp (disch := first | assumption | omega) only [r165_0, r165_1, r165_2, r165_6, r165_8, r165_11, r165_14, r165_15, r165_17, r165_20, r165_23, r165_24, r165_26, r165_29, r165_30, r165_31, r165_31i, r165_32, r165_35, r165_36, r165_37, r165_40, r165_41, r165_42, r165_45, r165_46, j165_47, r165_50, r165_52, r165_55, r165_57, r165_58, r165_61, r165_64, rI_wI, rL_wL, rR_wR, rI_wL, rI_wR, rL_wI, rL_wR, rR_wI, rR_wL, va_rf_some, va_rf_none, Option.toList_some, Option.toList_none, List.nil_append, List.cons_append, true_and, and_true, false_and, and_false, and_self, if_true, if_false, not_true_eq_false, not_false_eq_true, or_false, false_or, or_true, true_or, or_self, ite_true, ite_false, Option.some.injEq, reduceCtorEq, Nat.reduceMod, Nat.reduceDiv, Nat.reduceLeDiff, Nat.reduceEqDiff, Nat.reduceAdd, Nat.reduceMul, Nat.reduceSub, Nat.reduceLT, sw_nil, sw_int, sw_long, sw_ref, li, lo, nI_m1, ng_eq, nn_eq, en_eq, ng_le, ng_lt, Int32.neg_neg, nI_add, pk_mul, nI_clampO, nI_ltO, nI_leO, nI_eqO, nI_subO, nle_t, nle_f, nlt_t, nlt_f, neq_f, s43, s45]
theorem c165 (hP : PLr 166 2 d k c0 e') : PLr 165 1 d k c0 e' := by
  intro e μ T σ κ he hS hw hn hr h23 hb
  obtain ⟨ν1, ⟨q1, q2⟩, q3⟩ := hP e μ T σ κ he hS hw hn (by omega) h23 hb
  have q3' : ∀ Q, R (d + 5 * e' + 6) 166 0 [some (.ref 110000011), some (.int (nI e)), none] [] μ Q = Q none ν1 := q3
  rcases q2 with ⟨π, κ', T1, a1, a2, a3, a4, a5, a6, a7⟩ | ⟨f, n, s1, s2, s3⟩
  · obtain ⟨ν, ⟨i1, i2⟩, i3⟩ := c165_l hP he hw hn hr h23 (L := κ.length + T.length) (by omega) T1.length T1 ν1 κ' π none (Nat.le_refl _) a1 a2 (fun x hx => by have := a3 x hx; omega) a6 a4
    refine ⟨ν, ⟨PFr_tr q1 i1, ?_⟩, fun Q => ?_⟩
    · rw [a7]
      rcases i2 with ⟨π', κ'', T2, b1, b2, b3, b4, b5, b6, b7⟩ | b
      · exact Or.inl ⟨π', κ'', T2, b1, b2, b3, b4, by omega, b6, b7⟩
      · exact Or.inr b
    · show R (d + 5 * e' + 7) 165 0 [some (.ref 110000011), some (.int (nI e)), none] [] μ Q = _
      simp (disch := first | assumption | omega) only [r165_0, r165_1, r165_2, rI_wI, rL_wL, rR_wR, rI_wL, rI_wR, rL_wI, rL_wR, rR_wI, rR_wL, va_rf_some, va_rf_none, Option.toList_some, Option.toList_none, List.nil_append, List.cons_append, true_and, and_true, false_and, and_false, and_self, if_true, if_false, not_true_eq_false, not_false_eq_true, or_false, false_or, or_true, true_or, or_self, ite_true, ite_false, Option.some.injEq, reduceCtorEq, Nat.reduceMod, Nat.reduceDiv, Nat.reduceLeDiff, Nat.reduceEqDiff, Nat.reduceAdd, Nat.reduceMul, Nat.reduceSub, Nat.reduceLT, sw_nil, sw_int, sw_long, sw_ref, li, lo, nI_m1, ng_eq, nn_eq, en_eq, ng_le, ng_lt, Int32.neg_neg, nI_add, pk_mul, nI_clampO, nI_ltO, nI_leO, nI_eqO, nI_subO, nle_t, nle_f, nlt_t, nlt_f, neq_f, q3', i3]
  · have f43 := c142f (d := d + 5 * e' + 6) (x := nI 24) s1.2.2.2.1 s1.2.2.2.2.1 s1.2.2.2.2.2.1
    have f45 := c142f (d := d + 5 * e' + 6) (x := nI 25) s1.2.2.2.1 s1.2.2.2.2.1 s1.2.2.2.2.2.1
    refine ⟨ν1, ⟨q1, Or.inr ⟨f, n, s1, by omega, s3⟩⟩, fun Q => ?_⟩
    show R (d + 5 * e' + 7) 165 0 [some (.ref 110000011), some (.int (nI e)), none] [] μ Q = _
    simp (disch := first | assumption | omega) only [r165_0, r165_1, r165_2, r165_5, r165_6, r165_8, r165_11, r165_14, r165_15, r165_17, r165_20, r165_23, r165_24, r165_26, r165_29, r165_30, r165_31, r165_31i, r165_32, r165_35, r165_36, r165_37, r165_40, r165_41, r165_42, r165_45, r165_46, j165_47, r165_50, r165_52, r165_55, r165_57, r165_58, r165_61, r165_64, rI_wI, rL_wL, rR_wR, rI_wL, rI_wR, rL_wI, rL_wR, rR_wI, rR_wL, va_rf_some, va_rf_none, Option.toList_some, Option.toList_none, List.nil_append, List.cons_append, true_and, and_true, false_and, and_false, and_self, if_true, if_false, not_true_eq_false, not_false_eq_true, or_false, false_or, or_true, true_or, or_self, ite_true, ite_false, Option.some.injEq, reduceCtorEq, Nat.reduceMod, Nat.reduceDiv, Nat.reduceLeDiff, Nat.reduceEqDiff, Nat.reduceAdd, Nat.reduceMul, Nat.reduceSub, Nat.reduceLT, sw_nil, sw_int, sw_long, sw_ref, li, lo, nI_m1, ng_eq, nn_eq, en_eq, ng_le, ng_lt, Int32.neg_neg, nI_add, pk_mul, nI_clampO, nI_ltO, nI_leO, nI_eqO, nI_subO, nle_t, nle_f, nlt_t, nlt_f, neq_f, q3', f43, f45]
end T1
