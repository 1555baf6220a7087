/-! THE REFERENCE READS A LAW: SUMS, A TEST, ALL -/
theorem fls_s (π : List Nat) (t : Nat) : fls (π ++ [t]) = fls π ++ [(opc t, 0)] := by unfold fls; rw [List.map_append]; rfl
theorem rk3 {t : Nat} (h1 : ¬ t = 43) (h2 : ¬ t = 45) (h : rk t < 4) : rk t < 3 := by
  unfold rk at h ⊢
  split
  · omega
  · split
    · omega
    · rename_i a b
      rw [if_neg a, if_neg b, if_neg (by omega)] at h
      rw [if_neg (by omega)]
      split
      · rename_i c; rw [if_pos c] at h; omega
      · omega
theorem rk2 {t : Nat} (h1 : ¬ t = 60) (h2 : ¬ t = 61) (h : rk t < 3) : rk t < 2 := by
  unfold rk at h ⊢
  split
  · omega
  · rename_i a
    rw [if_neg a, if_neg (by omega)] at h
    rw [if_neg (by omega)]
    split
    · rename_i b; rw [if_pos b] at h; omega
    · rename_i b
      rw [if_neg b] at h
      split
      · rename_i c; rw [if_pos c] at h; omega
      · omega
theorem rk1 {t : Nat} (h1 : ¬ t = 24) (h2 : ¬ t = 25) (h : rk t < 2) : rk t < 1 := by
  unfold rk at h ⊢
  rw [if_neg (by omega)] at h ⊢
  split
  · rename_i b; rw [if_pos b] at h; omega
  · rename_i b
    rw [if_neg b] at h
    split
    · rename_i c; rw [if_pos c] at h; omega
    · rename_i c
      rw [if_neg c] at h
      split
      · rename_i e; rw [if_pos e] at h; omega
      · omega
theorem app1 (π : List Nat) (t : Nat) (σ : List Nat) : (π ++ [t]) ++ σ = π ++ t :: σ := by rw [List.append_assoc]; rfl
section T1
variable {d k c0 e' : Nat}
theorem c167_l (hP : PLr 168 4 d k c0 e') {e : Nat} (he : e + e' = 5) {σ : List Nat} (hw : wfs σ) (hn : nst σ = e) (hr : rk (σ.headD 30) < 3) (h23 : σ.headD 30 ≠ 23) {L : Nat} (hL : c0 + L ≤ 1000) : ∀ (N : Nat) (T : List Tok) (μ : PM) (κ : List Cod) (π : List Nat) (v2 : Option Value), T.length ≤ N → SX μ k c0 T (κ ++ fls π) → wfs (π ++ σ) → (∀ x, x ∈ π → 3 ≤ rk x) → rk (hdT T).2.1 < 4 → κ.length + π.length + T.length ≤ L → ∃ ν, OUT 3 k c0 (5 * e' + 2) L T.length (mac k T (π ++ σ) false κ) σ μ ν ∧ ∀ Q, R (d + 5 * e' + 5) 167 5 [some (.ref 110000011), some (.int (nI e)), v2] [] μ Q = Q none ν := by
  intro N
  induction N with
  | zero =>
    intro T μ κ π v2 hT hS
    cases T with
    | nil => exact hS.2.2.2.1.1.1.elim
    | cons t T => simp at hT
  | succ N ih =>
    intro T μ κ π v2 hT hS hwπ hπr hh hl
    have s43 := c141 (d := d + 5 * e' + 4) hS.1 hS.2.2.2.1 (c := 43) (by omega) (by omega)
    have s45 := c141 (d := d + 5 * e' + 4) hS.1 hS.2.2.2.1 (c := 45) (by omega) (by omega)
    by_cases hop : (hdT T).2.1 = 43 ∨ (hdT T).2.1 = 45
    · cases T with
      | nil => exact hS.2.2.2.1.1.1.elim
      | cons t T' =>
        have hop' : t.2.1 = 43 ∨ t.2.1 = 45 := hop
        have hT' : T'.length + 1 ≤ N + 1 := by simpa using hT
        have hl' : κ.length + π.length + (T'.length + 1) ≤ L := by simpa using hl
        have hrk : rk t.2.1 = 3 := by rcases hop' with q | q <;> rw [q] <;> rfl
        have h30 : t.2.1 ≠ 30 := by omega
        obtain ⟨i, z1, z2, z3⟩ := at1 hS h30
        have hP1 : PFr c0 μ (wI μ 110000011 7 (nI (i + 1))) := PFr_w c0 μ _ (by omega)
        have hm : mac k (t :: T') (π ++ σ) false κ = mac k T' (t.2.1 :: σ) true (κ ++ fls π) := by
          rw [mac_op (r := 3) hrk (by omega) (by omega), joi_app hr hπr]
        have hlen : (κ ++ fls π).length = κ.length + π.length := by rw [List.length_append, fls_len]
        have wt : wfs (t.2.1 :: σ) := ⟨hw, Or.inr ⟨by omega, by omega, h23⟩⟩
        have nt : nst (t.2.1 :: σ) = nst σ := by show (if t.2.1 = 23 ∨ t.2.1 = 40 then 1 else 0) + nst σ = _; rw [if_neg (by omega)]; omega
        obtain ⟨ν2, ⟨q1, q2⟩, q3⟩ := hP e (wI μ 110000011 7 (nI (i + 1))) T' (t.2.1 :: σ) (κ ++ fls π) he z3 wt (by omega) (by show rk t.2.1 < 4; omega) (by show t.2.1 ≠ 23; omega) (by omega)
        have q3' : ∀ Q, R (d + 5 * e' + 4) 168 0 [some (.ref 110000011), some (.int (nI e))] [] (wI μ 110000011 7 (nI (i + 1))) Q = Q none ν2 := q3
        have co : opc t.2.1 = (if t.2.1 = 43 then 4 else 5) := by rcases hop' with q | q <;> rw [q] <;> rfl
        have run : ∀ (Q : Option Value → PM → Prop) (ρ : PM), (∀ Q, R (d + 5 * e' + 4) 164 0 [some (.ref 110000011), some (.int (nI (opc t.2.1))), some (.int (nI 0))] [] ν2 Q = Q none ρ) → R (d + 5 * e' + 5) 167 5 [some (.ref 110000011), some (.int (nI e)), v2] [] μ Q = R (d + 5 * e' + 5) 167 5 [some (.ref 110000011), some (.int (nI e)), some (.int (nI (if t.2.1 = 43 then 1 else 0)))] [] ρ Q := by
          intro Q ρ ce
          have s43' : ∀ Q, R (d + 5 * e' + 4) 141 0 [some (.ref 110000011), some (.int (nI 43))] [] μ Q = Q (some (.int (nI (if t.2.1 = 43 then 1 else 0)))) μ := s43
          have s45' : ∀ Q, R (d + 5 * e' + 4) 141 0 [some (.ref 110000011), some (.int (nI 45))] [] μ Q = Q (some (.int (nI (if t.2.1 = 45 then 1 else 0)))) μ := s45
          rw [co] at ce
          rw [r167_5]
          rcases hop' with q | q
          · rw [q] at s43' s45' ce ⊢
            simp only [if_true, Nat.reduceEqDiff, if_false] at s43' s45' ce ⊢
            simp (disch := first | assumption | omega) only [r167_0, r167_1, r167_2, r167_6, r167_8, r167_11, r167_14, r167_15, r167_17, r167_20, r167_23, r167_24, r167_26, r167_29, r167_30, r167_31, r167_31i, r167_32, r167_35, r167_36, r167_37, r167_40, r167_41, r167_42, r167_45, r167_46, j167_47, r167_50, r167_51, r167_54, r167_55, r167_56, r167_59, r167_62, rI_wI, rL_wL, rR_wR, rI_wL, rI_wR, rL_wI, rL_wR, rR_wI, rR_wL, va_rf_some, va_rf_none, Option.toList_some, Option.toList_none, List.nil_append, List.cons_append, true_and, and_true, false_and, and_false, and_self, if_true, if_false, not_true_eq_false, not_false_eq_true, or_false, false_or, or_true, true_or, or_self, ite_true, ite_false, Option.some.injEq, reduceCtorEq, Nat.reduceMod, Nat.reduceDiv, Nat.reduceLeDiff, Nat.reduceEqDiff, Nat.reduceAdd, Nat.reduceMul, Nat.reduceSub, Nat.reduceLT, sw_nil, sw_int, sw_long, sw_ref, li, lo, nI_m1, ng_eq, nn_eq, en_eq, ng_le, ng_lt, Int32.neg_neg, nI_add, pk_mul, nI_clampO, nI_ltO, nI_leO, nI_eqO, nI_subO, nle_t, nle_f, nlt_t, nlt_f, neq_f, s43', z2, q3', ce]
          · rw [q] at s43' s45' ce ⊢
            simp only [if_true, Nat.reduceEqDiff, if_false] at s43' s45' ce ⊢
            simp (disch := first | assumption | omega) only [r167_0, r167_1, r167_2, r167_6, r167_8, r167_11, r167_14, r167_15, r167_17, r167_20, r167_23, r167_24, r167_26, r167_29, r167_30, r167_31, r167_31i, r167_32, r167_35, r167_36, r167_37, r167_40, r167_41, r167_42, r167_45, r167_46, j167_47, r167_50, r167_51, r167_54, r167_55, r167_56, r167_59, r167_62, rI_wI, rL_wL, rR_wR, rI_wL, rI_wR, rL_wI, rL_wR, rR_wI, rR_wL, va_rf_some, va_rf_none, Option.toList_some, Option.toList_none, List.nil_append, List.cons_append, true_and, and_true, false_and, and_false, and_self, if_true, if_false, not_true_eq_false, not_false_eq_true, or_false, false_or, or_true, true_or, or_self, ite_true, ite_false, Option.some.injEq, reduceCtorEq, Nat.reduceMod, Nat.reduceDiv, Nat.reduceLeDiff, Nat.reduceEqDiff, Nat.reduceAdd, Nat.reduceMul, Nat.reduceSub, Nat.reduceLT, sw_nil, sw_int, sw_long, sw_ref, li, lo, nI_m1, ng_eq, nn_eq, en_eq, ng_le, ng_lt, Int32.neg_neg, nI_add, pk_mul, nI_clampO, nI_ltO, nI_leO, nI_eqO, nI_subO, nle_t, nle_f, nlt_t, nlt_f, neq_f, s43', s45', z2, q3', ce]
        rcases q2 with ⟨π2, κ', T1, a1, a2, a3, a4, a5, a6, a7⟩ | ⟨f, n, s1, s2, s3⟩
        · have hlk : (κ' ++ fls π2).length = κ'.length + π2.length := by rw [List.length_append, fls_len]
          have kc := a1.2.2.2.2.1
          have ce := c164 (d := d + 5 * e' + 4) a1.1 kc (by omega) (o := nI (opc t.2.1)) (a := nI 0)
          have s5 := em_SX a1 (opc t.2.1, 0)
          rw [List.append_assoc, ← fls_s] at s5
          have hh1 : rk (hdT T1).2.1 < 4 := by
            rcases a6 with q | ⟨-, q, -⟩
            · exact q
            · omega
          obtain ⟨ν, ⟨i1, i2⟩, i3⟩ := ih T1 (em ν2 (c0 + (κ' ++ fls π2).length) (nI (opc t.2.1)) (nI 0)) κ' (π2 ++ [t.2.1]) (some (.int (nI (if t.2.1 = 43 then 1 else 0)))) (by omega) s5 (by rw [app1]; exact a2) (fun x hx => by
            rcases List.mem_append.mp hx with q | q
            · have := a3 x q; omega
            · rw [show x = t.2.1 by simpa using q]; omega) hh1 (by rw [List.length_append]; simp only [List.length_cons, List.length_nil]; omega)
          refine ⟨ν, ⟨PFr_tr hP1 (PFr_tr q1 (PFr_tr (em_PF _ _ _) i1)), ?_⟩, fun Q => (run Q _ ce).trans (i3 Q)⟩
          rw [hm, a7, ← app1]
          rcases i2 with ⟨π', κ'', T2, b1, b2, b3, b4, b5, b6, b7⟩ | b
          · exact Or.inl ⟨π', κ'', T2, b1, b2, b3, b4, by simp only [List.length_cons]; omega, b6, b7⟩
          · exact Or.inr b
        · have ce := c164 (d := d + 5 * e' + 4) s1.1 s1.2.2.2.2.2.2 (by omega) (o := nI (opc t.2.1)) (a := nI 0)
          have s5 := em_FS s1 (nI (opc t.2.1)) (nI 0)
          have f43 := c141f (d := d + 5 * e' + 4) (x := nI 43) s5.2.2.2.1 s5.2.2.2.2.1 s5.2.2.2.2.2.1
          have f45 := c141f (d := d + 5 * e' + 4) (x := nI 45) s5.2.2.2.1 s5.2.2.2.2.1 s5.2.2.2.2.2.1
          refine ⟨_, ⟨PFr_tr hP1 (PFr_tr q1 (em_PF (n := n) ν2 (nI (opc t.2.1)) (nI 0))), Or.inr ⟨f, n + 1, s5, by omega, by rw [hm]; exact s3⟩⟩, fun Q => ?_⟩
          rw [run Q _ ce, r167_5]
          simp (disch := first | assumption | omega) only [r167_0, r167_1, r167_2, r167_6, r167_8, r167_11, r167_14, r167_15, r167_17, r167_20, r167_23, r167_24, r167_26, r167_29, r167_30, r167_31, r167_31i, r167_32, r167_35, r167_36, r167_37, r167_40, r167_41, r167_42, r167_45, r167_46, j167_47, r167_50, r167_51, r167_54, r167_55, r167_56, r167_59, r167_62, rI_wI, rL_wL, rR_wR, rI_wL, rI_wR, rL_wI, rL_wR, rR_wI, rR_wL, va_rf_some, va_rf_none, Option.toList_some, Option.toList_none, List.nil_append, List.cons_append, true_and, and_true, false_and, and_false, and_self, if_true, if_false, not_true_eq_false, not_false_eq_true, or_false, false_or, or_true, true_or, or_self, ite_true, ite_false, Option.some.injEq, reduceCtorEq, Nat.reduceMod, Nat.reduceDiv, Nat.reduceLeDiff, Nat.reduceEqDiff, Nat.reduceAdd, Nat.reduceMul, Nat.reduceSub, Nat.reduceLT, sw_nil, sw_int, sw_long, sw_ref, li, lo, nI_m1, ng_eq, nn_eq, en_eq, ng_le, ng_lt, Int32.neg_neg, nI_add, pk_mul, nI_clampO, nI_ltO, nI_leO, nI_eqO, nI_subO, nle_t, nle_f, nlt_t, nlt_f, neq_f, f43, f45]
    · rw [if_neg (fun q => hop (Or.inl q))] at s43
      rw [if_neg (fun q => hop (Or.inr q))] at s45
      refine ⟨μ, ⟨PFr_rf _ _, Or.inl ⟨π, κ, T, hS, hwπ, hπr, hl, Nat.le_refl _, Or.inl (rk3 (fun q => hop (Or.inl q)) (fun q => hop (Or.inr q)) hh), rfl⟩⟩, fun Q => ?_⟩
      rw [r167_5]
      simp (disch := first | assumption | omega) only [r167_0, r167_1, r167_2, r167_6, r167_8, r167_11, r167_14, r167_15, r167_17, r167_20, r167_23, r167_24, r167_26, r167_29, r167_30, r167_31, r167_31i, r167_32, r167_35, r167_36, r167_37, r167_40, r167_41, r167_42, r167_45, r167_46, j167_47, r167_50, r167_51, r167_54, r167_55, r167_56, r167_59, r167_62, rI_wI, rL_wL, rR_wR, rI_wL, rI_wR, rL_wI, rL_wR, rR_wI, rR_wL, va_rf_some, va_rf_none, Option.toList_some, Option.toList_none, List.nil_append, List.cons_append, true_and, and_true, false_and, and_false, and_self, if_true, if_false, not_true_eq_false, not_false_eq_true, or_false, false_or, or_true, true_or, or_self, ite_true, ite_false, Option.some.injEq, reduceCtorEq, Nat.reduceMod, Nat.reduceDiv, Nat.reduceLeDiff, Nat.reduceEqDiff, Nat.reduceAdd, Nat.reduceMul, Nat.reduceSub, Nat.reduceLT, sw_nil, sw_int, sw_long, sw_ref, li, lo, nI_m1, ng_eq, nn_eq, en_eq, ng_le, ng_lt, Int32.neg_neg, nI_add, pk_mul, nI_clampO, nI_ltO, nI_leO, nI_eqO, nI_subO, nle_t, nle_f, nlt_t, nlt_f, neq_f, s43, s45]
theorem c167 (hP : PLr 168 4 d k c0 e') : PLr 167 3 d k c0 e' := by
  intro e μ T σ κ he hS hw hn hr h23 hb
  obtain ⟨ν1, ⟨q1, q2⟩, q3⟩ := hP e μ T σ κ he hS hw hn (by omega) h23 hb
  have q3' : ∀ Q, R (d + 5 * e' + 4) 168 0 [some (.ref 110000011), some (.int (nI e))] [] μ Q = Q none ν1 := q3
  rcases q2 with ⟨π, κ', T1, a1, a2, a3, a4, a5, a6, a7⟩ | ⟨f, n, s1, s2, s3⟩
  · have hh1 : rk (hdT T1).2.1 < 4 := by
      rcases a6 with q | ⟨-, q, -⟩
      · exact q
      · omega
    obtain ⟨ν, ⟨i1, i2⟩, i3⟩ := c167_l hP he hw hn hr h23 (L := κ.length + T.length) (by omega) T1.length T1 ν1 κ' π none (Nat.le_refl _) a1 a2 (fun x hx => by have := a3 x hx; omega) hh1 a4
    refine ⟨ν, ⟨PFr_tr q1 i1, ?_⟩, fun Q => ?_⟩
    · rw [a7]
      rcases i2 with ⟨π', κ'', T2, b1, b2, b3, b4, b5, b6, b7⟩ | b
      · exact Or.inl ⟨π', κ'', T2, b1, b2, b3, b4, by omega, b6, b7⟩
      · exact Or.inr b
    · show R (d + 5 * e' + 5) 167 0 [some (.ref 110000011), some (.int (nI e)), none] [] μ Q = _
      simp (disch := first | assumption | omega) only [r167_0, r167_1, r167_2, rI_wI, rL_wL, rR_wR, rI_wL, rI_wR, rL_wI, rL_wR, rR_wI, rR_wL, va_rf_some, va_rf_none, Option.toList_some, Option.toList_none, List.nil_append, List.cons_append, true_and, and_true, false_and, and_false, and_self, if_true, if_false, not_true_eq_false, not_false_eq_true, or_false, false_or, or_true, true_or, or_self, ite_true, ite_false, Option.some.injEq, reduceCtorEq, Nat.reduceMod, Nat.reduceDiv, Nat.reduceLeDiff, Nat.reduceEqDiff, Nat.reduceAdd, Nat.reduceMul, Nat.reduceSub, Nat.reduceLT, sw_nil, sw_int, sw_long, sw_ref, li, lo, nI_m1, ng_eq, nn_eq, en_eq, ng_le, ng_lt, Int32.neg_neg, nI_add, pk_mul, nI_clampO, nI_ltO, nI_leO, nI_eqO, nI_subO, nle_t, nle_f, nlt_t, nlt_f, neq_f, q3', i3]
  · have f43 := c141f (d := d + 5 * e' + 4) (x := nI 43) s1.2.2.2.1 s1.2.2.2.2.1 s1.2.2.2.2.2.1
    have f45 := c141f (d := d + 5 * e' + 4) (x := nI 45) s1.2.2.2.1 s1.2.2.2.2.1 s1.2.2.2.2.2.1
    refine ⟨ν1, ⟨q1, Or.inr ⟨f, n, s1, by omega, s3⟩⟩, fun Q => ?_⟩
    show R (d + 5 * e' + 5) 167 0 [some (.ref 110000011), some (.int (nI e)), none] [] μ Q = _
    simp (disch := first | assumption | omega) only [r167_0, r167_1, r167_2, r167_5, r167_6, r167_8, r167_11, r167_14, r167_15, r167_17, r167_20, r167_23, r167_24, r167_26, r167_29, r167_30, r167_31, r167_31i, r167_32, r167_35, r167_36, r167_37, r167_40, r167_41, r167_42, r167_45, r167_46, j167_47, r167_50, r167_51, r167_54, r167_55, r167_56, r167_59, r167_62, rI_wI, rL_wL, rR_wR, rI_wL, rI_wR, rL_wI, rL_wR, rR_wI, rR_wL, va_rf_some, va_rf_none, Option.toList_some, Option.toList_none, List.nil_append, List.cons_append, true_and, and_true, false_and, and_false, and_self, if_true, if_false, not_true_eq_false, not_false_eq_true, or_false, false_or, or_true, true_or, or_self, ite_true, ite_false, Option.some.injEq, reduceCtorEq, Nat.reduceMod, Nat.reduceDiv, Nat.reduceLeDiff, Nat.reduceEqDiff, Nat.reduceAdd, Nat.reduceMul, Nat.reduceSub, Nat.reduceLT, sw_nil, sw_int, sw_long, sw_ref, li, lo, nI_m1, ng_eq, nn_eq, en_eq, ng_le, ng_lt, Int32.neg_neg, nI_add, pk_mul, nI_clampO, nI_ltO, nI_leO, nI_eqO, nI_subO, nle_t, nle_f, nlt_t, nlt_f, neq_f, q3', f43, f45]
end T1
