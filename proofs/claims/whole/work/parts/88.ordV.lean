/-! ORDERS: THE PASSES READ, THE BEGINNING -/
theorem rI_wI2 {μ : PM} {a j k : Nat} {x : Int32} (h : k ≠ j) : rI (wI μ a j x) a k = rI μ a k := by rw [rI_wI, if_neg (fun q => h q.2.symm)]
def EL (A : Nat) (μ ν : PM) : Prop := (∀ a j, rI ν a j = rI μ a j) ∧ (∀ a j, a ≠ A → rL ν a j = rL μ a j) ∧ (∀ a j, rR ν a j = rR μ a j) ∧ aS ν = aS μ
/-- the class's memory, whatever it knows of orders -/
def CHo (μ : PM) (pa : Nat → Nat) (lw : LW) (s : Nat → Nat) (un : List (Nat → Nat)) (mk : Nat → Option (Nat → Nat)) (tp : List Nat) : Prop :=
  FX μ ∧ CPt μ pa lw ∧ CSt μ (pa 0) s ∧ CPs μ (pa 0) un ∧ CMk μ (pa 0) mk ∧ CLn μ (ln pa s) ∧ CTp μ tp
def KE (μ ν : PM) : Prop := (∀ a j, a ≠ 85000004 → rI ν a j = rI μ a j) ∧ (∀ a j, a ≠ 93000000 → rL ν a j = rL μ a j) ∧ (∀ a j, rR ν a j = rR μ a j) ∧ aS ν = aS μ
theorem KE_rf (μ : PM) : KE μ μ := ⟨fun _ _ _ => rfl, fun _ _ _ => rfl, fun _ _ => rfl, rfl⟩
theorem KE_tr {μ ν ρ : PM} (h : KE μ ν) (k : KE ν ρ) : KE μ ρ := ⟨fun a j q => (k.1 a j q).trans (h.1 a j q), fun a j q => (k.2.1 a j q).trans (h.2.1 a j q), fun a j => (k.2.2.1 a j).trans (h.2.2.1 a j), k.2.2.2.trans h.2.2.2⟩
theorem KE_wI (μ : PM) (j : Nat) (x : Int32) : KE μ (wI μ 85000004 j x) := ⟨fun a k q => by rw [rI_wI, if_neg (fun e => q e.1.symm)], fun _ _ _ => rfl, fun _ _ => rfl, rfl⟩
theorem KE_wL (μ : PM) (j : Nat) (x : Int64) : KE μ (wL μ 93000000 j x) := ⟨fun _ _ _ => rfl, fun a k q => by rw [rL_wL, if_neg (fun e => q e.1.symm)], fun _ _ => rfl, rfl⟩
theorem KE_HE {μ ν : PM} (h : KE μ ν) : HE μ ν := ⟨fun a j q => ⟨h.1 a j (by omega), h.2.1 a j (by omega), h.2.2.1 a j⟩, h.2.2.2⟩
theorem CSc_CHo {μ ν : PM} {pa : Nat → Nat} {lw : LW} {s : Nat → Nat} {un : List (Nat → Nat)} {mk : Nat → Option (Nat → Nat)} {tp : List Nat} (h : CSc μ ν) (hC : CHo μ pa lw s un mk tp) : CHo ν pa lw s un mk tp := by
  obtain ⟨h1, h2, h3, h4, h5, h6, h7⟩ := hC
  exact ⟨CSc_FX h h1, CSc_CPt h h2, CSc_CSg h (by omega) (by omega) h3, CSc_CPs h h4, CSc_CMk h h5, CSc_CLn h h6, CSc_CTp h h7⟩
theorem CH_CHo {μ : PM} {pa : Nat → Nat} {lw : LW} {s : Nat → Nat} {un : List (Nat → Nat)} {mk : Nat → Option (Nat → Nat)} {tp : List Nat} (hC : CH μ pa lw s un mk tp) : CHo μ pa lw s un mk tp := by
  obtain ⟨h1, h2, h3, h4, h5, h6, h7, -⟩ := hC
  exact ⟨h1, h2, h3, h4, h5, h6, h7⟩
theorem CHo_CH {μ : PM} {pa : Nat → Nat} {lw : LW} {s : Nat → Nat} {un : List (Nat → Nat)} {mk : Nat → Option (Nat → Nat)} {tp : List Nat} (hC : CHo μ pa lw s un mk tp) (h : CO μ pa lw s) : CH μ pa lw s un mk tp := by
  obtain ⟨h1, h2, h3, h4, h5, h6, h7⟩ := hC
  exact ⟨h1, h2, h3, h4, h5, h6, h7, h⟩
theorem KE_CHo {μ ν : PM} {pa : Nat → Nat} {lw : LW} {s : Nat → Nat} {un : List (Nat → Nat)} {mk : Nat → Option (Nat → Nat)} {tp : List Nat} (h : KE μ ν) (hC : CHo μ pa lw s un mk tp) : CHo ν pa lw s un mk tp := by
  have e1 : ν.2.2.1 = μ.2.2.1 := by
    funext a j
    exact h.2.2.1 a j
  have e2 : ν.2.2 = μ.2.2 := Prod.ext e1 h.2.2.2
  have hX : EX [85000004] μ (ν.1, μ.2.1, ν.2.2) := ⟨fun a j q => h.1 a j (by simpa using q), by show (μ.2.1, ν.2.2) = μ.2; rw [e2]⟩
  obtain ⟨h1, h2, h3, h4, h5, h6, h7⟩ := hC
  have k2 := EX_CPt hX (by intro a q; simp at q; omega) h2
  have k3 : CSg (ν.1, μ.2.1, ν.2.2) 39000008 40000720 (pa 0) s := EX_CSg hX (by decide) (by decide) h3
  have k4 := EX_CPs hX (by intro a q; simp at q; omega) h4
  have k5 := EX_CMk hX (EX_I hX (by decide)) (by intro a q; simp at q; omega) h5
  have k6 := EX_CLn hX (by decide) (by decide) h6
  have k7 := EX_CTp hX (by decide) (by decide) h7
  exact ⟨fun q hq => (h.2.2.1 _ _).trans (h1 q hq), k2, k3, k4, k5, k6, k7⟩
section T1
variable {d : Nat} {μ : PM} {pa : Nat → Nat} {lw : LW} {s : Nat → Nat} {un : List (Nat → Nat)} {mk : Nat → Option (Nat → Nat)} {tp : List Nat}
theorem c230_l {a n : Nat} {x : Int64} (h1 : a % 100 = 21) (h2 : a / 100 % 10000 = n) (h3 : 2000000 ≤ a) : ∀ (r k : Nat) (μ : PM), k + r = n → (∀ i, i < k → rL μ a i = x) → ∃ ν, EL a μ ν ∧ (∀ i, i < n → rL ν a i = x) ∧ ∀ Q, R d 230 6 [some (.ref a), some (.long x), none, some (.int (nI k)), some (.int (nI n))] [] μ Q = Q none ν := by
  have hn : n < 10000 := by omega
  intro r
  induction r with
  | zero =>
    intro k μ hk hg
    refine ⟨μ, ⟨fun _ _ => rfl, fun _ _ _ => rfl, fun _ _ => rfl, rfl⟩, fun i hi => hg i (by omega), fun Q => ?_⟩
    rw [r230_6]
    simp (disch := first | assumption | omega) only [r230_0, r230_1, r230_2, r230_3, r230_4, r230_7, r230_9, r230_12, r230_13, r230_14, r230_15, r230_16, r230_19, r230_22, rI_wI, rL_wL, rR_wR, rI_wL, rI_wR, rL_wI, rL_wR, rR_wI, rR_wL, va_rf_some, va_rf_none, Option.toList_some, Option.toList_none, List.nil_append, List.cons_append, true_and, and_true, false_and, and_false, and_self, if_true, if_false, not_true_eq_false, not_false_eq_true, or_false, false_or, or_true, true_or, or_self, ite_true, ite_false, Option.some.injEq, reduceCtorEq, Nat.reduceMod, Nat.reduceDiv, Nat.reduceLeDiff, Nat.reduceEqDiff, Nat.reduceAdd, Nat.reduceMul, Nat.reduceSub, Nat.reduceLT, sw_nil, sw_int, sw_long, sw_ref, li, lo, nI_m1, ng_eq, nn_eq, en_eq, ng_le, ng_lt, Int32.neg_neg, nI_add, pk_mul, nI_clampO, nI_ltO, nI_leO, nI_eqO, nI_subO, nle_t, nle_f, nlt_t, nlt_f, neq_f]
  | succ r ih =>
    intro k μ hk hg
    obtain ⟨ν, e1, e2, e3⟩ := ih (k + 1) (wL μ a k x) (by omega) (fun i hi => by
      rw [rL_wL]
      by_cases e : i = k
      · rw [if_pos ⟨rfl, e.symm⟩]
      · rw [if_neg (fun q => e q.2.symm)]; exact hg i (by omega))
    refine ⟨ν, ⟨fun b j => e1.1 b j, fun b j q => (e1.2.1 b j q).trans (by rw [rL_wL, if_neg (fun k => q k.1.symm)]), fun b j => e1.2.2.1 b j, e1.2.2.2⟩, e2, fun Q => ?_⟩
    rw [r230_6]
    simp (disch := first | assumption | omega) only [r230_0, r230_1, r230_2, r230_3, r230_4, r230_7, r230_9, r230_12, r230_13, r230_14, r230_15, r230_16, r230_19, r230_22, rI_wI, rL_wL, rR_wR, rI_wL, rI_wR, rL_wI, rL_wR, rR_wI, rR_wL, va_rf_some, va_rf_none, Option.toList_some, Option.toList_none, List.nil_append, List.cons_append, true_and, and_true, false_and, and_false, and_self, if_true, if_false, not_true_eq_false, not_false_eq_true, or_false, false_or, or_true, true_or, or_self, ite_true, ite_false, Option.some.injEq, reduceCtorEq, Nat.reduceMod, Nat.reduceDiv, Nat.reduceLeDiff, Nat.reduceEqDiff, Nat.reduceAdd, Nat.reduceMul, Nat.reduceSub, Nat.reduceLT, sw_nil, sw_int, sw_long, sw_ref, li, lo, nI_m1, ng_eq, nn_eq, en_eq, ng_le, ng_lt, Int32.neg_neg, nI_add, pk_mul, nI_clampO, nI_ltO, nI_leO, nI_eqO, nI_subO, nle_t, nle_f, nlt_t, nlt_f, neq_f, h1, h2, e3]
theorem c230 {a n : Nat} {x : Int64} (h1 : a % 100 = 21) (h2 : a / 100 % 10000 = n) (h3 : 2000000 ≤ a) : ∃ ν, EL a μ ν ∧ (∀ i, i < n → rL ν a i = x) ∧ ∀ Q, R d 230 0 [some (.ref a), some (.long x), none, none, none] [] μ Q = Q none ν := by
  obtain ⟨ν, e1, e2, e3⟩ := c230_l (d := d) (x := x) h1 h2 h3 n 0 μ (by omega) (fun i hi => by omega)
  refine ⟨ν, e1, e2, fun Q => ?_⟩
  simp (disch := first | assumption | omega) only [r230_0, r230_1, r230_2, r230_3, r230_4, rI_wI, rL_wL, rR_wR, rI_wL, rI_wR, rL_wI, rL_wR, rR_wI, rR_wL, va_rf_some, va_rf_none, Option.toList_some, Option.toList_none, List.nil_append, List.cons_append, true_and, and_true, false_and, and_false, and_self, if_true, if_false, not_true_eq_false, not_false_eq_true, or_false, false_or, or_true, true_or, or_self, ite_true, ite_false, Option.some.injEq, reduceCtorEq, Nat.reduceMod, Nat.reduceDiv, Nat.reduceLeDiff, Nat.reduceEqDiff, Nat.reduceAdd, Nat.reduceMul, Nat.reduceSub, Nat.reduceLT, sw_nil, sw_int, sw_long, sw_ref, li, lo, nI_m1, ng_eq, nn_eq, en_eq, ng_le, ng_lt, Int32.neg_neg, nI_add, pk_mul, nI_clampO, nI_ltO, nI_leO, nI_eqO, nI_subO, nle_t, nle_f, nlt_t, nlt_f, neq_f, h1, h2, e3]
/-- the passes that are read so far -/
def CCi (μ : PM) (pa : Nat → Nat) (lw : LW) (fz pc : Nat) (l : List Nat) (N : Nat) : Prop := ∀ i k, i < l.length → k < l.length → i ≠ k → i * 7 + k < N → rI μ 90004920 (l.getD i 0 * 7 + l.getD k 0) = nI (chN pa lw fz (l.getD i 0) (l.getD k 0) pc) ∧ rI μ 91004920 (l.getD i 0 * 7 + l.getD k 0) = nI (coN pa lw fz (l.getD i 0) (l.getD k 0) pc)
theorem c41_k (hK : OKA pa s un mk tp) {P i : Nat} (hi : i < (ln pa s).length) : ∀ (r k : Nat) (μ : PM) (v7 v8 v9 : Option Value), k + r = (ln pa s).length → CHo μ pa lw s un mk tp → rR μ 2000010 2 = some P → CCi μ pa lw (s 8) (s 9) (ln pa s) (i * 7 + k) →
    ∃ ν w7 w8 w9, CN [90004920, 91004920] μ ν ∧ CCi ν pa lw (s 8) (s 9) (ln pa s) (i * 7 + (ln pa s).length) ∧ ∀ Q, R (d + 4) 41 13 [some (.ref 85000004), some (.ref P), some (.ref 39000008), some (.ref 84000720), some (.int (nI (ln pa s).length)), some (.int (nI i)), some (.int (nI k)), v7, v8, v9] [] μ Q = R (d + 4) 41 115 [some (.ref 85000004), some (.ref P), some (.ref 39000008), some (.ref 84000720), some (.int (nI (ln pa s).length)), some (.int (nI i)), some (.int (nI (ln pa s).length)), w7, w8, w9] [] ν Q := by
  have hl := ln7 (s := s) hK.1
  have hp0 := hK.1.1.1
  intro r
  induction r with
  | zero =>
    intro k μ v7 v8 v9 hk hC hr hh
    have : k = (ln pa s).length := by omega
    subst this
    refine ⟨μ, v7, v8, v9, CN_rf _ _, hh, fun Q => ?_⟩
    rw [r41_13]
    simp (disch := first | assumption | omega) only [r41_15, r41_17, rI_wI, rL_wL, rR_wR, rI_wL, rI_wR, rL_wI, rL_wR, rR_wI, rR_wL, va_rf_some, va_rf_none, Option.toList_some, Option.toList_none, List.nil_append, List.cons_append, true_and, and_true, false_and, and_false, and_self, if_true, if_false, not_true_eq_false, not_false_eq_true, or_false, false_or, or_true, true_or, or_self, ite_true, ite_false, Option.some.injEq, reduceCtorEq, Nat.reduceMod, Nat.reduceDiv, Nat.reduceLeDiff, Nat.reduceEqDiff, Nat.reduceAdd, Nat.reduceMul, Nat.reduceSub, Nat.reduceLT, sw_nil, sw_int, sw_long, sw_ref, li, lo, nI_m1, ng_eq, nn_eq, en_eq, ng_le, ng_lt, Int32.neg_neg, nI_add, pk_mul, nI_clampO, nI_ltO, nI_leO, nI_eqO, nI_subO, nle_t, nle_f, nlt_t, nlt_f, neq_f, Nat.le_refl]
  | succ r ih =>
    intro k μ v7 v8 v9 hk hC hr hh
    have hF := hC.1
    have hL := hC.2.2.2.2.2.1
    by_cases e : i = k
    · subst e
      obtain ⟨ν, w7, w8, w9, k1, k2, k3⟩ := ih (i + 1) μ v7 v8 v9 (by omega) hC hr (fun i' k' h1 h2 h3 h4 => hh i' k' h1 h2 h3 (by omega))
      refine ⟨ν, w7, w8, w9, k1, k2, fun Q => ?_⟩
      rw [r41_13]
      simp (disch := first | assumption | omega) only [r41_0, r41_1, r41_3, r41_5, r41_7, r41_10, r41_11, r41_15, r41_17, r41_20, r41_22, r41_24, r41_27, r41_28, r41_30, r41_31, r41_33, r41_34, r41_35, r41_37, r41_38, r41_39, r41_41, r41_42, r41_43, r41_45, r41_46, r41_47, r41_49, r41_50, r41_51, r41_54, r41_55, r41_58, r41_61, r41_63, r41_64, r41_65, r41_67, r41_68, r41_69, r41_71, r41_72, r41_73, r41_76, r41_77, r41_80, r41_83, r41_85, r41_86, r41_89, r41_91, r41_93, r41_94, r41_95, r41_98, r41_100, r41_101, r41_103, r41_105, r41_108, r41_109, r41_112, r41_118, r41_121, rI_wI, rL_wL, rR_wR, rI_wL, rI_wR, rL_wI, rL_wR, rR_wI, rR_wL, va_rf_some, va_rf_none, Option.toList_some, Option.toList_none, List.nil_append, List.cons_append, true_and, and_true, false_and, and_false, and_self, if_true, if_false, not_true_eq_false, not_false_eq_true, or_false, false_or, or_true, true_or, or_self, ite_true, ite_false, Option.some.injEq, reduceCtorEq, Nat.reduceMod, Nat.reduceDiv, Nat.reduceLeDiff, Nat.reduceEqDiff, Nat.reduceAdd, Nat.reduceMul, Nat.reduceSub, Nat.reduceLT, sw_nil, sw_int, sw_long, sw_ref, li, lo, nI_m1, ng_eq, nn_eq, en_eq, ng_le, ng_lt, Int32.neg_neg, nI_add, pk_mul, nI_clampO, nI_ltO, nI_leO, nI_eqO, nI_subO, nle_t, nle_f, nlt_t, nlt_f, neq_f, k3]
    · have q0 := ln_at hK hi
      have q1 := ln_at hK (show k < (ln pa s).length by omega)
      have x0 := hL.2 i hi
      have x1 := hL.2 k (by omega)
      obtain ⟨P1, ν1, h51, hr1, g1, g2⟩ := cCh (d := d) (pc := s 9) hF hC.2.1 hK.1 q0 q1 hK.2.1.2.2.2.2.1
      have e1 : P1 = P := by rw [hr1] at hr; exact Option.some.inj hr
      subst e1
      have hC1 := CSc_CHo (CSc_SC g1) hC
      obtain ⟨P2, ν2, h52, hr2, m1, m2⟩ := cSe (d := d) (pc := s 9) hC1.1 hC1.2.1 hK.1 q0 q1 hK.2.1.2.2.2.2.1
      have e2 : P2 = P1 := by rw [(g1.2.2.1 _ _).trans hr] at hr2; exact (Option.some.inj hr2).symm
      subst e2
      have hC2 := CSc_CHo (CSc_SC m1) hC1
      obtain ⟨P3, h53, hP9, hr3, -, -, -, -, -, hpk⟩ := CPt_x hC2.2.1
      have e3 : P3 = P2 := by rw [(m1.2.2.1 _ _).trans ((g1.2.2.1 _ _).trans hr)] at hr3; exact (Option.some.inj hr3).symm
      subst e3
      have y0 := hC1.2.2.2.2.2.1.2 i hi
      have y1 := hC1.2.2.2.2.2.1.2 k (by omega)
      have hF1 := hC1.1
      have hF2 := hC2.1
      have hc := chN_le pa lw (s 8) ((ln pa s).getD i 0) ((ln pa s).getD k 0) (s 9)
      let ν3 := wI (wI ν2 90004920 ((ln pa s).getD i 0 * 7 + (ln pa s).getD k 0) (nI (chN pa lw (s 8) ((ln pa s).getD i 0) ((ln pa s).getD k 0) (s 9)))) 91004920 ((ln pa s).getD i 0 * 7 + (ln pa s).getD k 0) (nI (coN pa lw (s 8) ((ln pa s).getD i 0) ((ln pa s).getD k 0) (s 9)))
      have hX : CN [90004920, 91004920] μ ν3 := CN_tr (CN_SC g1) (CN_tr (CN_SC m1) (CN_EX (EX_tr (EX_wI _ _ _ _) (EX_wI _ _ _ _)) (by simp)))
      have hpk2 : rI (wI ν2 90004920 ((ln pa s).getD i 0 * 7 + (ln pa s).getD k 0) (nI (chN pa lw (s 8) ((ln pa s).getD i 0) ((ln pa s).getD k 0) (s 9)))) P3 15 = nI (pa 2) := (EX_I (EX_wI _ _ _ _) (by intro q; simp at q; omega)).trans hpk
      have k57 := fun Q => c57 (d := d + 3) (Q := Q) (μ := wI ν2 90004920 ((ln pa s).getD i 0 * 7 + (ln pa s).getD k 0) (nI (chN pa lw (s 8) ((ln pa s).getD i 0) ((ln pa s).getD k 0) (s 9)))) (c := chN pa lw (s 8) ((ln pa s).getD i 0) ((ln pa s).getD k 0) (s 9)) (t := scN pa lw (s 8) ((ln pa s).getD i 0) ((ln pa s).getD k 0) (s 9)) h53 hpk2 hc
      have e57 : 10 * scN pa lw (s 8) ((ln pa s).getD i 0) ((ln pa s).getD k 0) (s 9) + (10 - chN pa lw (s 8) ((ln pa s).getD i 0) ((ln pa s).getD k 0) (s 9)) * pa 2 = coN pa lw (s 8) ((ln pa s).getD i 0) ((ln pa s).getD k 0) (s 9) := rfl
      rw [e57] at k57
      have nd := ln_L7 hK
      have hne : ∀ i' k', i' < (ln pa s).length → k' < (ln pa s).length → ¬ (i' = i ∧ k' = k) → (ln pa s).getD i' 0 * 7 + (ln pa s).getD k' 0 ≠ (ln pa s).getD i 0 * 7 + (ln pa s).getD k 0 := fun i' k' h1 h2 h3 h4 => by
        have b1 := nd.2 i' h1
        have b2 := nd.2 k' h2
        have b3 := nd.2 i hi
        have b4 := nd.2 k (by omega)
        exact h3 ⟨nd_inj nd h1 hi (by omega), nd_inj nd h2 (by omega) (by omega)⟩
      obtain ⟨ν, w7, w8, w9, k1, k2, k3⟩ := ih (k + 1) ν3 (some (.int (nI ((ln pa s).getD i 0 * 7 + (ln pa s).getD k 0)))) (some (.int (nI (chN pa lw (s 8) ((ln pa s).getD i 0) ((ln pa s).getD k 0) (s 9))))) (some (.int (nI (scN pa lw (s 8) ((ln pa s).getD i 0) ((ln pa s).getD k 0) (s 9))))) (by omega) (CSc_CHo hX.1 hC) ((hX.1.2.2.1 _ _).trans hr) (fun i' k' h1 h2 h3 h4 => by
        by_cases q : i' = i ∧ k' = k
        · obtain ⟨rfl, rfl⟩ := q
          exact ⟨by show rI ν3 _ _ = _; rw [rI_wI, if_neg (by omega), rI_wI, if_pos ⟨rfl, rfl⟩], by show rI ν3 _ _ = _; rw [rI_wI, if_pos ⟨rfl, rfl⟩]⟩
        · have z := hne i' k' h1 h2 q
          obtain ⟨o1, o2⟩ := hh i' k' h1 h2 h3 (by omega)
          have t1 : ∀ a j, a = 90004920 ∨ a = 91004920 → rI ν2 a j = rI μ a j := fun a j ha => (m1.1 a j (by omega) (by omega) (by omega)).trans (g1.1 a j (by omega) (by omega) (by omega))
          exact ⟨by show rI ν3 _ _ = _; rw [rI_wI, if_neg (by omega), rI_wI2 z, t1 _ _ (Or.inl rfl)]; exact o1, by show rI ν3 _ _ = _; rw [rI_wI2 z, rI_wI, if_neg (by omega), t1 _ _ (Or.inr rfl)]; exact o2⟩)
      refine ⟨ν, w7, w8, w9, CN_tr hX k1, k2, fun Q => ?_⟩
      have k3 := k3 Q
      rw [← k3, r41_13]
      simp (disch := first | assumption | omega) only [r41_0, r41_1, r41_3, r41_5, r41_7, r41_10, r41_11, r41_15, r41_17, r41_20, r41_22, r41_24, r41_27, r41_28, r41_30, r41_31, r41_33, r41_34, r41_35, r41_37, r41_38, r41_39, r41_41, r41_42, r41_43, r41_45, r41_46, r41_47, r41_49, r41_50, r41_51, r41_54, r41_55, r41_58, r41_61, r41_63, r41_64, r41_65, r41_67, r41_68, r41_69, r41_71, r41_72, r41_73, r41_76, r41_77, r41_80, r41_83, r41_85, r41_86, r41_89, r41_91, r41_93, r41_94, r41_95, r41_98, r41_100, r41_101, r41_103, r41_105, r41_108, r41_109, r41_112, r41_118, r41_121, rI_wI, rL_wL, rR_wR, rI_wL, rI_wR, rL_wI, rL_wR, rR_wI, rR_wL, va_rf_some, va_rf_none, Option.toList_some, Option.toList_none, List.nil_append, List.cons_append, true_and, and_true, false_and, and_false, and_self, if_true, if_false, not_true_eq_false, not_false_eq_true, or_false, false_or, or_true, true_or, or_self, ite_true, ite_false, Option.some.injEq, reduceCtorEq, Nat.reduceMod, Nat.reduceDiv, Nat.reduceLeDiff, Nat.reduceEqDiff, Nat.reduceAdd, Nat.reduceMul, Nat.reduceSub, Nat.reduceLT, sw_nil, sw_int, sw_long, sw_ref, li, lo, nI_m1, ng_eq, nn_eq, en_eq, ng_le, ng_lt, Int32.neg_neg, nI_add, pk_mul, nI_clampO, nI_ltO, nI_leO, nI_eqO, nI_subO, nle_t, nle_f, nlt_t, nlt_f, neq_f, fx_2000010_0, fx_2000010_1, fx_2000010_4, fx_2000010_5, fx_2000010_6, fx_2000010_8, fx_2000010_10, fx_2000010_11, fx_2000010_12, fx_2000010_13, fx_2000010_14, fx_2000010_15, fx_2000010_16, fx_2000010_17, fx_2000010_18, fx_3000009_0, fx_5000007_0, fx_5000007_1, fx_5000007_2, fx_5000007_3, fx_7000001_0, fx_11000005_1, fx_11000005_2, fx_11000005_3, fx_11000005_4, fx_11000005_5, fx_11000005_6, fx_11000005_10, fx_11000005_11, fx_11000005_12, fx_20000002_0, fx_20000002_2, fx_20000002_3, fx_20000002_4, fx_25000005_1, fx_25000005_2, fx_25000005_3, fx_25000005_4, fx_25000005_5, fx_25000005_6, fx_25000005_10, fx_25000005_11, fx_25000005_12, fx_34000002_0, fx_34000002_2, fx_34000002_3, fx_34000002_4, fx_39000008_0, fx_41000006_0, fx_42002024_0, fx_42002024_1, fx_42002024_2, fx_42002024_3, fx_42002024_4, fx_42002024_5, fx_42002024_6, fx_42002024_7, fx_42002024_8, fx_42002024_9, fx_42002024_10, fx_42002024_11, fx_42002024_12, fx_42002024_13, fx_42002024_14, fx_42002024_15, fx_42002024_16, fx_42002024_17, fx_42002024_18, fx_42002024_19, fx_43000008_0, fx_45000008_0, fx_47000008_0, fx_49000008_0, fx_51000008_0, fx_53000008_0, fx_55000008_0, fx_57000008_0, fx_59000008_0, fx_61000008_0, fx_63000008_0, fx_65000008_0, fx_67000008_0, fx_69000008_0, fx_71000008_0, fx_73000008_0, fx_75000008_0, fx_77000008_0, fx_79000008_0, fx_81000008_0, fx_83000424_0, fx_83000424_1, fx_83000424_2, fx_83000424_3, fx_85000004_0, fx_85000004_1, fx_85000004_2, fx_85000004_3, fx_85000004_4, fx_85000004_5, fx_85000004_6, fx_85000004_10, fx_102000008_0, fx_104000008_0, fx_106000008_0, fx_108000008_0, fx_110000011_1, fx_110000011_4, fx_110000011_5, fx_110000011_6, fx_110000011_9, fx_110000011_10, fx_110000011_11, fx_110000011_12, fx_110000011_14, fx_110000011_15, fx_110000011_20, fx_110000011_21, fx_110000011_22, fx_110000011_23, fx_110000011_25, fx_110000011_26, fx_110000011_31, fx_110000011_32, fx_110000011_37, fx_110000011_38, fx_110000011_39, fx_110000011_40, x0, x1, y0, y1, hC.2.2.1.2.2.1, hC.2.2.1.2.2.2, hC1.2.2.1.2.2.1, hC1.2.2.1.2.2.2, h53, g2, m2, k57]
      rfl
theorem c41 (hK : OKA pa s un mk tp) {P : Nat} : ∀ (r i : Nat) (μ : PM) (v6 v7 v8 v9 : Option Value), i + r = (ln pa s).length → CHo μ pa lw s un mk tp → rR μ 2000010 2 = some P → CCi μ pa lw (s 8) (s 9) (ln pa s) (i * 7) →
    ∃ ν, CN [90004920, 91004920] μ ν ∧ CCi ν pa lw (s 8) (s 9) (ln pa s) ((ln pa s).length * 7) ∧ ∀ Q, R (d + 4) 41 3 [some (.ref 85000004), some (.ref P), some (.ref 39000008), some (.ref 84000720), some (.int (nI (ln pa s).length)), some (.int (nI i)), v6, v7, v8, v9] [] μ Q = Q none ν := by
  have hl := ln7 (s := s) hK.1
  intro r
  induction r with
  | zero =>
    intro i μ v6 v7 v8 v9 hi hC hr hh
    have : i = (ln pa s).length := by omega
    subst this
    refine ⟨μ, CN_rf _ _, hh, fun Q => ?_⟩
    rw [r41_3]
    simp (disch := first | assumption | omega) only [r41_5, r41_7, r41_121, rI_wI, rL_wL, rR_wR, rI_wL, rI_wR, rL_wI, rL_wR, rR_wI, rR_wL, va_rf_some, va_rf_none, Option.toList_some, Option.toList_none, List.nil_append, List.cons_append, true_and, and_true, false_and, and_false, and_self, if_true, if_false, not_true_eq_false, not_false_eq_true, or_false, false_or, or_true, true_or, or_self, ite_true, ite_false, Option.some.injEq, reduceCtorEq, Nat.reduceMod, Nat.reduceDiv, Nat.reduceLeDiff, Nat.reduceEqDiff, Nat.reduceAdd, Nat.reduceMul, Nat.reduceSub, Nat.reduceLT, sw_nil, sw_int, sw_long, sw_ref, li, lo, nI_m1, ng_eq, nn_eq, en_eq, ng_le, ng_lt, Int32.neg_neg, nI_add, pk_mul, nI_clampO, nI_ltO, nI_leO, nI_eqO, nI_subO, nle_t, nle_f, nlt_t, nlt_f, neq_f, Nat.le_refl]
  | succ r ih =>
    intro i μ v6 v7 v8 v9 hi hC hr hh
    obtain ⟨ν1, w7, w8, w9, n1, n2, n3⟩ := c41_k (d := d) (lw := lw) hK (P := P) (i := i) (by omega) (ln pa s).length 0 μ v7 v8 v9 (by omega) hC hr hh
    obtain ⟨ν, k1, k2, k3⟩ := ih (i + 1) ν1 (some (.int (nI (ln pa s).length))) w7 w8 w9 (by omega) (CSc_CHo n1.1 hC) ((n1.1.2.2.1 _ _).trans hr) (fun i' k' h1 h2 h3 h4 => n2 i' k' h1 h2 h3 (by omega))
    refine ⟨ν, CN_tr n1 k1, k2, fun Q => ?_⟩
    rw [r41_3]
    simp (disch := first | assumption | omega) only [r41_5, r41_7, r41_10, r41_11, r41_115, r41_118, rI_wI, rL_wL, rR_wR, rI_wL, rI_wR, rL_wI, rL_wR, rR_wI, rR_wL, va_rf_some, va_rf_none, Option.toList_some, Option.toList_none, List.nil_append, List.cons_append, true_and, and_true, false_and, and_false, and_self, if_true, if_false, not_true_eq_false, not_false_eq_true, or_false, false_or, or_true, true_or, or_self, ite_true, ite_false, Option.some.injEq, reduceCtorEq, Nat.reduceMod, Nat.reduceDiv, Nat.reduceLeDiff, Nat.reduceEqDiff, Nat.reduceAdd, Nat.reduceMul, Nat.reduceSub, Nat.reduceLT, sw_nil, sw_int, sw_long, sw_ref, li, lo, nI_m1, ng_eq, nn_eq, en_eq, ng_le, ng_lt, Int32.neg_neg, nI_add, pk_mul, nI_clampO, nI_ltO, nI_leO, nI_eqO, nI_subO, nle_t, nle_f, nlt_t, nlt_f, neq_f, n3, k3]
theorem CCi_CC (hK : OKA pa s un mk tp) {μ : PM} (h : CCi μ pa lw (s 8) (s 9) (ln pa s) ((ln pa s).length * 7)) : CCh μ pa lw (s 7) (s 8) (s 9) := by
  have hl := ln7 (s := s) hK.1
  intro q p h1 h2 h3 h4 h5
  obtain ⟨i, hi, e1⟩ := List.mem_iff_getElem.mp ((ln_mem hK.1 hK.2.1 q).mpr ⟨h1, h3⟩)
  obtain ⟨k, hk, e2⟩ := List.mem_iff_getElem.mp ((ln_mem hK.1 hK.2.1 p).mpr ⟨h2, h4⟩)
  have f1 : (ln pa s).getD i 0 = q := by rw [List.getD_eq_getElem?_getD, List.getElem?_eq_getElem hi, ← e1]; rfl
  have f2 : (ln pa s).getD k 0 = p := by rw [List.getD_eq_getElem?_getD, List.getElem?_eq_getElem hk, ← e2]; rfl
  have := h i k hi hk (fun e => h5 (by rw [← f1, ← f2, e])) (by omega)
  rw [f1, f2] at this
  exact this
end T1
