/-! HOW MANY FRUITS: THE SUM OF THE ROWS STAYS -/
def S7 (f : Nat → Nat) : Nat := f 0 + f 1 + f 2 + f 3 + f 4 + f 5 + f 6
def upN (f : Nat → Nat) (j v : Nat) : Nat → Nat := fun i => if i = j then f i + v else f i
def tlN (th : Nat → Nat) (k : Nat) : Nat → Nat := fun i => if k ≤ i then th i else 0
theorem S7_up (f : Nat → Nat) (v : Nat) {j : Nat} (hj : j < 7) : S7 (upN f j v) = S7 f + v := by
  match j, hj with
  | 0, _ => simp [S7, upN]; omega
  | 1, _ => simp [S7, upN]; omega
  | 2, _ => simp [S7, upN]; omega
  | 3, _ => simp [S7, upN]; omega
  | 4, _ => simp [S7, upN]; omega
  | 5, _ => simp [S7, upN]; omega
  | 6, _ => simp [S7, upN]; omega
theorem S7_tl (th : Nat → Nat) {k : Nat} (hk : k < 7) : S7 (tlN th k) = th k + S7 (tlN th (k + 1)) := by
  match k, hk with
  | 0, _ => simp [S7, tlN]; omega
  | 1, _ => simp [S7, tlN]; omega
  | 2, _ => simp [S7, tlN]; omega
  | 3, _ => simp [S7, tlN]; omega
  | 4, _ => simp [S7, tlN]; omega
  | 5, _ => simp [S7, tlN]
  | 6, _ => simp [S7, tlN]
theorem S7_t0 (th : Nat → Nat) : S7 (tlN th 0) = S7 th := by simp [S7, tlN]
def tkS (f th : Nat → Nat) (fr : Nat) : Nat → Nat → Nat → (Nat → Nat) → Nat × (Nat → Nat)
  | 0, _, ar, nx => (ar, nx)
  | r + 1, k, ar, nx => tkS f th fr r (k + 1) ((th k + ar) * f k / 10) (upN nx (if fr = 1 then 0 else k) (th k + ar - (th k + ar) * f k / 10))
theorem tk_le {x c : Nat} (h : c ≤ 10) : x * c / 10 ≤ x := by
  have : x * c ≤ x * 10 := Nat.mul_le_mul_left x h
  omega
theorem tkS_st {f th : Nat → Nat} (hf : ∀ k, f k ≤ 10) {fr N k ar : Nat} {nx : Nat → Nat} (hk : k < 7) (h : S7 (tlN th k) + ar + S7 nx ≤ N) : th k + ar ≤ N ∧ S7 (tlN th (k + 1)) + (th k + ar) * f k / 10 + S7 (upN nx (if fr = 1 then 0 else k) (th k + ar - (th k + ar) * f k / 10)) ≤ N := by
  have h1 := S7_tl th hk
  have h2 := S7_up nx (th k + ar - (th k + ar) * f k / 10) (j := if fr = 1 then 0 else k) (by split <;> omega)
  have h3 := tk_le (x := th k + ar) (hf k)
  rw [h2]
  omega
theorem tkS_b {f th : Nat → Nat} (hf : ∀ k, f k ≤ 10) {fr N : Nat} : ∀ (r k ar : Nat) (nx : Nat → Nat), k + r ≤ 7 → S7 (tlN th k) + ar + S7 nx ≤ N → (tkS f th fr r k ar nx).1 + S7 (tkS f th fr r k ar nx).2 ≤ N := by
  intro r
  induction r with
  | zero => intro k ar nx _ h; rw [tkS]; show ar + S7 nx ≤ N; omega
  | succ r ih =>
    intro k ar nx hk h
    rw [tkS]
    exact ih _ _ _ (by omega) (tkS_st hf (by omega) h).2
def z7 : Nat → Nat := fun _ => 0
theorem S7_z : S7 z7 = 0 := rfl
def bgS (f : Nat → Nat) (fr n : Nat) : Nat → (Nat → Nat) → Nat → Nat
  | 0, _, thr => thr
  | r + 1, th, thr => bgS f fr n r (tkS f th fr n 0 0 z7).2 (thr + (tkS f th fr n 0 0 z7).1)
theorem bg_nx {f th : Nat → Nat} (hf : ∀ k, f k ≤ 10) {fr n N : Nat} (hn : n ≤ 7) (h : S7 th ≤ N) : S7 (tkS f th fr n 0 0 z7).2 ≤ N := by
  have := tkS_b (th := th) (fr := fr) hf (N := N) n 0 0 z7 (by omega) (by rw [S7_t0, S7_z]; omega)
  omega
/-- what of the class's working rows may change -/
def CN (l : List Nat) (μ ν : PM) : Prop := CSc μ ν ∧ ∀ a j, 86000000 ≤ a → a < 102000000 → a ∉ l → rI ν a j = rI μ a j
theorem CN_rf (l : List Nat) (μ : PM) : CN l μ μ := ⟨CSc_rf μ, fun _ _ _ _ _ => rfl⟩
theorem CN_tr {l : List Nat} {μ ν ρ : PM} (h : CN l μ ν) (k : CN l ν ρ) : CN l μ ρ := ⟨CSc_tr h.1 k.1, fun a j q1 q2 q3 => (k.2 a j q1 q2 q3).trans (h.2 a j q1 q2 q3)⟩
theorem CN_SC {l : List Nat} {μ ν : PM} (h : SC μ ν) : CN l μ ν := ⟨CSc_SC h, fun a j q1 q2 _ => h.1 a j (by omega) (by omega) (by omega)⟩
theorem CN_EX {l l' : List Nat} {μ ν : PM} (h : EX l' μ ν) (hl : ∀ a, a ∈ l' → a ∈ l ∧ 86000000 ≤ a ∧ a < 102000000) : CN l μ ν := ⟨⟨fun a j q => h.1 a j (fun e => q (Or.inr (Or.inr (Or.inr (hl a e).2)))), fun a j _ => EX_L h, fun a j => EX_R h, EX_S h⟩, fun a j _ _ q => h.1 a j (fun e => q (hl a e).1)⟩
section T1
variable {d : Nat} {μ : PM} {pa : Nat → Nat} {lw : LW} {s : Nat → Nat} {un : List (Nat → Nat)} {mk : Nat → Option (Nat → Nat)} {tp : List Nat}
theorem c231_l {a n : Nat} {x : Int32} (h1 : a % 100 = 20) (h2 : a / 100 % 10000 = n) (h3 : 2000000 ≤ a) : ∀ (r k : Nat) (g : Nat → Int32), k + r = n → (∀ i, i < k → g i = x) → ∃ g' : Nat → Int32, (∀ i, i < n → g' i = x) ∧ ∀ Q, R d 231 5 [some (.ref a), some (.int x), some (.int (nI k)), some (.int (nI n))] [] (wA μ a g) Q = Q none (wA μ a g') := by
  have hn : n < 10000 := by omega
  intro r
  induction r with
  | zero =>
    intro k g hk hg
    refine ⟨g, fun i hi => hg i (by omega), fun Q => ?_⟩
    rw [r231_5]
    simp (disch := first | assumption | omega) only [r231_0, r231_1, r231_2, r231_3, r231_4, r231_6, r231_7, r231_10, r231_11, r231_12, r231_13, r231_14, r231_17, r231_20, rI_wI, rL_wL, rR_wR, rI_wL, rI_wR, rL_wI, rL_wR, rR_wI, rR_wL, va_rf_some, va_rf_none, Option.toList_some, Option.toList_none, List.nil_append, List.cons_append, true_and, and_true, false_and, and_false, and_self, if_true, if_false, not_true_eq_false, not_false_eq_true, or_false, false_or, or_true, true_or, or_self, ite_true, ite_false, Option.some.injEq, reduceCtorEq, Nat.reduceMod, Nat.reduceDiv, Nat.reduceLeDiff, Nat.reduceEqDiff, Nat.reduceAdd, Nat.reduceMul, Nat.reduceSub, Nat.reduceLT, sw_nil, sw_int, sw_long, sw_ref, li, lo, nI_m1, ng_eq, nn_eq, en_eq, ng_le, ng_lt, Int32.neg_neg, nI_add, pk_mul, nI_clampO, nI_ltO, nI_leO, nI_eqO, nI_subO, nle_t, nle_f, nlt_t, nlt_f, neq_f]
  | succ r ih =>
    intro k g hk hg
    obtain ⟨g', e1, e2⟩ := ih (k + 1) (upd g k x) (by omega) (fun i hi => by
      rw [upd_at]
      by_cases e : i = k
      · rw [if_pos e]
      · rw [if_neg e]; exact hg i (by omega))
    refine ⟨g', e1, fun Q => ?_⟩
    rw [r231_5]
    simp (disch := first | assumption | omega) only [r231_0, r231_1, r231_2, r231_3, r231_4, r231_6, r231_7, r231_10, r231_11, r231_12, r231_13, r231_14, r231_17, r231_20, rI_wI, rL_wL, rR_wR, rI_wL, rI_wR, rL_wI, rL_wR, rR_wI, rR_wL, va_rf_some, va_rf_none, Option.toList_some, Option.toList_none, List.nil_append, List.cons_append, true_and, and_true, false_and, and_false, and_self, if_true, if_false, not_true_eq_false, not_false_eq_true, or_false, false_or, or_true, true_or, or_self, ite_true, ite_false, Option.some.injEq, reduceCtorEq, Nat.reduceMod, Nat.reduceDiv, Nat.reduceLeDiff, Nat.reduceEqDiff, Nat.reduceAdd, Nat.reduceMul, Nat.reduceSub, Nat.reduceLT, sw_nil, sw_int, sw_long, sw_ref, li, lo, nI_m1, ng_eq, nn_eq, en_eq, ng_le, ng_lt, Int32.neg_neg, nI_add, pk_mul, nI_clampO, nI_ltO, nI_leO, nI_eqO, nI_subO, nle_t, nle_f, nlt_t, nlt_f, neq_f, h1, h2, wI_wA, e2]
theorem c231 {a n : Nat} {x : Int32} (h1 : a % 100 = 20) (h2 : a / 100 % 10000 = n) (h3 : 2000000 ≤ a) : ∃ g : Nat → Int32, (∀ i, i < n → g i = x) ∧ ∀ Q, R d 231 0 [some (.ref a), some (.int x), none, none] [] μ Q = Q none (wA μ a g) := by
  obtain ⟨g, e1, e2⟩ := c231_l (d := d) (μ := μ) (x := x) h1 h2 h3 n 0 (fun j => rI μ a j) (by omega) (fun i hi => by omega)
  refine ⟨g, e1, fun Q => ?_⟩
  have := e2 Q
  rw [wA_eta] at this
  simp (disch := first | assumption | omega) only [r231_0, r231_1, r231_2, r231_3, r231_4, rI_wI, rL_wL, rR_wR, rI_wL, rI_wR, rL_wI, rL_wR, rR_wI, rR_wL, va_rf_some, va_rf_none, Option.toList_some, Option.toList_none, List.nil_append, List.cons_append, true_and, and_true, false_and, and_false, and_self, if_true, if_false, not_true_eq_false, not_false_eq_true, or_false, false_or, or_true, true_or, or_self, ite_true, ite_false, Option.some.injEq, reduceCtorEq, Nat.reduceMod, Nat.reduceDiv, Nat.reduceLeDiff, Nat.reduceEqDiff, Nat.reduceAdd, Nat.reduceMul, Nat.reduceSub, Nat.reduceLT, sw_nil, sw_int, sw_long, sw_ref, li, lo, nI_m1, ng_eq, nn_eq, en_eq, ng_le, ng_lt, Int32.neg_neg, nI_add, pk_mul, nI_clampO, nI_ltO, nI_leO, nI_eqO, nI_subO, nle_t, nle_f, nlt_t, nlt_f, neq_f, h1, h2, this]
theorem c122_l (hK : OKA pa s un mk tp) {n : Nat} (hn : n + 1 ≤ (ln pa s).length) : ∀ (r k : Nat) (μ : PM), k + r = n → CH μ pa lw s un mk tp → (∀ i, i < k → rI μ 96000720 i = nI (fcN pa lw s i)) → ∃ ν, CN [96000720] μ ν ∧ (∀ i, i < n → rI ν 96000720 i = nI (fcN pa lw s i)) ∧ ∀ Q, R (d + 5) 122 2 [some (.ref 2000010), some (.int (nI n)), some (.int (nI k))] [] μ Q = Q none ν := by
  have hl := ln7 (s := s) hK.1
  intro r
  induction r with
  | zero =>
    intro k μ hk hC hh
    refine ⟨μ, CN_rf _ _, fun i hi => hh i (by omega), fun Q => ?_⟩
    rw [r122_2]
    simp (disch := first | assumption | omega) only [r122_0, r122_1, r122_3, r122_4, r122_7, r122_8, r122_11, r122_12, r122_13, r122_14, r122_15, r122_18, r122_21, r122_24, r122_25, r122_28, r122_31, rI_wI, rL_wL, rR_wR, rI_wL, rI_wR, rL_wI, rL_wR, rR_wI, rR_wL, va_rf_some, va_rf_none, Option.toList_some, Option.toList_none, List.nil_append, List.cons_append, true_and, and_true, false_and, and_false, and_self, if_true, if_false, not_true_eq_false, not_false_eq_true, or_false, false_or, or_true, true_or, or_self, ite_true, ite_false, Option.some.injEq, reduceCtorEq, Nat.reduceMod, Nat.reduceDiv, Nat.reduceLeDiff, Nat.reduceEqDiff, Nat.reduceAdd, Nat.reduceMul, Nat.reduceSub, Nat.reduceLT, sw_nil, sw_int, sw_long, sw_ref, li, lo, nI_m1, ng_eq, nn_eq, en_eq, ng_le, ng_lt, Int32.neg_neg, nI_add, pk_mul, nI_clampO, nI_ltO, nI_leO, nI_eqO, nI_subO, nle_t, nle_f, nlt_t, nlt_f, neq_f]
  | succ r ih =>
    intro k μ hk hC hh
    have hF := hC.1
    obtain ⟨ν1, n1, n2⟩ := c121 (d := d) (pc := s 9) hC hK (k := k) (by omega)
    have hF1 := CSc_FX (CSc_SC n1) hF
    have hX : CN [96000720] μ (wI ν1 96000720 k (nI (fcN pa lw s k))) := CN_tr (CN_SC n1) (CN_EX (EX_wI _ _ _ _) (by simp))
    obtain ⟨ν, k1, k2, k3⟩ := ih (k + 1) (wI ν1 96000720 k (nI (fcN pa lw s k))) (by omega) (CSc_CH hX.1 hC) (fun i hi => by
      rw [rI_wI]
      by_cases e : i = k
      · rw [if_pos ⟨rfl, e.symm⟩, e]
      · rw [if_neg (fun q => e q.2.symm), n1.1 _ _ (by decide) (by decide) (by omega)]; exact hh i (by omega))
    refine ⟨ν, CN_tr hX k1, k2, fun Q => ?_⟩
    unfold fcN at k3
    rw [r122_2]
    simp (disch := first | assumption | omega) only [r122_0, r122_1, r122_3, r122_4, r122_7, r122_8, r122_11, r122_12, r122_13, r122_14, r122_15, r122_18, r122_21, r122_24, r122_25, r122_28, r122_31, rI_wI, rL_wL, rR_wR, rI_wL, rI_wR, rL_wI, rL_wR, rR_wI, rR_wL, va_rf_some, va_rf_none, Option.toList_some, Option.toList_none, List.nil_append, List.cons_append, true_and, and_true, false_and, and_false, and_self, if_true, if_false, not_true_eq_false, not_false_eq_true, or_false, false_or, or_true, true_or, or_self, ite_true, ite_false, Option.some.injEq, reduceCtorEq, Nat.reduceMod, Nat.reduceDiv, Nat.reduceLeDiff, Nat.reduceEqDiff, Nat.reduceAdd, Nat.reduceMul, Nat.reduceSub, Nat.reduceLT, sw_nil, sw_int, sw_long, sw_ref, li, lo, nI_m1, ng_eq, nn_eq, en_eq, ng_le, ng_lt, Int32.neg_neg, nI_add, pk_mul, nI_clampO, nI_ltO, nI_leO, nI_eqO, nI_subO, nle_t, nle_f, nlt_t, nlt_f, neq_f, fx_2000010_0, fx_2000010_1, fx_2000010_4, fx_2000010_5, fx_2000010_6, fx_2000010_8, fx_2000010_10, fx_2000010_11, fx_2000010_12, fx_2000010_13, fx_2000010_14, fx_2000010_15, fx_2000010_16, fx_2000010_17, fx_2000010_18, fx_3000009_0, fx_5000007_0, fx_5000007_1, fx_5000007_2, fx_5000007_3, fx_7000001_0, fx_11000005_1, fx_11000005_2, fx_11000005_3, fx_11000005_4, fx_11000005_5, fx_11000005_6, fx_11000005_10, fx_11000005_11, fx_11000005_12, fx_20000002_0, fx_20000002_2, fx_20000002_3, fx_20000002_4, fx_25000005_1, fx_25000005_2, fx_25000005_3, fx_25000005_4, fx_25000005_5, fx_25000005_6, fx_25000005_10, fx_25000005_11, fx_25000005_12, fx_34000002_0, fx_34000002_2, fx_34000002_3, fx_34000002_4, fx_39000008_0, fx_41000006_0, fx_42002024_0, fx_42002024_1, fx_42002024_2, fx_42002024_3, fx_42002024_4, fx_42002024_5, fx_42002024_6, fx_42002024_7, fx_42002024_8, fx_42002024_9, fx_42002024_10, fx_42002024_11, fx_42002024_12, fx_42002024_13, fx_42002024_14, fx_42002024_15, fx_42002024_16, fx_42002024_17, fx_42002024_18, fx_42002024_19, fx_43000008_0, fx_45000008_0, fx_47000008_0, fx_49000008_0, fx_51000008_0, fx_53000008_0, fx_55000008_0, fx_57000008_0, fx_59000008_0, fx_61000008_0, fx_63000008_0, fx_65000008_0, fx_67000008_0, fx_69000008_0, fx_71000008_0, fx_73000008_0, fx_75000008_0, fx_77000008_0, fx_79000008_0, fx_81000008_0, fx_83000424_0, fx_83000424_1, fx_83000424_2, fx_83000424_3, fx_85000004_0, fx_85000004_1, fx_85000004_2, fx_85000004_3, fx_85000004_4, fx_85000004_5, fx_85000004_6, fx_85000004_10, fx_102000008_0, fx_104000008_0, fx_106000008_0, fx_108000008_0, fx_110000011_1, fx_110000011_4, fx_110000011_5, fx_110000011_6, fx_110000011_9, fx_110000011_10, fx_110000011_11, fx_110000011_12, fx_110000011_14, fx_110000011_15, fx_110000011_20, fx_110000011_21, fx_110000011_22, fx_110000011_23, fx_110000011_25, fx_110000011_26, fx_110000011_31, fx_110000011_32, fx_110000011_37, fx_110000011_38, fx_110000011_39, fx_110000011_40, hC.2.2.1.2.2.2, n2, k3]
theorem c122 (hC : CH μ pa lw s un mk tp) (hK : OKA pa s un mk tp) {n : Nat} (hn : n = (ln pa s).length - 1) : ∃ ν, CN [96000720] μ ν ∧ (∀ i, i < n → rI ν 96000720 i = nI (fcN pa lw s i)) ∧ ∀ Q, R (d + 5) 122 0 [some (.ref 2000010), some (.int (nI n)), none] [] μ Q = Q none ν := by
  by_cases h0 : n = 0
  · subst h0
    refine ⟨μ, CN_rf _ _, fun i hi => by omega, fun Q => ?_⟩
    simp (disch := first | assumption | omega) only [r122_0, r122_1, r122_2, r122_3, r122_4, r122_7, r122_8, r122_11, r122_12, r122_13, r122_14, r122_15, r122_18, r122_21, r122_24, r122_25, r122_28, r122_31, rI_wI, rL_wL, rR_wR, rI_wL, rI_wR, rL_wI, rL_wR, rR_wI, rR_wL, va_rf_some, va_rf_none, Option.toList_some, Option.toList_none, List.nil_append, List.cons_append, true_and, and_true, false_and, and_false, and_self, if_true, if_false, not_true_eq_false, not_false_eq_true, or_false, false_or, or_true, true_or, or_self, ite_true, ite_false, Option.some.injEq, reduceCtorEq, Nat.reduceMod, Nat.reduceDiv, Nat.reduceLeDiff, Nat.reduceEqDiff, Nat.reduceAdd, Nat.reduceMul, Nat.reduceSub, Nat.reduceLT, sw_nil, sw_int, sw_long, sw_ref, li, lo, nI_m1, ng_eq, nn_eq, en_eq, ng_le, ng_lt, Int32.neg_neg, nI_add, pk_mul, nI_clampO, nI_ltO, nI_leO, nI_eqO, nI_subO, nle_t, nle_f, nlt_t, nlt_f, neq_f, Nat.le_refl]
  · obtain ⟨ν, k1, k2, k3⟩ := c122_l (d := d) (lw := lw) hK (n := n) (by omega) n 0 μ (by omega) hC (fun i hi => by omega)
    refine ⟨ν, k1, k2, fun Q => ?_⟩
    simp (disch := first | assumption | omega) only [r122_0, r122_1, rI_wI, rL_wL, rR_wR, rI_wL, rI_wR, rL_wI, rL_wR, rR_wI, rR_wL, va_rf_some, va_rf_none, Option.toList_some, Option.toList_none, List.nil_append, List.cons_append, true_and, and_true, false_and, and_false, and_self, if_true, if_false, not_true_eq_false, not_false_eq_true, or_false, false_or, or_true, true_or, or_self, ite_true, ite_false, Option.some.injEq, reduceCtorEq, Nat.reduceMod, Nat.reduceDiv, Nat.reduceLeDiff, Nat.reduceEqDiff, Nat.reduceAdd, Nat.reduceMul, Nat.reduceSub, Nat.reduceLT, sw_nil, sw_int, sw_long, sw_ref, li, lo, nI_m1, ng_eq, nn_eq, en_eq, ng_le, ng_lt, Int32.neg_neg, nI_add, pk_mul, nI_clampO, nI_ltO, nI_leO, nI_eqO, nI_subO, nle_t, nle_f, nlt_t, nlt_f, neq_f, k3]
theorem c125_l (hF : FX μ) (hP : CPt μ pa lw) (hK : OKA pa s un mk tp) {f th : Nat → Nat} {n : Nat} (hf : ∀ k, f k ≤ 10) (hn : n ≤ 6) (hh : ∀ i, i < 7 → rI μ 98000720 i = nI (th i)) (hc : ∀ i, i < n → rI μ 96000720 i = nI (f i)) : ∀ (r k ar : Nat) (nx : Nat → Nat) (g : Nat → Int32) (v4 : Option Value), k + r = n → (∀ i, i < 7 → g i = nI (nx i)) → S7 (tlN th k) + ar + S7 nx ≤ 1000000 →
    ∃ g' : Nat → Int32, (∀ i, i < 7 → g' i = nI ((tkS f th (pa 3) r k ar nx).2 i)) ∧ ∀ Q, R d 125 12 [some (.ref 2000010), some (.int (nI n)), some (.int (nI ar)), some (.int (nI k)), v4] [] (wA μ 99000720 g) Q = Q (some (.int (nI (tkS f th (pa 3) r k ar nx).1))) (wA μ 99000720 g') := by
  obtain ⟨P, h5, hPP, hr, -, -, -, -, hfr, -⟩ := CPt_x hP
  have hpa3 := hK.1.1.2.2.2.1
  intro r
  induction r with
  | zero =>
    intro k ar nx g v4 hk hg hB
    refine ⟨g, hg, fun Q => ?_⟩
    rw [r125_12, tkS]
    simp (disch := first | assumption | omega) only [r125_0, r125_1, r125_2, r125_3, r125_6, r125_7, r125_10, r125_11, r125_13, r125_14, r125_17, r125_18, r125_21, r125_22, r125_23, r125_24, r125_25, r125_27, r125_29, r125_30, r125_33, r125_34, r125_35, r125_36, r125_38, r125_39, r125_40, r125_41, r125_44, r125_45, r125_48, r125_51, r125_54, r125_55, r125_58, r125_59, r125_60, r125_61, r125_63, r125_64, r125_65, r125_66, r125_67, r125_70, r125_73, r125_74, rI_wI, rL_wL, rR_wR, rI_wL, rI_wR, rL_wI, rL_wR, rR_wI, rR_wL, va_rf_some, va_rf_none, Option.toList_some, Option.toList_none, List.nil_append, List.cons_append, true_and, and_true, false_and, and_false, and_self, if_true, if_false, not_true_eq_false, not_false_eq_true, or_false, false_or, or_true, true_or, or_self, ite_true, ite_false, Option.some.injEq, reduceCtorEq, Nat.reduceMod, Nat.reduceDiv, Nat.reduceLeDiff, Nat.reduceEqDiff, Nat.reduceAdd, Nat.reduceMul, Nat.reduceSub, Nat.reduceLT, sw_nil, sw_int, sw_long, sw_ref, li, lo, nI_m1, ng_eq, nn_eq, en_eq, ng_le, ng_lt, Int32.neg_neg, nI_add, pk_mul, nI_clampO, nI_ltO, nI_leO, nI_eqO, nI_subO, nle_t, nle_f, nlt_t, nlt_f, neq_f]
  | succ r ih =>
    intro k ar nx g v4 hk hg hB
    have hF1 : FX (wA μ 99000720 g) := hF
    obtain ⟨b1, b2⟩ := tkS_st (fr := pa 3) hf (show k < 7 by omega) hB
    have b3 := tk_le (x := th k + ar) (hf k)
    have b4 : (th k + ar) * f k ≤ 1000000 * 10 := Nat.mul_le_mul b1 (hf k)
    have hg' : ∀ j, j = (if pa 3 = 1 then 0 else k) → ∀ i, i < 7 → upd g j (g j + nI (th k + ar - (th k + ar) * f k / 10)) i = nI (upN nx (if pa 3 = 1 then 0 else k) (th k + ar - (th k + ar) * f k / 10) i) := by
      intro j hj i hi
      rw [← hj, upd_at]
      unfold upN
      by_cases e : i = j
      · have hj7 : j < 7 := by omega
        rw [if_pos e, if_pos e, e, hg j hj7, nI_add]
      · rw [if_neg e, if_neg e]; exact hg i hi
    obtain ⟨g', e1, e2⟩ := ih (k + 1) ((th k + ar) * f k / 10) (upN nx (if pa 3 = 1 then 0 else k) (th k + ar - (th k + ar) * f k / 10)) _ (some (.int (nI (th k + ar)))) (by omega) (hg' _ rfl) b2
    refine ⟨g', e1, fun Q => ?_⟩
    rw [r125_12, tkS]
    have hP9 : P ≠ 99000720 := by omega
    rcases (show pa 3 = 0 ∨ pa 3 = 1 by omega) with e | e
    · rw [e] at hfr e2 ⊢
      simp (disch := first | assumption | omega) only [rI_wI, rL_wL, rR_wR, rI_wL, rI_wR, rL_wI, rL_wR, rR_wI, rR_wL, va_rf_some, va_rf_none, Option.toList_some, Option.toList_none, List.nil_append, List.cons_append, true_and, and_true, false_and, and_false, and_self, if_true, if_false, not_true_eq_false, not_false_eq_true, or_false, false_or, or_true, true_or, or_self, ite_true, ite_false, Option.some.injEq, reduceCtorEq, Nat.reduceMod, Nat.reduceDiv, Nat.reduceLeDiff, Nat.reduceEqDiff, Nat.reduceAdd, Nat.reduceMul, Nat.reduceSub, Nat.reduceLT, sw_nil, sw_int, sw_long, sw_ref, li, lo, nI_m1, ng_eq, nn_eq, en_eq, ng_le, ng_lt, Int32.neg_neg, nI_add, pk_mul, nI_clampO, nI_ltO, nI_leO, nI_eqO, nI_subO, nle_t, nle_f, nlt_t, nlt_f, neq_f] at e2
      have b5 := hh k (by omega)
      have b6 := hc k (by omega)
      simp (disch := first | assumption | omega) only [r125_0, r125_1, r125_2, r125_3, r125_6, r125_7, r125_10, r125_11, r125_13, r125_14, r125_17, r125_18, r125_21, r125_22, r125_23, r125_24, r125_25, r125_27, r125_29, r125_30, r125_33, r125_34, r125_35, r125_36, r125_38, r125_39, r125_40, r125_41, r125_44, r125_45, r125_48, r125_51, r125_54, r125_55, r125_58, r125_59, r125_60, r125_61, r125_63, r125_64, r125_65, r125_66, r125_67, r125_70, r125_73, r125_74, rI_wI, rL_wL, rR_wR, rI_wL, rI_wR, rL_wI, rL_wR, rR_wI, rR_wL, va_rf_some, va_rf_none, Option.toList_some, Option.toList_none, List.nil_append, List.cons_append, true_and, and_true, false_and, and_false, and_self, if_true, if_false, not_true_eq_false, not_false_eq_true, or_false, false_or, or_true, true_or, or_self, ite_true, ite_false, Option.some.injEq, reduceCtorEq, Nat.reduceMod, Nat.reduceDiv, Nat.reduceLeDiff, Nat.reduceEqDiff, Nat.reduceAdd, Nat.reduceMul, Nat.reduceSub, Nat.reduceLT, sw_nil, sw_int, sw_long, sw_ref, li, lo, nI_m1, ng_eq, nn_eq, en_eq, ng_le, ng_lt, Int32.neg_neg, nI_add, pk_mul, nI_clampO, nI_ltO, nI_leO, nI_eqO, nI_subO, nle_t, nle_f, nlt_t, nlt_f, neq_f, fx_2000010_0, fx_2000010_1, fx_2000010_4, fx_2000010_5, fx_2000010_6, fx_2000010_8, fx_2000010_10, fx_2000010_11, fx_2000010_12, fx_2000010_13, fx_2000010_14, fx_2000010_15, fx_2000010_16, fx_2000010_17, fx_2000010_18, fx_3000009_0, fx_5000007_0, fx_5000007_1, fx_5000007_2, fx_5000007_3, fx_7000001_0, fx_11000005_1, fx_11000005_2, fx_11000005_3, fx_11000005_4, fx_11000005_5, fx_11000005_6, fx_11000005_10, fx_11000005_11, fx_11000005_12, fx_20000002_0, fx_20000002_2, fx_20000002_3, fx_20000002_4, fx_25000005_1, fx_25000005_2, fx_25000005_3, fx_25000005_4, fx_25000005_5, fx_25000005_6, fx_25000005_10, fx_25000005_11, fx_25000005_12, fx_34000002_0, fx_34000002_2, fx_34000002_3, fx_34000002_4, fx_39000008_0, fx_41000006_0, fx_42002024_0, fx_42002024_1, fx_42002024_2, fx_42002024_3, fx_42002024_4, fx_42002024_5, fx_42002024_6, fx_42002024_7, fx_42002024_8, fx_42002024_9, fx_42002024_10, fx_42002024_11, fx_42002024_12, fx_42002024_13, fx_42002024_14, fx_42002024_15, fx_42002024_16, fx_42002024_17, fx_42002024_18, fx_42002024_19, fx_43000008_0, fx_45000008_0, fx_47000008_0, fx_49000008_0, fx_51000008_0, fx_53000008_0, fx_55000008_0, fx_57000008_0, fx_59000008_0, fx_61000008_0, fx_63000008_0, fx_65000008_0, fx_67000008_0, fx_69000008_0, fx_71000008_0, fx_73000008_0, fx_75000008_0, fx_77000008_0, fx_79000008_0, fx_81000008_0, fx_83000424_0, fx_83000424_1, fx_83000424_2, fx_83000424_3, fx_85000004_0, fx_85000004_1, fx_85000004_2, fx_85000004_3, fx_85000004_4, fx_85000004_5, fx_85000004_6, fx_85000004_10, fx_102000008_0, fx_104000008_0, fx_106000008_0, fx_108000008_0, fx_110000011_1, fx_110000011_4, fx_110000011_5, fx_110000011_6, fx_110000011_9, fx_110000011_10, fx_110000011_11, fx_110000011_12, fx_110000011_14, fx_110000011_15, fx_110000011_20, fx_110000011_21, fx_110000011_22, fx_110000011_23, fx_110000011_25, fx_110000011_26, fx_110000011_31, fx_110000011_32, fx_110000011_37, fx_110000011_38, fx_110000011_39, fx_110000011_40, h5, hr, hfr, b5, b6, rI_wA, rR_wA, neq_f, pk_div, wI_wA, e2]
    · rw [e] at hfr e2 ⊢
      simp (disch := first | assumption | omega) only [rI_wI, rL_wL, rR_wR, rI_wL, rI_wR, rL_wI, rL_wR, rR_wI, rR_wL, va_rf_some, va_rf_none, Option.toList_some, Option.toList_none, List.nil_append, List.cons_append, true_and, and_true, false_and, and_false, and_self, if_true, if_false, not_true_eq_false, not_false_eq_true, or_false, false_or, or_true, true_or, or_self, ite_true, ite_false, Option.some.injEq, reduceCtorEq, Nat.reduceMod, Nat.reduceDiv, Nat.reduceLeDiff, Nat.reduceEqDiff, Nat.reduceAdd, Nat.reduceMul, Nat.reduceSub, Nat.reduceLT, sw_nil, sw_int, sw_long, sw_ref, li, lo, nI_m1, ng_eq, nn_eq, en_eq, ng_le, ng_lt, Int32.neg_neg, nI_add, pk_mul, nI_clampO, nI_ltO, nI_leO, nI_eqO, nI_subO, nle_t, nle_f, nlt_t, nlt_f, neq_f] at e2
      have b5 := hh k (by omega)
      have b6 := hc k (by omega)
      simp (disch := first | assumption | omega) only [r125_0, r125_1, r125_2, r125_3, r125_6, r125_7, r125_10, r125_11, r125_13, r125_14, r125_17, r125_18, r125_21, r125_22, r125_23, r125_24, r125_25, r125_27, r125_29, r125_30, r125_33, r125_34, r125_35, r125_36, r125_38, r125_39, r125_40, r125_41, r125_44, r125_45, r125_48, r125_51, r125_54, r125_55, r125_58, r125_59, r125_60, r125_61, r125_63, r125_64, r125_65, r125_66, r125_67, r125_70, r125_73, r125_74, rI_wI, rL_wL, rR_wR, rI_wL, rI_wR, rL_wI, rL_wR, rR_wI, rR_wL, va_rf_some, va_rf_none, Option.toList_some, Option.toList_none, List.nil_append, List.cons_append, true_and, and_true, false_and, and_false, and_self, if_true, if_false, not_true_eq_false, not_false_eq_true, or_false, false_or, or_true, true_or, or_self, ite_true, ite_false, Option.some.injEq, reduceCtorEq, Nat.reduceMod, Nat.reduceDiv, Nat.reduceLeDiff, Nat.reduceEqDiff, Nat.reduceAdd, Nat.reduceMul, Nat.reduceSub, Nat.reduceLT, sw_nil, sw_int, sw_long, sw_ref, li, lo, nI_m1, ng_eq, nn_eq, en_eq, ng_le, ng_lt, Int32.neg_neg, nI_add, pk_mul, nI_clampO, nI_ltO, nI_leO, nI_eqO, nI_subO, nle_t, nle_f, nlt_t, nlt_f, neq_f, fx_2000010_0, fx_2000010_1, fx_2000010_4, fx_2000010_5, fx_2000010_6, fx_2000010_8, fx_2000010_10, fx_2000010_11, fx_2000010_12, fx_2000010_13, fx_2000010_14, fx_2000010_15, fx_2000010_16, fx_2000010_17, fx_2000010_18, fx_3000009_0, fx_5000007_0, fx_5000007_1, fx_5000007_2, fx_5000007_3, fx_7000001_0, fx_11000005_1, fx_11000005_2, fx_11000005_3, fx_11000005_4, fx_11000005_5, fx_11000005_6, fx_11000005_10, fx_11000005_11, fx_11000005_12, fx_20000002_0, fx_20000002_2, fx_20000002_3, fx_20000002_4, fx_25000005_1, fx_25000005_2, fx_25000005_3, fx_25000005_4, fx_25000005_5, fx_25000005_6, fx_25000005_10, fx_25000005_11, fx_25000005_12, fx_34000002_0, fx_34000002_2, fx_34000002_3, fx_34000002_4, fx_39000008_0, fx_41000006_0, fx_42002024_0, fx_42002024_1, fx_42002024_2, fx_42002024_3, fx_42002024_4, fx_42002024_5, fx_42002024_6, fx_42002024_7, fx_42002024_8, fx_42002024_9, fx_42002024_10, fx_42002024_11, fx_42002024_12, fx_42002024_13, fx_42002024_14, fx_42002024_15, fx_42002024_16, fx_42002024_17, fx_42002024_18, fx_42002024_19, fx_43000008_0, fx_45000008_0, fx_47000008_0, fx_49000008_0, fx_51000008_0, fx_53000008_0, fx_55000008_0, fx_57000008_0, fx_59000008_0, fx_61000008_0, fx_63000008_0, fx_65000008_0, fx_67000008_0, fx_69000008_0, fx_71000008_0, fx_73000008_0, fx_75000008_0, fx_77000008_0, fx_79000008_0, fx_81000008_0, fx_83000424_0, fx_83000424_1, fx_83000424_2, fx_83000424_3, fx_85000004_0, fx_85000004_1, fx_85000004_2, fx_85000004_3, fx_85000004_4, fx_85000004_5, fx_85000004_6, fx_85000004_10, fx_102000008_0, fx_104000008_0, fx_106000008_0, fx_108000008_0, fx_110000011_1, fx_110000011_4, fx_110000011_5, fx_110000011_6, fx_110000011_9, fx_110000011_10, fx_110000011_11, fx_110000011_12, fx_110000011_14, fx_110000011_15, fx_110000011_20, fx_110000011_21, fx_110000011_22, fx_110000011_23, fx_110000011_25, fx_110000011_26, fx_110000011_31, fx_110000011_32, fx_110000011_37, fx_110000011_38, fx_110000011_39, fx_110000011_40, h5, hr, hfr, b5, b6, rI_wA, rR_wA, neq_f, pk_div, wI_wA, e2]
end T1
