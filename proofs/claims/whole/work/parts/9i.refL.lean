/-! THE REFERENCE READS A LAW: TOOLS -/
def fls (π : List Nat) : List Cod := π.map (fun x => (opc x, 0))
theorem joi_app {r : Nat} {σ : List Nat} (hσ : rk (σ.headD 30) < r) : ∀ {π : List Nat}, (∀ x, x ∈ π → r ≤ rk x) → joi r (π ++ σ) = (fls π, σ) := by
  intro π
  induction π with
  | nil =>
    intro _
    cases σ with
    | nil => rfl
    | cons x σ =>
      show joi r (x :: σ) = _
      have hx : rk x < r := hσ
      rw [joi, if_neg (by omega)]
      rfl
  | cons y π ih =>
    intro h
    have k := ih (fun x hx => h x (List.mem_cons_of_mem _ hx))
    show joi r (y :: (π ++ σ)) = _
    rw [joi, if_pos (h y List.mem_cons_self), k]
    rfl
theorem nots_no {σ : List Nat} (h : σ.headD 30 ≠ 23) : nots σ = ([], σ) := by
  cases σ with
  | nil => rfl
  | cons x σ => rw [nots, if_neg (show ¬ x = 23 from h)]
def NX (r : Nat) (π σ : List Nat) (T : List Tok) : Prop := rk (hdT T).2.1 < r ∨ (rk (hdT T).2.1 = 2 ∧ r ≤ 2 ∧ rk ((joi 3 (π ++ σ)).2.headD 30) = 2)
def KM (μ : PM) (c0 : Nat) (κ : List Cod) : Prop := rI μ 110000011 13 = nI (c0 + κ.length) ∧ ∀ i, i < κ.length → rI μ 117220020 (1100 + c0 + i) = nI (κ.getD i (0, 0)).1 ∧ rI μ 118220020 (1100 + c0 + i) = nI (κ.getD i (0, 0)).2
def PFr (c0 : Nat) (μ ν : PM) : Prop := (∀ a j, ¬ ((a = 110000011 ∧ (j = 7 ∨ j = 8 ∨ j = 13)) ∨ ((a = 117220020 ∨ a = 118220020) ∧ 1100 + c0 ≤ j)) → rI ν a j = rI μ a j) ∧ (∀ a j, rL ν a j = rL μ a j) ∧ (∀ a j, rR ν a j = rR μ a j) ∧ aS ν = aS μ
theorem PFr_rf (c0 : Nat) (μ : PM) : PFr c0 μ μ := ⟨fun _ _ _ => rfl, fun _ _ => rfl, fun _ _ => rfl, rfl⟩
theorem PFr_tr {c0 : Nat} {μ ν ρ : PM} (h : PFr c0 μ ν) (k : PFr c0 ν ρ) : PFr c0 μ ρ := ⟨fun a j q => (k.1 a j q).trans (h.1 a j q), fun a j => (k.2.1 a j).trans (h.2.1 a j), fun a j => (k.2.2.1 a j).trans (h.2.2.1 a j), k.2.2.2.trans h.2.2.2⟩
theorem PFr_w (c0 : Nat) (μ : PM) {j : Nat} (x : Int32) (h : j = 7 ∨ j = 8 ∨ j = 13) : PFr c0 μ (wI μ 110000011 j x) := ⟨fun a k q => by rw [rI_wI, if_neg (fun e => q (Or.inl ⟨e.1.symm, by rw [← e.2]; exact h⟩))], fun _ _ => rfl, fun _ _ => rfl, rfl⟩
theorem PFr_q {c0 : Nat} {μ ν : PM} (h : PFr c0 μ ν) : ∀ j, rI ν 112100220 j = rI μ 112100220 j ∧ rI ν 113100220 j = rI μ 113100220 j ∧ rL ν 114100221 j = rL μ 114100221 j := fun j => ⟨h.1 _ _ (by omega), h.1 _ _ (by omega), h.2.1 _ _⟩
theorem PFr_FX {c0 : Nat} {μ ν : PM} (h : PFr c0 μ ν) (hF : FX μ) : FX ν := fun q hq => (h.2.2.1 _ _).trans (hF q hq)
theorem PFr_MC {c0 : Nat} {μ ν : PM} (h : PFr c0 μ ν) (hC : MC μ) : MC ν := ⟨fun k hk => (h.2.1 _ _).trans (hC.1 k hk), fun i hi => (h.1 _ _ (by omega)).trans (hC.2 i hi)⟩
/-- what a law's reading stands on -/
def SX (μ : PM) (k c0 : Nat) (T : List Tok) (κ : List Cod) : Prop := FX μ ∧ MC μ ∧ rI μ 110000011 19 = nI k ∧ RX μ T ∧ KM μ c0 κ
def FSx (μ : PM) (k c0 f n : Nat) : Prop := FX μ ∧ MC μ ∧ rI μ 110000011 19 = nI k ∧ rI μ 110000011 8 = nI f ∧ 1 ≤ f ∧ f < 100000 ∧ rI μ 110000011 13 = nI (c0 + n)
section T1
variable {d : Nat} {μ : PM} {k c0 : Nat} {T : List Tok} {κ : List Cod}
/-- one on -/
theorem at1 {t : Tok} (h : SX μ k c0 (t :: T) κ) (ht : t.2.1 ≠ 30) : ∃ i, i < 1002 ∧ rI μ 110000011 7 = nI i ∧ SX (wI μ 110000011 7 (nI (i + 1))) k c0 T κ := by
  obtain ⟨h1, h2, h3, h4, h5⟩ := h
  obtain ⟨-, i, e1, e2, -⟩ := RT_h h4.1
  have hP : PFr c0 μ (wI μ 110000011 7 (nI (i + 1))) := PFr_w c0 μ _ (by omega)
  refine ⟨i, e1, e2, h1, PFr_MC hP h2, by rw [rI_wI, if_neg (by decide)]; exact h3, ⟨RT_n h4.1 ht (fun i' hi' => ?_) (PFr_q hP), by rw [rI_wI, if_neg (by decide)]; exact h4.2⟩, by rw [rI_wI, if_neg (by decide)]; exact h5.1, fun j hj => by rw [rI_wI, if_neg (by omega), rI_wI, if_neg (by omega)]; exact h5.2 j hj⟩
  rw [hi'] at e2
  rw [rI_wI, if_pos ⟨rfl, rfl⟩, ← nI_add i 1, ← nI_add i' 1, e2]
theorem at0 {i : Nat} (h : SX μ k c0 T κ) (hi : rI μ 110000011 7 = nI i) : SX (wI μ 110000011 7 (nI i)) k c0 T κ := by
  obtain ⟨h1, h2, h3, h4, h5⟩ := h
  have hP : PFr c0 μ (wI μ 110000011 7 (nI i)) := PFr_w c0 μ _ (by omega)
  refine ⟨h1, PFr_MC hP h2, by rw [rI_wI, if_neg (by decide)]; exact h3, ⟨RT_s h4.1 (by rw [rI_wI, if_pos ⟨rfl, rfl⟩]; exact hi.symm) (PFr_q hP), by rw [rI_wI, if_neg (by decide)]; exact h4.2⟩, by rw [rI_wI, if_neg (by decide)]; exact h5.1, fun j hj => by rw [rI_wI, if_neg (by omega), rI_wI, if_neg (by omega)]; exact h5.2 j hj⟩
theorem c144y (hS : SX μ k c0 T κ) {c : Nat} (hc : 32 ≤ c) (hc2 : c < 128) (he : (hdT T).2.1 = c) : ∃ t T', T = t :: T' ∧ t.2.1 = c ∧ ∃ ν, PFr c0 μ ν ∧ SX ν k c0 T' κ ∧ ∀ Q, R (d + 1) 144 0 [some (.ref 110000011), some (.int (nI c)), none] [] μ Q = Q (some (.int (nI 1))) ν := by
  have k1 := c141 (d := d) hS.1 hS.2.2.2.1 hc hc2
  rw [if_pos he] at k1
  cases T with
  | nil => exact hS.2.2.2.1.1.1.elim
  | cons t T' =>
    have he' : t.2.1 = c := he
    obtain ⟨i, e1, e2, e3⟩ := at1 hS (by omega)
    refine ⟨t, T', rfl, he', _, PFr_w c0 μ _ (by omega), e3, fun Q => ?_⟩
    simp (disch := first | assumption | omega) only [r144_0, r144_1, r144_2, r144_5, r144_6, r144_7, r144_7i, r144_8, r144_11, j144_12, r144_15, r144_16, r144_19, r144_20, r144_21, r144_24, r144_25, rI_wI, rL_wL, rR_wR, rI_wL, rI_wR, rL_wI, rL_wR, rR_wI, rR_wL, va_rf_some, va_rf_none, Option.toList_some, Option.toList_none, List.nil_append, List.cons_append, true_and, and_true, false_and, and_false, and_self, if_true, if_false, not_true_eq_false, not_false_eq_true, or_false, false_or, or_true, true_or, or_self, ite_true, ite_false, Option.some.injEq, reduceCtorEq, Nat.reduceMod, Nat.reduceDiv, Nat.reduceLeDiff, Nat.reduceEqDiff, Nat.reduceAdd, Nat.reduceMul, Nat.reduceSub, Nat.reduceLT, sw_nil, sw_int, sw_long, sw_ref, li, lo, nI_m1, ng_eq, nn_eq, en_eq, ng_le, ng_lt, Int32.neg_neg, nI_add, pk_mul, nI_clampO, nI_ltO, nI_leO, nI_eqO, nI_subO, nle_t, nle_f, nlt_t, nlt_f, neq_f, k1, e2]
theorem c144n (hS : SX μ k c0 T κ) {c : Nat} (hc : 32 ≤ c) (hc2 : c < 128) (he : ¬ (hdT T).2.1 = c) : ∃ ν, PFr c0 μ ν ∧ SX ν k c0 T κ ∧ ∀ Q, R (d + 1) 144 0 [some (.ref 110000011), some (.int (nI c)), none] [] μ Q = Q (some (.int (nI 0))) ν := by
  have k1 := c141 (d := d) hS.1 hS.2.2.2.1 hc hc2
  rw [if_neg he] at k1
  obtain ⟨-, i, e1, e2, -⟩ := RT_h hS.2.2.2.1.1
  refine ⟨wI μ 110000011 7 (nI i), PFr_w c0 μ _ (by omega), at0 hS e2, fun Q => ?_⟩
  simp (disch := first | assumption | omega) only [r144_0, r144_1, r144_2, r144_5, r144_6, r144_7, r144_7i, r144_8, r144_11, j144_12, r144_15, r144_16, r144_19, r144_20, r144_21, r144_24, r144_25, rI_wI, rL_wL, rR_wR, rI_wL, rI_wR, rL_wI, rL_wR, rR_wI, rR_wL, va_rf_some, va_rf_none, Option.toList_some, Option.toList_none, List.nil_append, List.cons_append, true_and, and_true, false_and, and_false, and_self, if_true, if_false, not_true_eq_false, not_false_eq_true, or_false, false_or, or_true, true_or, or_self, ite_true, ite_false, Option.some.injEq, reduceCtorEq, Nat.reduceMod, Nat.reduceDiv, Nat.reduceLeDiff, Nat.reduceEqDiff, Nat.reduceAdd, Nat.reduceMul, Nat.reduceSub, Nat.reduceLT, sw_nil, sw_int, sw_long, sw_ref, li, lo, nI_m1, ng_eq, nn_eq, en_eq, ng_le, ng_lt, Int32.neg_neg, nI_add, pk_mul, nI_clampO, nI_ltO, nI_leO, nI_eqO, nI_subO, nle_t, nle_f, nlt_t, nlt_f, neq_f, k1, e2, Nat.add_zero]
theorem c145y (hS : SX μ k c0 T κ) {w : Nat} (hw : w < 28) (he : (hdT T).2.1 = w) : ∃ t T', T = t :: T' ∧ t.2.1 = w ∧ ∃ ν, PFr c0 μ ν ∧ SX ν k c0 T' κ ∧ ∀ Q, R (d + 1) 145 0 [some (.ref 110000011), some (.int (nI w)), none] [] μ Q = Q (some (.int (nI 1))) ν := by
  have k1 := c142 (d := d) hS.1 hS.2.1 hS.2.2.2.1 hw
  rw [if_pos he] at k1
  cases T with
  | nil => exact hS.2.2.2.1.1.1.elim
  | cons t T' =>
    have he' : t.2.1 = w := he
    obtain ⟨i, e1, e2, e3⟩ := at1 hS (by omega)
    refine ⟨t, T', rfl, he', _, PFr_w c0 μ _ (by omega), e3, fun Q => ?_⟩
    simp (disch := first | assumption | omega) only [r145_0, r145_1, r145_2, r145_5, r145_6, r145_7, r145_7i, r145_8, r145_11, j145_12, r145_15, r145_16, r145_19, r145_20, r145_21, r145_24, r145_25, rI_wI, rL_wL, rR_wR, rI_wL, rI_wR, rL_wI, rL_wR, rR_wI, rR_wL, va_rf_some, va_rf_none, Option.toList_some, Option.toList_none, List.nil_append, List.cons_append, true_and, and_true, false_and, and_false, and_self, if_true, if_false, not_true_eq_false, not_false_eq_true, or_false, false_or, or_true, true_or, or_self, ite_true, ite_false, Option.some.injEq, reduceCtorEq, Nat.reduceMod, Nat.reduceDiv, Nat.reduceLeDiff, Nat.reduceEqDiff, Nat.reduceAdd, Nat.reduceMul, Nat.reduceSub, Nat.reduceLT, sw_nil, sw_int, sw_long, sw_ref, li, lo, nI_m1, ng_eq, nn_eq, en_eq, ng_le, ng_lt, Int32.neg_neg, nI_add, pk_mul, nI_clampO, nI_ltO, nI_leO, nI_eqO, nI_subO, nle_t, nle_f, nlt_t, nlt_f, neq_f, k1, e2]
theorem c145n (hS : SX μ k c0 T κ) {w : Nat} (hw : w < 28) (he : ¬ (hdT T).2.1 = w) : ∃ ν, PFr c0 μ ν ∧ SX ν k c0 T κ ∧ ∀ Q, R (d + 1) 145 0 [some (.ref 110000011), some (.int (nI w)), none] [] μ Q = Q (some (.int (nI 0))) ν := by
  have k1 := c142 (d := d) hS.1 hS.2.1 hS.2.2.2.1 hw
  rw [if_neg he] at k1
  obtain ⟨-, i, e1, e2, -⟩ := RT_h hS.2.2.2.1.1
  refine ⟨wI μ 110000011 7 (nI i), PFr_w c0 μ _ (by omega), at0 hS e2, fun Q => ?_⟩
  simp (disch := first | assumption | omega) only [r145_0, r145_1, r145_2, r145_5, r145_6, r145_7, r145_7i, r145_8, r145_11, j145_12, r145_15, r145_16, r145_19, r145_20, r145_21, r145_24, r145_25, rI_wI, rL_wL, rR_wR, rI_wL, rI_wR, rL_wI, rL_wR, rR_wI, rR_wL, va_rf_some, va_rf_none, Option.toList_some, Option.toList_none, List.nil_append, List.cons_append, true_and, and_true, false_and, and_false, and_self, if_true, if_false, not_true_eq_false, not_false_eq_true, or_false, false_or, or_true, true_or, or_self, ite_true, ite_false, Option.some.injEq, reduceCtorEq, Nat.reduceMod, Nat.reduceDiv, Nat.reduceLeDiff, Nat.reduceEqDiff, Nat.reduceAdd, Nat.reduceMul, Nat.reduceSub, Nat.reduceLT, sw_nil, sw_int, sw_long, sw_ref, li, lo, nI_m1, ng_eq, nn_eq, en_eq, ng_le, ng_lt, Int32.neg_neg, nI_add, pk_mul, nI_clampO, nI_ltO, nI_leO, nI_eqO, nI_subO, nle_t, nle_f, nlt_t, nlt_f, neq_f, k1, e2, Nat.add_zero]
/-- a code -/
def em (μ : PM) (p : Nat) (o a : Int32) : PM := wI (wI (wI μ 117220020 (1100 + p) o) 118220020 (1100 + p) a) 110000011 13 (nI (p + 1))
theorem em_PF {n : Nat} (μ : PM) (o a : Int32) : PFr c0 μ (em μ (c0 + n) o a) := ⟨fun b j q => by
  unfold em
  rw [rI_wI, if_neg (fun e => q (by omega)), rI_wI, if_neg (fun e => q (by omega)), rI_wI, if_neg (fun e => q (by omega))], fun _ _ => rfl, fun _ _ => rfl, rfl⟩
theorem em_o (p : Nat) (o a : Int32) {j : Nat} (hj : j ≠ 13) : rI (em μ p o a) 110000011 j = rI μ 110000011 j := by
  unfold em
  rw [rI_wI, if_neg (by omega), rI_wI, if_neg (by omega), rI_wI, if_neg (by omega)]
theorem c164 (hF : FX μ) {p : Nat} (h : rI μ 110000011 13 = nI p) (hp : p < 1100) {o a : Int32} : ∀ Q, R d 164 0 [some (.ref 110000011), some (.int o), some (.int a)] [] μ Q = Q none (em μ p o a) := by
  intro Q
  unfold em
  simp (disch := first | assumption | omega) only [r164_0, r164_1, r164_4, r164_7, r164_8, r164_11, r164_12, r164_13, r164_14, r164_15, r164_18, r164_21, r164_22, r164_25, r164_26, r164_27, r164_28, r164_29, r164_29i, r164_30, r164_33, r164_34, r164_35, r164_38, rI_wI, rL_wL, rR_wR, rI_wL, rI_wR, rL_wI, rL_wR, rR_wI, rR_wL, va_rf_some, va_rf_none, Option.toList_some, Option.toList_none, List.nil_append, List.cons_append, true_and, and_true, false_and, and_false, and_self, if_true, if_false, not_true_eq_false, not_false_eq_true, or_false, false_or, or_true, true_or, or_self, ite_true, ite_false, Option.some.injEq, reduceCtorEq, Nat.reduceMod, Nat.reduceDiv, Nat.reduceLeDiff, Nat.reduceEqDiff, Nat.reduceAdd, Nat.reduceMul, Nat.reduceSub, Nat.reduceLT, sw_nil, sw_int, sw_long, sw_ref, li, lo, nI_m1, ng_eq, nn_eq, en_eq, ng_le, ng_lt, Int32.neg_neg, nI_add, pk_mul, nI_clampO, nI_ltO, nI_leO, nI_eqO, nI_subO, nle_t, nle_f, nlt_t, nlt_f, neq_f, fx_2000010_0, fx_2000010_1, fx_2000010_4, fx_2000010_5, fx_2000010_6, fx_2000010_8, fx_2000010_10, fx_2000010_11, fx_2000010_12, fx_2000010_13, fx_2000010_14, fx_2000010_15, fx_2000010_16, fx_2000010_17, fx_2000010_18, fx_3000009_0, fx_5000007_0, fx_5000007_1, fx_5000007_2, fx_5000007_3, fx_7000001_0, fx_11000005_1, fx_11000005_2, fx_11000005_3, fx_11000005_4, fx_11000005_5, fx_11000005_6, fx_11000005_10, fx_11000005_11, fx_11000005_12, fx_20000002_0, fx_20000002_2, fx_20000002_3, fx_20000002_4, fx_25000005_1, fx_25000005_2, fx_25000005_3, fx_25000005_4, fx_25000005_5, fx_25000005_6, fx_25000005_10, fx_25000005_11, fx_25000005_12, fx_34000002_0, fx_34000002_2, fx_34000002_3, fx_34000002_4, fx_39000008_0, fx_41000006_0, fx_42002024_0, fx_42002024_1, fx_42002024_2, fx_42002024_3, fx_42002024_4, fx_42002024_5, fx_42002024_6, fx_42002024_7, fx_42002024_8, fx_42002024_9, fx_42002024_10, fx_42002024_11, fx_42002024_12, fx_42002024_13, fx_42002024_14, fx_42002024_15, fx_42002024_16, fx_42002024_17, fx_42002024_18, fx_42002024_19, fx_43000008_0, fx_45000008_0, fx_47000008_0, fx_49000008_0, fx_51000008_0, fx_53000008_0, fx_55000008_0, fx_57000008_0, fx_59000008_0, fx_61000008_0, fx_63000008_0, fx_65000008_0, fx_67000008_0, fx_69000008_0, fx_71000008_0, fx_73000008_0, fx_75000008_0, fx_77000008_0, fx_79000008_0, fx_81000008_0, fx_83000424_0, fx_83000424_1, fx_83000424_2, fx_83000424_3, fx_85000004_0, fx_85000004_1, fx_85000004_2, fx_85000004_3, fx_85000004_4, fx_85000004_5, fx_85000004_6, fx_85000004_10, fx_102000008_0, fx_104000008_0, fx_106000008_0, fx_108000008_0, fx_110000011_1, fx_110000011_4, fx_110000011_5, fx_110000011_6, fx_110000011_9, fx_110000011_10, fx_110000011_11, fx_110000011_12, fx_110000011_14, fx_110000011_15, fx_110000011_20, fx_110000011_21, fx_110000011_22, fx_110000011_23, fx_110000011_25, fx_110000011_26, fx_110000011_31, fx_110000011_32, fx_110000011_37, fx_110000011_38, fx_110000011_39, fx_110000011_40, h]
theorem em_SX (h : SX μ k c0 T κ) (c : Cod) : SX (em μ (c0 + κ.length) (nI c.1) (nI c.2)) k c0 T (κ ++ [c]) := by
  obtain ⟨h1, h2, h3, h4, h5⟩ := h
  have hP := em_PF (c0 := c0) (n := κ.length) μ (nI c.1) (nI c.2)
  refine ⟨h1, PFr_MC hP h2, by rw [em_o _ _ _ (by decide)]; exact h3, ⟨RT_s h4.1 (em_o _ _ _ (by decide)) (PFr_q hP), by rw [em_o _ _ _ (by decide)]; exact h4.2⟩, ?_, fun i hi => ?_⟩
  · unfold em
    rw [rI_wI, if_pos ⟨rfl, rfl⟩, List.length_append]
    rfl
  · have hi' : i < κ.length + 1 := by simpa using hi
    unfold em
    by_cases e : i = κ.length
    · subst e
      have eg : (κ ++ [c]).getD κ.length (0, 0) = c := by
        rw [List.getD_eq_getElem?_getD, List.getElem?_append_right (Nat.le_refl _), Nat.sub_self]
        rfl
      rw [eg]
      constructor
      · rw [rI_wI, if_neg (by omega), rI_wI, if_neg (by omega), rI_wI, if_pos ⟨rfl, by omega⟩]
      · rw [rI_wI, if_neg (by omega), rI_wI, if_pos ⟨rfl, by omega⟩]
    · have eg : (κ ++ [c]).getD i (0, 0) = κ.getD i (0, 0) := by
        rw [List.getD_eq_getElem?_getD, List.getD_eq_getElem?_getD, List.getElem?_append_left (by omega)]
      rw [eg]
      constructor
      · rw [rI_wI, if_neg (by omega), rI_wI, if_neg (by omega), rI_wI, if_neg (by omega)]
        exact (h5.2 i (by omega)).1
      · rw [rI_wI, if_neg (by omega), rI_wI, if_neg (by omega), rI_wI, if_neg (by omega)]
        exact (h5.2 i (by omega)).2
theorem em_FS {f n : Nat} (h : FSx μ k c0 f n) (o a : Int32) : FSx (em μ (c0 + n) o a) k c0 f (n + 1) := by
  obtain ⟨h1, h2, h3, h4, h5, h6, h7⟩ := h
  have hP := em_PF (c0 := c0) (n := n) μ o a
  refine ⟨h1, PFr_MC hP h2, by rw [em_o _ _ _ (by decide)]; exact h3, by rw [em_o _ _ _ (by decide)]; exact h4, h5, h6, ?_⟩
  unfold em
  rw [rI_wI, if_pos ⟨rfl, rfl⟩]
  rfl
theorem c144f {f n : Nat} (hS : FSx μ k c0 f n) {x : Int32} : ∃ ν, PFr c0 μ ν ∧ FSx ν k c0 f n ∧ ∀ Q, R (d + 1) 144 0 [some (.ref 110000011), some (.int x), none] [] μ Q = Q (some (.int (nI 0))) ν := by
  obtain ⟨h1, h2, h3, h4, h5, h6, h7⟩ := hS
  have k1 := c141f (d := d) (x := x) h4 h5 h6
  have hP : PFr c0 μ (wI μ 110000011 7 (rI μ 110000011 7 + nI 0)) := PFr_w c0 μ _ (by omega)
  refine ⟨_, hP, ⟨h1, PFr_MC hP h2, by rw [rI_wI, if_neg (by decide)]; exact h3, by rw [rI_wI, if_neg (by decide)]; exact h4, h5, h6, by rw [rI_wI, if_neg (by decide)]; exact h7⟩, fun Q => ?_⟩
  simp (disch := first | assumption | omega) only [r144_0, r144_1, r144_2, r144_5, r144_6, r144_7, r144_7i, r144_8, r144_11, j144_12, r144_15, r144_16, r144_19, r144_20, r144_21, r144_24, r144_25, rI_wI, rL_wL, rR_wR, rI_wL, rI_wR, rL_wI, rL_wR, rR_wI, rR_wL, va_rf_some, va_rf_none, Option.toList_some, Option.toList_none, List.nil_append, List.cons_append, true_and, and_true, false_and, and_false, and_self, if_true, if_false, not_true_eq_false, not_false_eq_true, or_false, false_or, or_true, true_or, or_self, ite_true, ite_false, Option.some.injEq, reduceCtorEq, Nat.reduceMod, Nat.reduceDiv, Nat.reduceLeDiff, Nat.reduceEqDiff, Nat.reduceAdd, Nat.reduceMul, Nat.reduceSub, Nat.reduceLT, sw_nil, sw_int, sw_long, sw_ref, li, lo, nI_m1, ng_eq, nn_eq, en_eq, ng_le, ng_lt, Int32.neg_neg, nI_add, pk_mul, nI_clampO, nI_ltO, nI_leO, nI_eqO, nI_subO, nle_t, nle_f, nlt_t, nlt_f, neq_f, k1]
/-- a fault here -/
theorem flt_FS (hS : SX μ k c0 T κ) {e : Nat} (he : 1 ≤ e) (he5 : e ≤ 5) : FSx (wI μ 110000011 8 (nI (flT e T))) k c0 (flT e T) κ.length := by
  obtain ⟨h1, h2, h3, h4, h5⟩ := hS
  have hP : PFr c0 μ (wI μ 110000011 8 (nI (flT e T))) := PFr_w c0 μ _ (by omega)
  have hb := flT_b h4.1 he5
  refine ⟨h1, PFr_MC hP h2, by rw [rI_wI, if_neg (by decide)]; exact h3, by rw [rI_wI, if_pos ⟨rfl, rfl⟩], by unfold flT ftk; omega, by omega, by rw [rI_wI, if_neg (by decide)]; exact h5.1⟩
end T1
