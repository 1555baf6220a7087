/-! HOW THE REFERENCE'S MEMORY TELLS WHAT STANDS -/
def mwL : List Nat := [17848, 43883346, 1014885, 716109, 12185822, 975695, 979184, 426207, 1025867, 22569601, 812168, 45076382804, 305743, 12177793, 37895960, 822891, 38572112, 30596128, 4003626, 1118949875, 26332, 1355799344, 172942, 19741, 1891, 573, 989988, 811933]
def mfL : List Nat := [26, 3, 5, 6, 27]
def MK (μ : PM) (s : Nat → Nat) (un : List (Nat → Nat)) (mk : Nat → Option (Nat → Nat)) : Prop := ∃ sd, MS μ sd ∧ sd 0 = s ∧ (∀ i, i < un.length → sd (5 + i) = un.getD (un.length - 1 - i) (fun _ => 0)) ∧ ∀ m, m < 4 → (mk m = none → rI μ 125000423 m = nI 0) ∧ ∀ t, mk m = some t → rI μ 125000423 m = nI 1 ∧ sd (1 + m) = t
def MC (μ : PM) : Prop := (∀ k, k < 28 → rL μ 115002821 k = lN (mwL.getD k 0)) ∧ ∀ k, k < 5 → rI μ 121000520 k = nI (mfL.getD k 0)
def MT (μ : PM) (tp : List Nat) : Prop := rI μ 110000011 2 = nI tp.length ∧ ∀ i, i < tp.length → rI μ 111100020 i = nI (tp.getD i 0)
def MH (μ : PM) (pa : Nat → Nat) (lw : LW) (s : Nat → Nat) (un : List (Nat → Nat)) (mk : Nat → Option (Nat → Nat)) (tp : List Nat) : Prop :=
  FX μ ∧ MP μ pa ∧ ML μ lw ∧ MK μ s un mk ∧ rI μ 110000011 24 = nI un.length ∧ MT μ tp ∧ MC μ
/-- what a question never touches -/
def mp (a j : Nat) : Prop := a < 110000000 ∨ (a = 110000011 ∧ (j = 2 ∨ j = 24)) ∨ a = 111100020 ∨ a = 116018820 ∨ a = 117220020 ∨ a = 118220020 ∨ a = 121000520 ∨ a = 124025020 ∨ a = 125000423
def MSc (μ ν : PM) : Prop := (∀ a j, mp a j → rI ν a j = rI μ a j) ∧ (∀ a j, a < 110000000 ∨ a = 115002821 → rL ν a j = rL μ a j) ∧ (∀ a j, rR ν a j = rR μ a j) ∧ aS ν = aS μ
theorem MSc_rf (μ : PM) : MSc μ μ := ⟨fun _ _ _ => rfl, fun _ _ _ => rfl, fun _ _ => rfl, rfl⟩
theorem MSc_tr {μ ν ρ : PM} (h : MSc μ ν) (k : MSc ν ρ) : MSc μ ρ := ⟨fun a j q => (k.1 a j q).trans (h.1 a j q), fun a j q => (k.2.1 a j q).trans (h.2.1 a j q), fun a j => (k.2.2.1 a j).trans (h.2.2.1 a j), k.2.2.2.trans h.2.2.2⟩
theorem MSc_wI (μ : PM) {a j : Nat} (x : Int32) (h : ¬ mp a j) : MSc μ (wI μ a j x) := ⟨fun b k q => by rw [rI_wI, if_neg (fun e => h (by rw [e.1, e.2]; exact q))], fun _ _ _ => rfl, fun _ _ => rfl, rfl⟩
theorem MSc_wA (μ : PM) {a : Nat} (f : Nat → Int32) (h : ∀ j, ¬ mp a j) : MSc μ (wA μ a f) := ⟨fun b k q => by rw [rI_wA, if_neg (fun e => h k (by rw [e]; exact q))], fun _ _ _ => rfl, fun _ _ => rfl, rfl⟩
theorem MSc_wL (μ : PM) {a : Nat} (j : Nat) (x : Int64) (h : ¬ (a < 110000000 ∨ a = 115002821)) : MSc μ (wL μ a j x) := ⟨fun _ _ _ => rfl, fun b k q => by rw [rL_wL, if_neg (fun e => h (by rw [e.1]; exact q))], fun _ _ => rfl, rfl⟩
theorem MSc_LE {μ ν : PM} (h : MSc μ ν) : LE μ ν := ⟨fun a j q => ⟨h.1 a j (Or.inl q), h.2.1 a j (Or.inl q), h.2.2.1 a j⟩, h.2.2.2⟩
theorem MSc_FX {μ ν : PM} (h : MSc μ ν) (hF : FX μ) : FX ν := fun q hq => (h.2.2.1 _ _).trans (hF q hq)
theorem MSc_MP {μ ν : PM} {pa : Nat → Nat} (h : MSc μ ν) (hM : MP μ pa) : MP ν pa := fun k h1 h2 => (h.1 _ _ (by unfold mp; omega)).trans (hM k h1 h2)
theorem MSc_ML {μ ν : PM} {lw : LW} (h : MSc μ ν) (hM : ML μ lw) : ML ν lw := by
  have e1 : ∀ j, rI ν 116018820 j = rI μ 116018820 j := fun j => h.1 _ _ (by unfold mp; omega)
  have e2 : ∀ j, rI ν 117220020 j = rI μ 117220020 j := fun j => h.1 _ _ (by unfold mp; omega)
  have e3 : ∀ j, rI ν 118220020 j = rI μ 118220020 j := fun j => h.1 _ _ (by unfold mp; omega)
  unfold ML cdM at hM ⊢
  simpa only [e1, e2, e3] using hM
theorem MSc_MS {μ ν : PM} {sd : Nat → Nat → Nat} (h : MSc μ ν) (hM : MS μ sd) : MS ν sd := by
  have e1 : ∀ j, rI ν 124025020 j = rI μ 124025020 j := fun j => h.1 _ _ (by unfold mp; omega)
  unfold MS at hM ⊢
  simpa only [e1] using hM
theorem MSc_MK {μ ν : PM} {s : Nat → Nat} {un : List (Nat → Nat)} {mk : Nat → Option (Nat → Nat)} (h : MSc μ ν) (hM : MK μ s un mk) : MK ν s un mk := by
  obtain ⟨sd, h1, h2, h3, h4⟩ := hM
  have e1 : ∀ j, rI ν 125000423 j = rI μ 125000423 j := fun j => h.1 _ _ (by unfold mp; omega)
  exact ⟨sd, MSc_MS h h1, h2, h3, fun m hm => by rw [e1]; exact h4 m hm⟩
theorem MSc_MT {μ ν : PM} {tp : List Nat} (h : MSc μ ν) (hM : MT μ tp) : MT ν tp := ⟨(h.1 _ _ (by unfold mp; omega)).trans hM.1, fun i hi => (h.1 _ _ (by unfold mp; omega)).trans (hM.2 i hi)⟩
theorem MSc_MC {μ ν : PM} (h : MSc μ ν) (hM : MC μ) : MC ν := ⟨fun k hk => (h.2.1 _ _ (by omega)).trans (hM.1 k hk), fun i hi => (h.1 _ _ (by unfold mp; omega)).trans (hM.2 i hi)⟩
theorem MSc_MH {μ ν : PM} {pa : Nat → Nat} {lw : LW} {s : Nat → Nat} {un : List (Nat → Nat)} {mk : Nat → Option (Nat → Nat)} {tp : List Nat} (h : MSc μ ν) (hM : MH μ pa lw s un mk tp) : MH ν pa lw s un mk tp := by
  obtain ⟨h1, h2, h3, h4, h5, h6, h7⟩ := hM
  exact ⟨MSc_FX h h1, MSc_MP h h2, MSc_ML h h3, MSc_MK h h4, (h.1 _ _ (by unfold mp; omega)).trans h5, MSc_MT h h6, MSc_MC h h7⟩
/-- all but the stands -/
def MG (μ : PM) (pa : Nat → Nat) (lw : LW) (tp : List Nat) : Prop := FX μ ∧ MP μ pa ∧ ML μ lw ∧ MT μ tp ∧ MC μ
theorem EX_MG {l : List Nat} {μ ν : PM} {pa : Nat → Nat} {lw : LW} {tp : List Nat} (h : EX l μ ν) (h2 : rI ν 110000011 2 = rI μ 110000011 2) (hl : ∀ a, a ∈ l → a = 124025020 ∨ a = 125000423 ∨ a = 110000011) (hM : MG μ pa lw tp) : MG ν pa lw tp := by
  obtain ⟨m1, m2, m3, m4, m5⟩ := hM
  have e : ∀ a j, a ≠ 124025020 → a ≠ 125000423 → a ≠ 110000011 → rI ν a j = rI μ a j := fun a j q1 q2 q3 => EX_I h (fun q => by have := hl a q; omega)
  refine ⟨EX_FX h m1, fun k h1 h2 => (e _ _ (by omega) (by omega) (by omega)).trans (m2 k h1 h2), ?_, ⟨h2.trans m4.1, fun i hi => (e _ _ (by omega) (by omega) (by omega)).trans (m4.2 i hi)⟩, ⟨fun k hk => (EX_L h).trans (m5.1 k hk), fun i hi => (e _ _ (by omega) (by omega) (by omega)).trans (m5.2 i hi)⟩⟩
  unfold ML cdM at m3 ⊢
  simpa (disch := omega) only [e] using m3
def cpS (sd : Nat → Nat → Nat) (f t : Nat) : Nat → Nat → Nat := fun j => if j = t then sd f else sd j
section T1
variable {d : Nat} {μ : PM} {Q : Option Value → PM → Prop} {pa : Nat → Nat} {lw : LW} {s : Nat → Nat} {un : List (Nat → Nat)} {mk : Nat → Option (Nat → Nat)} {tp : List Nat} {sd : Nat → Nat → Nat}
theorem c172_l (hF : FX μ) {f t : Nat} (hf : f < 25) (ht : t < 25) (hft : f ≠ t) : ∀ (r k : Nat) (g : Nat → Int32), k + r = 10 → ∃ g' : Nat → Int32, (∀ i, k ≤ i → i < 10 → g' (10 * t + i) = g (10 * f + i)) ∧ (∀ j, ¬ (10 * t + k ≤ j ∧ j < 10 * t + 10) → g' j = g j) ∧ ∀ Q, R d 172 2 [some (.ref 110000011), some (.int (nI f)), some (.int (nI t)), some (.int (nI k))] [] (wA μ 124025020 g) Q = Q none (wA μ 124025020 g') := by
  intro r
  induction r with
  | zero =>
    intro k g hk
    refine ⟨g, fun i h1 h2 => by omega, fun _ _ => rfl, fun Q => ?_⟩
    rw [r172_2]
    simp (disch := first | assumption | omega) only [r172_0, r172_1, r172_3, r172_5, r172_8, r172_9, r172_12, r172_14, r172_15, r172_16, r172_17, r172_18, r172_19, r172_22, r172_24, r172_25, r172_26, r172_27, r172_28, r172_29, r172_30, r172_33, r172_36, rI_wI, rL_wL, rR_wR, rI_wL, rI_wR, rL_wI, rL_wR, rR_wI, rR_wL, va_rf_some, va_rf_none, Option.toList_some, Option.toList_none, List.nil_append, List.cons_append, true_and, and_true, false_and, and_false, and_self, if_true, if_false, not_true_eq_false, not_false_eq_true, or_false, false_or, or_true, true_or, or_self, ite_true, ite_false, Option.some.injEq, reduceCtorEq, Nat.reduceMod, Nat.reduceDiv, Nat.reduceLeDiff, Nat.reduceEqDiff, Nat.reduceAdd, Nat.reduceMul, Nat.reduceSub, Nat.reduceLT, sw_nil, sw_int, sw_long, sw_ref, li, lo, nI_m1, ng_eq, nn_eq, en_eq, ng_le, ng_lt, Int32.neg_neg, nI_add, pk_mul, nI_clampO, nI_ltO, nI_leO, nI_eqO, nI_subO, nle_t, nle_f, nlt_t, nlt_f, neq_f]
  | succ r ih =>
    intro k g hk
    have hF1 : FX (wA μ 124025020 g) := hF
    obtain ⟨g', e1, e2, e3⟩ := ih (k + 1) (upd g (10 * t + k) (g (10 * f + k))) (by omega)
    refine ⟨g', fun i h1 h2 => ?_, fun j hj => ?_, fun Q => ?_⟩
    · by_cases hik : i = k
      · rw [hik, e2 _ (by omega), upd_at, if_pos rfl]
      · rw [e1 i (by omega) h2, upd_at, if_neg (by omega)]
    · rw [e2 j (by omega), upd_at, if_neg (by omega)]
    · rw [r172_2]
      simp (disch := first | assumption | omega) only [r172_0, r172_1, r172_3, r172_5, r172_8, r172_9, r172_12, r172_14, r172_15, r172_16, r172_17, r172_18, r172_19, r172_22, r172_24, r172_25, r172_26, r172_27, r172_28, r172_29, r172_30, r172_33, r172_36, rI_wI, rL_wL, rR_wR, rI_wL, rI_wR, rL_wI, rL_wR, rR_wI, rR_wL, va_rf_some, va_rf_none, Option.toList_some, Option.toList_none, List.nil_append, List.cons_append, true_and, and_true, false_and, and_false, and_self, if_true, if_false, not_true_eq_false, not_false_eq_true, or_false, false_or, or_true, true_or, or_self, ite_true, ite_false, Option.some.injEq, reduceCtorEq, Nat.reduceMod, Nat.reduceDiv, Nat.reduceLeDiff, Nat.reduceEqDiff, Nat.reduceAdd, Nat.reduceMul, Nat.reduceSub, Nat.reduceLT, sw_nil, sw_int, sw_long, sw_ref, li, lo, nI_m1, ng_eq, nn_eq, en_eq, ng_le, ng_lt, Int32.neg_neg, nI_add, pk_mul, nI_clampO, nI_ltO, nI_leO, nI_eqO, nI_subO, nle_t, nle_f, nlt_t, nlt_f, neq_f, fx_2000010_0, fx_2000010_1, fx_2000010_4, fx_2000010_5, fx_2000010_6, fx_2000010_8, fx_2000010_10, fx_2000010_11, fx_2000010_12, fx_2000010_13, fx_2000010_14, fx_2000010_15, fx_2000010_16, fx_2000010_17, fx_2000010_18, fx_3000009_0, fx_5000007_0, fx_5000007_1, fx_5000007_2, fx_5000007_3, fx_7000001_0, fx_11000005_1, fx_11000005_2, fx_11000005_3, fx_11000005_4, fx_11000005_5, fx_11000005_6, fx_11000005_10, fx_11000005_11, fx_11000005_12, fx_20000002_0, fx_20000002_2, fx_20000002_3, fx_20000002_4, fx_25000005_1, fx_25000005_2, fx_25000005_3, fx_25000005_4, fx_25000005_5, fx_25000005_6, fx_25000005_10, fx_25000005_11, fx_25000005_12, fx_34000002_0, fx_34000002_2, fx_34000002_3, fx_34000002_4, fx_39000008_0, fx_41000006_0, fx_42002024_0, fx_42002024_1, fx_42002024_2, fx_42002024_3, fx_42002024_4, fx_42002024_5, fx_42002024_6, fx_42002024_7, fx_42002024_8, fx_42002024_9, fx_42002024_10, fx_42002024_11, fx_42002024_12, fx_42002024_13, fx_42002024_14, fx_42002024_15, fx_42002024_16, fx_42002024_17, fx_42002024_18, fx_42002024_19, fx_43000008_0, fx_45000008_0, fx_47000008_0, fx_49000008_0, fx_51000008_0, fx_53000008_0, fx_55000008_0, fx_57000008_0, fx_59000008_0, fx_61000008_0, fx_63000008_0, fx_65000008_0, fx_67000008_0, fx_69000008_0, fx_71000008_0, fx_73000008_0, fx_75000008_0, fx_77000008_0, fx_79000008_0, fx_81000008_0, fx_83000424_0, fx_83000424_1, fx_83000424_2, fx_83000424_3, fx_85000004_0, fx_85000004_1, fx_85000004_2, fx_85000004_3, fx_85000004_4, fx_85000004_5, fx_85000004_6, fx_85000004_10, fx_102000008_0, fx_104000008_0, fx_106000008_0, fx_108000008_0, fx_110000011_1, fx_110000011_4, fx_110000011_5, fx_110000011_6, fx_110000011_9, fx_110000011_10, fx_110000011_11, fx_110000011_12, fx_110000011_14, fx_110000011_15, fx_110000011_20, fx_110000011_21, fx_110000011_22, fx_110000011_23, fx_110000011_25, fx_110000011_26, fx_110000011_31, fx_110000011_32, fx_110000011_37, fx_110000011_38, fx_110000011_39, fx_110000011_40, rI_wA, rR_wA, wI_wA]
      exact e3 Q
theorem c172 (hF : FX μ) (hS : MS μ sd) {f t : Nat} (hf : f < 25) (ht : t < 25) (hft : f ≠ t) : ∃ g : Nat → Int32, MS (wA μ 124025020 g) (cpS sd f t) ∧ ∀ Q, R d 172 0 [some (.ref 110000011), some (.int (nI f)), some (.int (nI t)), none] [] μ Q = Q none (wA μ 124025020 g) := by
  obtain ⟨g', e1, e2, e3⟩ := c172_l (d := d) hF hf ht hft 10 0 (fun j => rI μ 124025020 j) (by omega)
  refine ⟨g', ⟨fun j k hj hk h8 => ?_, fun j hj => ?_⟩, fun Q => ?_⟩
  · rw [rI_wA, if_pos rfl]
    unfold cpS
    by_cases hjt : j = t
    · rw [if_pos hjt, hjt, e1 k (by omega) hk]; exact hS.1 f k hf hk h8
    · rw [if_neg hjt, e2 _ (by omega)]; exact hS.1 j k hj hk h8
  · rw [rI_wA, if_pos rfl]
    unfold cpS
    by_cases hjt : j = t
    · rw [if_pos hjt, hjt, e1 8 (by omega) (by omega)]; exact hS.2 f hf
    · rw [if_neg hjt, e2 _ (by omega)]; exact hS.2 j hj
  · have := e3 Q
    rw [wA_eta] at this
    simp (disch := first | assumption | omega) only [r172_0, r172_1, rI_wI, rL_wL, rR_wR, rI_wL, rI_wR, rL_wI, rL_wR, rR_wI, rR_wL, va_rf_some, va_rf_none, Option.toList_some, Option.toList_none, List.nil_append, List.cons_append, true_and, and_true, false_and, and_false, and_self, if_true, if_false, not_true_eq_false, not_false_eq_true, or_false, false_or, or_true, true_or, or_self, ite_true, ite_false, Option.some.injEq, reduceCtorEq, Nat.reduceMod, Nat.reduceDiv, Nat.reduceLeDiff, Nat.reduceEqDiff, Nat.reduceAdd, Nat.reduceMul, Nat.reduceSub, Nat.reduceLT, sw_nil, sw_int, sw_long, sw_ref, li, lo, nI_m1, ng_eq, nn_eq, en_eq, ng_le, ng_lt, Int32.neg_neg, nI_add, pk_mul, nI_clampO, nI_ltO, nI_leO, nI_eqO, nI_subO, nle_t, nle_f, nlt_t, nlt_f, neq_f, this]
def shS (sd : Nat → Nat → Nat) (k : Nat) : Nat → Nat → Nat := fun j => if 5 ≤ j ∧ j < 4 + k then sd (j + 1) else sd j
theorem wAwA {μ : PM} {a : Nat} {f g : Nat → Int32} : wA (wA μ a f) a g = wA μ a g := by
  unfold wA
  congr 1
  funext b i
  by_cases h : a = b
  · simp only [if_pos h]
  · simp only [if_neg h]
theorem wA_wI_ne {μ : PM} {a m j : Nat} {f g : Nat → Int32} {x : Int32} (h : a ≠ m) : wA (wI (wA μ a f) m j x) a g = wI (wA μ a g) m j x := by
  unfold wA wI
  congr 1
  funext b i
  by_cases q1 : a = b
  · have q2 : ¬ (m = b ∧ j = i) := fun q => h (q1.trans q.1.symm)
    simp only [if_pos q1, if_neg q2]
  · simp only [if_neg q1]
theorem c173_l (hF : FX μ) (hS : MS μ sd) : ∀ (r k : Nat) (g : Nat → Int32), k + r = 20 → 1 ≤ k → MS (wA μ 124025020 g) (shS sd k) → ∃ g' : Nat → Int32, MS (wA μ 124025020 g') (shS sd 20) ∧ ∀ Q, R (d + 1) 173 11 [some (.ref 110000011), some (.int (nI k))] [] (wA μ 124025020 g) Q = R (d + 1) 173 35 [some (.ref 110000011), some (.int (nI 20))] [] (wA μ 124025020 g') Q := by
  intro r
  induction r with
  | zero =>
    intro k g hk h1 hm
    obtain rfl : k = 20 := by omega
    refine ⟨g, hm, fun Q => ?_⟩
    rw [r173_11]
    simp (disch := first | assumption | omega) only [r173_12, r173_14, rI_wI, rL_wL, rR_wR, rI_wL, rI_wR, rL_wI, rL_wR, rR_wI, rR_wL, va_rf_some, va_rf_none, Option.toList_some, Option.toList_none, List.nil_append, List.cons_append, true_and, and_true, false_and, and_false, and_self, if_true, if_false, not_true_eq_false, not_false_eq_true, or_false, false_or, or_true, true_or, or_self, ite_true, ite_false, Option.some.injEq, reduceCtorEq, Nat.reduceMod, Nat.reduceDiv, Nat.reduceLeDiff, Nat.reduceEqDiff, Nat.reduceAdd, Nat.reduceMul, Nat.reduceSub, Nat.reduceLT, sw_nil, sw_int, sw_long, sw_ref, li, lo, nI_m1, ng_eq, nn_eq, en_eq, ng_le, ng_lt, Int32.neg_neg, nI_add, pk_mul, nI_clampO, nI_ltO, nI_leO, nI_eqO, nI_subO, nle_t, nle_f, nlt_t, nlt_f, neq_f]
  | succ r ih =>
    intro k g hk h1 hm
    obtain ⟨g2, m2, e2⟩ := c172 (d := d) (μ := wA μ 124025020 g) hF hm (f := 5 + k) (t := 5 + k - 1) (by omega) (by omega) (by omega)
    rw [wAwA] at m2 e2
    have es : cpS (shS sd k) (5 + k) (5 + k - 1) = shS sd (k + 1) := by
      funext j
      unfold cpS shS
      by_cases hj : j = 5 + k - 1
      · rw [if_pos hj, if_neg (by omega), if_pos (by omega)]
        congr 1; omega
      · rw [if_neg hj]
        by_cases hq : 5 ≤ j ∧ j < 4 + k
        · rw [if_pos hq, if_pos (by omega)]
        · rw [if_neg hq, if_neg (by omega)]
    rw [es] at m2
    obtain ⟨g', m3, e3⟩ := ih (k + 1) g2 (by omega) (by omega) m2
    refine ⟨g', m3, fun Q => ?_⟩
    rw [r173_11]
    simp (disch := first | assumption | omega) only [r173_12, r173_14, r173_17, r173_18, r173_19, r173_20, r173_21, r173_22, r173_23, r173_24, r173_25, r173_26, r173_29, r173_32, rI_wI, rL_wL, rR_wR, rI_wL, rI_wR, rL_wI, rL_wR, rR_wI, rR_wL, va_rf_some, va_rf_none, Option.toList_some, Option.toList_none, List.nil_append, List.cons_append, true_and, and_true, false_and, and_false, and_self, if_true, if_false, not_true_eq_false, not_false_eq_true, or_false, false_or, or_true, true_or, or_self, ite_true, ite_false, Option.some.injEq, reduceCtorEq, Nat.reduceMod, Nat.reduceDiv, Nat.reduceLeDiff, Nat.reduceEqDiff, Nat.reduceAdd, Nat.reduceMul, Nat.reduceSub, Nat.reduceLT, sw_nil, sw_int, sw_long, sw_ref, li, lo, nI_m1, ng_eq, nn_eq, en_eq, ng_le, ng_lt, Int32.neg_neg, nI_add, pk_mul, nI_clampO, nI_ltO, nI_leO, nI_eqO, nI_subO, nle_t, nle_f, nlt_t, nlt_f, neq_f, e2]
    exact e3 Q
/-- the reference keeps how it stands -/
theorem c173 (hF : FX μ) (hM : MG μ pa lw tp) (hK : MK μ s un mk) (hu : un.length ≤ 20) (h24 : rI μ 110000011 24 = nI un.length) :
    ∃ ν, EX [124025020, 110000011] μ ν ∧ MG ν pa lw tp ∧ MK ν s ((s :: un).take 20) mk ∧ rI ν 110000011 24 = nI ((s :: un).take 20).length ∧ ∀ Q, R (d + 2) 173 0 [some (.ref 110000011), none] [] μ Q = Q none ν := by
  obtain ⟨sd, h1, h2, h3, h4⟩ := hK
  rw [tk_len]
  have fr : ∀ (g : Nat → Int32) (x : Int32), EX [124025020, 110000011] μ (wI (wA μ 124025020 g) 110000011 24 x) := fun g x => EX_tr (EX_wA _ _ _) (EX_wI _ _ _ _)
  have fg : ∀ (g : Nat → Int32) (x : Int32), MG (wI (wA μ 124025020 g) 110000011 24 x) pa lw tp := fun g x => EX_MG (fr g x) (by rw [rI_wI, if_neg (by decide), rI_wA, if_neg (by decide)]) (by intro a ha; simp only [List.mem_cons, List.not_mem_nil, or_false] at ha; omega) hM
  have ms : ∀ (g : Nat → Int32) (x : Int32) (sd' : Nat → Nat → Nat), MS (wA μ 124025020 g) sd' → MS (wI (wA μ 124025020 g) 110000011 24 x) sd' := fun g x sd' q => MS_wI q (by decide)
  by_cases hl : un.length = 20
  · obtain ⟨g1, m1, e1⟩ := c173_l (d := d + 1) hF h1 19 1 (fun j => rI μ 124025020 j) (by omega) (by omega) (by
      rw [wA_eta]
      have : shS sd 1 = sd := by funext j; unfold shS; rw [if_neg (by omega)]
      rw [this]; exact h1)
    rw [wA_eta] at e1
    have m1' := ms g1 (nI 19) _ m1
    have hF1 : FX (wI (wA μ 124025020 g1) 110000011 24 (nI 19)) := hF
    obtain ⟨g2, m2, e2⟩ := c172 (d := d + 1) hF1 m1' (f := 0) (t := 24) (by omega) (by omega) (by omega)
    have ec : wA (wI (wA μ 124025020 g1) 110000011 24 (nI 19)) 124025020 g2 = wI (wA μ 124025020 g2) 110000011 24 (nI 19) := by
      exact wA_wI_ne (by decide)
    rw [ec] at m2 e2
    have m3 : MS (wI (wA μ 124025020 g2) 110000011 24 (nI 20)) (cpS (shS sd 20) 0 24) := by
      refine ⟨fun j k a b c => ?_, fun j a => ?_⟩
      · have := m2.1 j k a b c
        rwa [rI_wI, if_neg (by omega)] at this ⊢
      · have := m2.2 j a
        rwa [rI_wI, if_neg (by omega)] at this ⊢
    refine ⟨wI (wA μ 124025020 g2) 110000011 24 (nI 20), fr _ _, fg _ _, ⟨_, m3, ?_, fun i hi => ?_, fun m hm => ?_⟩, ?_, fun Q => ?_⟩
    · unfold cpS shS; rw [if_neg (by omega), if_neg (by omega)]; exact h2
    · rw [tk_len, if_pos (by omega)] at hi
      rw [tk_len, if_pos (by omega)]
      unfold cpS shS
      by_cases hi2 : i = 19
      · rw [if_pos (by omega), if_neg (by omega), hi2, show 20 - 1 - 19 = 0 by omega, tk_get0]
        exact h2
      · rw [if_neg (by omega), if_pos (by omega), show 5 + i + 1 = 5 + (i + 1) by omega, h3 (i + 1) (by omega), show 20 - 1 - i = (18 - i) + 1 by omega, tk_get un s (by omega)]
        congr 1; omega
    · have q := h4 m hm
      rw [rI_wI, if_neg (by omega), rI_wA, if_neg (by decide)]
      refine ⟨q.1, fun t ht => ⟨(q.2 t ht).1, ?_⟩⟩
      unfold cpS shS
      rw [if_neg (by omega), if_neg (by omega)]
      exact (q.2 t ht).2
    · rw [rI_wI, if_pos ⟨rfl, rfl⟩, if_pos (by omega)]
    · rw [hl] at h24
      simp (disch := first | assumption | omega) only [r173_0, r173_1, r173_4, r173_6, r173_9, r173_10, r173_12, r173_14, r173_17, r173_18, r173_19, r173_20, r173_21, r173_22, r173_23, r173_24, r173_25, r173_26, r173_29, r173_32, r173_35, r173_36, r173_36i, r173_37, r173_40, r173_41, r173_42, r173_45, r173_46, r173_47, r173_48, r173_49, r173_52, r173_53, r173_56, r173_57, r173_57i, r173_58, r173_61, r173_62, r173_63, r173_66, rI_wI, rL_wL, rR_wR, rI_wL, rI_wR, rL_wI, rL_wR, rR_wI, rR_wL, va_rf_some, va_rf_none, Option.toList_some, Option.toList_none, List.nil_append, List.cons_append, true_and, and_true, false_and, and_false, and_self, if_true, if_false, not_true_eq_false, not_false_eq_true, or_false, false_or, or_true, true_or, or_self, ite_true, ite_false, Option.some.injEq, reduceCtorEq, Nat.reduceMod, Nat.reduceDiv, Nat.reduceLeDiff, Nat.reduceEqDiff, Nat.reduceAdd, Nat.reduceMul, Nat.reduceSub, Nat.reduceLT, sw_nil, sw_int, sw_long, sw_ref, li, lo, nI_m1, ng_eq, nn_eq, en_eq, ng_le, ng_lt, Int32.neg_neg, nI_add, pk_mul, nI_clampO, nI_ltO, nI_leO, nI_eqO, nI_subO, nle_t, nle_f, nlt_t, nlt_f, neq_f, h24, e1, rI_wA, e2, wIwI]
  · obtain ⟨g2, m2, e2⟩ := c172 (d := d + 1) hF h1 (f := 0) (t := 5 + un.length) (by omega) (by omega) (by omega)
    have m3 := ms g2 (nI (un.length + 1)) _ m2
    refine ⟨wI (wA μ 124025020 g2) 110000011 24 (nI (un.length + 1)), fr _ _, fg _ _, ⟨_, m3, ?_, fun i hi => ?_, fun m hm => ?_⟩, ?_, fun Q => ?_⟩
    · unfold cpS; rw [if_neg (by omega)]; exact h2
    · rw [tk_len, if_neg (by omega)] at hi
      rw [tk_len, if_neg (by omega)]
      unfold cpS
      by_cases hi2 : i = un.length
      · rw [if_pos (by omega), hi2, show un.length + 1 - 1 - un.length = 0 by omega, tk_get0]
        exact h2
      · rw [if_neg (by omega), h3 i (by omega), show un.length + 1 - 1 - i = (un.length - 1 - i) + 1 by omega, tk_get un s (by omega)]
    · have q := h4 m hm
      rw [rI_wI, if_neg (by omega), rI_wA, if_neg (by decide)]
      refine ⟨q.1, fun t ht => ⟨(q.2 t ht).1, ?_⟩⟩
      unfold cpS
      rw [if_neg (by omega)]
      exact (q.2 t ht).2
    · rw [rI_wI, if_pos ⟨rfl, rfl⟩, if_neg (by omega)]
    · simp (disch := first | assumption | omega) only [r173_0, r173_1, r173_4, r173_6, r173_9, r173_10, r173_12, r173_14, r173_17, r173_18, r173_19, r173_20, r173_21, r173_22, r173_23, r173_24, r173_25, r173_26, r173_29, r173_32, r173_35, r173_36, r173_36i, r173_37, r173_40, r173_41, r173_42, r173_45, r173_46, r173_47, r173_48, r173_49, r173_52, r173_53, r173_56, r173_57, r173_57i, r173_58, r173_61, r173_62, r173_63, r173_66, rI_wI, rL_wL, rR_wR, rI_wL, rI_wR, rL_wI, rL_wR, rR_wI, rR_wL, va_rf_some, va_rf_none, Option.toList_some, Option.toList_none, List.nil_append, List.cons_append, true_and, and_true, false_and, and_false, and_self, if_true, if_false, not_true_eq_false, not_false_eq_true, or_false, false_or, or_true, true_or, or_self, ite_true, ite_false, Option.some.injEq, reduceCtorEq, Nat.reduceMod, Nat.reduceDiv, Nat.reduceLeDiff, Nat.reduceEqDiff, Nat.reduceAdd, Nat.reduceMul, Nat.reduceSub, Nat.reduceLT, sw_nil, sw_int, sw_long, sw_ref, li, lo, nI_m1, ng_eq, nn_eq, en_eq, ng_le, ng_lt, Int32.neg_neg, nI_add, pk_mul, nI_clampO, nI_ltO, nI_leO, nI_eqO, nI_subO, nle_t, nle_f, nlt_t, nlt_f, neq_f, h24, rI_wA, e2]
end T1
