/-! THE REFERENCE LOOKS AT TOKENS -/
def kwU : List (List Nat) := [[13, 1, 14], [23, 15, 13, 1, 14], [20, 1, 12, 12], [14, 5, 3, 11], [6, 18, 21, 9, 20], [19, 9, 26, 5], [19, 12, 9, 16], [8, 15, 12, 4], [20, 9, 13, 5], [12, 1, 21, 7, 8], [16, 1, 9, 18], [17, 21, 1, 18, 18, 5, 12], [6, 1, 12, 12], [6, 18, 15, 14, 20], [20, 8, 5, 18, 5], [16, 9, 3, 11], [20, 21, 18, 14, 19], [16, 12, 1, 9, 14], [2, 5, 1, 18, 4], [16, 5, 1, 18, 12, 19], [19, 8, 25], [19, 20, 15, 15, 16, 19], [3, 15, 12, 4], [14, 15, 20], [1, 14, 4], [15, 18], [19, 20, 5, 16], [16, 1, 3, 5]]
theorem kw_t : ∀ w, w < 28 → b256 (kwU.getD w []) = kwL.getD w 0 ∧ h37 (kwU.getD w []) = mwL.getD w 0 ∧ mwL.getD w 0 < 9223372036854775808 ∧ ∀ c, c ∈ kwU.getD w [] → 1 ≤ c ∧ c ≤ 26 := by decide
theorem kw_d : ∀ i, i < 28 → ∀ j, j < 28 → kwL.getD i 0 = kwL.getD j 0 → i = j := by decide +kernel
def hrv (m o : Nat) : List Nat → Nat
  | [] => 0
  | c :: t => m * hrv m o t + (c + o)
theorem hrv_e (m o : Nat) (u : List Nat) : u.foldl (fun x c => m * x + (c + o)) 0 = hrv m o u.reverse := by
  have : ∀ v : List Nat, v.reverse.foldl (fun x c => m * x + (c + o)) 0 = hrv m o v := by
    intro v
    rw [List.foldl_reverse]
    induction v with
    | nil => rfl
    | cons c v ih =>
      show m * _ + (c + o) = m * hrv m o v + (c + o)
      rw [← ih]
  rw [← this u.reverse, List.reverse_reverse]
theorem mul_dig {m x y a b : Nat} (ha : 1 ≤ a) (hb : 1 ≤ b) (ham : a < m) (hbm : b < m) (h : m * x + a = m * y + b) : x = y ∧ a = b := by
  have e1 : (m * x + a) / m = x := by rw [Nat.mul_add_div (by omega), Nat.div_eq_of_lt ham, Nat.add_zero]
  have e2 : (m * y + b) / m = y := by rw [Nat.mul_add_div (by omega), Nat.div_eq_of_lt hbm, Nat.add_zero]
  have exy : x = y := by rw [← e1, ← e2, h]
  subst exy
  exact ⟨rfl, by omega⟩
theorem hrv_inj (m o : Nat) (hm : 27 + o ≤ m) : ∀ {l l' : List Nat}, (∀ c, c ∈ l → 1 ≤ c ∧ c ≤ 26) → (∀ c, c ∈ l' → 1 ≤ c ∧ c ≤ 26) → hrv m o l = hrv m o l' → l = l' := by
  intro l
  induction l with
  | nil =>
    intro l' _ h' e
    cases l' with
    | nil => rfl
    | cons c t => have := h' c List.mem_cons_self; have e' : 0 = m * hrv m o t + (c + o) := e; omega
  | cons c t ih =>
    intro l' h h' e
    have hc := h c List.mem_cons_self
    cases l' with
    | nil => have e' : m * hrv m o t + (c + o) = 0 := e; omega
    | cons c' t' =>
      have hc' := h' c' List.mem_cons_self
      have e' : m * hrv m o t + (c + o) = m * hrv m o t' + (c' + o) := e
      obtain ⟨q1, q2⟩ := mul_dig (by omega) (by omega) (by omega) (by omega) e'
      rw [show c = c' by omega, ih (fun x hx => h x (List.mem_cons_of_mem _ hx)) (fun x hx => h' x (List.mem_cons_of_mem _ hx)) q1]
def ltr (u : List Nat) : Prop := ∀ c, c ∈ u → 1 ≤ c ∧ c ≤ 26
theorem ltr_r {u : List Nat} (h : ltr u) : ∀ c, c ∈ u.reverse → 1 ≤ c ∧ c ≤ 26 := fun c hc => h c (List.mem_reverse.mp hc)
theorem h37_inj {u v : List Nat} (hu : ltr u) (hv : ltr v) (h : h37 u = h37 v) : u = v := by
  have e1 : h37 u = hrv 37 0 u.reverse := hrv_e 37 0 u
  have e2 : h37 v = hrv 37 0 v.reverse := hrv_e 37 0 v
  rw [e1, e2] at h
  exact List.reverse_inj.mp (hrv_inj 37 0 (by omega) (ltr_r hu) (ltr_r hv) h)
theorem b256_inj {u v : List Nat} (hu : ltr u) (hv : ltr v) (h : b256 u = b256 v) : u = v := by
  have e1 : b256 u = hrv 256 96 u.reverse := hrv_e 256 96 u
  have e2 : b256 v = hrv 256 96 v.reverse := hrv_e 256 96 v
  rw [e1, e2] at h
  exact List.reverse_inj.mp (hrv_inj 256 96 (by omega) (ltr_r hu) (ltr_r hv) h)
theorem kwS_1 (v : Nat) : ∀ r i w, i + r = 28 → kwS v r i = w → w < 28 → kwL.getD w 0 = v := by
  intro r
  induction r with
  | zero => intro i w _ e h; have : 28 = w := e; omega
  | succ r ih =>
    intro i w hi e h
    rw [kwS] at e
    split at e
    · rename_i q; rw [← e]; exact q
    · exact ih (i + 1) w (by omega) e h
theorem kwS_2 (v w : Nat) (hw : w < 28) (hv : kwL.getD w 0 = v) : ∀ r i, i + r = 28 → i ≤ w → kwS v r i = w := by
  intro r
  induction r with
  | zero => intro i hi h; omega
  | succ r ih =>
    intro i hi h
    rw [kwS]
    split
    · rename_i q
      exact kw_d i (by omega) w hw (q.trans hv.symm)
    · rename_i q
      have : i ≠ w := fun e => q (by rw [e]; exact hv)
      exact ih (i + 1) (by omega) (by omega)
theorem kw_iff {u : List Nat} (hu : ltr u) {w : Nat} (hw : w < 28) : h37 u = mwL.getD w 0 ↔ kwS (b256 u) 28 0 = w := by
  obtain ⟨k1, k2, -, k3⟩ := kw_t w hw
  constructor
  · intro h
    have : u = kwU.getD w [] := h37_inj hu k3 (h.trans k2.symm)
    exact kwS_2 _ w hw (by rw [this, k1]) 28 0 (by omega) (by omega)
  · intro h
    have := kwS_1 (b256 u) 28 0 w (by omega) h hw
    have e : u = kwU.getD w [] := b256_inj hu k3 (this.symm.trans k1.symm)
    rw [e, k2]
theorem h37_b {u : List Nat} (hu : ltr u) (hl : u.length ≤ 8) : h37 u < 9223372036854775808 := by
  have key : ∀ v : List Nat, (∀ c, c ∈ v → 1 ≤ c ∧ c ≤ 26) → hrv 37 0 v < 37 ^ v.length := by
    intro v
    induction v with
    | nil => intro _; decide
    | cons c v ih =>
      intro h
      have h1 := h c List.mem_cons_self
      have h2 := ih (fun x hx => h x (List.mem_cons_of_mem _ hx))
      show 37 * hrv 37 0 v + (c + 0) < 37 ^ (v.length + 1)
      rw [Nat.pow_succ]
      omega
  have e1 : h37 u = hrv 37 0 u.reverse := hrv_e 37 0 u
  have k := key u.reverse (ltr_r hu)
  rw [List.length_reverse] at k
  rw [e1]
  exact Nat.lt_of_lt_of_le k (Nat.le_trans (Nat.pow_le_pow_right (n := 37) (by omega) hl) (by decide))
/-- what is sure of a token -/
def okK (t : Tok) : Prop := t.2.1 < 128 ∧ t.1 ≤ 1000 ∧ (t.2.1 ≤ 28 → ltr t.2.2.1 ∧ t.2.2.1.length ≤ 8 ∧ t.2.1 = kwS (b256 t.2.2.1) 28 0) ∧ (t.2.1 = 29 → n10 t.2.2.1 < 10000)
def hdT (T : List Tok) : Tok := T.headD (0, 30, [], 0)
/-- an end stands behind all -/
def enT9 : List Tok → Prop
  | [] => False
  | t :: T => if t.2.1 = 30 then T = [] else enT9 T
/-- the reference stands at the first of these -/
def RT (μ : PM) (T : List Tok) : Prop := enT9 T ∧ (∀ t, t ∈ T → okK t) ∧ ∃ i, i + T.length ≤ 1002 ∧ rI μ 110000011 7 = nI i ∧ RQ μ T i
def RX (μ : PM) (T : List Tok) : Prop := RT μ T ∧ rI μ 110000011 8 = nI 0
def flT (k : Nat) (T : List Tok) : Nat := ftk k (hdT T)
section T1
variable {d : Nat} {μ : PM} {T : List Tok}
theorem RT_h (h : RT μ T) : okK (hdT T) ∧ ∃ i, i < 1002 ∧ rI μ 110000011 7 = nI i ∧ rq1 μ (hdT T) i := by
  obtain ⟨h1, h2, i, h3, h4, h5⟩ := h
  cases T with
  | nil => exact h1.elim
  | cons t T =>
    refine ⟨h2 t List.mem_cons_self, i, by simp at h3; omega, h4, ?_⟩
    have := h5 0 (by simp)
    rw [Nat.add_zero] at this
    exact this
theorem RT_n {t : Tok} (h : RT μ (t :: T)) (hT : t.2.1 ≠ 30) {ν : PM} (h7 : ∀ i, rI μ 110000011 7 = nI i → rI ν 110000011 7 = nI (i + 1)) (hq : ∀ j, rI ν 112100220 j = rI μ 112100220 j ∧ rI ν 113100220 j = rI μ 113100220 j ∧ rL ν 114100221 j = rL μ 114100221 j) : RT ν T := by
  obtain ⟨h1, h2, i, h3, h4, h5⟩ := h
  have hT' : enT9 T := by
    have h1' : (if t.2.1 = 30 then T = [] else enT9 T) := h1
    rw [if_neg hT] at h1'
    exact h1'
  refine ⟨hT', fun t' ht => h2 t' (List.mem_cons_of_mem _ ht), i + 1, by simp at h3; omega, h7 i h4, fun j hj => ?_⟩
  have := h5 (j + 1) (by simp; omega)
  obtain ⟨a1, a2, a3⟩ := hq (i + 1 + j)
  refine rq1_c a1 a2 a3 ?_
  rw [show i + 1 + j = i + (j + 1) by omega]
  exact this
theorem RT_s {ν : PM} (h : RT μ T) (h7 : rI ν 110000011 7 = rI μ 110000011 7) (hq : ∀ j, rI ν 112100220 j = rI μ 112100220 j ∧ rI ν 113100220 j = rI μ 113100220 j ∧ rL ν 114100221 j = rL μ 114100221 j) : RT ν T := by
  obtain ⟨h1, h2, i, h3, h4, h5⟩ := h
  exact ⟨h1, h2, i, h3, h7.trans h4, fun j hj => by obtain ⟨a1, a2, a3⟩ := hq (i + j); exact rq1_c a1 a2 a3 (h5 j hj)⟩
theorem flT_b (h : RT μ T) {k : Nat} (hk : k ≤ 5) : flT k T ≤ 16005 := by
  have := (RT_h h).1.2.1
  unfold flT ftk
  omega
theorem c140 (hF : FX μ) (h : RX μ T) {k : Nat} (hk : k ≤ 5) : ∀ Q, R d 140 0 [some (.ref 110000011), some (.int (nI k))] [] μ Q = Q none (wI μ 110000011 8 (nI (flT k T))) := by
  intro Q
  obtain ⟨ok, i, h1, h2, h3⟩ := RT_h h.1
  have h8 := h.2
  have hp := h3.2.1
  have hb := ok.2.1
  unfold flT ftk
  simp (disch := first | assumption | omega) only [r140_0, r140_1, r140_4, r140_7, r140_8, r140_9, r140_11, r140_12, r140_15, r140_16, r140_19, r140_20, r140_21, r140_22, r140_25, rI_wI, rL_wL, rR_wR, rI_wL, rI_wR, rL_wI, rL_wR, rR_wI, rR_wL, va_rf_some, va_rf_none, Option.toList_some, Option.toList_none, List.nil_append, List.cons_append, true_and, and_true, false_and, and_false, and_self, if_true, if_false, not_true_eq_false, not_false_eq_true, or_false, false_or, or_true, true_or, or_self, ite_true, ite_false, Option.some.injEq, reduceCtorEq, Nat.reduceMod, Nat.reduceDiv, Nat.reduceLeDiff, Nat.reduceEqDiff, Nat.reduceAdd, Nat.reduceMul, Nat.reduceSub, Nat.reduceLT, sw_nil, sw_int, sw_long, sw_ref, li, lo, nI_m1, ng_eq, nn_eq, en_eq, ng_le, ng_lt, Int32.neg_neg, nI_add, pk_mul, nI_clampO, nI_ltO, nI_leO, nI_eqO, nI_subO, nle_t, nle_f, nlt_t, nlt_f, neq_f, fx_2000010_0, fx_2000010_1, fx_2000010_4, fx_2000010_5, fx_2000010_6, fx_2000010_8, fx_2000010_10, fx_2000010_11, fx_2000010_12, fx_2000010_13, fx_2000010_14, fx_2000010_15, fx_2000010_16, fx_2000010_17, fx_2000010_18, fx_3000009_0, fx_5000007_0, fx_5000007_1, fx_5000007_2, fx_5000007_3, fx_7000001_0, fx_11000005_1, fx_11000005_2, fx_11000005_3, fx_11000005_4, fx_11000005_5, fx_11000005_6, fx_11000005_10, fx_11000005_11, fx_11000005_12, fx_20000002_0, fx_20000002_2, fx_20000002_3, fx_20000002_4, fx_25000005_1, fx_25000005_2, fx_25000005_3, fx_25000005_4, fx_25000005_5, fx_25000005_6, fx_25000005_10, fx_25000005_11, fx_25000005_12, fx_34000002_0, fx_34000002_2, fx_34000002_3, fx_34000002_4, fx_39000008_0, fx_41000006_0, fx_42002024_0, fx_42002024_1, fx_42002024_2, fx_42002024_3, fx_42002024_4, fx_42002024_5, fx_42002024_6, fx_42002024_7, fx_42002024_8, fx_42002024_9, fx_42002024_10, fx_42002024_11, fx_42002024_12, fx_42002024_13, fx_42002024_14, fx_42002024_15, fx_42002024_16, fx_42002024_17, fx_42002024_18, fx_42002024_19, fx_43000008_0, fx_45000008_0, fx_47000008_0, fx_49000008_0, fx_51000008_0, fx_53000008_0, fx_55000008_0, fx_57000008_0, fx_59000008_0, fx_61000008_0, fx_63000008_0, fx_65000008_0, fx_67000008_0, fx_69000008_0, fx_71000008_0, fx_73000008_0, fx_75000008_0, fx_77000008_0, fx_79000008_0, fx_81000008_0, fx_83000424_0, fx_83000424_1, fx_83000424_2, fx_83000424_3, fx_85000004_0, fx_85000004_1, fx_85000004_2, fx_85000004_3, fx_85000004_4, fx_85000004_5, fx_85000004_6, fx_85000004_10, fx_102000008_0, fx_104000008_0, fx_106000008_0, fx_108000008_0, fx_110000011_1, fx_110000011_4, fx_110000011_5, fx_110000011_6, fx_110000011_9, fx_110000011_10, fx_110000011_11, fx_110000011_12, fx_110000011_14, fx_110000011_15, fx_110000011_20, fx_110000011_21, fx_110000011_22, fx_110000011_23, fx_110000011_25, fx_110000011_26, fx_110000011_31, fx_110000011_32, fx_110000011_37, fx_110000011_38, fx_110000011_39, fx_110000011_40, h8, h2, hp]
theorem c140f {f : Nat} (h8 : rI μ 110000011 8 = nI f) (hf : 1 ≤ f) (hf2 : f < 100000) {x : Int32} : ∀ Q, R d 140 0 [some (.ref 110000011), some (.int x)] [] μ Q = Q none μ := by
  intro Q
  simp (disch := first | assumption | omega) only [r140_0, r140_1, r140_4, r140_7, r140_8, r140_9, r140_11, r140_12, r140_15, r140_16, r140_19, r140_20, r140_21, r140_22, r140_25, rI_wI, rL_wL, rR_wR, rI_wL, rI_wR, rL_wI, rL_wR, rR_wI, rR_wL, va_rf_some, va_rf_none, Option.toList_some, Option.toList_none, List.nil_append, List.cons_append, true_and, and_true, false_and, and_false, and_self, if_true, if_false, not_true_eq_false, not_false_eq_true, or_false, false_or, or_true, true_or, or_self, ite_true, ite_false, Option.some.injEq, reduceCtorEq, Nat.reduceMod, Nat.reduceDiv, Nat.reduceLeDiff, Nat.reduceEqDiff, Nat.reduceAdd, Nat.reduceMul, Nat.reduceSub, Nat.reduceLT, sw_nil, sw_int, sw_long, sw_ref, li, lo, nI_m1, ng_eq, nn_eq, en_eq, ng_le, ng_lt, Int32.neg_neg, nI_add, pk_mul, nI_clampO, nI_ltO, nI_leO, nI_eqO, nI_subO, nle_t, nle_f, nlt_t, nlt_f, neq_f, h8]
theorem c141 (hF : FX μ) (h : RX μ T) {c : Nat} (hc : 32 ≤ c) (hc2 : c < 128) : ∀ Q, R d 141 0 [some (.ref 110000011), some (.int (nI c))] [] μ Q = Q (some (.int (nI (if (hdT T).2.1 = c then 1 else 0)))) μ := by
  intro Q
  obtain ⟨ok, i, h1, h2, h3⟩ := RT_h h.1
  have h8 := h.2
  have hs := h3.1
  have hb := ok.1
  unfold srt at hs
  by_cases e : 32 ≤ (hdT T).2.1
  · have hv := h3.2.2.2.2 e
    rw [if_neg (by omega), if_neg (by omega), if_neg (by omega), if_neg (by omega)] at hs
    by_cases e2 : (hdT T).2.1 = c
    · rw [if_pos e2]
      rw [e2] at hv
      simp (disch := first | assumption | omega) only [r141_0, r141_1, r141_4, r141_7, r141_8, r141_11, r141_12, r141_15, r141_16, r141_17, r141_20, r141_21, r141_24, r141_25, r141_28, r141_29, r141_30, r141_31, j141_32, r141_35, r141_36, r141_39, r141_40, rI_wI, rL_wL, rR_wR, rI_wL, rI_wR, rL_wI, rL_wR, rR_wI, rR_wL, va_rf_some, va_rf_none, Option.toList_some, Option.toList_none, List.nil_append, List.cons_append, true_and, and_true, false_and, and_false, and_self, if_true, if_false, not_true_eq_false, not_false_eq_true, or_false, false_or, or_true, true_or, or_self, ite_true, ite_false, Option.some.injEq, reduceCtorEq, Nat.reduceMod, Nat.reduceDiv, Nat.reduceLeDiff, Nat.reduceEqDiff, Nat.reduceAdd, Nat.reduceMul, Nat.reduceSub, Nat.reduceLT, sw_nil, sw_int, sw_long, sw_ref, li, lo, nI_m1, ng_eq, nn_eq, en_eq, ng_le, ng_lt, Int32.neg_neg, nI_add, pk_mul, nI_clampO, nI_ltO, nI_leO, nI_eqO, nI_subO, nle_t, nle_f, nlt_t, nlt_f, neq_f, fx_2000010_0, fx_2000010_1, fx_2000010_4, fx_2000010_5, fx_2000010_6, fx_2000010_8, fx_2000010_10, fx_2000010_11, fx_2000010_12, fx_2000010_13, fx_2000010_14, fx_2000010_15, fx_2000010_16, fx_2000010_17, fx_2000010_18, fx_3000009_0, fx_5000007_0, fx_5000007_1, fx_5000007_2, fx_5000007_3, fx_7000001_0, fx_11000005_1, fx_11000005_2, fx_11000005_3, fx_11000005_4, fx_11000005_5, fx_11000005_6, fx_11000005_10, fx_11000005_11, fx_11000005_12, fx_20000002_0, fx_20000002_2, fx_20000002_3, fx_20000002_4, fx_25000005_1, fx_25000005_2, fx_25000005_3, fx_25000005_4, fx_25000005_5, fx_25000005_6, fx_25000005_10, fx_25000005_11, fx_25000005_12, fx_34000002_0, fx_34000002_2, fx_34000002_3, fx_34000002_4, fx_39000008_0, fx_41000006_0, fx_42002024_0, fx_42002024_1, fx_42002024_2, fx_42002024_3, fx_42002024_4, fx_42002024_5, fx_42002024_6, fx_42002024_7, fx_42002024_8, fx_42002024_9, fx_42002024_10, fx_42002024_11, fx_42002024_12, fx_42002024_13, fx_42002024_14, fx_42002024_15, fx_42002024_16, fx_42002024_17, fx_42002024_18, fx_42002024_19, fx_43000008_0, fx_45000008_0, fx_47000008_0, fx_49000008_0, fx_51000008_0, fx_53000008_0, fx_55000008_0, fx_57000008_0, fx_59000008_0, fx_61000008_0, fx_63000008_0, fx_65000008_0, fx_67000008_0, fx_69000008_0, fx_71000008_0, fx_73000008_0, fx_75000008_0, fx_77000008_0, fx_79000008_0, fx_81000008_0, fx_83000424_0, fx_83000424_1, fx_83000424_2, fx_83000424_3, fx_85000004_0, fx_85000004_1, fx_85000004_2, fx_85000004_3, fx_85000004_4, fx_85000004_5, fx_85000004_6, fx_85000004_10, fx_102000008_0, fx_104000008_0, fx_106000008_0, fx_108000008_0, fx_110000011_1, fx_110000011_4, fx_110000011_5, fx_110000011_6, fx_110000011_9, fx_110000011_10, fx_110000011_11, fx_110000011_12, fx_110000011_14, fx_110000011_15, fx_110000011_20, fx_110000011_21, fx_110000011_22, fx_110000011_23, fx_110000011_25, fx_110000011_26, fx_110000011_31, fx_110000011_32, fx_110000011_37, fx_110000011_38, fx_110000011_39, fx_110000011_40, h8, h2, hs, hv, nI_l, cmp_0]
    · rw [if_neg e2]
      simp (disch := first | assumption | omega) only [r141_0, r141_1, r141_4, r141_7, r141_8, r141_11, r141_12, r141_15, r141_16, r141_17, r141_20, r141_21, r141_24, r141_25, r141_28, r141_29, r141_30, r141_31, j141_32, r141_35, r141_36, r141_39, r141_40, rI_wI, rL_wL, rR_wR, rI_wL, rI_wR, rL_wI, rL_wR, rR_wI, rR_wL, va_rf_some, va_rf_none, Option.toList_some, Option.toList_none, List.nil_append, List.cons_append, true_and, and_true, false_and, and_false, and_self, if_true, if_false, not_true_eq_false, not_false_eq_true, or_false, false_or, or_true, true_or, or_self, ite_true, ite_false, Option.some.injEq, reduceCtorEq, Nat.reduceMod, Nat.reduceDiv, Nat.reduceLeDiff, Nat.reduceEqDiff, Nat.reduceAdd, Nat.reduceMul, Nat.reduceSub, Nat.reduceLT, sw_nil, sw_int, sw_long, sw_ref, li, lo, nI_m1, ng_eq, nn_eq, en_eq, ng_le, ng_lt, Int32.neg_neg, nI_add, pk_mul, nI_clampO, nI_ltO, nI_leO, nI_eqO, nI_subO, nle_t, nle_f, nlt_t, nlt_f, neq_f, fx_2000010_0, fx_2000010_1, fx_2000010_4, fx_2000010_5, fx_2000010_6, fx_2000010_8, fx_2000010_10, fx_2000010_11, fx_2000010_12, fx_2000010_13, fx_2000010_14, fx_2000010_15, fx_2000010_16, fx_2000010_17, fx_2000010_18, fx_3000009_0, fx_5000007_0, fx_5000007_1, fx_5000007_2, fx_5000007_3, fx_7000001_0, fx_11000005_1, fx_11000005_2, fx_11000005_3, fx_11000005_4, fx_11000005_5, fx_11000005_6, fx_11000005_10, fx_11000005_11, fx_11000005_12, fx_20000002_0, fx_20000002_2, fx_20000002_3, fx_20000002_4, fx_25000005_1, fx_25000005_2, fx_25000005_3, fx_25000005_4, fx_25000005_5, fx_25000005_6, fx_25000005_10, fx_25000005_11, fx_25000005_12, fx_34000002_0, fx_34000002_2, fx_34000002_3, fx_34000002_4, fx_39000008_0, fx_41000006_0, fx_42002024_0, fx_42002024_1, fx_42002024_2, fx_42002024_3, fx_42002024_4, fx_42002024_5, fx_42002024_6, fx_42002024_7, fx_42002024_8, fx_42002024_9, fx_42002024_10, fx_42002024_11, fx_42002024_12, fx_42002024_13, fx_42002024_14, fx_42002024_15, fx_42002024_16, fx_42002024_17, fx_42002024_18, fx_42002024_19, fx_43000008_0, fx_45000008_0, fx_47000008_0, fx_49000008_0, fx_51000008_0, fx_53000008_0, fx_55000008_0, fx_57000008_0, fx_59000008_0, fx_61000008_0, fx_63000008_0, fx_65000008_0, fx_67000008_0, fx_69000008_0, fx_71000008_0, fx_73000008_0, fx_75000008_0, fx_77000008_0, fx_79000008_0, fx_81000008_0, fx_83000424_0, fx_83000424_1, fx_83000424_2, fx_83000424_3, fx_85000004_0, fx_85000004_1, fx_85000004_2, fx_85000004_3, fx_85000004_4, fx_85000004_5, fx_85000004_6, fx_85000004_10, fx_102000008_0, fx_104000008_0, fx_106000008_0, fx_108000008_0, fx_110000011_1, fx_110000011_4, fx_110000011_5, fx_110000011_6, fx_110000011_9, fx_110000011_10, fx_110000011_11, fx_110000011_12, fx_110000011_14, fx_110000011_15, fx_110000011_20, fx_110000011_21, fx_110000011_22, fx_110000011_23, fx_110000011_25, fx_110000011_26, fx_110000011_31, fx_110000011_32, fx_110000011_37, fx_110000011_38, fx_110000011_39, fx_110000011_40, h8, h2, hs, hv, nI_l, cmp_0, lN_eqO]
  · rw [if_neg (show ¬ (hdT T).2.1 = c by omega)]
    have hs2 : ∃ v, v ≠ 3 ∧ v < 5 ∧ rI μ 112100220 i = nI v := by
      rw [hs]
      by_cases q1 : (hdT T).2.1 ≤ 28
      · exact ⟨1, by omega, by omega, by rw [if_pos q1]⟩
      · rw [if_neg q1]
        by_cases q2 : (hdT T).2.1 = 29
        · exact ⟨2, by omega, by omega, by rw [if_pos q2]⟩
        · rw [if_neg q2]
          by_cases q3 : (hdT T).2.1 = 30
          · exact ⟨0, by omega, by omega, by rw [if_pos q3]⟩
          · rw [if_neg q3]
            exact ⟨4, by omega, by omega, by rw [if_pos (by omega)]⟩
    obtain ⟨v, v1, v2, v3⟩ := hs2
    simp (disch := first | assumption | omega) only [r141_0, r141_1, r141_4, r141_7, r141_8, r141_11, r141_12, r141_15, r141_16, r141_17, r141_20, r141_21, r141_24, r141_25, r141_28, r141_29, r141_30, r141_31, j141_32, r141_35, r141_36, r141_39, r141_40, rI_wI, rL_wL, rR_wR, rI_wL, rI_wR, rL_wI, rL_wR, rR_wI, rR_wL, va_rf_some, va_rf_none, Option.toList_some, Option.toList_none, List.nil_append, List.cons_append, true_and, and_true, false_and, and_false, and_self, if_true, if_false, not_true_eq_false, not_false_eq_true, or_false, false_or, or_true, true_or, or_self, ite_true, ite_false, Option.some.injEq, reduceCtorEq, Nat.reduceMod, Nat.reduceDiv, Nat.reduceLeDiff, Nat.reduceEqDiff, Nat.reduceAdd, Nat.reduceMul, Nat.reduceSub, Nat.reduceLT, sw_nil, sw_int, sw_long, sw_ref, li, lo, nI_m1, ng_eq, nn_eq, en_eq, ng_le, ng_lt, Int32.neg_neg, nI_add, pk_mul, nI_clampO, nI_ltO, nI_leO, nI_eqO, nI_subO, nle_t, nle_f, nlt_t, nlt_f, neq_f, fx_2000010_0, fx_2000010_1, fx_2000010_4, fx_2000010_5, fx_2000010_6, fx_2000010_8, fx_2000010_10, fx_2000010_11, fx_2000010_12, fx_2000010_13, fx_2000010_14, fx_2000010_15, fx_2000010_16, fx_2000010_17, fx_2000010_18, fx_3000009_0, fx_5000007_0, fx_5000007_1, fx_5000007_2, fx_5000007_3, fx_7000001_0, fx_11000005_1, fx_11000005_2, fx_11000005_3, fx_11000005_4, fx_11000005_5, fx_11000005_6, fx_11000005_10, fx_11000005_11, fx_11000005_12, fx_20000002_0, fx_20000002_2, fx_20000002_3, fx_20000002_4, fx_25000005_1, fx_25000005_2, fx_25000005_3, fx_25000005_4, fx_25000005_5, fx_25000005_6, fx_25000005_10, fx_25000005_11, fx_25000005_12, fx_34000002_0, fx_34000002_2, fx_34000002_3, fx_34000002_4, fx_39000008_0, fx_41000006_0, fx_42002024_0, fx_42002024_1, fx_42002024_2, fx_42002024_3, fx_42002024_4, fx_42002024_5, fx_42002024_6, fx_42002024_7, fx_42002024_8, fx_42002024_9, fx_42002024_10, fx_42002024_11, fx_42002024_12, fx_42002024_13, fx_42002024_14, fx_42002024_15, fx_42002024_16, fx_42002024_17, fx_42002024_18, fx_42002024_19, fx_43000008_0, fx_45000008_0, fx_47000008_0, fx_49000008_0, fx_51000008_0, fx_53000008_0, fx_55000008_0, fx_57000008_0, fx_59000008_0, fx_61000008_0, fx_63000008_0, fx_65000008_0, fx_67000008_0, fx_69000008_0, fx_71000008_0, fx_73000008_0, fx_75000008_0, fx_77000008_0, fx_79000008_0, fx_81000008_0, fx_83000424_0, fx_83000424_1, fx_83000424_2, fx_83000424_3, fx_85000004_0, fx_85000004_1, fx_85000004_2, fx_85000004_3, fx_85000004_4, fx_85000004_5, fx_85000004_6, fx_85000004_10, fx_102000008_0, fx_104000008_0, fx_106000008_0, fx_108000008_0, fx_110000011_1, fx_110000011_4, fx_110000011_5, fx_110000011_6, fx_110000011_9, fx_110000011_10, fx_110000011_11, fx_110000011_12, fx_110000011_14, fx_110000011_15, fx_110000011_20, fx_110000011_21, fx_110000011_22, fx_110000011_23, fx_110000011_25, fx_110000011_26, fx_110000011_31, fx_110000011_32, fx_110000011_37, fx_110000011_38, fx_110000011_39, fx_110000011_40, h8, h2, v3]
theorem c141f {f : Nat} (h8 : rI μ 110000011 8 = nI f) (hf : 1 ≤ f) (hf2 : f < 100000) {x : Int32} : ∀ Q, R d 141 0 [some (.ref 110000011), some (.int x)] [] μ Q = Q (some (.int (nI 0))) μ := by
  intro Q
  simp (disch := first | assumption | omega) only [r141_0, r141_1, r141_4, r141_7, r141_8, r141_11, r141_12, r141_15, r141_16, r141_17, r141_20, r141_21, r141_24, r141_25, r141_28, r141_29, r141_30, r141_31, j141_32, r141_35, r141_36, r141_39, r141_40, rI_wI, rL_wL, rR_wR, rI_wL, rI_wR, rL_wI, rL_wR, rR_wI, rR_wL, va_rf_some, va_rf_none, Option.toList_some, Option.toList_none, List.nil_append, List.cons_append, true_and, and_true, false_and, and_false, and_self, if_true, if_false, not_true_eq_false, not_false_eq_true, or_false, false_or, or_true, true_or, or_self, ite_true, ite_false, Option.some.injEq, reduceCtorEq, Nat.reduceMod, Nat.reduceDiv, Nat.reduceLeDiff, Nat.reduceEqDiff, Nat.reduceAdd, Nat.reduceMul, Nat.reduceSub, Nat.reduceLT, sw_nil, sw_int, sw_long, sw_ref, li, lo, nI_m1, ng_eq, nn_eq, en_eq, ng_le, ng_lt, Int32.neg_neg, nI_add, pk_mul, nI_clampO, nI_ltO, nI_leO, nI_eqO, nI_subO, nle_t, nle_f, nlt_t, nlt_f, neq_f, h8]
theorem c142 (hF : FX μ) (hC : MC μ) (h : RX μ T) {w : Nat} (hw : w < 28) : ∀ Q, R d 142 0 [some (.ref 110000011), some (.int (nI w))] [] μ Q = Q (some (.int (nI (if (hdT T).2.1 = w then 1 else 0)))) μ := by
  intro Q
  obtain ⟨ok, i, h1, h2, h3⟩ := RT_h h.1
  have h8 := h.2
  have hs := h3.1
  have hm := hC.1 w hw
  obtain ⟨-, -, kb, -⟩ := kw_t w hw
  by_cases e : (hdT T).2.1 ≤ 28
  · obtain ⟨o1, o2, o3⟩ := ok.2.2.1 e
    have hv := h3.2.2.1 e
    have hhb := h37_b o1 o2
    have ki := kw_iff o1 hw
    rw [← o3] at ki
    unfold srt at hs
    rw [if_pos e] at hs
    by_cases e2 : (hdT T).2.1 = w
    · rw [if_pos e2]
      rw [ki.mpr e2] at hv
      simp (disch := first | assumption | omega) only [r142_0, r142_1, r142_4, r142_7, r142_8, r142_11, r142_12, r142_15, r142_16, r142_17, r142_20, r142_21, r142_24, r142_25, r142_28, r142_29, r142_30, r142_33, r142_34, r142_35, j142_36, r142_39, r142_40, r142_43, r142_44, rI_wI, rL_wL, rR_wR, rI_wL, rI_wR, rL_wI, rL_wR, rR_wI, rR_wL, va_rf_some, va_rf_none, Option.toList_some, Option.toList_none, List.nil_append, List.cons_append, true_and, and_true, false_and, and_false, and_self, if_true, if_false, not_true_eq_false, not_false_eq_true, or_false, false_or, or_true, true_or, or_self, ite_true, ite_false, Option.some.injEq, reduceCtorEq, Nat.reduceMod, Nat.reduceDiv, Nat.reduceLeDiff, Nat.reduceEqDiff, Nat.reduceAdd, Nat.reduceMul, Nat.reduceSub, Nat.reduceLT, sw_nil, sw_int, sw_long, sw_ref, li, lo, nI_m1, ng_eq, nn_eq, en_eq, ng_le, ng_lt, Int32.neg_neg, nI_add, pk_mul, nI_clampO, nI_ltO, nI_leO, nI_eqO, nI_subO, nle_t, nle_f, nlt_t, nlt_f, neq_f, fx_2000010_0, fx_2000010_1, fx_2000010_4, fx_2000010_5, fx_2000010_6, fx_2000010_8, fx_2000010_10, fx_2000010_11, fx_2000010_12, fx_2000010_13, fx_2000010_14, fx_2000010_15, fx_2000010_16, fx_2000010_17, fx_2000010_18, fx_3000009_0, fx_5000007_0, fx_5000007_1, fx_5000007_2, fx_5000007_3, fx_7000001_0, fx_11000005_1, fx_11000005_2, fx_11000005_3, fx_11000005_4, fx_11000005_5, fx_11000005_6, fx_11000005_10, fx_11000005_11, fx_11000005_12, fx_20000002_0, fx_20000002_2, fx_20000002_3, fx_20000002_4, fx_25000005_1, fx_25000005_2, fx_25000005_3, fx_25000005_4, fx_25000005_5, fx_25000005_6, fx_25000005_10, fx_25000005_11, fx_25000005_12, fx_34000002_0, fx_34000002_2, fx_34000002_3, fx_34000002_4, fx_39000008_0, fx_41000006_0, fx_42002024_0, fx_42002024_1, fx_42002024_2, fx_42002024_3, fx_42002024_4, fx_42002024_5, fx_42002024_6, fx_42002024_7, fx_42002024_8, fx_42002024_9, fx_42002024_10, fx_42002024_11, fx_42002024_12, fx_42002024_13, fx_42002024_14, fx_42002024_15, fx_42002024_16, fx_42002024_17, fx_42002024_18, fx_42002024_19, fx_43000008_0, fx_45000008_0, fx_47000008_0, fx_49000008_0, fx_51000008_0, fx_53000008_0, fx_55000008_0, fx_57000008_0, fx_59000008_0, fx_61000008_0, fx_63000008_0, fx_65000008_0, fx_67000008_0, fx_69000008_0, fx_71000008_0, fx_73000008_0, fx_75000008_0, fx_77000008_0, fx_79000008_0, fx_81000008_0, fx_83000424_0, fx_83000424_1, fx_83000424_2, fx_83000424_3, fx_85000004_0, fx_85000004_1, fx_85000004_2, fx_85000004_3, fx_85000004_4, fx_85000004_5, fx_85000004_6, fx_85000004_10, fx_102000008_0, fx_104000008_0, fx_106000008_0, fx_108000008_0, fx_110000011_1, fx_110000011_4, fx_110000011_5, fx_110000011_6, fx_110000011_9, fx_110000011_10, fx_110000011_11, fx_110000011_12, fx_110000011_14, fx_110000011_15, fx_110000011_20, fx_110000011_21, fx_110000011_22, fx_110000011_23, fx_110000011_25, fx_110000011_26, fx_110000011_31, fx_110000011_32, fx_110000011_37, fx_110000011_38, fx_110000011_39, fx_110000011_40, h8, h2, hs, hv, hm, cmp_0]
    · rw [if_neg e2]
      have hne : h37 (hdT T).2.2.1 ≠ mwL.getD w 0 := fun q => e2 (ki.mp q)
      simp (disch := first | assumption | omega) only [r142_0, r142_1, r142_4, r142_7, r142_8, r142_11, r142_12, r142_15, r142_16, r142_17, r142_20, r142_21, r142_24, r142_25, r142_28, r142_29, r142_30, r142_33, r142_34, r142_35, j142_36, r142_39, r142_40, r142_43, r142_44, rI_wI, rL_wL, rR_wR, rI_wL, rI_wR, rL_wI, rL_wR, rR_wI, rR_wL, va_rf_some, va_rf_none, Option.toList_some, Option.toList_none, List.nil_append, List.cons_append, true_and, and_true, false_and, and_false, and_self, if_true, if_false, not_true_eq_false, not_false_eq_true, or_false, false_or, or_true, true_or, or_self, ite_true, ite_false, Option.some.injEq, reduceCtorEq, Nat.reduceMod, Nat.reduceDiv, Nat.reduceLeDiff, Nat.reduceEqDiff, Nat.reduceAdd, Nat.reduceMul, Nat.reduceSub, Nat.reduceLT, sw_nil, sw_int, sw_long, sw_ref, li, lo, nI_m1, ng_eq, nn_eq, en_eq, ng_le, ng_lt, Int32.neg_neg, nI_add, pk_mul, nI_clampO, nI_ltO, nI_leO, nI_eqO, nI_subO, nle_t, nle_f, nlt_t, nlt_f, neq_f, fx_2000010_0, fx_2000010_1, fx_2000010_4, fx_2000010_5, fx_2000010_6, fx_2000010_8, fx_2000010_10, fx_2000010_11, fx_2000010_12, fx_2000010_13, fx_2000010_14, fx_2000010_15, fx_2000010_16, fx_2000010_17, fx_2000010_18, fx_3000009_0, fx_5000007_0, fx_5000007_1, fx_5000007_2, fx_5000007_3, fx_7000001_0, fx_11000005_1, fx_11000005_2, fx_11000005_3, fx_11000005_4, fx_11000005_5, fx_11000005_6, fx_11000005_10, fx_11000005_11, fx_11000005_12, fx_20000002_0, fx_20000002_2, fx_20000002_3, fx_20000002_4, fx_25000005_1, fx_25000005_2, fx_25000005_3, fx_25000005_4, fx_25000005_5, fx_25000005_6, fx_25000005_10, fx_25000005_11, fx_25000005_12, fx_34000002_0, fx_34000002_2, fx_34000002_3, fx_34000002_4, fx_39000008_0, fx_41000006_0, fx_42002024_0, fx_42002024_1, fx_42002024_2, fx_42002024_3, fx_42002024_4, fx_42002024_5, fx_42002024_6, fx_42002024_7, fx_42002024_8, fx_42002024_9, fx_42002024_10, fx_42002024_11, fx_42002024_12, fx_42002024_13, fx_42002024_14, fx_42002024_15, fx_42002024_16, fx_42002024_17, fx_42002024_18, fx_42002024_19, fx_43000008_0, fx_45000008_0, fx_47000008_0, fx_49000008_0, fx_51000008_0, fx_53000008_0, fx_55000008_0, fx_57000008_0, fx_59000008_0, fx_61000008_0, fx_63000008_0, fx_65000008_0, fx_67000008_0, fx_69000008_0, fx_71000008_0, fx_73000008_0, fx_75000008_0, fx_77000008_0, fx_79000008_0, fx_81000008_0, fx_83000424_0, fx_83000424_1, fx_83000424_2, fx_83000424_3, fx_85000004_0, fx_85000004_1, fx_85000004_2, fx_85000004_3, fx_85000004_4, fx_85000004_5, fx_85000004_6, fx_85000004_10, fx_102000008_0, fx_104000008_0, fx_106000008_0, fx_108000008_0, fx_110000011_1, fx_110000011_4, fx_110000011_5, fx_110000011_6, fx_110000011_9, fx_110000011_10, fx_110000011_11, fx_110000011_12, fx_110000011_14, fx_110000011_15, fx_110000011_20, fx_110000011_21, fx_110000011_22, fx_110000011_23, fx_110000011_25, fx_110000011_26, fx_110000011_31, fx_110000011_32, fx_110000011_37, fx_110000011_38, fx_110000011_39, fx_110000011_40, h8, h2, hs, hv, hm, cmp_0, lN_eqO, neq_f]
  · rw [if_neg (show ¬ (hdT T).2.1 = w by omega)]
    have hs2 : ∃ v, v ≠ 1 ∧ v < 5 ∧ rI μ 112100220 i = nI v := by
      rw [hs]
      unfold srt
      rw [if_neg e]
      by_cases q2 : (hdT T).2.1 = 29
      · exact ⟨2, by omega, by omega, by rw [if_pos q2]⟩
      · rw [if_neg q2]
        by_cases q3 : (hdT T).2.1 = 30
        · exact ⟨0, by omega, by omega, by rw [if_pos q3]⟩
        · rw [if_neg q3]
          by_cases q4 : (hdT T).2.1 = 31
          · exact ⟨4, by omega, by omega, by rw [if_pos q4]⟩
          · exact ⟨3, by omega, by omega, by rw [if_neg q4]⟩
    obtain ⟨v, v1, v2, v3⟩ := hs2
    simp (disch := first | assumption | omega) only [r142_0, r142_1, r142_4, r142_7, r142_8, r142_11, r142_12, r142_15, r142_16, r142_17, r142_20, r142_21, r142_24, r142_25, r142_28, r142_29, r142_30, r142_33, r142_34, r142_35, j142_36, r142_39, r142_40, r142_43, r142_44, rI_wI, rL_wL, rR_wR, rI_wL, rI_wR, rL_wI, rL_wR, rR_wI, rR_wL, va_rf_some, va_rf_none, Option.toList_some, Option.toList_none, List.nil_append, List.cons_append, true_and, and_true, false_and, and_false, and_self, if_true, if_false, not_true_eq_false, not_false_eq_true, or_false, false_or, or_true, true_or, or_self, ite_true, ite_false, Option.some.injEq, reduceCtorEq, Nat.reduceMod, Nat.reduceDiv, Nat.reduceLeDiff, Nat.reduceEqDiff, Nat.reduceAdd, Nat.reduceMul, Nat.reduceSub, Nat.reduceLT, sw_nil, sw_int, sw_long, sw_ref, li, lo, nI_m1, ng_eq, nn_eq, en_eq, ng_le, ng_lt, Int32.neg_neg, nI_add, pk_mul, nI_clampO, nI_ltO, nI_leO, nI_eqO, nI_subO, nle_t, nle_f, nlt_t, nlt_f, neq_f, fx_2000010_0, fx_2000010_1, fx_2000010_4, fx_2000010_5, fx_2000010_6, fx_2000010_8, fx_2000010_10, fx_2000010_11, fx_2000010_12, fx_2000010_13, fx_2000010_14, fx_2000010_15, fx_2000010_16, fx_2000010_17, fx_2000010_18, fx_3000009_0, fx_5000007_0, fx_5000007_1, fx_5000007_2, fx_5000007_3, fx_7000001_0, fx_11000005_1, fx_11000005_2, fx_11000005_3, fx_11000005_4, fx_11000005_5, fx_11000005_6, fx_11000005_10, fx_11000005_11, fx_11000005_12, fx_20000002_0, fx_20000002_2, fx_20000002_3, fx_20000002_4, fx_25000005_1, fx_25000005_2, fx_25000005_3, fx_25000005_4, fx_25000005_5, fx_25000005_6, fx_25000005_10, fx_25000005_11, fx_25000005_12, fx_34000002_0, fx_34000002_2, fx_34000002_3, fx_34000002_4, fx_39000008_0, fx_41000006_0, fx_42002024_0, fx_42002024_1, fx_42002024_2, fx_42002024_3, fx_42002024_4, fx_42002024_5, fx_42002024_6, fx_42002024_7, fx_42002024_8, fx_42002024_9, fx_42002024_10, fx_42002024_11, fx_42002024_12, fx_42002024_13, fx_42002024_14, fx_42002024_15, fx_42002024_16, fx_42002024_17, fx_42002024_18, fx_42002024_19, fx_43000008_0, fx_45000008_0, fx_47000008_0, fx_49000008_0, fx_51000008_0, fx_53000008_0, fx_55000008_0, fx_57000008_0, fx_59000008_0, fx_61000008_0, fx_63000008_0, fx_65000008_0, fx_67000008_0, fx_69000008_0, fx_71000008_0, fx_73000008_0, fx_75000008_0, fx_77000008_0, fx_79000008_0, fx_81000008_0, fx_83000424_0, fx_83000424_1, fx_83000424_2, fx_83000424_3, fx_85000004_0, fx_85000004_1, fx_85000004_2, fx_85000004_3, fx_85000004_4, fx_85000004_5, fx_85000004_6, fx_85000004_10, fx_102000008_0, fx_104000008_0, fx_106000008_0, fx_108000008_0, fx_110000011_1, fx_110000011_4, fx_110000011_5, fx_110000011_6, fx_110000011_9, fx_110000011_10, fx_110000011_11, fx_110000011_12, fx_110000011_14, fx_110000011_15, fx_110000011_20, fx_110000011_21, fx_110000011_22, fx_110000011_23, fx_110000011_25, fx_110000011_26, fx_110000011_31, fx_110000011_32, fx_110000011_37, fx_110000011_38, fx_110000011_39, fx_110000011_40, h8, h2, v3]
theorem c142f {f : Nat} (h8 : rI μ 110000011 8 = nI f) (hf : 1 ≤ f) (hf2 : f < 100000) {x : Int32} : ∀ Q, R d 142 0 [some (.ref 110000011), some (.int x)] [] μ Q = Q (some (.int (nI 0))) μ := by
  intro Q
  simp (disch := first | assumption | omega) only [r142_0, r142_1, r142_4, r142_7, r142_8, r142_11, r142_12, r142_15, r142_16, r142_17, r142_20, r142_21, r142_24, r142_25, r142_28, r142_29, r142_30, r142_33, r142_34, r142_35, j142_36, r142_39, r142_40, r142_43, r142_44, rI_wI, rL_wL, rR_wR, rI_wL, rI_wR, rL_wI, rL_wR, rR_wI, rR_wL, va_rf_some, va_rf_none, Option.toList_some, Option.toList_none, List.nil_append, List.cons_append, true_and, and_true, false_and, and_false, and_self, if_true, if_false, not_true_eq_false, not_false_eq_true, or_false, false_or, or_true, true_or, or_self, ite_true, ite_false, Option.some.injEq, reduceCtorEq, Nat.reduceMod, Nat.reduceDiv, Nat.reduceLeDiff, Nat.reduceEqDiff, Nat.reduceAdd, Nat.reduceMul, Nat.reduceSub, Nat.reduceLT, sw_nil, sw_int, sw_long, sw_ref, li, lo, nI_m1, ng_eq, nn_eq, en_eq, ng_le, ng_lt, Int32.neg_neg, nI_add, pk_mul, nI_clampO, nI_ltO, nI_leO, nI_eqO, nI_subO, nle_t, nle_f, nlt_t, nlt_f, neq_f, h8]
end T1
