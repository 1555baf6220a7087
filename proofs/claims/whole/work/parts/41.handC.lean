/-! CHANGES BY HAND: THE CLASS -/
theorem inj_surj : ∀ (n : Nat) (f : Nat → Nat), (∀ i, i < n → f i < n) → (∀ i j, i < n → j < n → f i = f j → i = j) → ∀ a, a < n → ∃ i, i < n ∧ f i = a := by
  intro n
  induction n with
  | zero => intro f _ _ a ha; omega
  | succ n ih =>
    intro f hf hi
    have hg := ih (fun i => if f i = n then f n else f i) (fun i h => by
      by_cases h1 : f i = n
      · simp only [h1, if_true]
        have h2 := hf n (by omega)
        by_cases h3 : f n = n
        · have := hi i n (by omega) (by omega) (h1.trans h3.symm); omega
        · omega
      · simp only [h1, if_false]
        have h2 := hf i (by omega)
        omega) (fun i j h1 h2 h3 => by
      by_cases h4 : f i = n
      · by_cases h5 : f j = n
        · exact hi i j (by omega) (by omega) (h4.trans h5.symm)
        · simp only [h4, h5, if_true, if_false] at h3
          have := hi n j (by omega) (by omega) h3; omega
      · by_cases h5 : f j = n
        · simp only [h4, h5, if_true, if_false] at h3
          have := hi i n (by omega) (by omega) h3; omega
        · simp only [h4, h5, if_false] at h3
          exact hi i j (by omega) (by omega) h3)
    intro a ha
    by_cases han : a = n
    · by_cases hx : ∃ i, i < n + 1 ∧ f i = n
      · rw [han]; exact hx
      · have h1 : f n < n := by
          have h2 := hf n (by omega)
          have h3 : f n ≠ n := fun q => hx ⟨n, by omega, q⟩
          omega
        obtain ⟨i, h2, h3⟩ := hg (f n) h1
        have h4 : f i ≠ n := fun q => hx ⟨i, by omega, q⟩
        simp only [h4, if_false] at h3
        have := hi i n (by omega) (by omega) h3; omega
    · obtain ⟨i, h2, h3⟩ := hg a (by omega)
      by_cases h4 : f i = n
      · simp only [h4, if_true] at h3
        exact ⟨n, by omega, h3⟩
      · simp only [h4, if_false] at h3
        exact ⟨i, by omega, h3⟩
theorem lnK_mem (s : Nat → Nat) (ob : Nat) (a : Nat) : ∀ r k, a ∈ lnK s ob r k ↔ ∃ i, k ≤ i ∧ i < k + r ∧ s i = a ∧ bt ob a = 0 := by
  intro r
  induction r with
  | zero =>
    intro k
    simp only [lnK, List.not_mem_nil, false_iff]
    rintro ⟨i, h1, h2, -⟩; omega
  | succ r ih =>
    intro k
    have hh : a ∈ lnK s ob (r + 1) k ↔ (bt ob (s k) = 0 ∧ a = s k) ∨ a ∈ lnK s ob r (k + 1) := by
      rw [lnK]
      by_cases h : bt ob (s k) = 0
      · rw [if_pos h, List.mem_cons]; simp only [h, true_and]
      · rw [if_neg h]; simp only [h, false_and, false_or]
    rw [hh, ih]
    constructor
    · rintro (⟨h1, h2⟩ | ⟨i, h1, h2, h3, h4⟩)
      · exact ⟨k, by omega, by omega, h2.symm, by rw [h2]; exact h1⟩
      · exact ⟨i, by omega, by omega, h3, h4⟩
    · rintro ⟨i, h1, h2, h3, h4⟩
      by_cases hik : i = k
      · left; rw [hik] at h3; rw [h3]; exact ⟨h4, rfl⟩
      · right; exact ⟨i, by omega, by omega, h3, h4⟩
theorem ln_mem {pa s : Nat → Nat} (hP : PK pa) (hO : SO pa s) (a : Nat) : a ∈ ln pa s ↔ a < pa 0 ∧ bt (s 7) a = 0 := by
  unfold ln
  rw [lnK_mem]
  have hp := hP.1.1
  constructor
  · rintro ⟨i, -, h2, h3, h4⟩
    have := hO.1 i (by omega)
    exact ⟨by omega, h4⟩
  · rintro ⟨h1, h2⟩
    obtain ⟨i, h3, h4⟩ := inj_surj (pa 0) s hO.1 (fun i j hi hj e => hO.2.1 i j (by omega) (by omega) e) a h1
    exact ⟨i, by omega, by omega, h4, h2⟩
theorem lnK_nd (s : Nat → Nat) (ob : Nat) : ∀ r k, (∀ i j, k ≤ i → i < k + r → k ≤ j → j < k + r → s i = s j → i = j) → (lnK s ob r k).Nodup := by
  intro r
  induction r with
  | zero => intro k _; exact List.nodup_nil
  | succ r ih =>
    intro k h
    have h1 := ih (k + 1) (fun i j a b c d e => h i j (by omega) (by omega) (by omega) (by omega) e)
    rw [lnK]
    by_cases hb : bt ob (s k) = 0
    · rw [if_pos hb, List.nodup_cons]
      refine ⟨fun q => ?_, h1⟩
      rw [lnK_mem] at q
      obtain ⟨i, h2, h3, h4, -⟩ := q
      have := h i k (by omega) (by omega) (by omega) (by omega) h4
      omega
    · rw [if_neg hb]; exact h1
theorem ln_nd {pa s : Nat → Nat} (hP : PK pa) (hO : SO pa s) : (ln pa s).Nodup := lnK_nd s (s 7) (pa 0) 0 (fun i j _ h2 _ h4 e => hO.2.1 i j (by have := hP.1.1; omega) (by have := hP.1.1; omega) e)
def psJ : List Nat → Int32 → Nat → Int32
  | [], _, _ => -nI 1
  | q :: r, x, k => if nI q = x then nI k else psJ r x (k + 1)
def psI (l : List Nat) (x : Int32) : Int32 := psJ l x 0
theorem psJ_n {l : List Nat} {x : Int32} (h : ∀ q, q ∈ l → ¬ nI q = x) : ∀ k, psJ l x k = -nI 1 := by
  induction l with
  | nil => intro k; rfl
  | cons q r ih =>
    intro k
    rw [psJ, if_neg (h q (List.mem_cons_self ..))]
    exact ih (fun p hp => h p (List.mem_cons_of_mem _ hp)) (k + 1)
theorem psJ_y {l : List Nat} {x : Int32} {q : Nat} (hq : q ∈ l) (hx : x = nI q) : ∀ k, ∃ j, k ≤ j ∧ j < k + l.length ∧ psJ l x k = nI j := by
  induction l with
  | nil => simp at hq
  | cons p r ih =>
    intro k
    rw [psJ]
    by_cases h : nI p = x
    · rw [if_pos h]; exact ⟨k, by omega, by rw [List.length_cons]; omega, rfl⟩
    · rw [if_neg h]
      rcases List.mem_cons.mp hq with e | e
      · exact absurd (by rw [hx, e]) h
      · obtain ⟨j, h1, h2, h3⟩ := ih e (k + 1)
        exact ⟨j, by omega, by rw [List.length_cons]; omega, h3⟩
def swp (s : Nat → Nat) (a b : Nat) : Nat → Nat := fun k => if k < 7 then (if s k = a then b else if s k = b then a else s k) else s k
theorem SO_swp {pa s : Nat → Nat} {a b : Nat} (h : SO pa s) (ha : a < pa 0) (hb : b < pa 0) (hp : pa 0 ≤ 7) : SO pa (swp s a b) := by
  obtain ⟨h1, h2, h3, h4, h5, h6, h7⟩ := h
  refine ⟨fun k hk => ?_, fun i j hi hj e => ?_, fun k h8 h9 => ?_, h4, h5, h6, h7⟩
  · have := h1 k hk
    unfold swp
    rw [if_pos (by omega)]
    split
    · exact hb
    · split
      · exact ha
      · exact this
  · unfold swp at e
    rw [if_pos hi, if_pos hj] at e
    apply h2 i j hi hj
    split at e <;> split at e <;> (try split at e) <;> (try split at e) <;> omega
  · have := h3 k h8 h9
    unfold swp
    rw [if_pos h9, if_neg (by omega), if_neg (by omega)]
    exact this
theorem SO_out {pa s : Nat → Nat} {p : Nat} (h : SO pa s) (hp : pa 0 ≤ 7) (hl : p < pa 0) : SO pa (up s 7 (tgl (s 7) p)) := by
  obtain ⟨h1, h2, h3, h4, h5, h6, h7⟩ := h
  have e : ∀ k, k ≠ 7 → up s 7 (tgl (s 7) p) k = s k := fun k hk => by unfold up; rw [if_neg hk]
  have e7 : up s 7 (tgl (s 7) p) 7 = tgl (s 7) p := by unfold up; rw [if_pos rfl]
  refine ⟨fun k hk => by rw [e k (by omega)]; exact h1 k hk, fun i j hi hj q => h2 i j hi hj (by rwa [e i (by omega), e j (by omega)] at q), fun k h8 h9 => by rw [e k (by omega)]; exact h3 k h8 h9, ?_, by rw [e 8 (by omega)]; exact h5, by rw [e 8 (by omega)]; exact h6, by rw [e 9 (by omega)]; exact h7⟩
  rw [e7]
  have hh : ∀ n, n < 8 → ∀ p, p < n → ∀ o, o < 2 ^ n → tgl o p < 2 ^ n := by decide +kernel
  exact hh (pa 0) (by omega) p hl (s 7) h4
section T1
variable {d : Nat} {μ : PM} {Q : Option Value → PM → Prop} {pa : Nat → Nat} {lw : LW} {s : Nat → Nat} {un : List (Nat → Nat)} {mk : Nat → Option (Nat → Nat)} {tp : List Nat} {n : Nat}
theorem CPt_x (h : CPt μ pa lw) : ∃ P, P % 100 = 5 ∧ (P = 11000005 ∨ P = 25000005) ∧ rR μ 2000010 2 = some P ∧ rI μ P 0 = nI (pa 0) ∧ rI μ P 9 = nI (pa 1) ∧ rI μ P 7 = nI (twN pa 1) ∧ rI μ P 8 = nI (twN pa 2) ∧ rI μ P 13 = nI (pa 3) ∧ rI μ P 15 = nI (pa 2) := by
  rcases h with ⟨h1, -, ⟨a0, -, -, a7, a8, a9, -, a13, -, a15⟩, -⟩ | ⟨h1, -, ⟨a0, -, -, a7, a8, a9, -, a13, -, a15⟩, -⟩
  · exact ⟨_, by decide, Or.inl rfl, h1, a0, a9, a7, a8, a13, a15⟩
  · exact ⟨_, by decide, Or.inr rfl, h1, a0, a9, a7, a8, a13, a15⟩
theorem fin (hF : FX μ) (hP : PK pa) (hO : SO pa s) (h1 : CPt μ pa lw) (h2 : CSt μ (pa 0) s) (h3 : CPs μ (pa 0) un) (h4 : CMk μ (pa 0) mk) (h5 : CTp μ tp) :
    ∃ ν, HE μ ν ∧ CH ν pa lw s un mk tp ∧ ∀ Q, R (d + 1) 115 0 [some (.ref 2000010), none] [] μ Q = Q none ν := by
  obtain ⟨P, -, hp, hr, hn, -⟩ := CPt_x h1
  obtain ⟨g, e1, e2⟩ := c115 (d := d) hF hp hr hn h2 hP hO
  have hX : EX [84000720, 2000010, 85000004] μ (wI (wI (wA μ 84000720 g) 2000010 9 (nI (ln pa s).length)) 85000004 7 (nI 0)) := EX_tr (EX_tr (EX_wA _ _ _) (EX_wI _ _ _ _)) (EX_wI _ _ _ _)
  refine ⟨_, HE_EX hX ?_, ⟨EX_FX hX hF, EX_CPt hX ?_ h1, EX_CSg hX (by decide) (by decide) h2, EX_CPs hX ?_ h3, EX_CMk hX ?_ ?_ h4, ⟨?_, fun i hi => ?_⟩, EX_CTp hX (by decide) (by decide) h5, Or.inl ?_⟩, e2⟩
  · intro a ha; simp only [List.mem_cons, List.not_mem_nil, or_false] at ha; omega
  · intro a ha; simp only [List.mem_cons, List.not_mem_nil, or_false] at ha; omega
  · intro a ha; simp only [List.mem_cons, List.not_mem_nil, or_false] at ha; omega
  · rw [rI_wI, if_neg (by decide), rI_wI, if_neg (by decide), rI_wA, if_neg (by decide)]
  · intro a ha; simp only [List.mem_cons, List.not_mem_nil, or_false] at ha; omega
  · rw [rI_wI, if_neg (by decide), rI_wI, if_pos ⟨rfl, rfl⟩]
  · rw [rI_wI, if_neg (by omega), rI_wI, if_neg (by omega), rI_wA, if_pos rfl]
    exact e1 i hi
  · rw [rI_wI, if_pos ⟨rfl, rfl⟩]
theorem c116y (h1 : CPt μ pa lw) (hP : PK pa) {i : Nat} (hi : i < pa 0) : R d 116 0 [some (.ref 2000010), some (.int (nI i))] [] μ Q = Q (some (.int (nI 1))) μ := by
  obtain ⟨P, h5, hp, hr, hn, -⟩ := CPt_x h1
  have := hP.1.1
  simp (disch := first | assumption | omega) only [r116_0, r116_1, r116_4, r116_5, r116_6, r116_9, j116_12, r116_15, r116_16, r116_19, r116_20, rI_wI, rL_wL, rR_wR, rI_wL, rI_wR, rL_wI, rL_wR, rR_wI, rR_wL, va_rf_some, va_rf_none, Option.toList_some, Option.toList_none, List.nil_append, List.cons_append, true_and, and_true, false_and, and_false, and_self, if_true, if_false, not_true_eq_false, not_false_eq_true, or_false, false_or, or_true, true_or, or_self, ite_true, ite_false, Option.some.injEq, reduceCtorEq, Nat.reduceMod, Nat.reduceDiv, Nat.reduceLeDiff, Nat.reduceEqDiff, Nat.reduceAdd, Nat.reduceMul, Nat.reduceSub, Nat.reduceLT, sw_nil, sw_int, sw_long, sw_ref, li, lo, nI_m1, ng_eq, nn_eq, en_eq, ng_le, ng_lt, Int32.neg_neg, nI_add, pk_mul, nI_clampO, nI_ltO, nI_leO, nI_eqO, nI_subO, nle_t, nle_f, nlt_t, nlt_f, neq_f, hr, h5, hn]
theorem c116n (h1 : CPt μ pa lw) (hP : PK pa) {x : Int32} (hx : x < nI 0 ∨ nI (pa 0) ≤ x) : R d 116 0 [some (.ref 2000010), some (.int x)] [] μ Q = Q (some (.int (nI 0))) μ := by
  obtain ⟨P, h5, hp, hr, hn, -⟩ := CPt_x h1
  have := hP.1.1
  rcases hx with hx | hx
  · simp (disch := first | assumption | omega) only [r116_0, r116_1, r116_4, r116_5, r116_6, r116_9, j116_12, r116_15, r116_16, r116_19, r116_20, rI_wI, rL_wL, rR_wR, rI_wL, rI_wR, rL_wI, rL_wR, rR_wI, rR_wL, va_rf_some, va_rf_none, Option.toList_some, Option.toList_none, List.nil_append, List.cons_append, true_and, and_true, false_and, and_false, and_self, if_true, if_false, not_true_eq_false, not_false_eq_true, or_false, false_or, or_true, true_or, or_self, ite_true, ite_false, Option.some.injEq, reduceCtorEq, Nat.reduceMod, Nat.reduceDiv, Nat.reduceLeDiff, Nat.reduceEqDiff, Nat.reduceAdd, Nat.reduceMul, Nat.reduceSub, Nat.reduceLT, sw_nil, sw_int, sw_long, sw_ref, li, lo, nI_m1, ng_eq, nn_eq, en_eq, ng_le, ng_lt, Int32.neg_neg, nI_add, pk_mul, nI_clampO, nI_ltO, nI_leO, nI_eqO, nI_subO, nle_t, nle_f, nlt_t, nlt_f, neq_f, hr, h5, hn, xn_lt hx]
  · simp (disch := first | assumption | omega) only [r116_0, r116_1, r116_4, r116_5, r116_6, r116_9, j116_12, r116_15, r116_16, r116_19, r116_20, rI_wI, rL_wL, rR_wR, rI_wL, rI_wR, rL_wI, rL_wR, rR_wI, rR_wL, va_rf_some, va_rf_none, Option.toList_some, Option.toList_none, List.nil_append, List.cons_append, true_and, and_true, false_and, and_false, and_self, if_true, if_false, not_true_eq_false, not_false_eq_true, or_false, false_or, or_true, true_or, or_self, ite_true, ite_false, Option.some.injEq, reduceCtorEq, Nat.reduceMod, Nat.reduceDiv, Nat.reduceLeDiff, Nat.reduceEqDiff, Nat.reduceAdd, Nat.reduceMul, Nat.reduceSub, Nat.reduceLT, sw_nil, sw_int, sw_long, sw_ref, li, lo, nI_m1, ng_eq, nn_eq, en_eq, ng_le, ng_lt, Int32.neg_neg, nI_add, pk_mul, nI_clampO, nI_ltO, nI_leO, nI_eqO, nI_subO, nle_t, nle_f, nlt_t, nlt_f, neq_f, hr, h5, hn, xg_lt hx, xg_le hx]
theorem c118y {i : Nat} (hi : i < 4) : R d 118 0 [some (.int (nI i))] [] μ Q = Q (some (.int (nI 1))) μ := by
  simp (disch := first | assumption | omega) only [r118_0, r118_1, r118_4, r118_5, j118_6, r118_9, r118_10, r118_13, r118_14, rI_wI, rL_wL, rR_wR, rI_wL, rI_wR, rL_wI, rL_wR, rR_wI, rR_wL, va_rf_some, va_rf_none, Option.toList_some, Option.toList_none, List.nil_append, List.cons_append, true_and, and_true, false_and, and_false, and_self, if_true, if_false, not_true_eq_false, not_false_eq_true, or_false, false_or, or_true, true_or, or_self, ite_true, ite_false, Option.some.injEq, reduceCtorEq, Nat.reduceMod, Nat.reduceDiv, Nat.reduceLeDiff, Nat.reduceEqDiff, Nat.reduceAdd, Nat.reduceMul, Nat.reduceSub, Nat.reduceLT, sw_nil, sw_int, sw_long, sw_ref, li, lo, nI_m1, ng_eq, nn_eq, en_eq, ng_le, ng_lt, Int32.neg_neg, nI_add, pk_mul, nI_clampO, nI_ltO, nI_leO, nI_eqO, nI_subO, nle_t, nle_f, nlt_t, nlt_f, neq_f]
theorem c118n {x : Int32} (hx : x < nI 0 ∨ nI 4 ≤ x) : R d 118 0 [some (.int x)] [] μ Q = Q (some (.int (nI 0))) μ := by
  rcases hx with hx | hx
  · simp (disch := first | assumption | omega) only [r118_0, r118_1, r118_4, r118_5, j118_6, r118_9, r118_10, r118_13, r118_14, rI_wI, rL_wL, rR_wR, rI_wL, rI_wR, rL_wI, rL_wR, rR_wI, rR_wL, va_rf_some, va_rf_none, Option.toList_some, Option.toList_none, List.nil_append, List.cons_append, true_and, and_true, false_and, and_false, and_self, if_true, if_false, not_true_eq_false, not_false_eq_true, or_false, false_or, or_true, true_or, or_self, ite_true, ite_false, Option.some.injEq, reduceCtorEq, Nat.reduceMod, Nat.reduceDiv, Nat.reduceLeDiff, Nat.reduceEqDiff, Nat.reduceAdd, Nat.reduceMul, Nat.reduceSub, Nat.reduceLT, sw_nil, sw_int, sw_long, sw_ref, li, lo, nI_m1, ng_eq, nn_eq, en_eq, ng_le, ng_lt, Int32.neg_neg, nI_add, pk_mul, nI_clampO, nI_ltO, nI_leO, nI_eqO, nI_subO, nle_t, nle_f, nlt_t, nlt_f, neq_f, xn_lt hx]
  · simp (disch := first | assumption | omega) only [r118_0, r118_1, r118_4, r118_5, j118_6, r118_9, r118_10, r118_13, r118_14, rI_wI, rL_wL, rR_wR, rI_wL, rI_wR, rL_wI, rL_wR, rR_wI, rR_wL, va_rf_some, va_rf_none, Option.toList_some, Option.toList_none, List.nil_append, List.cons_append, true_and, and_true, false_and, and_false, and_self, if_true, if_false, not_true_eq_false, not_false_eq_true, or_false, false_or, or_true, true_or, or_self, ite_true, ite_false, Option.some.injEq, reduceCtorEq, Nat.reduceMod, Nat.reduceDiv, Nat.reduceLeDiff, Nat.reduceEqDiff, Nat.reduceAdd, Nat.reduceMul, Nat.reduceSub, Nat.reduceLT, sw_nil, sw_int, sw_long, sw_ref, li, lo, nI_m1, ng_eq, nn_eq, en_eq, ng_le, ng_lt, Int32.neg_neg, nI_add, pk_mul, nI_clampO, nI_ltO, nI_leO, nI_eqO, nI_subO, nle_t, nle_f, nlt_t, nlt_f, neq_f, xg_lt hx, xg_le hx]
theorem c119_l (hF : FX μ) {l : List Nat} (hL : CLn μ l) (hl : l.length ≤ 7) {x : Int32} : ∀ r k, k + r = l.length → R d 119 2 [some (.ref 2000010), some (.int x), some (.int (nI k))] [] μ Q = Q (some (.int (psJ (l.drop k) x k))) μ := by
  intro r
  induction r with
  | zero =>
    intro k hk
    have e : l.drop k = [] := List.drop_of_length_le (by omega)
    rw [r119_2, e]
    simp (disch := first | assumption | omega) only [r119_0, r119_1, r119_3, r119_4, r119_7, r119_10, r119_11, r119_14, r119_15, r119_16, r119_17, r119_20, r119_21, r119_22, r119_25, r119_28, r119_29, rI_wI, rL_wL, rR_wR, rI_wL, rI_wR, rL_wI, rL_wR, rR_wI, rR_wL, va_rf_some, va_rf_none, Option.toList_some, Option.toList_none, List.nil_append, List.cons_append, true_and, and_true, false_and, and_false, and_self, if_true, if_false, not_true_eq_false, not_false_eq_true, or_false, false_or, or_true, true_or, or_self, ite_true, ite_false, Option.some.injEq, reduceCtorEq, Nat.reduceMod, Nat.reduceDiv, Nat.reduceLeDiff, Nat.reduceEqDiff, Nat.reduceAdd, Nat.reduceMul, Nat.reduceSub, Nat.reduceLT, sw_nil, sw_int, sw_long, sw_ref, li, lo, nI_m1, ng_eq, nn_eq, en_eq, ng_le, ng_lt, Int32.neg_neg, nI_add, pk_mul, nI_clampO, nI_ltO, nI_leO, nI_eqO, nI_subO, nle_t, nle_f, nlt_t, nlt_f, neq_f, hL.1, psJ]
  | succ r ih =>
    intro k hk
    have e : l.drop k = l.getD k 0 :: l.drop (k + 1) := by
      rw [List.drop_eq_getElem_cons (by omega)]
      congr 1
      simp [List.getD_eq_getElem?_getD, List.getElem?_eq_getElem (show k < l.length by omega)]
    rw [r119_2, e, psJ]
    have hg := hL.2 k (by omega)
    by_cases h : nI (l.getD k 0) = x
    · rw [if_pos h]
      simp (disch := first | assumption | omega) only [r119_0, r119_1, r119_3, r119_4, r119_7, r119_10, r119_11, r119_14, r119_15, r119_16, r119_17, r119_20, r119_21, r119_22, r119_25, r119_28, r119_29, rI_wI, rL_wL, rR_wR, rI_wL, rI_wR, rL_wI, rL_wR, rR_wI, rR_wL, va_rf_some, va_rf_none, Option.toList_some, Option.toList_none, List.nil_append, List.cons_append, true_and, and_true, false_and, and_false, and_self, if_true, if_false, not_true_eq_false, not_false_eq_true, or_false, false_or, or_true, true_or, or_self, ite_true, ite_false, Option.some.injEq, reduceCtorEq, Nat.reduceMod, Nat.reduceDiv, Nat.reduceLeDiff, Nat.reduceEqDiff, Nat.reduceAdd, Nat.reduceMul, Nat.reduceSub, Nat.reduceLT, sw_nil, sw_int, sw_long, sw_ref, li, lo, nI_m1, ng_eq, nn_eq, en_eq, ng_le, ng_lt, Int32.neg_neg, nI_add, pk_mul, nI_clampO, nI_ltO, nI_leO, nI_eqO, nI_subO, nle_t, nle_f, nlt_t, nlt_f, neq_f, fx_2000010_0, fx_2000010_1, fx_2000010_4, fx_2000010_5, fx_2000010_6, fx_2000010_8, fx_2000010_10, fx_2000010_11, fx_2000010_12, fx_2000010_13, fx_2000010_14, fx_2000010_15, fx_2000010_16, fx_2000010_17, fx_2000010_18, fx_3000009_0, fx_5000007_0, fx_5000007_1, fx_5000007_2, fx_5000007_3, fx_7000001_0, fx_11000005_1, fx_11000005_2, fx_11000005_3, fx_11000005_4, fx_11000005_5, fx_11000005_6, fx_11000005_10, fx_11000005_11, fx_11000005_12, fx_20000002_0, fx_20000002_2, fx_20000002_3, fx_20000002_4, fx_25000005_1, fx_25000005_2, fx_25000005_3, fx_25000005_4, fx_25000005_5, fx_25000005_6, fx_25000005_10, fx_25000005_11, fx_25000005_12, fx_34000002_0, fx_34000002_2, fx_34000002_3, fx_34000002_4, fx_39000008_0, fx_41000006_0, fx_42002024_0, fx_42002024_1, fx_42002024_2, fx_42002024_3, fx_42002024_4, fx_42002024_5, fx_42002024_6, fx_42002024_7, fx_42002024_8, fx_42002024_9, fx_42002024_10, fx_42002024_11, fx_42002024_12, fx_42002024_13, fx_42002024_14, fx_42002024_15, fx_42002024_16, fx_42002024_17, fx_42002024_18, fx_42002024_19, fx_43000008_0, fx_45000008_0, fx_47000008_0, fx_49000008_0, fx_51000008_0, fx_53000008_0, fx_55000008_0, fx_57000008_0, fx_59000008_0, fx_61000008_0, fx_63000008_0, fx_65000008_0, fx_67000008_0, fx_69000008_0, fx_71000008_0, fx_73000008_0, fx_75000008_0, fx_77000008_0, fx_79000008_0, fx_81000008_0, fx_83000424_0, fx_83000424_1, fx_83000424_2, fx_83000424_3, fx_85000004_0, fx_85000004_1, fx_85000004_2, fx_85000004_3, fx_85000004_4, fx_85000004_5, fx_85000004_6, fx_85000004_10, fx_102000008_0, fx_104000008_0, fx_106000008_0, fx_108000008_0, fx_110000011_1, fx_110000011_4, fx_110000011_5, fx_110000011_6, fx_110000011_9, fx_110000011_10, fx_110000011_11, fx_110000011_12, fx_110000011_14, fx_110000011_15, fx_110000011_20, fx_110000011_21, fx_110000011_22, fx_110000011_23, fx_110000011_25, fx_110000011_26, fx_110000011_31, fx_110000011_32, fx_110000011_37, fx_110000011_38, fx_110000011_39, fx_110000011_40, hL.1, hg, h]
    · rw [if_neg h]
      simp (disch := first | assumption | omega) only [r119_0, r119_1, r119_3, r119_4, r119_7, r119_10, r119_11, r119_14, r119_15, r119_16, r119_17, r119_20, r119_21, r119_22, r119_25, r119_28, r119_29, rI_wI, rL_wL, rR_wR, rI_wL, rI_wR, rL_wI, rL_wR, rR_wI, rR_wL, va_rf_some, va_rf_none, Option.toList_some, Option.toList_none, List.nil_append, List.cons_append, true_and, and_true, false_and, and_false, and_self, if_true, if_false, not_true_eq_false, not_false_eq_true, or_false, false_or, or_true, true_or, or_self, ite_true, ite_false, Option.some.injEq, reduceCtorEq, Nat.reduceMod, Nat.reduceDiv, Nat.reduceLeDiff, Nat.reduceEqDiff, Nat.reduceAdd, Nat.reduceMul, Nat.reduceSub, Nat.reduceLT, sw_nil, sw_int, sw_long, sw_ref, li, lo, nI_m1, ng_eq, nn_eq, en_eq, ng_le, ng_lt, Int32.neg_neg, nI_add, pk_mul, nI_clampO, nI_ltO, nI_leO, nI_eqO, nI_subO, nle_t, nle_f, nlt_t, nlt_f, neq_f, fx_2000010_0, fx_2000010_1, fx_2000010_4, fx_2000010_5, fx_2000010_6, fx_2000010_8, fx_2000010_10, fx_2000010_11, fx_2000010_12, fx_2000010_13, fx_2000010_14, fx_2000010_15, fx_2000010_16, fx_2000010_17, fx_2000010_18, fx_3000009_0, fx_5000007_0, fx_5000007_1, fx_5000007_2, fx_5000007_3, fx_7000001_0, fx_11000005_1, fx_11000005_2, fx_11000005_3, fx_11000005_4, fx_11000005_5, fx_11000005_6, fx_11000005_10, fx_11000005_11, fx_11000005_12, fx_20000002_0, fx_20000002_2, fx_20000002_3, fx_20000002_4, fx_25000005_1, fx_25000005_2, fx_25000005_3, fx_25000005_4, fx_25000005_5, fx_25000005_6, fx_25000005_10, fx_25000005_11, fx_25000005_12, fx_34000002_0, fx_34000002_2, fx_34000002_3, fx_34000002_4, fx_39000008_0, fx_41000006_0, fx_42002024_0, fx_42002024_1, fx_42002024_2, fx_42002024_3, fx_42002024_4, fx_42002024_5, fx_42002024_6, fx_42002024_7, fx_42002024_8, fx_42002024_9, fx_42002024_10, fx_42002024_11, fx_42002024_12, fx_42002024_13, fx_42002024_14, fx_42002024_15, fx_42002024_16, fx_42002024_17, fx_42002024_18, fx_42002024_19, fx_43000008_0, fx_45000008_0, fx_47000008_0, fx_49000008_0, fx_51000008_0, fx_53000008_0, fx_55000008_0, fx_57000008_0, fx_59000008_0, fx_61000008_0, fx_63000008_0, fx_65000008_0, fx_67000008_0, fx_69000008_0, fx_71000008_0, fx_73000008_0, fx_75000008_0, fx_77000008_0, fx_79000008_0, fx_81000008_0, fx_83000424_0, fx_83000424_1, fx_83000424_2, fx_83000424_3, fx_85000004_0, fx_85000004_1, fx_85000004_2, fx_85000004_3, fx_85000004_4, fx_85000004_5, fx_85000004_6, fx_85000004_10, fx_102000008_0, fx_104000008_0, fx_106000008_0, fx_108000008_0, fx_110000011_1, fx_110000011_4, fx_110000011_5, fx_110000011_6, fx_110000011_9, fx_110000011_10, fx_110000011_11, fx_110000011_12, fx_110000011_14, fx_110000011_15, fx_110000011_20, fx_110000011_21, fx_110000011_22, fx_110000011_23, fx_110000011_25, fx_110000011_26, fx_110000011_31, fx_110000011_32, fx_110000011_37, fx_110000011_38, fx_110000011_39, fx_110000011_40, hL.1, hg, h]
      exact ih (k + 1) (by omega)
theorem c119 (hF : FX μ) {l : List Nat} (hL : CLn μ l) (hl : l.length ≤ 7) {x : Int32} : R d 119 0 [some (.ref 2000010), some (.int x), none] [] μ Q = Q (some (.int (psI l x))) μ := by
  have := c119_l (d := d) (Q := Q) hF hL hl (x := x) l.length 0 (by omega)
  rw [List.drop_zero] at this
  simp (disch := first | assumption | omega) only [r119_0, r119_1, rI_wI, rL_wL, rR_wR, rI_wL, rI_wR, rL_wI, rL_wR, rR_wI, rR_wL, va_rf_some, va_rf_none, Option.toList_some, Option.toList_none, List.nil_append, List.cons_append, true_and, and_true, false_and, and_false, and_self, if_true, if_false, not_true_eq_false, not_false_eq_true, or_false, false_or, or_true, true_or, or_self, ite_true, ite_false, Option.some.injEq, reduceCtorEq, Nat.reduceMod, Nat.reduceDiv, Nat.reduceLeDiff, Nat.reduceEqDiff, Nat.reduceAdd, Nat.reduceMul, Nat.reduceSub, Nat.reduceLT, sw_nil, sw_int, sw_long, sw_ref, li, lo, nI_m1, ng_eq, nn_eq, en_eq, ng_le, ng_lt, Int32.neg_neg, nI_add, pk_mul, nI_clampO, nI_ltO, nI_leO, nI_eqO, nI_subO, nle_t, nle_f, nlt_t, nlt_f, neq_f, this, psI]
end T1
