/-! NAMES, AND HOW THE CLASS FINDS THEM -/
theorem b256_lt {u : List Nat} (h : ltr u) (hl : u.length ≤ 8) : b256 u < 9223372036854775808 := by
  by_cases h0 : u = []
  · subst h0; decide
  · exact b256_63 (fun c hc => (h c hc).2) hl h0
def NG (nm : Nms) : Prop := (∀ p, p ∈ nm → ltr p.1 ∧ p.1.length ≤ 8) ∧ nm.Pairwise (fun p q => p.1 ≠ q.1)
theorem fnm_mem : ∀ {nm : Nms} {u : List Nat} {w : Nat}, fnm nm u = some w → (u, w) ∈ nm := by
  intro nm
  induction nm with
  | nil => intro u w h; cases h
  | cons p l ih =>
    intro u w h
    rw [fnm] at h
    by_cases e : p.1 = u
    · rw [if_pos e] at h
      have : p.2 = w := by simpa using h
      rw [← e, ← this]
      exact List.mem_cons_self
    · rw [if_neg e] at h
      exact List.mem_cons_of_mem _ (ih h)
theorem fnm_some : ∀ {nm : Nms} {u : List Nat} {w : Nat}, nm.Pairwise (fun p q => p.1 ≠ q.1) → (u, w) ∈ nm → fnm nm u = some w := by
  intro nm
  induction nm with
  | nil => intro u w _ h; cases h
  | cons p l ih =>
    intro u w hp h
    rw [List.pairwise_cons] at hp
    rw [fnm]
    rcases List.mem_cons.mp h with e | e
    · rw [← e, if_pos rfl]
    · rw [if_neg (hp.1 _ e)]
      exact ih hp.2 e
theorem fnm_none : ∀ {nm : Nms} {u : List Nat}, (∀ w, (u, w) ∉ nm) → fnm nm u = none := by
  intro nm u h
  cases e : fnm nm u with
  | none => rfl
  | some w => exact absurd (fnm_mem e) (h w)
theorem fnm_app : ∀ {nm : Nms} {u : List Nat} {p : List Nat × Nat}, fnm nm p.1 = none → fnm (nm ++ [p]) u = if p.1 = u then some p.2 else fnm nm u := by
  intro nm
  induction nm with
  | nil => intro u p _; rfl
  | cons q l ih =>
    intro u p h
    rw [fnm] at h
    by_cases e : q.1 = p.1
    · rw [if_pos e] at h; cases h
    · rw [if_neg e] at h
      show fnm (q :: (l ++ [p])) u = _
      rw [fnm, fnm, ih h]
      by_cases z : q.1 = u
      · rw [if_pos z, if_pos z, if_neg (fun k => e (z.trans k.symm))]
      · rw [if_neg z, if_neg z]
theorem NG_app {nm : Nms} {u : List Nat} {w : Nat} (h : NG nm) (hn : fnm nm u = none) (hu : ltr u) (hl : u.length ≤ 8) : NG (nm ++ [(u, w)]) := by
  refine ⟨fun p hp => ?_, ?_⟩
  · rcases List.mem_append.mp hp with e | e
    · exact h.1 p e
    · rw [List.mem_singleton] at e; rw [e]; exact ⟨hu, hl⟩
  · rw [List.pairwise_append]
    refine ⟨h.2, List.pairwise_singleton _ _, fun p hp q hq => ?_⟩
    rw [List.mem_singleton] at hq
    rw [hq]
    intro e
    have e' : p.1 = u := e
    have := fnm_some (u := u) (w := p.2) h.2 (by rw [← e']; exact hp)
    rw [hn] at this
    cases this
def NCr (μ : PM) (nm : Nms) (n m : Nat) : Prop := (∀ i, i < n → ∃ u, (u, i) ∈ nm ∧ rL μ 9000721 i = lN (b256 u)) ∧ (∀ f, f < m → ∃ u, (u, 100) ∈ nm ∧ rL μ 10000421 f = lN (b256 u)) ∧ ∀ u w, (u, w) ∈ nm → (w < n ∧ rL μ 9000721 w = lN (b256 u)) ∨ (w = 100 ∧ ∃ f, f < m ∧ rL μ 10000421 f = lN (b256 u))
theorem NCr_Q {μ ν : PM} {nm : Nms} {n m : Nat} (h : ∀ j, rL ν 9000721 j = rL μ 9000721 j) (h2 : ∀ j, rL ν 10000421 j = rL μ 10000421 j) (k : NCr μ nm n m) : NCr ν nm n m := by
  unfold NCr at k ⊢
  simpa only [h, h2] using k
section T1
variable {d : Nat} {μ : PM} {P : Nat} {tp : List Nat} {T : List Tok} {nm : Nms} {n m : Nat}
theorem c80_l {A L : Nat} (hA : A % 100 = 21) (hL : A / 100 % 10000 = L) (hL2 : L ≤ 7) {n : Nat} (hn : n ≤ L) {v : Int64} {v3 : Option Value} : ∀ (r k : Nat), k + r = n → ((∀ i, k ≤ i → i < n → rL μ A i ≠ v) ∧ ∀ Q, R d 80 3 [some (.ref A), some (.int (nI n)), some (.long v), v3, some (.int (nI k))] [] μ Q = Q (some (.int (-nI 1))) μ) ∨ (∃ i, k ≤ i ∧ i < n ∧ rL μ A i = v ∧ ∀ Q, R d 80 3 [some (.ref A), some (.int (nI n)), some (.long v), v3, some (.int (nI k))] [] μ Q = Q (some (.int (nI i))) μ) := by
  intro r
  induction r with
  | zero =>
    intro k hk
    refine Or.inl ⟨fun i h1 h2 => by omega, fun Q => ?_⟩
    rw [r80_3]
    simp (disch := first | assumption | omega) only [r80_0, r80_1, r80_5, r80_6, r80_9, r80_11, r80_12, r80_13, r80_16, r80_17, r80_19, r80_20, r80_21, r80_22, r80_25, r80_27, r80_28, r80_31, r80_34, r80_35, rI_wI, rL_wL, rR_wR, rI_wL, rI_wR, rL_wI, rL_wR, rR_wI, rR_wL, va_rf_some, va_rf_none, Option.toList_some, Option.toList_none, List.nil_append, List.cons_append, true_and, and_true, false_and, and_false, and_self, if_true, if_false, not_true_eq_false, not_false_eq_true, or_false, false_or, or_true, true_or, or_self, ite_true, ite_false, Option.some.injEq, reduceCtorEq, Nat.reduceMod, Nat.reduceDiv, Nat.reduceLeDiff, Nat.reduceEqDiff, Nat.reduceAdd, Nat.reduceMul, Nat.reduceSub, Nat.reduceLT, sw_nil, sw_int, sw_long, sw_ref, li, lo, nI_m1, ng_eq, nn_eq, en_eq, ng_le, ng_lt, Int32.neg_neg, nI_add, pk_mul, nI_clampO, nI_ltO, nI_leO, nI_eqO, nI_subO, nle_t, nle_f, nlt_t, nlt_f, neq_f]
  | succ r ih =>
    intro k hk
    have b1 : 20 ≤ A % 100 := by omega
    have b2 : A % 100 ≤ 24 := by omega
    by_cases e : rL μ A k = v
    · refine Or.inr ⟨k, Nat.le_refl k, by omega, e, fun Q => ?_⟩
      rw [r80_3]
      simp (disch := first | assumption | omega) only [r80_0, r80_1, r80_5, r80_6, r80_9, r80_11, r80_12, r80_13, r80_16, r80_17, r80_19, r80_20, r80_21, r80_22, r80_25, r80_27, r80_28, r80_31, r80_34, r80_35, rI_wI, rL_wL, rR_wR, rI_wL, rI_wR, rL_wI, rL_wR, rR_wI, rR_wL, va_rf_some, va_rf_none, Option.toList_some, Option.toList_none, List.nil_append, List.cons_append, true_and, and_true, false_and, and_false, and_self, if_true, if_false, not_true_eq_false, not_false_eq_true, or_false, false_or, or_true, true_or, or_self, ite_true, ite_false, Option.some.injEq, reduceCtorEq, Nat.reduceMod, Nat.reduceDiv, Nat.reduceLeDiff, Nat.reduceEqDiff, Nat.reduceAdd, Nat.reduceMul, Nat.reduceSub, Nat.reduceLT, sw_nil, sw_int, sw_long, sw_ref, li, lo, nI_m1, ng_eq, nn_eq, en_eq, ng_le, ng_lt, Int32.neg_neg, nI_add, pk_mul, nI_clampO, nI_ltO, nI_leO, nI_eqO, nI_subO, nle_t, nle_f, nlt_t, nlt_f, neq_f, hA, hL, e, cmp_0, b1, b2]
    · rcases ih (k + 1) (by omega) with ⟨h1, h2⟩ | ⟨i, h1, h2, h3, h4⟩
      · refine Or.inl ⟨fun i q1 q2 => ?_, fun Q => ?_⟩
        · by_cases z : i = k
          · rw [z]; exact e
          · exact h1 i (by omega) q2
        · rw [r80_3]
          simp (disch := first | assumption | omega) only [r80_0, r80_1, r80_5, r80_6, r80_9, r80_11, r80_12, r80_13, r80_16, r80_17, r80_19, r80_20, r80_21, r80_22, r80_25, r80_27, r80_28, r80_31, r80_34, r80_35, rI_wI, rL_wL, rR_wR, rI_wL, rI_wR, rL_wI, rL_wR, rR_wI, rR_wL, va_rf_some, va_rf_none, Option.toList_some, Option.toList_none, List.nil_append, List.cons_append, true_and, and_true, false_and, and_false, and_self, if_true, if_false, not_true_eq_false, not_false_eq_true, or_false, false_or, or_true, true_or, or_self, ite_true, ite_false, Option.some.injEq, reduceCtorEq, Nat.reduceMod, Nat.reduceDiv, Nat.reduceLeDiff, Nat.reduceEqDiff, Nat.reduceAdd, Nat.reduceMul, Nat.reduceSub, Nat.reduceLT, sw_nil, sw_int, sw_long, sw_ref, li, lo, nI_m1, ng_eq, nn_eq, en_eq, ng_le, ng_lt, Int32.neg_neg, nI_add, pk_mul, nI_clampO, nI_ltO, nI_leO, nI_eqO, nI_subO, nle_t, nle_f, nlt_t, nlt_f, neq_f, hA, hL, e, cmp_0, h2, b1, b2]
      · refine Or.inr ⟨i, by omega, h2, h3, fun Q => ?_⟩
        rw [r80_3]
        simp (disch := first | assumption | omega) only [r80_0, r80_1, r80_5, r80_6, r80_9, r80_11, r80_12, r80_13, r80_16, r80_17, r80_19, r80_20, r80_21, r80_22, r80_25, r80_27, r80_28, r80_31, r80_34, r80_35, rI_wI, rL_wL, rR_wR, rI_wL, rI_wR, rL_wI, rL_wR, rR_wI, rR_wL, va_rf_some, va_rf_none, Option.toList_some, Option.toList_none, List.nil_append, List.cons_append, true_and, and_true, false_and, and_false, and_self, if_true, if_false, not_true_eq_false, not_false_eq_true, or_false, false_or, or_true, true_or, or_self, ite_true, ite_false, Option.some.injEq, reduceCtorEq, Nat.reduceMod, Nat.reduceDiv, Nat.reduceLeDiff, Nat.reduceEqDiff, Nat.reduceAdd, Nat.reduceMul, Nat.reduceSub, Nat.reduceLT, sw_nil, sw_int, sw_long, sw_ref, li, lo, nI_m1, ng_eq, nn_eq, en_eq, ng_le, ng_lt, Int32.neg_neg, nI_add, pk_mul, nI_clampO, nI_ltO, nI_leO, nI_eqO, nI_subO, nle_t, nle_f, nlt_t, nlt_f, neq_f, hA, hL, e, cmp_0, h4, b1, b2]
theorem c80 {A L : Nat} (hA : A % 100 = 21) (hL : A / 100 % 10000 = L) (hL2 : L ≤ 7) {n : Nat} (hn : n ≤ L) {v : Int64} {v3 : Option Value} : ((∀ i, i < n → rL μ A i ≠ v) ∧ ∀ Q, R d 80 0 [some (.ref A), some (.int (nI n)), some (.long v), v3, none] [] μ Q = Q (some (.int (-nI 1))) μ) ∨ (∃ i, i < n ∧ rL μ A i = v ∧ ∀ Q, R d 80 0 [some (.ref A), some (.int (nI n)), some (.long v), v3, none] [] μ Q = Q (some (.int (nI i))) μ) := by
  have st : ∀ Q, R d 80 0 [some (.ref A), some (.int (nI n)), some (.long v), v3, none] [] μ Q = R d 80 3 [some (.ref A), some (.int (nI n)), some (.long v), v3, some (.int (nI 0))] [] μ Q := by
    intro Q
    simp (disch := first | assumption | omega) only [r80_0, r80_1, rI_wI, rL_wL, rR_wR, rI_wL, rI_wR, rL_wI, rL_wR, rR_wI, rR_wL, va_rf_some, va_rf_none, Option.toList_some, Option.toList_none, List.nil_append, List.cons_append, true_and, and_true, false_and, and_false, and_self, if_true, if_false, not_true_eq_false, not_false_eq_true, or_false, false_or, or_true, true_or, or_self, ite_true, ite_false, Option.some.injEq, reduceCtorEq, Nat.reduceMod, Nat.reduceDiv, Nat.reduceLeDiff, Nat.reduceEqDiff, Nat.reduceAdd, Nat.reduceMul, Nat.reduceSub, Nat.reduceLT, sw_nil, sw_int, sw_long, sw_ref, li, lo, nI_m1, ng_eq, nn_eq, en_eq, ng_le, ng_lt, Int32.neg_neg, nI_add, pk_mul, nI_clampO, nI_ltO, nI_leO, nI_eqO, nI_subO, nle_t, nle_f, nlt_t, nlt_f, neq_f]
  rcases c80_l (d := d) (μ := μ) hA hL hL2 hn (v := v) (v3 := v3) n 0 (by omega) with ⟨h1, h2⟩ | ⟨i, -, h2, h3, h4⟩
  · exact Or.inl ⟨fun i hi => h1 i (by omega) hi, fun Q => (st Q).trans (h2 Q)⟩
  · exact Or.inr ⟨i, h2, h3, fun Q => (st Q).trans (h4 Q)⟩
theorem b256_ne {u v : List Nat} (hu : ltr u) (hv : ltr v) (h1 : u.length ≤ 8) (h2 : v.length ≤ 8) (h : lN (b256 u) = lN (b256 v)) : u = v := by
  rw [lN_eqO (b256_lt hu h1) (b256_lt hv h2)] at h
  exact b256_inj hu hv h
/-- a person of that name -/
theorem c80p (hG : NG nm) (hN : NCr μ nm n m) (hn : n ≤ 7) {u : List Nat} (hu : ltr u) (hl : u.length ≤ 8) {v3 : Option Value} : ∃ x, (∀ w, w < 7 → fnm nm u = some w → x = nI w) ∧ ((∀ w, w < 7 → fnm nm u ≠ some w) → x = -nI 1) ∧ ∀ Q, R d 80 0 [some (.ref 9000721), some (.int (nI n)), some (.long (lN (b256 u))), v3, none] [] μ Q = Q (some (.int x)) μ := by
  rcases c80 (d := d) (μ := μ) (A := 9000721) (L := 7) rfl rfl (by omega) hn (v := lN (b256 u)) (v3 := v3) with ⟨h1, h2⟩ | ⟨i, h1, h2, h3⟩
  · refine ⟨-nI 1, fun w hw e => ?_, fun _ => rfl, h2⟩
    rcases hN.2.2 u w (fnm_mem e) with ⟨q1, q2⟩ | ⟨q1, -⟩
    · exact absurd q2 (h1 w q1)
    · omega
  · obtain ⟨u', k1, k2⟩ := hN.1 i h1
    have e : u' = u := b256_ne (hG.1 _ k1).1 hu (hG.1 _ k1).2 hl (k2.symm.trans h2)
    subst e
    have e2 := fnm_some hG.2 k1
    refine ⟨nI i, fun w hw z => ?_, fun z => absurd e2 (z i (by omega)), h3⟩
    rw [e2] at z
    cases z
    rfl
theorem c80f (hG : NG nm) (hN : NCr μ nm n m) (hn : n ≤ 7) (hm : m ≤ 4) {u : List Nat} (hu : ltr u) (hl : u.length ≤ 8) {v3 : Option Value} : (fnm nm u = none → ∀ Q, R d 80 0 [some (.ref 10000421), some (.int (nI m)), some (.long (lN (b256 u))), v3, none] [] μ Q = Q (some (.int (-nI 1))) μ) ∧ (fnm nm u = some 100 → ∃ i, i < 4 ∧ ∀ Q, R d 80 0 [some (.ref 10000421), some (.int (nI m)), some (.long (lN (b256 u))), v3, none] [] μ Q = Q (some (.int (nI i))) μ) := by
  rcases c80 (d := d) (μ := μ) (A := 10000421) (L := 4) rfl rfl (by omega) hm (v := lN (b256 u)) (v3 := v3) with ⟨h1, h2⟩ | ⟨i, h1, h2, h3⟩
  · refine ⟨fun _ => h2, fun e => ?_⟩
    rcases hN.2.2 u 100 (fnm_mem e) with ⟨q1, q2⟩ | ⟨-, f, q1, q2⟩
    · omega
    · exact absurd q2 (h1 f q1)
  · obtain ⟨u', k1, k2⟩ := hN.2.1 i h1
    have e : u' = u := b256_ne (hG.1 _ k1).1 hu (hG.1 _ k1).2 hl (k2.symm.trans h2)
    subst e
    have e2 := fnm_some hG.2 k1
    exact ⟨fun z => (by rw [e2] at z; cases z), fun _ => ⟨i, by omega, h3⟩⟩
end T1
