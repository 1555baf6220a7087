/-! WHAT A QUESTION MAY LEAVE BEHIND: THE CLASS -/
def cs (a j : Nat) : Prop := a = 24006420 ∨ a = 38006420 ∨ ((a = 20000002 ∨ a = 34000002) ∧ 5 ≤ j ∧ j ≤ 9) ∨ (86000000 ≤ a ∧ a < 102000000)
def CSc (μ ν : PM) : Prop := (∀ a j, ¬ cs a j → rI ν a j = rI μ a j) ∧ (∀ a j, ¬ (86000000 ≤ a ∧ a < 102000000 ∧ a ≠ 93000000) → rL ν a j = rL μ a j) ∧ (∀ a j, rR ν a j = rR μ a j) ∧ aS ν = aS μ
theorem CSc_rf (μ : PM) : CSc μ μ := ⟨fun _ _ _ => rfl, fun _ _ _ => rfl, fun _ _ => rfl, rfl⟩
theorem CSc_tr {μ ν ρ : PM} (h : CSc μ ν) (k : CSc ν ρ) : CSc μ ρ := ⟨fun a j q => (k.1 a j q).trans (h.1 a j q), fun a j q => (k.2.1 a j q).trans (h.2.1 a j q), fun a j => (k.2.2.1 a j).trans (h.2.2.1 a j), k.2.2.2.trans h.2.2.2⟩
theorem CSc_SC {μ ν : PM} (h : SC μ ν) : CSc μ ν := ⟨fun a j q => h.1 a j (fun e => q (Or.inl e)) (fun e => q (Or.inr (Or.inl e))) (fun e => q (Or.inr (Or.inr (Or.inl e)))), fun a j _ => h.2.1 a j, h.2.2.1, h.2.2.2⟩
theorem CSc_wI (μ : PM) {a : Nat} (j : Nat) (x : Int32) (h : 86000000 ≤ a ∧ a < 102000000) : CSc μ (wI μ a j x) := ⟨fun b k q => by rw [rI_wI, if_neg (fun e => q (by rw [← e.1]; exact Or.inr (Or.inr (Or.inr h))))], fun _ _ _ => rfl, fun _ _ => rfl, rfl⟩
theorem CSc_wA (μ : PM) {a : Nat} (f : Nat → Int32) (h : 86000000 ≤ a ∧ a < 102000000) : CSc μ (wA μ a f) := ⟨fun b k q => by rw [rI_wA, if_neg (fun e => q (by rw [← e]; exact Or.inr (Or.inr (Or.inr h))))], fun _ _ _ => rfl, fun _ _ => rfl, rfl⟩
theorem CSc_wL (μ : PM) {a : Nat} (j : Nat) (x : Int64) (h : 86000000 ≤ a ∧ a < 102000000 ∧ a ≠ 93000000) : CSc μ (wL μ a j x) := ⟨fun _ _ _ => rfl, fun b k q => by rw [rL_wL, if_neg (fun e => q (by rw [← e.1]; exact h))], fun _ _ => rfl, rfl⟩
theorem CSc_HE {μ ν : PM} (h : CSc μ ν) : HE μ ν := ⟨fun a j q => ⟨h.1 a j (fun e => by unfold cs at e; omega), h.2.1 a j (by omega), h.2.2.1 a j⟩, h.2.2.2⟩
theorem CSc_I {μ ν : PM} (h : CSc μ ν) {a j : Nat} (q : ¬ cs a j) : rI ν a j = rI μ a j := h.1 a j q
theorem CSc_FX {μ ν : PM} (h : CSc μ ν) (hF : FX μ) : FX ν := fun q hq => (h.2.2.1 _ _).trans (hF q hq)
theorem ncs {a j : Nat} (h : a ≠ 24006420 ∧ a ≠ 38006420 ∧ a ≠ 20000002 ∧ a ≠ 34000002 ∧ (a < 86000000 ∨ 102000000 ≤ a)) : ¬ cs a j := by unfold cs; omega
theorem CSc_CPa {μ ν : PM} {pa : Nat → Nat} (h : CSc μ ν) (hC : CPa μ pa) : CPa ν pa := by
  have e : ∀ a j, a ≠ 24006420 ∧ a ≠ 38006420 ∧ a ≠ 20000002 ∧ a ≠ 34000002 ∧ (a < 86000000 ∨ 102000000 ≤ a) → rI ν a j = rI μ a j := fun a j q => h.1 a j (ncs q)
  unfold CPa at hC ⊢
  simpa (disch := omega) only [e] using hC
theorem CSc_CLa {μ ν : PM} {lw : LW} (h : CSc μ ν) (hC : CLa μ lw) : CLa ν lw := by
  have e : ∀ a j, a ≠ 24006420 ∧ a ≠ 38006420 ∧ a ≠ 20000002 ∧ a ≠ 34000002 ∧ (a < 86000000 ∨ 102000000 ≤ a) → rI ν a j = rI μ a j := fun a j q => h.1 a j (ncs q)
  unfold CLa cdCa at hC ⊢
  simpa (disch := omega) only [e] using hC
theorem CSc_CPb {μ ν : PM} {pa : Nat → Nat} (h : CSc μ ν) (hC : CPb μ pa) : CPb ν pa := by
  have e : ∀ a j, a ≠ 24006420 ∧ a ≠ 38006420 ∧ a ≠ 20000002 ∧ a ≠ 34000002 ∧ (a < 86000000 ∨ 102000000 ≤ a) → rI ν a j = rI μ a j := fun a j q => h.1 a j (ncs q)
  unfold CPb at hC ⊢
  simpa (disch := omega) only [e] using hC
theorem CSc_CLb {μ ν : PM} {lw : LW} (h : CSc μ ν) (hC : CLb μ lw) : CLb ν lw := by
  have e : ∀ a j, a ≠ 24006420 ∧ a ≠ 38006420 ∧ a ≠ 20000002 ∧ a ≠ 34000002 ∧ (a < 86000000 ∨ 102000000 ≤ a) → rI ν a j = rI μ a j := fun a j q => h.1 a j (ncs q)
  unfold CLb cdCb at hC ⊢
  simpa (disch := omega) only [e] using hC
theorem CSc_CPt {μ ν : PM} {pa : Nat → Nat} {lw : LW} (h : CSc μ ν) (hC : CPt μ pa lw) : CPt ν pa lw := by
  rcases hC with ⟨h1, h2, h3, h4⟩ | ⟨h1, h2, h3, h4⟩
  · exact Or.inl ⟨(h.2.2.1 _ _).trans h1, (h.2.2.1 _ _).trans h2, CSc_CPa h h3, CSc_CLa h h4⟩
  · exact Or.inr ⟨(h.2.2.1 _ _).trans h1, (h.2.2.1 _ _).trans h2, CSc_CPb h h3, CSc_CLb h h4⟩
theorem CSc_CSg {μ ν : PM} {a o n : Nat} {s : Nat → Nat} (h : CSc μ ν) (ha : a ≠ 24006420 ∧ a ≠ 38006420 ∧ a ≠ 20000002 ∧ a ≠ 34000002 ∧ (a < 86000000 ∨ 102000000 ≤ a)) (ho : o ≠ 24006420 ∧ o ≠ 38006420 ∧ o ≠ 20000002 ∧ o ≠ 34000002 ∧ (o < 86000000 ∨ 102000000 ≤ o)) (hC : CSg μ a o n s) : CSg ν a o n s := by
  unfold CSg at hC ⊢
  simpa only [CSc_I h (ncs ha), CSc_I h (ncs ho)] using hC
theorem CSc_CPs {μ ν : PM} {n : Nat} {un : List (Nat → Nat)} (h : CSc μ ν) (hC : CPs μ n un) : CPs ν n un := by
  obtain ⟨h1, nx, h2, h3, h4⟩ := hC
  refine ⟨(CSc_I h (ncs (by omega))).trans h1, nx, h2, (CSc_I h (ncs (by omega))).trans h3, fun i hi => ?_⟩
  refine CSc_CSg h ?_ ?_ (h4 i hi)
  · unfold pstA; omega
  · unfold pstO; omega
theorem CSc_CMk {μ ν : PM} {n : Nat} {mk : Nat → Option (Nat → Nat)} (h : CSc μ ν) (hC : CMk μ n mk) : CMk ν n mk := by
  obtain ⟨b, h1, h2, h3⟩ := hC
  refine ⟨b, h1, (CSc_I h (ncs (by omega))).trans h2, fun m hm => ⟨(h3 m hm).1, fun t ht => ⟨((h3 m hm).2 t ht).1, ?_⟩⟩⟩
  refine CSc_CSg h ?_ ?_ ((h3 m hm).2 t ht).2
  · unfold mrkA; omega
  · unfold mrkO; omega
theorem CSc_CLn {μ ν : PM} {t : List Nat} (h : CSc μ ν) (hC : CLn μ t) : CLn ν t := by
  have e : ∀ a j, a ≠ 24006420 ∧ a ≠ 38006420 ∧ a ≠ 20000002 ∧ a ≠ 34000002 ∧ (a < 86000000 ∨ 102000000 ≤ a) → rI ν a j = rI μ a j := fun a j q => h.1 a j (ncs q)
  unfold CLn at hC ⊢
  simpa (disch := omega) only [e] using hC
theorem CSc_CTp {μ ν : PM} {t : List Nat} (h : CSc μ ν) (hC : CTp μ t) : CTp ν t := by
  have e : ∀ a j, a ≠ 24006420 ∧ a ≠ 38006420 ∧ a ≠ 20000002 ∧ a ≠ 34000002 ∧ (a < 86000000 ∨ 102000000 ≤ a) → rI ν a j = rI μ a j := fun a j q => h.1 a j (ncs q)
  unfold CTp at hC ⊢
  simpa (disch := omega) only [e] using hC
theorem CSc_CO {μ ν : PM} {pa : Nat → Nat} {lw : LW} {s : Nat → Nat} (h : CSc μ ν) (hC : CO μ pa lw s) : CO ν pa lw s := by
  have e : ∀ a j, a ≠ 24006420 ∧ a ≠ 38006420 ∧ a ≠ 20000002 ∧ a ≠ 34000002 ∧ (a < 86000000 ∨ 102000000 ≤ a) → rI ν a j = rI μ a j := fun a j q => h.1 a j (ncs q)
  have e2 : ∀ j, rL ν 93000000 j = rL μ 93000000 j := fun j => h.2.1 _ _ (by omega)
  unfold CO OCk at hC ⊢
  simpa (disch := omega) only [e, e2] using hC
theorem CSc_CH {μ ν : PM} {pa : Nat → Nat} {lw : LW} {s : Nat → Nat} {un : List (Nat → Nat)} {mk : Nat → Option (Nat → Nat)} {tp : List Nat} (h : CSc μ ν) (hC : CH μ pa lw s un mk tp) : CH ν pa lw s un mk tp := by
  obtain ⟨h1, h2, h3, h4, h5, h6, h7, h8⟩ := hC
  exact ⟨CSc_FX h h1, CSc_CPt h h2, CSc_CSg h (by omega) (by omega) h3, CSc_CPs h h4, CSc_CMk h h5, CSc_CLn h h6, CSc_CTp h h7, CSc_CO h h8⟩
section T1
variable {d : Nat} {μ : PM} {Q : Option Value → PM → Prop} {pa : Nat → Nat} {lw : LW} {s : Nat → Nat} {un : List (Nat → Nat)} {mk : Nat → Option (Nat → Nat)} {tp : List Nat}
/-- the party's chance and seconds, wherever it lies -/
theorem cCh (hF : FX μ) (hC : CPt μ pa lw) (hP : PK pa) {fz a b pc : Nat} (ha : a < pa 0) (hb : b < pa 0) (hf : fz ≤ pa 1) : ∃ P ν, P % 100 = 5 ∧ rR μ 2000010 2 = some P ∧ SC μ ν ∧ ∀ Q, R (d + 3) 55 0 [some (.ref P), some (.int (nI a)), some (.int (nI b)), some (.int (fI fz)), some (.int (nI pc)), none] [] μ Q = Q (some (.int (nI (chN pa lw fz a b pc)))) ν := by
  rcases hC with ⟨h1, -, h3, h4⟩ | ⟨h1, -, h3, h4⟩
  · obtain ⟨ν, k1, k2⟩ := c55a (d := d) hF h3 h4 hP (pc := pc) ha hb hf
    rw [chI_N] at k2
    exact ⟨_, ν, by decide, h1, k1, k2⟩
  · obtain ⟨ν, k1, k2⟩ := c55b (d := d) hF h3 h4 hP (pc := pc) ha hb hf
    rw [chI_N] at k2
    exact ⟨_, ν, by decide, h1, k1, k2⟩
theorem cSe (hF : FX μ) (hC : CPt μ pa lw) (hP : PK pa) {fz a b pc : Nat} (ha : a < pa 0) (hb : b < pa 0) (hf : fz ≤ pa 1) : ∃ P ν, P % 100 = 5 ∧ rR μ 2000010 2 = some P ∧ SC μ ν ∧ ∀ Q, R (d + 3) 56 0 [some (.ref P), some (.int (nI a)), some (.int (nI b)), some (.int (fI fz)), some (.int (nI pc)), none] [] μ Q = Q (some (.int (nI (scN pa lw fz a b pc)))) ν := by
  rcases hC with ⟨h1, -, h3, h4⟩ | ⟨h1, -, h3, h4⟩
  · obtain ⟨ν, k1, k2⟩ := c56a (d := d) hF h3 h4 hP (pc := pc) ha hb hf
    rw [scI_N] at k2
    exact ⟨_, ν, by decide, h1, k1, k2⟩
  · obtain ⟨ν, k1, k2⟩ := c56b (d := d) hF h3 h4 hP (pc := pc) ha hb hf
    rw [scI_N] at k2
    exact ⟨_, ν, by decide, h1, k1, k2⟩
/-- two people of the party, and a pace -/
def psO (pa : Nat → Nat) (x z p : Int32) : Prop := ∃ a b c, a < pa 0 ∧ b < pa 0 ∧ a ≠ b ∧ c < 4 ∧ x = nI a ∧ z = nI b ∧ p = nI c
theorem c117y (hC : CPt μ pa lw) (hP : PK pa) {a b : Nat} (ha : a < pa 0) (hb : b < pa 0) (hab : a ≠ b) : R (d + 1) 117 0 [some (.ref 2000010), some (.int (nI a)), some (.int (nI b))] [] μ Q = Q (some (.int (nI 1))) μ := by
  have hp := hP.1.1
  have c1 := fun Q => c116y (d := d) (Q := Q) hC hP ha
  have c2 := fun Q => c116y (d := d) (Q := Q) hC hP hb
  simp (disch := first | assumption | omega) only [r117_0, r117_1, r117_2, r117_5, r117_8, r117_9, r117_10, r117_13, r117_16, r117_17, j117_18, r117_21, r117_22, r117_25, r117_26, rI_wI, rL_wL, rR_wR, rI_wL, rI_wR, rL_wI, rL_wR, rR_wI, rR_wL, va_rf_some, va_rf_none, Option.toList_some, Option.toList_none, List.nil_append, List.cons_append, true_and, and_true, false_and, and_false, and_self, if_true, if_false, not_true_eq_false, not_false_eq_true, or_false, false_or, or_true, true_or, or_self, ite_true, ite_false, Option.some.injEq, reduceCtorEq, Nat.reduceMod, Nat.reduceDiv, Nat.reduceLeDiff, Nat.reduceEqDiff, Nat.reduceAdd, Nat.reduceMul, Nat.reduceSub, Nat.reduceLT, sw_nil, sw_int, sw_long, sw_ref, li, lo, nI_m1, ng_eq, nn_eq, en_eq, ng_le, ng_lt, Int32.neg_neg, nI_add, pk_mul, nI_clampO, nI_ltO, nI_leO, nI_eqO, nI_subO, nle_t, nle_f, nlt_t, nlt_f, neq_f, c1, c2]
theorem c117n (hC : CPt μ pa lw) (hP : PK pa) {x z : Int32} (h : ¬ ∃ a b, a < pa 0 ∧ b < pa 0 ∧ a ≠ b ∧ x = nI a ∧ z = nI b) : R (d + 1) 117 0 [some (.ref 2000010), some (.int x), some (.int z)] [] μ Q = Q (some (.int (nI 0))) μ := by
  have hp := hP.1.1
  have hx : (x < nI 0 ∨ nI (pa 0) ≤ x) ∨ ∃ a, a < pa 0 ∧ x = nI a := by
    rcases xcs x (pa 0) (by omega) with h | h | h
    · exact Or.inl (Or.inl h)
    · exact Or.inl (Or.inr h)
    · exact Or.inr h
  have hz : (z < nI 0 ∨ nI (pa 0) ≤ z) ∨ ∃ a, a < pa 0 ∧ z = nI a := by
    rcases xcs z (pa 0) (by omega) with h | h | h
    · exact Or.inl (Or.inl h)
    · exact Or.inl (Or.inr h)
    · exact Or.inr h
  rcases hx with hx | ⟨a, ha, rfl⟩
  · have c1 := fun Q => c116n (d := d) (Q := Q) hC hP hx
    simp (disch := first | assumption | omega) only [r117_0, r117_1, r117_2, r117_5, r117_8, r117_9, r117_10, r117_13, r117_16, r117_17, j117_18, r117_21, r117_22, r117_25, r117_26, rI_wI, rL_wL, rR_wR, rI_wL, rI_wR, rL_wI, rL_wR, rR_wI, rR_wL, va_rf_some, va_rf_none, Option.toList_some, Option.toList_none, List.nil_append, List.cons_append, true_and, and_true, false_and, and_false, and_self, if_true, if_false, not_true_eq_false, not_false_eq_true, or_false, false_or, or_true, true_or, or_self, ite_true, ite_false, Option.some.injEq, reduceCtorEq, Nat.reduceMod, Nat.reduceDiv, Nat.reduceLeDiff, Nat.reduceEqDiff, Nat.reduceAdd, Nat.reduceMul, Nat.reduceSub, Nat.reduceLT, sw_nil, sw_int, sw_long, sw_ref, li, lo, nI_m1, ng_eq, nn_eq, en_eq, ng_le, ng_lt, Int32.neg_neg, nI_add, pk_mul, nI_clampO, nI_ltO, nI_leO, nI_eqO, nI_subO, nle_t, nle_f, nlt_t, nlt_f, neq_f, c1]
  · have c1 := fun Q => c116y (d := d) (Q := Q) hC hP ha
    rcases hz with hz | ⟨b, hb, rfl⟩
    · have c2 := fun Q => c116n (d := d) (Q := Q) hC hP hz
      simp (disch := first | assumption | omega) only [r117_0, r117_1, r117_2, r117_5, r117_8, r117_9, r117_10, r117_13, r117_16, r117_17, j117_18, r117_21, r117_22, r117_25, r117_26, rI_wI, rL_wL, rR_wR, rI_wL, rI_wR, rL_wI, rL_wR, rR_wI, rR_wL, va_rf_some, va_rf_none, Option.toList_some, Option.toList_none, List.nil_append, List.cons_append, true_and, and_true, false_and, and_false, and_self, if_true, if_false, not_true_eq_false, not_false_eq_true, or_false, false_or, or_true, true_or, or_self, ite_true, ite_false, Option.some.injEq, reduceCtorEq, Nat.reduceMod, Nat.reduceDiv, Nat.reduceLeDiff, Nat.reduceEqDiff, Nat.reduceAdd, Nat.reduceMul, Nat.reduceSub, Nat.reduceLT, sw_nil, sw_int, sw_long, sw_ref, li, lo, nI_m1, ng_eq, nn_eq, en_eq, ng_le, ng_lt, Int32.neg_neg, nI_add, pk_mul, nI_clampO, nI_ltO, nI_leO, nI_eqO, nI_subO, nle_t, nle_f, nlt_t, nlt_f, neq_f, c1, c2]
    · have c2 := fun Q => c116y (d := d) (Q := Q) hC hP hb
      have e : a = b := by
        by_cases e : a = b
        · exact e
        · exact absurd ⟨a, b, ha, hb, e, rfl, rfl⟩ h
      subst e
      simp (disch := first | assumption | omega) only [r117_0, r117_1, r117_2, r117_5, r117_8, r117_9, r117_10, r117_13, r117_16, r117_17, j117_18, r117_21, r117_22, r117_25, r117_26, rI_wI, rL_wL, rR_wR, rI_wL, rI_wR, rL_wI, rL_wR, rR_wI, rR_wL, va_rf_some, va_rf_none, Option.toList_some, Option.toList_none, List.nil_append, List.cons_append, true_and, and_true, false_and, and_false, and_self, if_true, if_false, not_true_eq_false, not_false_eq_true, or_false, false_or, or_true, true_or, or_self, ite_true, ite_false, Option.some.injEq, reduceCtorEq, Nat.reduceMod, Nat.reduceDiv, Nat.reduceLeDiff, Nat.reduceEqDiff, Nat.reduceAdd, Nat.reduceMul, Nat.reduceSub, Nat.reduceLT, sw_nil, sw_int, sw_long, sw_ref, li, lo, nI_m1, ng_eq, nn_eq, en_eq, ng_le, ng_lt, Int32.neg_neg, nI_add, pk_mul, nI_clampO, nI_ltO, nI_leO, nI_eqO, nI_subO, nle_t, nle_f, nlt_t, nlt_f, neq_f, c1]
theorem pcs (p : Int32) : (p < nI 0 ∨ nI 4 ≤ p) ∨ ∃ c, c < 4 ∧ p = nI c := by
  rcases xcs p 4 (by omega) with h | h | h
  · exact Or.inl (Or.inl h)
  · exact Or.inl (Or.inr h)
  · exact Or.inr h
theorem c99n (hC : CPt μ pa lw) (hP : PK pa) {x z p : Int32} (h : ¬ psO pa x z p) : R (d + 2) 99 0 [some (.ref 2000010), some (.int x), some (.int z), some (.int p)] [] μ Q = Q (some (.int (-nI 1))) μ := by
  by_cases h1 : ∃ a b, a < pa 0 ∧ b < pa 0 ∧ a ≠ b ∧ x = nI a ∧ z = nI b
  · obtain ⟨a, b, ha, hb, hab, rfl, rfl⟩ := h1
    have c1 := fun Q => c117y (d := d) (Q := Q) hC hP ha hb hab
    rcases pcs p with hp | ⟨c, hc, rfl⟩
    · have c2 := fun Q => c118n (d := d + 1) (μ := μ) (Q := Q) hp
      simp (disch := first | assumption | omega) only [r99_0, r99_1, r99_2, r99_3, r99_6, r99_9, r99_10, r99_13, r99_16, r99_17, r99_18, r99_19, r99_22, r99_23, r99_24, r99_25, r99_28, r99_31, r99_32, r99_35, rI_wI, rL_wL, rR_wR, rI_wL, rI_wR, rL_wI, rL_wR, rR_wI, rR_wL, va_rf_some, va_rf_none, Option.toList_some, Option.toList_none, List.nil_append, List.cons_append, true_and, and_true, false_and, and_false, and_self, if_true, if_false, not_true_eq_false, not_false_eq_true, or_false, false_or, or_true, true_or, or_self, ite_true, ite_false, Option.some.injEq, reduceCtorEq, Nat.reduceMod, Nat.reduceDiv, Nat.reduceLeDiff, Nat.reduceEqDiff, Nat.reduceAdd, Nat.reduceMul, Nat.reduceSub, Nat.reduceLT, sw_nil, sw_int, sw_long, sw_ref, li, lo, nI_m1, ng_eq, nn_eq, en_eq, ng_le, ng_lt, Int32.neg_neg, nI_add, pk_mul, nI_clampO, nI_ltO, nI_leO, nI_eqO, nI_subO, nle_t, nle_f, nlt_t, nlt_f, neq_f, c1, c2]
    · exact absurd ⟨a, b, c, ha, hb, hab, hc, rfl, rfl, rfl⟩ h
  · have c1 := fun Q => c117n (d := d) (Q := Q) hC hP h1
    simp (disch := first | assumption | omega) only [r99_0, r99_1, r99_2, r99_3, r99_6, r99_9, r99_10, r99_13, r99_16, r99_17, r99_18, r99_19, r99_22, r99_23, r99_24, r99_25, r99_28, r99_31, r99_32, r99_35, rI_wI, rL_wL, rR_wR, rI_wL, rI_wR, rL_wI, rL_wR, rR_wI, rR_wL, va_rf_some, va_rf_none, Option.toList_some, Option.toList_none, List.nil_append, List.cons_append, true_and, and_true, false_and, and_false, and_self, if_true, if_false, not_true_eq_false, not_false_eq_true, or_false, false_or, or_true, true_or, or_self, ite_true, ite_false, Option.some.injEq, reduceCtorEq, Nat.reduceMod, Nat.reduceDiv, Nat.reduceLeDiff, Nat.reduceEqDiff, Nat.reduceAdd, Nat.reduceMul, Nat.reduceSub, Nat.reduceLT, sw_nil, sw_int, sw_long, sw_ref, li, lo, nI_m1, ng_eq, nn_eq, en_eq, ng_le, ng_lt, Int32.neg_neg, nI_add, pk_mul, nI_clampO, nI_ltO, nI_leO, nI_eqO, nI_subO, nle_t, nle_f, nlt_t, nlt_f, neq_f, c1]
theorem c100n (hC : CPt μ pa lw) (hP : PK pa) {x z p : Int32} (h : ¬ psO pa x z p) : R (d + 2) 100 0 [some (.ref 2000010), some (.int x), some (.int z), some (.int p)] [] μ Q = Q (some (.int (-nI 1))) μ := by
  by_cases h1 : ∃ a b, a < pa 0 ∧ b < pa 0 ∧ a ≠ b ∧ x = nI a ∧ z = nI b
  · obtain ⟨a, b, ha, hb, hab, rfl, rfl⟩ := h1
    have c1 := fun Q => c117y (d := d) (Q := Q) hC hP ha hb hab
    rcases pcs p with hp | ⟨c, hc, rfl⟩
    · have c2 := fun Q => c118n (d := d + 1) (μ := μ) (Q := Q) hp
      simp (disch := first | assumption | omega) only [r100_0, r100_1, r100_2, r100_3, r100_6, r100_9, r100_10, r100_13, r100_16, r100_17, r100_18, r100_19, r100_22, r100_23, r100_24, r100_25, r100_28, r100_31, r100_32, r100_35, rI_wI, rL_wL, rR_wR, rI_wL, rI_wR, rL_wI, rL_wR, rR_wI, rR_wL, va_rf_some, va_rf_none, Option.toList_some, Option.toList_none, List.nil_append, List.cons_append, true_and, and_true, false_and, and_false, and_self, if_true, if_false, not_true_eq_false, not_false_eq_true, or_false, false_or, or_true, true_or, or_self, ite_true, ite_false, Option.some.injEq, reduceCtorEq, Nat.reduceMod, Nat.reduceDiv, Nat.reduceLeDiff, Nat.reduceEqDiff, Nat.reduceAdd, Nat.reduceMul, Nat.reduceSub, Nat.reduceLT, sw_nil, sw_int, sw_long, sw_ref, li, lo, nI_m1, ng_eq, nn_eq, en_eq, ng_le, ng_lt, Int32.neg_neg, nI_add, pk_mul, nI_clampO, nI_ltO, nI_leO, nI_eqO, nI_subO, nle_t, nle_f, nlt_t, nlt_f, neq_f, c1, c2]
    · exact absurd ⟨a, b, c, ha, hb, hab, hc, rfl, rfl, rfl⟩ h
  · have c1 := fun Q => c117n (d := d) (Q := Q) hC hP h1
    simp (disch := first | assumption | omega) only [r100_0, r100_1, r100_2, r100_3, r100_6, r100_9, r100_10, r100_13, r100_16, r100_17, r100_18, r100_19, r100_22, r100_23, r100_24, r100_25, r100_28, r100_31, r100_32, r100_35, rI_wI, rL_wL, rR_wR, rI_wL, rI_wR, rL_wI, rL_wR, rR_wI, rR_wL, va_rf_some, va_rf_none, Option.toList_some, Option.toList_none, List.nil_append, List.cons_append, true_and, and_true, false_and, and_false, and_self, if_true, if_false, not_true_eq_false, not_false_eq_true, or_false, false_or, or_true, true_or, or_self, ite_true, ite_false, Option.some.injEq, reduceCtorEq, Nat.reduceMod, Nat.reduceDiv, Nat.reduceLeDiff, Nat.reduceEqDiff, Nat.reduceAdd, Nat.reduceMul, Nat.reduceSub, Nat.reduceLT, sw_nil, sw_int, sw_long, sw_ref, li, lo, nI_m1, ng_eq, nn_eq, en_eq, ng_le, ng_lt, Int32.neg_neg, nI_add, pk_mul, nI_clampO, nI_ltO, nI_leO, nI_eqO, nI_subO, nle_t, nle_f, nlt_t, nlt_f, neq_f, c1]
theorem c99y (hC : CH μ pa lw s un mk tp) (hK : OKA pa s un mk tp) {a b c : Nat} (ha : a < pa 0) (hb : b < pa 0) (hab : a ≠ b) (hc : c < 4) : ∃ ν, CSc μ ν ∧ ∀ Q, R (d + 4) 99 0 [some (.ref 2000010), some (.int (nI a)), some (.int (nI b)), some (.int (nI c))] [] μ Q = Q (some (.int (nI (chN pa lw (s 8) a b c)))) ν := by
  have hF := hC.1
  have c1 := fun Q => c117y (d := d + 2) (Q := Q) hC.2.1 hK.1 ha hb hab
  have c2 := fun Q => c118y (d := d + 3) (μ := μ) (Q := Q) hc
  obtain ⟨P, ν, h5, hr, k1, k2⟩ := cCh (d := d) (pc := c) hF hC.2.1 hK.1 ha hb hK.2.1.2.2.2.2.1
  refine ⟨ν, CSc_SC k1, fun Q => ?_⟩
  simp (disch := first | assumption | omega) only [r99_0, r99_1, r99_2, r99_3, r99_6, r99_9, r99_10, r99_13, r99_16, r99_17, r99_18, r99_19, r99_22, r99_23, r99_24, r99_25, r99_28, r99_31, r99_32, r99_35, rI_wI, rL_wL, rR_wR, rI_wL, rI_wR, rL_wI, rL_wR, rR_wI, rR_wL, va_rf_some, va_rf_none, Option.toList_some, Option.toList_none, List.nil_append, List.cons_append, true_and, and_true, false_and, and_false, and_self, if_true, if_false, not_true_eq_false, not_false_eq_true, or_false, false_or, or_true, true_or, or_self, ite_true, ite_false, Option.some.injEq, reduceCtorEq, Nat.reduceMod, Nat.reduceDiv, Nat.reduceLeDiff, Nat.reduceEqDiff, Nat.reduceAdd, Nat.reduceMul, Nat.reduceSub, Nat.reduceLT, sw_nil, sw_int, sw_long, sw_ref, li, lo, nI_m1, ng_eq, nn_eq, en_eq, ng_le, ng_lt, Int32.neg_neg, nI_add, pk_mul, nI_clampO, nI_ltO, nI_leO, nI_eqO, nI_subO, nle_t, nle_f, nlt_t, nlt_f, neq_f, fx_2000010_0, fx_2000010_1, fx_2000010_4, fx_2000010_5, fx_2000010_6, fx_2000010_8, fx_2000010_10, fx_2000010_11, fx_2000010_12, fx_2000010_13, fx_2000010_14, fx_2000010_15, fx_2000010_16, fx_2000010_17, fx_2000010_18, fx_3000009_0, fx_5000007_0, fx_5000007_1, fx_5000007_2, fx_5000007_3, fx_7000001_0, fx_11000005_1, fx_11000005_2, fx_11000005_3, fx_11000005_4, fx_11000005_5, fx_11000005_6, fx_11000005_10, fx_11000005_11, fx_11000005_12, fx_20000002_0, fx_20000002_2, fx_20000002_3, fx_20000002_4, fx_25000005_1, fx_25000005_2, fx_25000005_3, fx_25000005_4, fx_25000005_5, fx_25000005_6, fx_25000005_10, fx_25000005_11, fx_25000005_12, fx_34000002_0, fx_34000002_2, fx_34000002_3, fx_34000002_4, fx_39000008_0, fx_41000006_0, fx_42002024_0, fx_42002024_1, fx_42002024_2, fx_42002024_3, fx_42002024_4, fx_42002024_5, fx_42002024_6, fx_42002024_7, fx_42002024_8, fx_42002024_9, fx_42002024_10, fx_42002024_11, fx_42002024_12, fx_42002024_13, fx_42002024_14, fx_42002024_15, fx_42002024_16, fx_42002024_17, fx_42002024_18, fx_42002024_19, fx_43000008_0, fx_45000008_0, fx_47000008_0, fx_49000008_0, fx_51000008_0, fx_53000008_0, fx_55000008_0, fx_57000008_0, fx_59000008_0, fx_61000008_0, fx_63000008_0, fx_65000008_0, fx_67000008_0, fx_69000008_0, fx_71000008_0, fx_73000008_0, fx_75000008_0, fx_77000008_0, fx_79000008_0, fx_81000008_0, fx_83000424_0, fx_83000424_1, fx_83000424_2, fx_83000424_3, fx_85000004_0, fx_85000004_1, fx_85000004_2, fx_85000004_3, fx_85000004_4, fx_85000004_5, fx_85000004_6, fx_85000004_10, fx_102000008_0, fx_104000008_0, fx_106000008_0, fx_108000008_0, fx_110000011_1, fx_110000011_4, fx_110000011_5, fx_110000011_6, fx_110000011_9, fx_110000011_10, fx_110000011_11, fx_110000011_12, fx_110000011_14, fx_110000011_15, fx_110000011_20, fx_110000011_21, fx_110000011_22, fx_110000011_23, fx_110000011_25, fx_110000011_26, fx_110000011_31, fx_110000011_32, fx_110000011_37, fx_110000011_38, fx_110000011_39, fx_110000011_40, c1, c2, hr, h5, hC.2.2.1.2.2.1, k2]
theorem c100y (hC : CH μ pa lw s un mk tp) (hK : OKA pa s un mk tp) {a b c : Nat} (ha : a < pa 0) (hb : b < pa 0) (hab : a ≠ b) (hc : c < 4) : ∃ ν, CSc μ ν ∧ ∀ Q, R (d + 4) 100 0 [some (.ref 2000010), some (.int (nI a)), some (.int (nI b)), some (.int (nI c))] [] μ Q = Q (some (.int (nI (scN pa lw (s 8) a b c)))) ν := by
  have hF := hC.1
  have c1 := fun Q => c117y (d := d + 2) (Q := Q) hC.2.1 hK.1 ha hb hab
  have c2 := fun Q => c118y (d := d + 3) (μ := μ) (Q := Q) hc
  obtain ⟨P, ν, h5, hr, k1, k2⟩ := cSe (d := d) (pc := c) hF hC.2.1 hK.1 ha hb hK.2.1.2.2.2.2.1
  refine ⟨ν, CSc_SC k1, fun Q => ?_⟩
  simp (disch := first | assumption | omega) only [r100_0, r100_1, r100_2, r100_3, r100_6, r100_9, r100_10, r100_13, r100_16, r100_17, r100_18, r100_19, r100_22, r100_23, r100_24, r100_25, r100_28, r100_31, r100_32, r100_35, rI_wI, rL_wL, rR_wR, rI_wL, rI_wR, rL_wI, rL_wR, rR_wI, rR_wL, va_rf_some, va_rf_none, Option.toList_some, Option.toList_none, List.nil_append, List.cons_append, true_and, and_true, false_and, and_false, and_self, if_true, if_false, not_true_eq_false, not_false_eq_true, or_false, false_or, or_true, true_or, or_self, ite_true, ite_false, Option.some.injEq, reduceCtorEq, Nat.reduceMod, Nat.reduceDiv, Nat.reduceLeDiff, Nat.reduceEqDiff, Nat.reduceAdd, Nat.reduceMul, Nat.reduceSub, Nat.reduceLT, sw_nil, sw_int, sw_long, sw_ref, li, lo, nI_m1, ng_eq, nn_eq, en_eq, ng_le, ng_lt, Int32.neg_neg, nI_add, pk_mul, nI_clampO, nI_ltO, nI_leO, nI_eqO, nI_subO, nle_t, nle_f, nlt_t, nlt_f, neq_f, fx_2000010_0, fx_2000010_1, fx_2000010_4, fx_2000010_5, fx_2000010_6, fx_2000010_8, fx_2000010_10, fx_2000010_11, fx_2000010_12, fx_2000010_13, fx_2000010_14, fx_2000010_15, fx_2000010_16, fx_2000010_17, fx_2000010_18, fx_3000009_0, fx_5000007_0, fx_5000007_1, fx_5000007_2, fx_5000007_3, fx_7000001_0, fx_11000005_1, fx_11000005_2, fx_11000005_3, fx_11000005_4, fx_11000005_5, fx_11000005_6, fx_11000005_10, fx_11000005_11, fx_11000005_12, fx_20000002_0, fx_20000002_2, fx_20000002_3, fx_20000002_4, fx_25000005_1, fx_25000005_2, fx_25000005_3, fx_25000005_4, fx_25000005_5, fx_25000005_6, fx_25000005_10, fx_25000005_11, fx_25000005_12, fx_34000002_0, fx_34000002_2, fx_34000002_3, fx_34000002_4, fx_39000008_0, fx_41000006_0, fx_42002024_0, fx_42002024_1, fx_42002024_2, fx_42002024_3, fx_42002024_4, fx_42002024_5, fx_42002024_6, fx_42002024_7, fx_42002024_8, fx_42002024_9, fx_42002024_10, fx_42002024_11, fx_42002024_12, fx_42002024_13, fx_42002024_14, fx_42002024_15, fx_42002024_16, fx_42002024_17, fx_42002024_18, fx_42002024_19, fx_43000008_0, fx_45000008_0, fx_47000008_0, fx_49000008_0, fx_51000008_0, fx_53000008_0, fx_55000008_0, fx_57000008_0, fx_59000008_0, fx_61000008_0, fx_63000008_0, fx_65000008_0, fx_67000008_0, fx_69000008_0, fx_71000008_0, fx_73000008_0, fx_75000008_0, fx_77000008_0, fx_79000008_0, fx_81000008_0, fx_83000424_0, fx_83000424_1, fx_83000424_2, fx_83000424_3, fx_85000004_0, fx_85000004_1, fx_85000004_2, fx_85000004_3, fx_85000004_4, fx_85000004_5, fx_85000004_6, fx_85000004_10, fx_102000008_0, fx_104000008_0, fx_106000008_0, fx_108000008_0, fx_110000011_1, fx_110000011_4, fx_110000011_5, fx_110000011_6, fx_110000011_9, fx_110000011_10, fx_110000011_11, fx_110000011_12, fx_110000011_14, fx_110000011_15, fx_110000011_20, fx_110000011_21, fx_110000011_22, fx_110000011_23, fx_110000011_25, fx_110000011_26, fx_110000011_31, fx_110000011_32, fx_110000011_37, fx_110000011_38, fx_110000011_39, fx_110000011_40, c1, c2, hr, h5, hC.2.2.1.2.2.1, k2]
end T1
