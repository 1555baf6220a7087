/-! A PARTY: THE CLASS -/
def s00 (pa : Nat → Nat) : Nat → Nat := fun k => if k < 7 then k else if k = 8 then (if 0 < pa 1 then 1 else 0) else 0
theorem s00_SO (pa : Nat → Nat) (h : pa 0 ≤ 7) : SO pa (s00 pa) := by
  refine ⟨fun k hk => ?_, fun i j hi hj e => ?_, fun k _ hk => ?_, ?_, ?_, ?_, ?_⟩
  · unfold s00; rw [if_pos (by omega)]; exact hk
  · unfold s00 at e; rw [if_pos hi, if_pos hj] at e; exact e
  · unfold s00; rw [if_pos hk]
  · show 0 < 2 ^ pa 0
    exact Nat.pos_of_ne_zero (by simp)
  · show (if 0 < pa 1 then 1 else 0) ≤ pa 1
    split <;> omega
  · show pa 1 = 0 ∨ 1 ≤ (if 0 < pa 1 then 1 else 0)
    split <;> omega
  · show 0 ≤ 3
    omega
theorem CSg_q {μ ν : PM} {a o n : Nat} {s : Nat → Nat} (e : ∀ a j, 39000000 ≤ a → rI ν a j = rI μ a j) (ha : 39000000 ≤ a) (ho : 39000000 ≤ o) (h : CSg μ a o n s) : CSg ν a o n s := ⟨fun k hk => (e _ _ ho).trans (h.1 k hk), (e _ _ ha).trans h.2.1, (e _ _ ha).trans h.2.2.1, (e _ _ ha).trans h.2.2.2⟩
theorem CPs_q {μ ν : PM} {n : Nat} {un : List (Nat → Nat)} (e : ∀ a j, 39000000 ≤ a → rI ν a j = rI μ a j) (h : CPs μ n un) : CPs ν n un := by
  obtain ⟨h1, nx, h2, h3, h4⟩ := h
  exact ⟨(e _ _ (by omega)).trans h1, nx, h2, (e _ _ (by omega)).trans h3, fun i hi => CSg_q e (by unfold pstA; omega) (by unfold pstO; omega) (h4 i hi)⟩
theorem CMk_q {μ ν : PM} {n : Nat} {mk : Nat → Option (Nat → Nat)} (e : ∀ a j, 39000000 ≤ a → rI ν a j = rI μ a j) (h7 : rI ν 2000010 7 = rI μ 2000010 7) (h : CMk μ n mk) : CMk ν n mk := by
  obtain ⟨b, h1, h2, h3⟩ := h
  exact ⟨b, h1, h7.trans h2, fun m hm => ⟨(h3 m hm).1, fun t ht => ⟨((h3 m hm).2 t ht).1, CSg_q e (by unfold mrkA; omega) (by unfold mrkO; omega) ((h3 m hm).2 t ht).2⟩⟩⟩
theorem fx_n2 : ∀ q, q ∈ fxL → ¬ (q.1 = 2000010 ∧ (q.2.1 = 2 ∨ q.2.1 = 3)) := by decide +kernel
section T1
variable {d : Nat} {μ : PM}
theorem c82_l (hF : FX μ) {x : Int32} : ∀ (r k : Nat) (g : Nat → Int32), k + r = 7 → (∀ i, i < k → g i = nI i) → ∃ g' : Nat → Int32, (∀ i, i < 7 → g' i = nI i) ∧ ∀ Q, R d 82 2 [some (.ref 39000008), some (.int x), some (.int (nI k))] [] (wA μ 40000720 g) Q = Q none (wI (wI (wI (wA μ 40000720 g') 39000008 1 (nI 0)) 39000008 2 x) 39000008 3 (nI 0)) := by
  intro r
  induction r with
  | zero =>
    intro k g hk hg
    refine ⟨g, fun i hi => hg i (by omega), fun Q => ?_⟩
    have hF1 : FX (wA μ 40000720 g) := hF
    rw [r82_2]
    simp (disch := first | assumption | omega) only [r82_0, r82_1, r82_3, r82_5, r82_8, r82_9, r82_12, r82_13, r82_14, r82_15, r82_18, r82_21, r82_22, r82_23, r82_26, r82_27, r82_28, r82_31, r82_32, r82_33, r82_36, rI_wI, rL_wL, rR_wR, rI_wL, rI_wR, rL_wI, rL_wR, rR_wI, rR_wL, va_rf_some, va_rf_none, Option.toList_some, Option.toList_none, List.nil_append, List.cons_append, true_and, and_true, false_and, and_false, and_self, if_true, if_false, not_true_eq_false, not_false_eq_true, or_false, false_or, or_true, true_or, or_self, ite_true, ite_false, Option.some.injEq, reduceCtorEq, Nat.reduceMod, Nat.reduceDiv, Nat.reduceLeDiff, Nat.reduceEqDiff, Nat.reduceAdd, Nat.reduceMul, Nat.reduceSub, Nat.reduceLT, sw_nil, sw_int, sw_long, sw_ref, li, lo, nI_m1, ng_eq, nn_eq, en_eq, ng_le, ng_lt, Int32.neg_neg, nI_add, pk_mul, nI_clampO, nI_ltO, nI_leO, nI_eqO, nI_subO, nle_t, nle_f, nlt_t, nlt_f, neq_f, fx_2000010_0, fx_2000010_1, fx_2000010_4, fx_2000010_5, fx_2000010_6, fx_2000010_8, fx_2000010_10, fx_2000010_11, fx_2000010_12, fx_2000010_13, fx_2000010_14, fx_2000010_15, fx_2000010_16, fx_2000010_17, fx_2000010_18, fx_3000009_0, fx_5000007_0, fx_5000007_1, fx_5000007_2, fx_5000007_3, fx_7000001_0, fx_11000005_1, fx_11000005_2, fx_11000005_3, fx_11000005_4, fx_11000005_5, fx_11000005_6, fx_11000005_10, fx_11000005_11, fx_11000005_12, fx_20000002_0, fx_20000002_2, fx_20000002_3, fx_20000002_4, fx_25000005_1, fx_25000005_2, fx_25000005_3, fx_25000005_4, fx_25000005_5, fx_25000005_6, fx_25000005_10, fx_25000005_11, fx_25000005_12, fx_34000002_0, fx_34000002_2, fx_34000002_3, fx_34000002_4, fx_39000008_0, fx_41000006_0, fx_42002024_0, fx_42002024_1, fx_42002024_2, fx_42002024_3, fx_42002024_4, fx_42002024_5, fx_42002024_6, fx_42002024_7, fx_42002024_8, fx_42002024_9, fx_42002024_10, fx_42002024_11, fx_42002024_12, fx_42002024_13, fx_42002024_14, fx_42002024_15, fx_42002024_16, fx_42002024_17, fx_42002024_18, fx_42002024_19, fx_43000008_0, fx_45000008_0, fx_47000008_0, fx_49000008_0, fx_51000008_0, fx_53000008_0, fx_55000008_0, fx_57000008_0, fx_59000008_0, fx_61000008_0, fx_63000008_0, fx_65000008_0, fx_67000008_0, fx_69000008_0, fx_71000008_0, fx_73000008_0, fx_75000008_0, fx_77000008_0, fx_79000008_0, fx_81000008_0, fx_83000424_0, fx_83000424_1, fx_83000424_2, fx_83000424_3, fx_85000004_0, fx_85000004_1, fx_85000004_2, fx_85000004_3, fx_85000004_4, fx_85000004_5, fx_85000004_6, fx_85000004_10, fx_102000008_0, fx_104000008_0, fx_106000008_0, fx_108000008_0, fx_110000011_1, fx_110000011_4, fx_110000011_5, fx_110000011_6, fx_110000011_9, fx_110000011_10, fx_110000011_11, fx_110000011_12, fx_110000011_14, fx_110000011_15, fx_110000011_20, fx_110000011_21, fx_110000011_22, fx_110000011_23, fx_110000011_25, fx_110000011_26, fx_110000011_31, fx_110000011_32, fx_110000011_37, fx_110000011_38, fx_110000011_39, fx_110000011_40]
  | succ r ih =>
    intro k g hk hg
    have hF1 : FX (wA μ 40000720 g) := hF
    obtain ⟨g', e1, e2⟩ := ih (k + 1) (upd g k (nI k)) (by omega) (fun i hi => by
      rw [upd_at]
      by_cases e : i = k
      · rw [if_pos e, e]
      · rw [if_neg e]; exact hg i (by omega))
    refine ⟨g', e1, fun Q => ?_⟩
    rw [r82_2]
    simp (disch := first | assumption | omega) only [r82_0, r82_1, r82_3, r82_5, r82_8, r82_9, r82_12, r82_13, r82_14, r82_15, r82_18, r82_21, r82_22, r82_23, r82_26, r82_27, r82_28, r82_31, r82_32, r82_33, r82_36, rI_wI, rL_wL, rR_wR, rI_wL, rI_wR, rL_wI, rL_wR, rR_wI, rR_wL, va_rf_some, va_rf_none, Option.toList_some, Option.toList_none, List.nil_append, List.cons_append, true_and, and_true, false_and, and_false, and_self, if_true, if_false, not_true_eq_false, not_false_eq_true, or_false, false_or, or_true, true_or, or_self, ite_true, ite_false, Option.some.injEq, reduceCtorEq, Nat.reduceMod, Nat.reduceDiv, Nat.reduceLeDiff, Nat.reduceEqDiff, Nat.reduceAdd, Nat.reduceMul, Nat.reduceSub, Nat.reduceLT, sw_nil, sw_int, sw_long, sw_ref, li, lo, nI_m1, ng_eq, nn_eq, en_eq, ng_le, ng_lt, Int32.neg_neg, nI_add, pk_mul, nI_clampO, nI_ltO, nI_leO, nI_eqO, nI_subO, nle_t, nle_f, nlt_t, nlt_f, neq_f, fx_2000010_0, fx_2000010_1, fx_2000010_4, fx_2000010_5, fx_2000010_6, fx_2000010_8, fx_2000010_10, fx_2000010_11, fx_2000010_12, fx_2000010_13, fx_2000010_14, fx_2000010_15, fx_2000010_16, fx_2000010_17, fx_2000010_18, fx_3000009_0, fx_5000007_0, fx_5000007_1, fx_5000007_2, fx_5000007_3, fx_7000001_0, fx_11000005_1, fx_11000005_2, fx_11000005_3, fx_11000005_4, fx_11000005_5, fx_11000005_6, fx_11000005_10, fx_11000005_11, fx_11000005_12, fx_20000002_0, fx_20000002_2, fx_20000002_3, fx_20000002_4, fx_25000005_1, fx_25000005_2, fx_25000005_3, fx_25000005_4, fx_25000005_5, fx_25000005_6, fx_25000005_10, fx_25000005_11, fx_25000005_12, fx_34000002_0, fx_34000002_2, fx_34000002_3, fx_34000002_4, fx_39000008_0, fx_41000006_0, fx_42002024_0, fx_42002024_1, fx_42002024_2, fx_42002024_3, fx_42002024_4, fx_42002024_5, fx_42002024_6, fx_42002024_7, fx_42002024_8, fx_42002024_9, fx_42002024_10, fx_42002024_11, fx_42002024_12, fx_42002024_13, fx_42002024_14, fx_42002024_15, fx_42002024_16, fx_42002024_17, fx_42002024_18, fx_42002024_19, fx_43000008_0, fx_45000008_0, fx_47000008_0, fx_49000008_0, fx_51000008_0, fx_53000008_0, fx_55000008_0, fx_57000008_0, fx_59000008_0, fx_61000008_0, fx_63000008_0, fx_65000008_0, fx_67000008_0, fx_69000008_0, fx_71000008_0, fx_73000008_0, fx_75000008_0, fx_77000008_0, fx_79000008_0, fx_81000008_0, fx_83000424_0, fx_83000424_1, fx_83000424_2, fx_83000424_3, fx_85000004_0, fx_85000004_1, fx_85000004_2, fx_85000004_3, fx_85000004_4, fx_85000004_5, fx_85000004_6, fx_85000004_10, fx_102000008_0, fx_104000008_0, fx_106000008_0, fx_108000008_0, fx_110000011_1, fx_110000011_4, fx_110000011_5, fx_110000011_6, fx_110000011_9, fx_110000011_10, fx_110000011_11, fx_110000011_12, fx_110000011_14, fx_110000011_15, fx_110000011_20, fx_110000011_21, fx_110000011_22, fx_110000011_23, fx_110000011_25, fx_110000011_26, fx_110000011_31, fx_110000011_32, fx_110000011_37, fx_110000011_38, fx_110000011_39, fx_110000011_40, wI_wA, e2]
theorem c82 (hF : FX μ) {x : Int32} : ∃ ν, EX [40000720, 39000008] μ ν ∧ (∀ i, i < 7 → rI ν 40000720 i = nI i) ∧ rI ν 39000008 1 = nI 0 ∧ rI ν 39000008 2 = x ∧ rI ν 39000008 3 = nI 0 ∧ ∀ Q, R d 82 0 [some (.ref 39000008), some (.int x), none] [] μ Q = Q none ν := by
  obtain ⟨g, e1, e2⟩ := c82_l (d := d) hF (x := x) 7 0 (fun j => rI μ 40000720 j) (by omega) (fun i hi => by omega)
  refine ⟨_, EX_mo (EX_tr (EX_tr (EX_tr (EX_wA μ 40000720 g) (EX_wI _ 39000008 1 (nI 0))) (EX_wI _ 39000008 2 x)) (EX_wI _ 39000008 3 (nI 0))) (fun a ha => by simp only [List.mem_cons, List.mem_append, List.not_mem_nil, or_false] at ha ⊢; omega), fun i hi => ?_, ?_, ?_, ?_, fun Q => ?_⟩
  · rw [rI_wI, if_neg (by omega), rI_wI, if_neg (by omega), rI_wI, if_neg (by omega), rI_wA, if_pos rfl]
    exact e1 i hi
  · rw [rI_wI, if_neg (by omega), rI_wI, if_neg (by omega), rI_wI, if_pos ⟨rfl, rfl⟩]
  · rw [rI_wI, if_neg (by omega), rI_wI, if_pos ⟨rfl, rfl⟩]
  · rw [rI_wI, if_pos ⟨rfl, rfl⟩]
  · have := e2 Q
    rw [wA_eta] at this
    rw [← this]
    simp (disch := first | assumption | omega) only [r82_0, r82_1, rI_wI, rL_wL, rR_wR, rI_wL, rI_wR, rL_wI, rL_wR, rR_wI, rR_wL, va_rf_some, va_rf_none, Option.toList_some, Option.toList_none, List.nil_append, List.cons_append, true_and, and_true, false_and, and_false, and_self, if_true, if_false, not_true_eq_false, not_false_eq_true, or_false, false_or, or_true, true_or, or_self, ite_true, ite_false, Option.some.injEq, reduceCtorEq, Nat.reduceMod, Nat.reduceDiv, Nat.reduceLeDiff, Nat.reduceEqDiff, Nat.reduceAdd, Nat.reduceMul, Nat.reduceSub, Nat.reduceLT, sw_nil, sw_int, sw_long, sw_ref, li, lo, nI_m1, ng_eq, nn_eq, en_eq, ng_le, ng_lt, Int32.neg_neg, nI_add, pk_mul, nI_clampO, nI_ltO, nI_leO, nI_eqO, nI_subO, nle_t, nle_f, nlt_t, nlt_f, neq_f]
end T1
section T1
variable {d : Nat} {μ : PM} {pa : Nat → Nat} {lw : LW} {s : Nat → Nat} {un : List (Nat → Nat)} {mk : Nat → Option (Nat → Nat)} {tp : List Nat} {T : List Tok}
theorem DLa_CL {μ : PM} {S : SS} {L1 : Nat} (hS : SI S) (h : DLa μ S.2.1 L1) (hL : L1 ≤ 1000) : CLa μ S.2.1 := by
  intro k hk
  obtain ⟨h1, h2⟩ := h.2 k hk
  refine ⟨fun e => ⟨0, by omega, (h1 e).1, (h1 e).2⟩, fun l e => ?_⟩
  obtain ⟨st, s1, s2, s3, s4⟩ := h2 l e
  obtain ⟨g1, g2, -⟩ := (hS.2.2.2.2.2.2.2 k hk).2 l e
  exact ⟨g1, g2, st, s1, s2, s4, by omega⟩
theorem CLa_o {μ ν : PM} (e : ∀ a j, 11000005 ≤ a → a ≤ 24006420 → rI ν a j = rI μ a j) (h : CLa μ lw) : CLa ν lw := by
  unfold CLa cdCa at h ⊢
  simpa (disch := omega) only [e] using h
theorem c91a (hC : CH μ pa lw s un mk tp) (hK : OKA pa s un mk tp) (hW : KW μ) (hI : isT tp 0 T) (hl : T.length ≤ 1001) {P' : Nat} (hP' : P' % 100 = 5) (h2 : rR μ 2000010 2 = some P') (h3 : rR μ 2000010 3 = some 11000005) (hk : ∀ ν, (∀ a j, 11000000 ≤ a → a < 39000000 → ¬ (11000005 ≤ a ∧ a ≤ 24006420) → rI ν a j = rI μ a j) → rR ν 2000010 2 = some P' → rR ν 2000010 3 = some 11000005 → CPt ν pa lw) (hw : ∀ ν qa lq, rR ν 2000010 2 = some 11000005 → rR ν 2000010 3 = some P' → CPa ν qa → CLa ν lq → CPt ν qa lq) : ∃ ν x, HE μ ν ∧ (∀ f, lnZ 1001 SZ T = .error f → x = nI f ∧ CH ν pa lw s un mk []) ∧ (∀ S', lnZ 1001 SZ T = .ok S' → x = nI 0 ∧ SI S' ∧ CH ν S'.1 S'.2.1 (s00 S'.1) [] (fun _ => none) []) ∧ ∀ Q, R (d + 7) 91 0 [some (.ref 2000010), none, none] [] μ Q = Q (some (.int x)) ν := by
  obtain ⟨hF, hPt, hSt, hPs, hMk, hLn, hTp, hCO⟩ := hC
  obtain ⟨ν1, x, f1, er, ok, c⟩ := c68a (d := d) hK.2.2.2.2.2.1 hK.2.2.2.2.2.2 hF hTp hW hI hl
  have hF1 : FX ν1 := fun q hq => (f1.2.2.1 _ _ (fun e => by
    rcases e with e | e | e
    · exact fx_n7 q hq e
    · exact fx_n5 q hq e
    · exact fx_n6 q hq e)).trans (hF q hq)
  have i2 : rR ν1 2000010 2 = some P' := (f1.2.2.1 _ _ (by omega)).trans h2
  have i3 : rR ν1 2000010 3 = some 11000005 := (f1.2.2.1 _ _ (by omega)).trans h3
  have ri : ∀ a j, ¬ (a = 5000007 ∨ a = 6000003 ∨ a = 7000001 ∨ a = 8006420 ∨ (11000005 ≤ a ∧ a ≤ 24006420)) → a ≠ 3000009 → rI (wI ν1 3000009 1 (nI 0)) a j = rI μ a j := fun a j q1 q2 => by
    rw [rI_wI, if_neg (by omega)]
    exact f1.1 a j q1
  have hEr : HE μ (wI ν1 3000009 1 (nI 0)) := ⟨fun a j q => ⟨ri a j (by omega) (by omega), f1.2.1 a j (by omega), f1.2.2.1 a j (by omega)⟩, f1.2.2.2⟩
  cases hL : lnZ 1001 SZ T with
  | error f =>
    obtain ⟨ex, ef1, ef2⟩ := er f hL
    subst ex
    refine ⟨wI ν1 3000009 1 (nI 0), nI f, hEr, fun f' q => ?_, fun S' q => (by cases q), fun Q => ?_⟩
    · cases q
      have e39 : ∀ a j, 39000000 ≤ a → rI (wI ν1 3000009 1 (nI 0)) a j = rI μ a j := fun a j ha => ri a j (by omega) (by omega)
      refine ⟨rfl, hF1, hk _ (fun a j q1 q2 q3 => ri a j (by omega) (by omega)) i2 i3, ?_, ?_, ?_, ⟨(ri _ _ (by omega) (by omega)).trans hLn.1, fun i hi => (ri _ _ (by omega) (by omega)).trans (hLn.2 i hi)⟩, ⟨by rw [rI_wI, if_pos ⟨rfl, rfl⟩]; rfl, fun i hi => absurd hi (Nat.not_lt_zero i)⟩, ?_⟩
      · exact CSg_q e39 (by omega) (by omega) hSt
      · exact CPs_q e39 hPs
      · exact CMk_q e39 (ri _ _ (by omega) (by omega)) hMk
      · have e1 : ∀ j, rI (wI ν1 3000009 1 (nI 0)) 85000004 j = rI μ 85000004 j := fun j => ri _ _ (by omega) (by omega)
        have e2 : ∀ j, rL (wI ν1 3000009 1 (nI 0)) 93000000 j = rL μ 93000000 j := fun j => f1.2.1 _ _ (by omega)
        unfold CO OCk at hCO ⊢
        rw [e1, e1, e1, e1, e2, e2]
        exact hCO
    · simp (disch := first | assumption | omega) only [r91_0, r91_1, r91_4, r91_5, r91_8, r91_9, r91_12, r91_15, r91_16, r91_17, r91_20, r91_21, r91_24, r91_25, r91_28, r91_29, r91_30, r91_31, r91_34, r91_35, r91_36, r91_37, r91_40, r91_40n, r91_43, r91_44, r91_45, r91_45n, r91_48, r91_49, r91_52, r91_53, r91_56, j91_59, r91_62, r91_63, r91_66, r91_67, r91_70, r91_71, r91_74, r91_77, r91_78, r91_79, r91_82, r91_83, r91_86, r91_87, rI_wI, rL_wL, rR_wR, rI_wL, rI_wR, rL_wI, rL_wR, rR_wI, rR_wL, va_rf_some, va_rf_none, Option.toList_some, Option.toList_none, List.nil_append, List.cons_append, true_and, and_true, false_and, and_false, and_self, if_true, if_false, not_true_eq_false, not_false_eq_true, or_false, false_or, or_true, true_or, or_self, ite_true, ite_false, Option.some.injEq, reduceCtorEq, Nat.reduceMod, Nat.reduceDiv, Nat.reduceLeDiff, Nat.reduceEqDiff, Nat.reduceAdd, Nat.reduceMul, Nat.reduceSub, Nat.reduceLT, sw_nil, sw_int, sw_long, sw_ref, li, lo, nI_m1, ng_eq, nn_eq, en_eq, ng_le, ng_lt, Int32.neg_neg, nI_add, pk_mul, nI_clampO, nI_ltO, nI_leO, nI_eqO, nI_subO, nle_t, nle_f, nlt_t, nlt_f, neq_f, fx_2000010_0, fx_2000010_1, fx_2000010_4, fx_2000010_5, fx_2000010_6, fx_2000010_8, fx_2000010_10, fx_2000010_11, fx_2000010_12, fx_2000010_13, fx_2000010_14, fx_2000010_15, fx_2000010_16, fx_2000010_17, fx_2000010_18, fx_3000009_0, fx_5000007_0, fx_5000007_1, fx_5000007_2, fx_5000007_3, fx_7000001_0, fx_11000005_1, fx_11000005_2, fx_11000005_3, fx_11000005_4, fx_11000005_5, fx_11000005_6, fx_11000005_10, fx_11000005_11, fx_11000005_12, fx_20000002_0, fx_20000002_2, fx_20000002_3, fx_20000002_4, fx_25000005_1, fx_25000005_2, fx_25000005_3, fx_25000005_4, fx_25000005_5, fx_25000005_6, fx_25000005_10, fx_25000005_11, fx_25000005_12, fx_34000002_0, fx_34000002_2, fx_34000002_3, fx_34000002_4, fx_39000008_0, fx_41000006_0, fx_42002024_0, fx_42002024_1, fx_42002024_2, fx_42002024_3, fx_42002024_4, fx_42002024_5, fx_42002024_6, fx_42002024_7, fx_42002024_8, fx_42002024_9, fx_42002024_10, fx_42002024_11, fx_42002024_12, fx_42002024_13, fx_42002024_14, fx_42002024_15, fx_42002024_16, fx_42002024_17, fx_42002024_18, fx_42002024_19, fx_43000008_0, fx_45000008_0, fx_47000008_0, fx_49000008_0, fx_51000008_0, fx_53000008_0, fx_55000008_0, fx_57000008_0, fx_59000008_0, fx_61000008_0, fx_63000008_0, fx_65000008_0, fx_67000008_0, fx_69000008_0, fx_71000008_0, fx_73000008_0, fx_75000008_0, fx_77000008_0, fx_79000008_0, fx_81000008_0, fx_83000424_0, fx_83000424_1, fx_83000424_2, fx_83000424_3, fx_85000004_0, fx_85000004_1, fx_85000004_2, fx_85000004_3, fx_85000004_4, fx_85000004_5, fx_85000004_6, fx_85000004_10, fx_102000008_0, fx_104000008_0, fx_106000008_0, fx_108000008_0, fx_110000011_1, fx_110000011_4, fx_110000011_5, fx_110000011_6, fx_110000011_9, fx_110000011_10, fx_110000011_11, fx_110000011_12, fx_110000011_14, fx_110000011_15, fx_110000011_20, fx_110000011_21, fx_110000011_22, fx_110000011_23, fx_110000011_25, fx_110000011_26, fx_110000011_31, fx_110000011_32, fx_110000011_37, fx_110000011_38, fx_110000011_39, fx_110000011_40, h3, c]
  | ok S' =>
    obtain ⟨ex, hS, L1, hL1, cs⟩ := ok S' hL
    subst ex
    have hF2 : FX (wR (wR (wI ν1 3000009 1 (nI 0)) 2000010 2 (some 11000005)) 2000010 3 (some P')) := fun q hq => by
      have := fx_n2 q hq
      rw [rR_wR, if_neg (by omega), rR_wR, if_neg (by omega)]
      exact hF1 q hq
    have p9 : rI ν1 11000005 9 = nI (S'.1 1) := cs.1.2.2.2.2.2.1
    have hb4 := hS.1.1.2.1
    obtain ⟨ν3, g1, g2, g3, g4, g5, g6⟩ := c82 (d := d + 6) hF2 (x := fI (s00 S'.1 8))
    have k64 : ∀ Q, R (d + 6) 64 0 [some (.ref 41000006)] [] ν3 Q = Q none (wI ν3 41000006 2 (nI 0)) := fun Q => c64
    have hF3 : FX ν3 := EX_FX g1 hF2
    have hFf : FX (wI (wI ν3 41000006 2 (nI 0)) 2000010 7 (nI 0)) := hF3
    have r3 : ∀ a j, a ≠ 40000720 → a ≠ 39000008 → rI ν3 a j = rI (wI ν1 3000009 1 (nI 0)) a j := fun a j q1 q2 => EX_I g1 (by simp only [List.mem_cons, List.not_mem_nil, or_false]; omega)
    have rf : ∀ a j, 11000005 ≤ a → a ≤ 24006420 → rI (wI (wI ν3 41000006 2 (nI 0)) 2000010 7 (nI 0)) a j = rI ν1 a j := fun a j q1 q2 => by
      rw [rI_wI, if_neg (by omega), rI_wI, if_neg (by omega), r3 _ _ (by omega) (by omega), rI_wI, if_neg (by omega)]
    have rr2 : rR (wI (wI ν3 41000006 2 (nI 0)) 2000010 7 (nI 0)) 2000010 2 = some 11000005 := by
      show rR ν3 2000010 2 = _
      rw [EX_R g1, rR_wR, if_neg (by omega), rR_wR, if_pos ⟨rfl, rfl⟩]
    have rr3 : rR (wI (wI ν3 41000006 2 (nI 0)) 2000010 7 (nI 0)) 2000010 3 = some P' := by
      show rR ν3 2000010 3 = _
      rw [EX_R g1, rR_wR, if_pos ⟨rfl, rfl⟩]
    have hPt' := hw (wI (wI ν3 41000006 2 (nI 0)) 2000010 7 (nI 0)) S'.1 S'.2.1 rr2 rr3 (CPa_o rf cs.1) (CLa_o rf (DLa_CL hS cs.2.1 hL1))
    have hSt' : CSt (wI (wI ν3 41000006 2 (nI 0)) 2000010 7 (nI 0)) (S'.1 0) (s00 S'.1) := by
      have h7 := hS.1.1.1
      refine ⟨fun k hk => ?_, ?_, ?_, ?_⟩
      · rw [rI_wI, if_neg (by omega), rI_wI, if_neg (by omega), g2 k (by omega)]
        unfold s00
        rw [if_pos (by omega)]
      · rw [rI_wI, if_neg (by omega), rI_wI, if_neg (by omega), g3]; rfl
      · rw [rI_wI, if_neg (by omega), rI_wI, if_neg (by omega), g4]
      · rw [rI_wI, if_neg (by omega), rI_wI, if_neg (by omega), g5]; rfl
    obtain ⟨-, nx, n1, n2, -⟩ := hPs
    have hPs' : CPs (wI (wI ν3 41000006 2 (nI 0)) 2000010 7 (nI 0)) (S'.1 0) [] := ⟨by rw [rI_wI, if_neg (by omega), rI_wI, if_pos ⟨rfl, rfl⟩]; rfl, nx, n1, by rw [rI_wI, if_neg (by omega), rI_wI, if_neg (by omega), r3 _ _ (by omega) (by omega), ri _ _ (by omega) (by omega)]; exact n2, fun i hi => absurd hi (Nat.not_lt_zero i)⟩
    have hMk' : CMk (wI (wI ν3 41000006 2 (nI 0)) 2000010 7 (nI 0)) (S'.1 0) (fun _ => none) := ⟨0, by omega, by rw [rI_wI, if_pos ⟨rfl, rfl⟩], fun m _ => ⟨fun _ => by unfold bt; rw [Nat.zero_div], fun t q => (by cases q)⟩⟩
    have hTp' : CTp (wI (wI ν3 41000006 2 (nI 0)) 2000010 7 (nI 0)) [] := ⟨by rw [rI_wI, if_neg (by omega), rI_wI, if_neg (by omega), r3 _ _ (by omega) (by omega), rI_wI, if_pos ⟨rfl, rfl⟩]; rfl, fun i hi => absurd hi (Nat.not_lt_zero i)⟩
    obtain ⟨ν, v1, v2, v3⟩ := fin (d := d + 5) hFf hS.1 (s00_SO S'.1 hS.1.1.1) hPt' hSt' hPs' hMk' hTp'
    have v3 : ∀ Q, R (d + 6) 115 0 [some (.ref 2000010), none] [] (wI (wI ν3 41000006 2 (nI 0)) 2000010 7 (nI 0)) Q = Q none ν := v3
    refine ⟨ν, nI 0, HE_tr (HE_tr hEr ⟨fun a j q => ⟨?_, ?_, ?_⟩, ?_⟩) v1, fun f q => (by cases q), fun S'' q => ?_, fun Q => ?_⟩
    · rw [rI_wI, if_neg (by omega), rI_wI, if_neg (by omega), r3 _ _ (by omega) (by omega)]
    · show rL ν3 a j = _
      rw [EX_L g1]
      rfl
    · show rR ν3 a j = _
      rw [EX_R g1, rR_wR, if_neg (by omega), rR_wR, if_neg (by omega)]
    · show aS ν3 = _
      rw [EX_S g1]
      rfl
    · cases q
      exact ⟨rfl, hS, v2⟩
    · by_cases z : 0 < S'.1 1
      · have e8 : fI (s00 S'.1 8) = nI 0 := by
          have : s00 S'.1 8 = 1 := by show (if 0 < S'.1 1 then 1 else 0) = 1; rw [if_pos z]
          rw [this]; rfl
        rw [e8] at g6
        simp (disch := first | assumption | omega) only [r91_0, r91_1, r91_4, r91_5, r91_8, r91_9, r91_12, r91_15, r91_16, r91_17, r91_20, r91_21, r91_24, r91_25, r91_28, r91_29, r91_30, r91_31, r91_34, r91_35, r91_36, r91_37, r91_40, r91_40n, r91_43, r91_44, r91_45, r91_45n, r91_48, r91_49, r91_52, r91_53, r91_56, j91_59, r91_62, r91_63, r91_66, r91_67, r91_70, r91_71, r91_74, r91_77, r91_78, r91_79, r91_82, r91_83, r91_86, r91_87, rI_wI, rL_wL, rR_wR, rI_wL, rI_wR, rL_wI, rL_wR, rR_wI, rR_wL, va_rf_some, va_rf_none, Option.toList_some, Option.toList_none, List.nil_append, List.cons_append, true_and, and_true, false_and, and_false, and_self, if_true, if_false, not_true_eq_false, not_false_eq_true, or_false, false_or, or_true, true_or, or_self, ite_true, ite_false, Option.some.injEq, reduceCtorEq, Nat.reduceMod, Nat.reduceDiv, Nat.reduceLeDiff, Nat.reduceEqDiff, Nat.reduceAdd, Nat.reduceMul, Nat.reduceSub, Nat.reduceLT, sw_nil, sw_int, sw_long, sw_ref, li, lo, nI_m1, ng_eq, nn_eq, en_eq, ng_le, ng_lt, Int32.neg_neg, nI_add, pk_mul, nI_clampO, nI_ltO, nI_leO, nI_eqO, nI_subO, nle_t, nle_f, nlt_t, nlt_f, neq_f, fx_2000010_0, fx_2000010_1, fx_2000010_4, fx_2000010_5, fx_2000010_6, fx_2000010_8, fx_2000010_10, fx_2000010_11, fx_2000010_12, fx_2000010_13, fx_2000010_14, fx_2000010_15, fx_2000010_16, fx_2000010_17, fx_2000010_18, fx_3000009_0, fx_5000007_0, fx_5000007_1, fx_5000007_2, fx_5000007_3, fx_7000001_0, fx_11000005_1, fx_11000005_2, fx_11000005_3, fx_11000005_4, fx_11000005_5, fx_11000005_6, fx_11000005_10, fx_11000005_11, fx_11000005_12, fx_20000002_0, fx_20000002_2, fx_20000002_3, fx_20000002_4, fx_25000005_1, fx_25000005_2, fx_25000005_3, fx_25000005_4, fx_25000005_5, fx_25000005_6, fx_25000005_10, fx_25000005_11, fx_25000005_12, fx_34000002_0, fx_34000002_2, fx_34000002_3, fx_34000002_4, fx_39000008_0, fx_41000006_0, fx_42002024_0, fx_42002024_1, fx_42002024_2, fx_42002024_3, fx_42002024_4, fx_42002024_5, fx_42002024_6, fx_42002024_7, fx_42002024_8, fx_42002024_9, fx_42002024_10, fx_42002024_11, fx_42002024_12, fx_42002024_13, fx_42002024_14, fx_42002024_15, fx_42002024_16, fx_42002024_17, fx_42002024_18, fx_42002024_19, fx_43000008_0, fx_45000008_0, fx_47000008_0, fx_49000008_0, fx_51000008_0, fx_53000008_0, fx_55000008_0, fx_57000008_0, fx_59000008_0, fx_61000008_0, fx_63000008_0, fx_65000008_0, fx_67000008_0, fx_69000008_0, fx_71000008_0, fx_73000008_0, fx_75000008_0, fx_77000008_0, fx_79000008_0, fx_81000008_0, fx_83000424_0, fx_83000424_1, fx_83000424_2, fx_83000424_3, fx_85000004_0, fx_85000004_1, fx_85000004_2, fx_85000004_3, fx_85000004_4, fx_85000004_5, fx_85000004_6, fx_85000004_10, fx_102000008_0, fx_104000008_0, fx_106000008_0, fx_108000008_0, fx_110000011_1, fx_110000011_4, fx_110000011_5, fx_110000011_6, fx_110000011_9, fx_110000011_10, fx_110000011_11, fx_110000011_12, fx_110000011_14, fx_110000011_15, fx_110000011_20, fx_110000011_21, fx_110000011_22, fx_110000011_23, fx_110000011_25, fx_110000011_26, fx_110000011_31, fx_110000011_32, fx_110000011_37, fx_110000011_38, fx_110000011_39, fx_110000011_40, h3, c, i2, i3, p9, hP', g6, k64, v3]
      · have e8 : fI (s00 S'.1 8) = -nI 1 := by
          have : s00 S'.1 8 = 0 := by show (if 0 < S'.1 1 then 1 else 0) = 0; rw [if_neg z]
          rw [this]; rfl
        rw [e8] at g6
        have z0 : S'.1 1 = 0 := by omega
        rw [z0] at p9
        simp (disch := first | assumption | omega) only [r91_0, r91_1, r91_4, r91_5, r91_8, r91_9, r91_12, r91_15, r91_16, r91_17, r91_20, r91_21, r91_24, r91_25, r91_28, r91_29, r91_30, r91_31, r91_34, r91_35, r91_36, r91_37, r91_40, r91_40n, r91_43, r91_44, r91_45, r91_45n, r91_48, r91_49, r91_52, r91_53, r91_56, j91_59, r91_62, r91_63, r91_66, r91_67, r91_70, r91_71, r91_74, r91_77, r91_78, r91_79, r91_82, r91_83, r91_86, r91_87, rI_wI, rL_wL, rR_wR, rI_wL, rI_wR, rL_wI, rL_wR, rR_wI, rR_wL, va_rf_some, va_rf_none, Option.toList_some, Option.toList_none, List.nil_append, List.cons_append, true_and, and_true, false_and, and_false, and_self, if_true, if_false, not_true_eq_false, not_false_eq_true, or_false, false_or, or_true, true_or, or_self, ite_true, ite_false, Option.some.injEq, reduceCtorEq, Nat.reduceMod, Nat.reduceDiv, Nat.reduceLeDiff, Nat.reduceEqDiff, Nat.reduceAdd, Nat.reduceMul, Nat.reduceSub, Nat.reduceLT, sw_nil, sw_int, sw_long, sw_ref, li, lo, nI_m1, ng_eq, nn_eq, en_eq, ng_le, ng_lt, Int32.neg_neg, nI_add, pk_mul, nI_clampO, nI_ltO, nI_leO, nI_eqO, nI_subO, nle_t, nle_f, nlt_t, nlt_f, neq_f, fx_2000010_0, fx_2000010_1, fx_2000010_4, fx_2000010_5, fx_2000010_6, fx_2000010_8, fx_2000010_10, fx_2000010_11, fx_2000010_12, fx_2000010_13, fx_2000010_14, fx_2000010_15, fx_2000010_16, fx_2000010_17, fx_2000010_18, fx_3000009_0, fx_5000007_0, fx_5000007_1, fx_5000007_2, fx_5000007_3, fx_7000001_0, fx_11000005_1, fx_11000005_2, fx_11000005_3, fx_11000005_4, fx_11000005_5, fx_11000005_6, fx_11000005_10, fx_11000005_11, fx_11000005_12, fx_20000002_0, fx_20000002_2, fx_20000002_3, fx_20000002_4, fx_25000005_1, fx_25000005_2, fx_25000005_3, fx_25000005_4, fx_25000005_5, fx_25000005_6, fx_25000005_10, fx_25000005_11, fx_25000005_12, fx_34000002_0, fx_34000002_2, fx_34000002_3, fx_34000002_4, fx_39000008_0, fx_41000006_0, fx_42002024_0, fx_42002024_1, fx_42002024_2, fx_42002024_3, fx_42002024_4, fx_42002024_5, fx_42002024_6, fx_42002024_7, fx_42002024_8, fx_42002024_9, fx_42002024_10, fx_42002024_11, fx_42002024_12, fx_42002024_13, fx_42002024_14, fx_42002024_15, fx_42002024_16, fx_42002024_17, fx_42002024_18, fx_42002024_19, fx_43000008_0, fx_45000008_0, fx_47000008_0, fx_49000008_0, fx_51000008_0, fx_53000008_0, fx_55000008_0, fx_57000008_0, fx_59000008_0, fx_61000008_0, fx_63000008_0, fx_65000008_0, fx_67000008_0, fx_69000008_0, fx_71000008_0, fx_73000008_0, fx_75000008_0, fx_77000008_0, fx_79000008_0, fx_81000008_0, fx_83000424_0, fx_83000424_1, fx_83000424_2, fx_83000424_3, fx_85000004_0, fx_85000004_1, fx_85000004_2, fx_85000004_3, fx_85000004_4, fx_85000004_5, fx_85000004_6, fx_85000004_10, fx_102000008_0, fx_104000008_0, fx_106000008_0, fx_108000008_0, fx_110000011_1, fx_110000011_4, fx_110000011_5, fx_110000011_6, fx_110000011_9, fx_110000011_10, fx_110000011_11, fx_110000011_12, fx_110000011_14, fx_110000011_15, fx_110000011_20, fx_110000011_21, fx_110000011_22, fx_110000011_23, fx_110000011_25, fx_110000011_26, fx_110000011_31, fx_110000011_32, fx_110000011_37, fx_110000011_38, fx_110000011_39, fx_110000011_40, h3, c, i2, i3, p9, hP', g6, k64, v3]
end T1
section T1
variable {d : Nat} {μ : PM} {pa : Nat → Nat} {lw : LW} {s : Nat → Nat} {un : List (Nat → Nat)} {mk : Nat → Option (Nat → Nat)} {tp : List Nat} {T : List Tok}
theorem DLb_CL {μ : PM} {S : SS} {L1 : Nat} (hS : SI S) (h : DLb μ S.2.1 L1) (hL : L1 ≤ 1000) : CLb μ S.2.1 := by
  intro k hk
  obtain ⟨h1, h2⟩ := h.2 k hk
  refine ⟨fun e => ⟨0, by omega, (h1 e).1, (h1 e).2⟩, fun l e => ?_⟩
  obtain ⟨st, s1, s2, s3, s4⟩ := h2 l e
  obtain ⟨g1, g2, -⟩ := (hS.2.2.2.2.2.2.2 k hk).2 l e
  exact ⟨g1, g2, st, s1, s2, s4, by omega⟩
theorem CLb_o {μ ν : PM} (e : ∀ a j, 25000005 ≤ a → a ≤ 38006420 → rI ν a j = rI μ a j) (h : CLb μ lw) : CLb ν lw := by
  unfold CLb cdCb at h ⊢
  simpa (disch := omega) only [e] using h
theorem c91b (hC : CH μ pa lw s un mk tp) (hK : OKA pa s un mk tp) (hW : KW μ) (hI : isT tp 0 T) (hl : T.length ≤ 1001) {P' : Nat} (hP' : P' % 100 = 5) (h2 : rR μ 2000010 2 = some P') (h3 : rR μ 2000010 3 = some 25000005) (hk : ∀ ν, (∀ a j, 11000000 ≤ a → a < 39000000 → ¬ (25000005 ≤ a ∧ a ≤ 38006420) → rI ν a j = rI μ a j) → rR ν 2000010 2 = some P' → rR ν 2000010 3 = some 25000005 → CPt ν pa lw) (hw : ∀ ν qa lq, rR ν 2000010 2 = some 25000005 → rR ν 2000010 3 = some P' → CPb ν qa → CLb ν lq → CPt ν qa lq) : ∃ ν x, HE μ ν ∧ (∀ f, lnZ 1001 SZ T = .error f → x = nI f ∧ CH ν pa lw s un mk []) ∧ (∀ S', lnZ 1001 SZ T = .ok S' → x = nI 0 ∧ SI S' ∧ CH ν S'.1 S'.2.1 (s00 S'.1) [] (fun _ => none) []) ∧ ∀ Q, R (d + 7) 91 0 [some (.ref 2000010), none, none] [] μ Q = Q (some (.int x)) ν := by
  obtain ⟨hF, hPt, hSt, hPs, hMk, hLn, hTp, hCO⟩ := hC
  obtain ⟨ν1, x, f1, er, ok, c⟩ := c68b (d := d) hK.2.2.2.2.2.1 hK.2.2.2.2.2.2 hF hTp hW hI hl
  have hF1 : FX ν1 := fun q hq => (f1.2.2.1 _ _ (fun e => by
    rcases e with e | e | e
    · exact fx_n7 q hq e
    · exact fx_n5 q hq e
    · exact fx_n6 q hq e)).trans (hF q hq)
  have i2 : rR ν1 2000010 2 = some P' := (f1.2.2.1 _ _ (by omega)).trans h2
  have i3 : rR ν1 2000010 3 = some 25000005 := (f1.2.2.1 _ _ (by omega)).trans h3
  have ri : ∀ a j, ¬ (a = 5000007 ∨ a = 6000003 ∨ a = 7000001 ∨ a = 8006420 ∨ (25000005 ≤ a ∧ a ≤ 38006420)) → a ≠ 3000009 → rI (wI ν1 3000009 1 (nI 0)) a j = rI μ a j := fun a j q1 q2 => by
    rw [rI_wI, if_neg (by omega)]
    exact f1.1 a j q1
  have hEr : HE μ (wI ν1 3000009 1 (nI 0)) := ⟨fun a j q => ⟨ri a j (by omega) (by omega), f1.2.1 a j (by omega), f1.2.2.1 a j (by omega)⟩, f1.2.2.2⟩
  cases hL : lnZ 1001 SZ T with
  | error f =>
    obtain ⟨ex, ef1, ef2⟩ := er f hL
    subst ex
    refine ⟨wI ν1 3000009 1 (nI 0), nI f, hEr, fun f' q => ?_, fun S' q => (by cases q), fun Q => ?_⟩
    · cases q
      have e39 : ∀ a j, 39000000 ≤ a → rI (wI ν1 3000009 1 (nI 0)) a j = rI μ a j := fun a j ha => ri a j (by omega) (by omega)
      refine ⟨rfl, hF1, hk _ (fun a j q1 q2 q3 => ri a j (by omega) (by omega)) i2 i3, ?_, ?_, ?_, ⟨(ri _ _ (by omega) (by omega)).trans hLn.1, fun i hi => (ri _ _ (by omega) (by omega)).trans (hLn.2 i hi)⟩, ⟨by rw [rI_wI, if_pos ⟨rfl, rfl⟩]; rfl, fun i hi => absurd hi (Nat.not_lt_zero i)⟩, ?_⟩
      · exact CSg_q e39 (by omega) (by omega) hSt
      · exact CPs_q e39 hPs
      · exact CMk_q e39 (ri _ _ (by omega) (by omega)) hMk
      · have e1 : ∀ j, rI (wI ν1 3000009 1 (nI 0)) 85000004 j = rI μ 85000004 j := fun j => ri _ _ (by omega) (by omega)
        have e2 : ∀ j, rL (wI ν1 3000009 1 (nI 0)) 93000000 j = rL μ 93000000 j := fun j => f1.2.1 _ _ (by omega)
        unfold CO OCk at hCO ⊢
        rw [e1, e1, e1, e1, e2, e2]
        exact hCO
    · simp (disch := first | assumption | omega) only [r91_0, r91_1, r91_4, r91_5, r91_8, r91_9, r91_12, r91_15, r91_16, r91_17, r91_20, r91_21, r91_24, r91_25, r91_28, r91_29, r91_30, r91_31, r91_34, r91_35, r91_36, r91_37, r91_40, r91_40n, r91_43, r91_44, r91_45, r91_45n, r91_48, r91_49, r91_52, r91_53, r91_56, j91_59, r91_62, r91_63, r91_66, r91_67, r91_70, r91_71, r91_74, r91_77, r91_78, r91_79, r91_82, r91_83, r91_86, r91_87, rI_wI, rL_wL, rR_wR, rI_wL, rI_wR, rL_wI, rL_wR, rR_wI, rR_wL, va_rf_some, va_rf_none, Option.toList_some, Option.toList_none, List.nil_append, List.cons_append, true_and, and_true, false_and, and_false, and_self, if_true, if_false, not_true_eq_false, not_false_eq_true, or_false, false_or, or_true, true_or, or_self, ite_true, ite_false, Option.some.injEq, reduceCtorEq, Nat.reduceMod, Nat.reduceDiv, Nat.reduceLeDiff, Nat.reduceEqDiff, Nat.reduceAdd, Nat.reduceMul, Nat.reduceSub, Nat.reduceLT, sw_nil, sw_int, sw_long, sw_ref, li, lo, nI_m1, ng_eq, nn_eq, en_eq, ng_le, ng_lt, Int32.neg_neg, nI_add, pk_mul, nI_clampO, nI_ltO, nI_leO, nI_eqO, nI_subO, nle_t, nle_f, nlt_t, nlt_f, neq_f, fx_2000010_0, fx_2000010_1, fx_2000010_4, fx_2000010_5, fx_2000010_6, fx_2000010_8, fx_2000010_10, fx_2000010_11, fx_2000010_12, fx_2000010_13, fx_2000010_14, fx_2000010_15, fx_2000010_16, fx_2000010_17, fx_2000010_18, fx_3000009_0, fx_5000007_0, fx_5000007_1, fx_5000007_2, fx_5000007_3, fx_7000001_0, fx_11000005_1, fx_11000005_2, fx_11000005_3, fx_11000005_4, fx_11000005_5, fx_11000005_6, fx_11000005_10, fx_11000005_11, fx_11000005_12, fx_20000002_0, fx_20000002_2, fx_20000002_3, fx_20000002_4, fx_25000005_1, fx_25000005_2, fx_25000005_3, fx_25000005_4, fx_25000005_5, fx_25000005_6, fx_25000005_10, fx_25000005_11, fx_25000005_12, fx_34000002_0, fx_34000002_2, fx_34000002_3, fx_34000002_4, fx_39000008_0, fx_41000006_0, fx_42002024_0, fx_42002024_1, fx_42002024_2, fx_42002024_3, fx_42002024_4, fx_42002024_5, fx_42002024_6, fx_42002024_7, fx_42002024_8, fx_42002024_9, fx_42002024_10, fx_42002024_11, fx_42002024_12, fx_42002024_13, fx_42002024_14, fx_42002024_15, fx_42002024_16, fx_42002024_17, fx_42002024_18, fx_42002024_19, fx_43000008_0, fx_45000008_0, fx_47000008_0, fx_49000008_0, fx_51000008_0, fx_53000008_0, fx_55000008_0, fx_57000008_0, fx_59000008_0, fx_61000008_0, fx_63000008_0, fx_65000008_0, fx_67000008_0, fx_69000008_0, fx_71000008_0, fx_73000008_0, fx_75000008_0, fx_77000008_0, fx_79000008_0, fx_81000008_0, fx_83000424_0, fx_83000424_1, fx_83000424_2, fx_83000424_3, fx_85000004_0, fx_85000004_1, fx_85000004_2, fx_85000004_3, fx_85000004_4, fx_85000004_5, fx_85000004_6, fx_85000004_10, fx_102000008_0, fx_104000008_0, fx_106000008_0, fx_108000008_0, fx_110000011_1, fx_110000011_4, fx_110000011_5, fx_110000011_6, fx_110000011_9, fx_110000011_10, fx_110000011_11, fx_110000011_12, fx_110000011_14, fx_110000011_15, fx_110000011_20, fx_110000011_21, fx_110000011_22, fx_110000011_23, fx_110000011_25, fx_110000011_26, fx_110000011_31, fx_110000011_32, fx_110000011_37, fx_110000011_38, fx_110000011_39, fx_110000011_40, h3, c]
  | ok S' =>
    obtain ⟨ex, hS, L1, hL1, cs⟩ := ok S' hL
    subst ex
    have hF2 : FX (wR (wR (wI ν1 3000009 1 (nI 0)) 2000010 2 (some 25000005)) 2000010 3 (some P')) := fun q hq => by
      have := fx_n2 q hq
      rw [rR_wR, if_neg (by omega), rR_wR, if_neg (by omega)]
      exact hF1 q hq
    have p9 : rI ν1 25000005 9 = nI (S'.1 1) := cs.1.2.2.2.2.2.1
    have hb4 := hS.1.1.2.1
    obtain ⟨ν3, g1, g2, g3, g4, g5, g6⟩ := c82 (d := d + 6) hF2 (x := fI (s00 S'.1 8))
    have k64 : ∀ Q, R (d + 6) 64 0 [some (.ref 41000006)] [] ν3 Q = Q none (wI ν3 41000006 2 (nI 0)) := fun Q => c64
    have hF3 : FX ν3 := EX_FX g1 hF2
    have hFf : FX (wI (wI ν3 41000006 2 (nI 0)) 2000010 7 (nI 0)) := hF3
    have r3 : ∀ a j, a ≠ 40000720 → a ≠ 39000008 → rI ν3 a j = rI (wI ν1 3000009 1 (nI 0)) a j := fun a j q1 q2 => EX_I g1 (by simp only [List.mem_cons, List.not_mem_nil, or_false]; omega)
    have rf : ∀ a j, 25000005 ≤ a → a ≤ 38006420 → rI (wI (wI ν3 41000006 2 (nI 0)) 2000010 7 (nI 0)) a j = rI ν1 a j := fun a j q1 q2 => by
      rw [rI_wI, if_neg (by omega), rI_wI, if_neg (by omega), r3 _ _ (by omega) (by omega), rI_wI, if_neg (by omega)]
    have rr2 : rR (wI (wI ν3 41000006 2 (nI 0)) 2000010 7 (nI 0)) 2000010 2 = some 25000005 := by
      show rR ν3 2000010 2 = _
      rw [EX_R g1, rR_wR, if_neg (by omega), rR_wR, if_pos ⟨rfl, rfl⟩]
    have rr3 : rR (wI (wI ν3 41000006 2 (nI 0)) 2000010 7 (nI 0)) 2000010 3 = some P' := by
      show rR ν3 2000010 3 = _
      rw [EX_R g1, rR_wR, if_pos ⟨rfl, rfl⟩]
    have hPt' := hw (wI (wI ν3 41000006 2 (nI 0)) 2000010 7 (nI 0)) S'.1 S'.2.1 rr2 rr3 (CPb_o rf cs.1) (CLb_o rf (DLb_CL hS cs.2.1 hL1))
    have hSt' : CSt (wI (wI ν3 41000006 2 (nI 0)) 2000010 7 (nI 0)) (S'.1 0) (s00 S'.1) := by
      have h7 := hS.1.1.1
      refine ⟨fun k hk => ?_, ?_, ?_, ?_⟩
      · rw [rI_wI, if_neg (by omega), rI_wI, if_neg (by omega), g2 k (by omega)]
        unfold s00
        rw [if_pos (by omega)]
      · rw [rI_wI, if_neg (by omega), rI_wI, if_neg (by omega), g3]; rfl
      · rw [rI_wI, if_neg (by omega), rI_wI, if_neg (by omega), g4]
      · rw [rI_wI, if_neg (by omega), rI_wI, if_neg (by omega), g5]; rfl
    obtain ⟨-, nx, n1, n2, -⟩ := hPs
    have hPs' : CPs (wI (wI ν3 41000006 2 (nI 0)) 2000010 7 (nI 0)) (S'.1 0) [] := ⟨by rw [rI_wI, if_neg (by omega), rI_wI, if_pos ⟨rfl, rfl⟩]; rfl, nx, n1, by rw [rI_wI, if_neg (by omega), rI_wI, if_neg (by omega), r3 _ _ (by omega) (by omega), ri _ _ (by omega) (by omega)]; exact n2, fun i hi => absurd hi (Nat.not_lt_zero i)⟩
    have hMk' : CMk (wI (wI ν3 41000006 2 (nI 0)) 2000010 7 (nI 0)) (S'.1 0) (fun _ => none) := ⟨0, by omega, by rw [rI_wI, if_pos ⟨rfl, rfl⟩], fun m _ => ⟨fun _ => by unfold bt; rw [Nat.zero_div], fun t q => (by cases q)⟩⟩
    have hTp' : CTp (wI (wI ν3 41000006 2 (nI 0)) 2000010 7 (nI 0)) [] := ⟨by rw [rI_wI, if_neg (by omega), rI_wI, if_neg (by omega), r3 _ _ (by omega) (by omega), rI_wI, if_pos ⟨rfl, rfl⟩]; rfl, fun i hi => absurd hi (Nat.not_lt_zero i)⟩
    obtain ⟨ν, v1, v2, v3⟩ := fin (d := d + 5) hFf hS.1 (s00_SO S'.1 hS.1.1.1) hPt' hSt' hPs' hMk' hTp'
    have v3 : ∀ Q, R (d + 6) 115 0 [some (.ref 2000010), none] [] (wI (wI ν3 41000006 2 (nI 0)) 2000010 7 (nI 0)) Q = Q none ν := v3
    refine ⟨ν, nI 0, HE_tr (HE_tr hEr ⟨fun a j q => ⟨?_, ?_, ?_⟩, ?_⟩) v1, fun f q => (by cases q), fun S'' q => ?_, fun Q => ?_⟩
    · rw [rI_wI, if_neg (by omega), rI_wI, if_neg (by omega), r3 _ _ (by omega) (by omega)]
    · show rL ν3 a j = _
      rw [EX_L g1]
      rfl
    · show rR ν3 a j = _
      rw [EX_R g1, rR_wR, if_neg (by omega), rR_wR, if_neg (by omega)]
    · show aS ν3 = _
      rw [EX_S g1]
      rfl
    · cases q
      exact ⟨rfl, hS, v2⟩
    · by_cases z : 0 < S'.1 1
      · have e8 : fI (s00 S'.1 8) = nI 0 := by
          have : s00 S'.1 8 = 1 := by show (if 0 < S'.1 1 then 1 else 0) = 1; rw [if_pos z]
          rw [this]; rfl
        rw [e8] at g6
        simp (disch := first | assumption | omega) only [r91_0, r91_1, r91_4, r91_5, r91_8, r91_9, r91_12, r91_15, r91_16, r91_17, r91_20, r91_21, r91_24, r91_25, r91_28, r91_29, r91_30, r91_31, r91_34, r91_35, r91_36, r91_37, r91_40, r91_40n, r91_43, r91_44, r91_45, r91_45n, r91_48, r91_49, r91_52, r91_53, r91_56, j91_59, r91_62, r91_63, r91_66, r91_67, r91_70, r91_71, r91_74, r91_77, r91_78, r91_79, r91_82, r91_83, r91_86, r91_87, rI_wI, rL_wL, rR_wR, rI_wL, rI_wR, rL_wI, rL_wR, rR_wI, rR_wL, va_rf_some, va_rf_none, Option.toList_some, Option.toList_none, List.nil_append, List.cons_append, true_and, and_true, false_and, and_false, and_self, if_true, if_false, not_true_eq_false, not_false_eq_true, or_false, false_or, or_true, true_or, or_self, ite_true, ite_false, Option.some.injEq, reduceCtorEq, Nat.reduceMod, Nat.reduceDiv, Nat.reduceLeDiff, Nat.reduceEqDiff, Nat.reduceAdd, Nat.reduceMul, Nat.reduceSub, Nat.reduceLT, sw_nil, sw_int, sw_long, sw_ref, li, lo, nI_m1, ng_eq, nn_eq, en_eq, ng_le, ng_lt, Int32.neg_neg, nI_add, pk_mul, nI_clampO, nI_ltO, nI_leO, nI_eqO, nI_subO, nle_t, nle_f, nlt_t, nlt_f, neq_f, fx_2000010_0, fx_2000010_1, fx_2000010_4, fx_2000010_5, fx_2000010_6, fx_2000010_8, fx_2000010_10, fx_2000010_11, fx_2000010_12, fx_2000010_13, fx_2000010_14, fx_2000010_15, fx_2000010_16, fx_2000010_17, fx_2000010_18, fx_3000009_0, fx_5000007_0, fx_5000007_1, fx_5000007_2, fx_5000007_3, fx_7000001_0, fx_11000005_1, fx_11000005_2, fx_11000005_3, fx_11000005_4, fx_11000005_5, fx_11000005_6, fx_11000005_10, fx_11000005_11, fx_11000005_12, fx_20000002_0, fx_20000002_2, fx_20000002_3, fx_20000002_4, fx_25000005_1, fx_25000005_2, fx_25000005_3, fx_25000005_4, fx_25000005_5, fx_25000005_6, fx_25000005_10, fx_25000005_11, fx_25000005_12, fx_34000002_0, fx_34000002_2, fx_34000002_3, fx_34000002_4, fx_39000008_0, fx_41000006_0, fx_42002024_0, fx_42002024_1, fx_42002024_2, fx_42002024_3, fx_42002024_4, fx_42002024_5, fx_42002024_6, fx_42002024_7, fx_42002024_8, fx_42002024_9, fx_42002024_10, fx_42002024_11, fx_42002024_12, fx_42002024_13, fx_42002024_14, fx_42002024_15, fx_42002024_16, fx_42002024_17, fx_42002024_18, fx_42002024_19, fx_43000008_0, fx_45000008_0, fx_47000008_0, fx_49000008_0, fx_51000008_0, fx_53000008_0, fx_55000008_0, fx_57000008_0, fx_59000008_0, fx_61000008_0, fx_63000008_0, fx_65000008_0, fx_67000008_0, fx_69000008_0, fx_71000008_0, fx_73000008_0, fx_75000008_0, fx_77000008_0, fx_79000008_0, fx_81000008_0, fx_83000424_0, fx_83000424_1, fx_83000424_2, fx_83000424_3, fx_85000004_0, fx_85000004_1, fx_85000004_2, fx_85000004_3, fx_85000004_4, fx_85000004_5, fx_85000004_6, fx_85000004_10, fx_102000008_0, fx_104000008_0, fx_106000008_0, fx_108000008_0, fx_110000011_1, fx_110000011_4, fx_110000011_5, fx_110000011_6, fx_110000011_9, fx_110000011_10, fx_110000011_11, fx_110000011_12, fx_110000011_14, fx_110000011_15, fx_110000011_20, fx_110000011_21, fx_110000011_22, fx_110000011_23, fx_110000011_25, fx_110000011_26, fx_110000011_31, fx_110000011_32, fx_110000011_37, fx_110000011_38, fx_110000011_39, fx_110000011_40, h3, c, i2, i3, p9, hP', g6, k64, v3]
      · have e8 : fI (s00 S'.1 8) = -nI 1 := by
          have : s00 S'.1 8 = 0 := by show (if 0 < S'.1 1 then 1 else 0) = 0; rw [if_neg z]
          rw [this]; rfl
        rw [e8] at g6
        have z0 : S'.1 1 = 0 := by omega
        rw [z0] at p9
        simp (disch := first | assumption | omega) only [r91_0, r91_1, r91_4, r91_5, r91_8, r91_9, r91_12, r91_15, r91_16, r91_17, r91_20, r91_21, r91_24, r91_25, r91_28, r91_29, r91_30, r91_31, r91_34, r91_35, r91_36, r91_37, r91_40, r91_40n, r91_43, r91_44, r91_45, r91_45n, r91_48, r91_49, r91_52, r91_53, r91_56, j91_59, r91_62, r91_63, r91_66, r91_67, r91_70, r91_71, r91_74, r91_77, r91_78, r91_79, r91_82, r91_83, r91_86, r91_87, rI_wI, rL_wL, rR_wR, rI_wL, rI_wR, rL_wI, rL_wR, rR_wI, rR_wL, va_rf_some, va_rf_none, Option.toList_some, Option.toList_none, List.nil_append, List.cons_append, true_and, and_true, false_and, and_false, and_self, if_true, if_false, not_true_eq_false, not_false_eq_true, or_false, false_or, or_true, true_or, or_self, ite_true, ite_false, Option.some.injEq, reduceCtorEq, Nat.reduceMod, Nat.reduceDiv, Nat.reduceLeDiff, Nat.reduceEqDiff, Nat.reduceAdd, Nat.reduceMul, Nat.reduceSub, Nat.reduceLT, sw_nil, sw_int, sw_long, sw_ref, li, lo, nI_m1, ng_eq, nn_eq, en_eq, ng_le, ng_lt, Int32.neg_neg, nI_add, pk_mul, nI_clampO, nI_ltO, nI_leO, nI_eqO, nI_subO, nle_t, nle_f, nlt_t, nlt_f, neq_f, fx_2000010_0, fx_2000010_1, fx_2000010_4, fx_2000010_5, fx_2000010_6, fx_2000010_8, fx_2000010_10, fx_2000010_11, fx_2000010_12, fx_2000010_13, fx_2000010_14, fx_2000010_15, fx_2000010_16, fx_2000010_17, fx_2000010_18, fx_3000009_0, fx_5000007_0, fx_5000007_1, fx_5000007_2, fx_5000007_3, fx_7000001_0, fx_11000005_1, fx_11000005_2, fx_11000005_3, fx_11000005_4, fx_11000005_5, fx_11000005_6, fx_11000005_10, fx_11000005_11, fx_11000005_12, fx_20000002_0, fx_20000002_2, fx_20000002_3, fx_20000002_4, fx_25000005_1, fx_25000005_2, fx_25000005_3, fx_25000005_4, fx_25000005_5, fx_25000005_6, fx_25000005_10, fx_25000005_11, fx_25000005_12, fx_34000002_0, fx_34000002_2, fx_34000002_3, fx_34000002_4, fx_39000008_0, fx_41000006_0, fx_42002024_0, fx_42002024_1, fx_42002024_2, fx_42002024_3, fx_42002024_4, fx_42002024_5, fx_42002024_6, fx_42002024_7, fx_42002024_8, fx_42002024_9, fx_42002024_10, fx_42002024_11, fx_42002024_12, fx_42002024_13, fx_42002024_14, fx_42002024_15, fx_42002024_16, fx_42002024_17, fx_42002024_18, fx_42002024_19, fx_43000008_0, fx_45000008_0, fx_47000008_0, fx_49000008_0, fx_51000008_0, fx_53000008_0, fx_55000008_0, fx_57000008_0, fx_59000008_0, fx_61000008_0, fx_63000008_0, fx_65000008_0, fx_67000008_0, fx_69000008_0, fx_71000008_0, fx_73000008_0, fx_75000008_0, fx_77000008_0, fx_79000008_0, fx_81000008_0, fx_83000424_0, fx_83000424_1, fx_83000424_2, fx_83000424_3, fx_85000004_0, fx_85000004_1, fx_85000004_2, fx_85000004_3, fx_85000004_4, fx_85000004_5, fx_85000004_6, fx_85000004_10, fx_102000008_0, fx_104000008_0, fx_106000008_0, fx_108000008_0, fx_110000011_1, fx_110000011_4, fx_110000011_5, fx_110000011_6, fx_110000011_9, fx_110000011_10, fx_110000011_11, fx_110000011_12, fx_110000011_14, fx_110000011_15, fx_110000011_20, fx_110000011_21, fx_110000011_22, fx_110000011_23, fx_110000011_25, fx_110000011_26, fx_110000011_31, fx_110000011_32, fx_110000011_37, fx_110000011_38, fx_110000011_39, fx_110000011_40, h3, c, i2, i3, p9, hP', g6, k64, v3]
end T1
theorem c91 {d : Nat} {μ : PM} {pa : Nat → Nat} {lw : LW} {s : Nat → Nat} {un : List (Nat → Nat)} {mk : Nat → Option (Nat → Nat)} {tp : List Nat} {T : List Tok} (hC : CH μ pa lw s un mk tp) (hK : OKA pa s un mk tp) (hW : KW μ) (hI : isT tp 0 T) (hl : T.length ≤ 1001) : ∃ ν x, HE μ ν ∧ (∀ f, lnZ 1001 SZ T = .error f → x = nI f ∧ CH ν pa lw s un mk []) ∧ (∀ S', lnZ 1001 SZ T = .ok S' → x = nI 0 ∧ SI S' ∧ CH ν S'.1 S'.2.1 (s00 S'.1) [] (fun _ => none) []) ∧ ∀ Q, R (d + 7) 91 0 [some (.ref 2000010), none, none] [] μ Q = Q (some (.int x)) ν := by
  rcases hC.2.1 with ⟨h1, h2, h3, h4⟩ | ⟨h1, h2, h3, h4⟩
  · exact c91b hC hK hW hI hl (by decide) h1 h2 (fun ν e r2 r3 => Or.inl ⟨r2, r3, CPa_o (fun a j q1 q2 => e a j (by omega) (by omega) (by omega)) h3, CLa_o (fun a j q1 q2 => e a j (by omega) (by omega) (by omega)) h4⟩) (fun ν qa lq r2 r3 k1 k2 => Or.inr ⟨r2, r3, k1, k2⟩)
  · exact c91a hC hK hW hI hl (by decide) h1 h2 (fun ν e r2 r3 => Or.inr ⟨r2, r3, CPb_o (fun a j q1 q2 => e a j (by omega) (by omega) (by omega)) h3, CLb_o (fun a j q1 q2 => e a j (by omega) (by omega) (by omega)) h4⟩) (fun ν qa lq r2 r3 k1 k2 => Or.inl ⟨r2, r3, k1, k2⟩)
