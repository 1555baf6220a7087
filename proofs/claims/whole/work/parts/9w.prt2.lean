/-! THE CLASS'S PARTY TAKES WHAT IS TOLD: IN MEMORY -/
def DFa (μ ν : PM) : Prop := (∀ a j, ¬ (a = 5000007 ∨ a = 6000003 ∨ a = 7000001 ∨ a = 8006420 ∨ (11000005 ≤ a ∧ a ≤ 24006420)) → rI ν a j = rI μ a j) ∧ (∀ a j, ¬ (a = 6000003 ∨ a = 9000721 ∨ a = 10000421) → rL ν a j = rL μ a j) ∧ (∀ a j, ¬ (a = 7000001 ∧ j = 4) → rR ν a j = rR μ a j) ∧ aS ν = aS μ
theorem DFa_rf (μ : PM) : DFa μ μ := ⟨fun _ _ _ => rfl, fun _ _ _ => rfl, fun _ _ _ => rfl, rfl⟩
theorem DFa_tr {μ ν ρ : PM} (h : DFa μ ν) (k : DFa ν ρ) : DFa μ ρ := ⟨fun a j q => (k.1 a j q).trans (h.1 a j q), fun a j q => (k.2.1 a j q).trans (h.2.1 a j q), fun a j q => (k.2.2.1 a j q).trans (h.2.2.1 a j q), k.2.2.2.trans h.2.2.2⟩
theorem DFa_Q {μ ν : PM} (h : QF μ ν) : DFa μ ν := ⟨fun a j q => h.1 a j (fun e => q (by omega)) (fun e => q (by omega)), fun a j q => h.2.1 a j (fun e => q (by omega)), fun a j _ => h.2.2.1 a j, h.2.2.2⟩
theorem DFa_w (μ : PM) {a j : Nat} (x : Int32) (h : a = 5000007 ∨ a = 6000003 ∨ a = 7000001 ∨ a = 8006420 ∨ (11000005 ≤ a ∧ a ≤ 24006420)) : DFa μ (wI μ a j x) := ⟨fun b k q => by rw [rI_wI, if_neg (fun e => q (by rw [← e.1]; exact h))], fun _ _ _ => rfl, fun _ _ _ => rfl, rfl⟩
theorem DFa_wL (μ : PM) {a j : Nat} (x : Int64) (h : a = 6000003 ∨ a = 9000721 ∨ a = 10000421) : DFa μ (wL μ a j x) := ⟨fun _ _ _ => rfl, fun b k q => by rw [rL_wL, if_neg (fun e => q (by rw [← e.1]; exact h))], fun _ _ _ => rfl, rfl⟩
def DLa (μ : PM) (lw : LW) (L0 : Nat) : Prop := rI μ 20000002 1 = nI L0 ∧ ∀ k, k < 3 → (lw k = none → rI μ 22000320 k = nI 0 ∧ rI μ 23000320 k = nI 0) ∧ ∀ l, lw k = some l → ∃ st, rI μ 22000320 k = nI st ∧ rI μ 23000320 k = nI (st + l.length) ∧ st + l.length ≤ L0 ∧ ∀ i, i < l.length → rI μ 21100020 (st + i) = enc (l.getD i (0, 0))
/-- what the class holds of what is told so far -/
def CSa (μ : PM) (S : SS) (L0 : Nat) : Prop := CPa μ S.1 ∧ DLa μ S.2.1 L0 ∧ NCr μ S.2.2.1 (S.1 0) (S.1 1) ∧ rI μ 5000007 5 = nI S.2.2.2
theorem CPa_o {μ ν : PM} {pa : Nat → Nat} (e : ∀ a j, 11000005 ≤ a → a ≤ 24006420 → rI ν a j = rI μ a j) (h : CPa μ pa) : CPa ν pa := by
  unfold CPa at h ⊢
  simpa (disch := omega) only [e] using h
theorem DLa_o {μ ν : PM} {lw : LW} {L0 : Nat} (e : ∀ a j, (a = 20000002 ∨ a = 22000320 ∨ a = 23000320 ∨ a = 21100020) → rI ν a j = rI μ a j) (h : DLa μ lw L0) : DLa ν lw L0 := by
  have e1 : ∀ j, rI ν 20000002 j = rI μ 20000002 j := fun j => e _ _ (by omega)
  have e2 : ∀ j, rI ν 22000320 j = rI μ 22000320 j := fun j => e _ _ (by omega)
  have e3 : ∀ j, rI ν 23000320 j = rI μ 23000320 j := fun j => e _ _ (by omega)
  have e4 : ∀ j, rI ν 21100020 j = rI μ 21100020 j := fun j => e _ _ (by omega)
  unfold DLa at h ⊢
  simpa only [e1, e2, e3, e4] using h
theorem CSa_Q {μ ν : PM} {S : SS} {L0 : Nat} (h : QF μ ν) (k : CSa μ S L0) : CSa ν S L0 := by
  obtain ⟨k1, k2, k3, k4⟩ := k
  exact ⟨CPa_o (fun a j q1 q2 => h.1 a j (by omega) (by omega)) k1, DLa_o (fun a j q => h.1 a j (by omega) (by omega)) k2, NCr_Q (fun j => h.2.1 _ _ (by decide)) (fun j => h.2.1 _ _ (by decide)) k3, (h.1 _ _ (by decide) (by decide)).trans k4⟩
section T1
variable {d : Nat} {μ : PM} {pa : Nat → Nat}
def w48a (μ : PM) (n k wm a b : Nat) : PM := wI (wI (wI (wI (wI μ 12000720 n (nI k)) 13000723 n (nI wm)) 14000720 n (nI a)) 15000720 n (nI b)) 11000005 0 (nI (n + 1))
theorem w48a_DF (μ : PM) (n k wm a b : Nat) : DFa μ (w48a μ n k wm a b) := DFa_tr (DFa_tr (DFa_tr (DFa_tr (DFa_w μ _ (by omega)) (DFa_w _ _ (by omega))) (DFa_w _ _ (by omega))) (DFa_w _ _ (by omega))) (DFa_w _ _ (by omega))
theorem w48a_r {n k wm a b : Nat} (x j : Nat) : rI (w48a μ n k wm a b) x j = if x = 11000005 ∧ j = 0 then nI (n + 1) else if x = 15000720 ∧ j = n then nI b else if x = 14000720 ∧ j = n then nI a else if x = 13000723 ∧ j = n then nI wm else if x = 12000720 ∧ j = n then nI k else rI μ x j := by
  unfold w48a
  simp only [rI_wI, eq_comm]
theorem c48a (hF : FX μ) {n k wm a b : Nat} (h : rI μ 11000005 0 = nI n) (hn : n < 7) (hw : wm ≤ 1) : ∀ Q, R d 48 0 [some (.ref 11000005), some (.int (nI k)), some (.int (nI wm)), some (.int (nI a)), some (.int (nI b))] [] μ Q = Q none (w48a μ n k wm a b) := by
  intro Q
  unfold w48a
  have : wm = 0 ∨ wm = 1 := by omega
  rcases this with rfl | rfl <;> simp (disch := first | assumption | omega) only [r48_0, r48_1, r48_4, r48_6, r48_9, r48_10, r48_13, r48_14, r48_17, r48_18, r48_19, r48_20, r48_23, r48_24, r48_27, r48_28, r48_29, r48_30, r48_33, r48_34, r48_37, r48_38, r48_39, r48_40, r48_43, r48_44, r48_47, r48_49, r48_50, r48_51, r48_51i, r48_52, r48_55, r48_56, r48_57, r48_60, rI_wI, rL_wL, rR_wR, rI_wL, rI_wR, rL_wI, rL_wR, rR_wI, rR_wL, va_rf_some, va_rf_none, Option.toList_some, Option.toList_none, List.nil_append, List.cons_append, true_and, and_true, false_and, and_false, and_self, if_true, if_false, not_true_eq_false, not_false_eq_true, or_false, false_or, or_true, true_or, or_self, ite_true, ite_false, Option.some.injEq, reduceCtorEq, Nat.reduceMod, Nat.reduceDiv, Nat.reduceLeDiff, Nat.reduceEqDiff, Nat.reduceAdd, Nat.reduceMul, Nat.reduceSub, Nat.reduceLT, sw_nil, sw_int, sw_long, sw_ref, li, lo, nI_m1, ng_eq, nn_eq, en_eq, ng_le, ng_lt, Int32.neg_neg, nI_add, pk_mul, nI_clampO, nI_ltO, nI_leO, nI_eqO, nI_subO, nle_t, nle_f, nlt_t, nlt_f, neq_f, fx_2000010_0, fx_2000010_1, fx_2000010_4, fx_2000010_5, fx_2000010_6, fx_2000010_8, fx_2000010_10, fx_2000010_11, fx_2000010_12, fx_2000010_13, fx_2000010_14, fx_2000010_15, fx_2000010_16, fx_2000010_17, fx_2000010_18, fx_3000009_0, fx_5000007_0, fx_5000007_1, fx_5000007_2, fx_5000007_3, fx_7000001_0, fx_11000005_1, fx_11000005_2, fx_11000005_3, fx_11000005_4, fx_11000005_5, fx_11000005_6, fx_11000005_10, fx_11000005_11, fx_11000005_12, fx_20000002_0, fx_20000002_2, fx_20000002_3, fx_20000002_4, fx_25000005_1, fx_25000005_2, fx_25000005_3, fx_25000005_4, fx_25000005_5, fx_25000005_6, fx_25000005_10, fx_25000005_11, fx_25000005_12, fx_34000002_0, fx_34000002_2, fx_34000002_3, fx_34000002_4, fx_39000008_0, fx_41000006_0, fx_42002024_0, fx_42002024_1, fx_42002024_2, fx_42002024_3, fx_42002024_4, fx_42002024_5, fx_42002024_6, fx_42002024_7, fx_42002024_8, fx_42002024_9, fx_42002024_10, fx_42002024_11, fx_42002024_12, fx_42002024_13, fx_42002024_14, fx_42002024_15, fx_42002024_16, fx_42002024_17, fx_42002024_18, fx_42002024_19, fx_43000008_0, fx_45000008_0, fx_47000008_0, fx_49000008_0, fx_51000008_0, fx_53000008_0, fx_55000008_0, fx_57000008_0, fx_59000008_0, fx_61000008_0, fx_63000008_0, fx_65000008_0, fx_67000008_0, fx_69000008_0, fx_71000008_0, fx_73000008_0, fx_75000008_0, fx_77000008_0, fx_79000008_0, fx_81000008_0, fx_83000424_0, fx_83000424_1, fx_83000424_2, fx_83000424_3, fx_85000004_0, fx_85000004_1, fx_85000004_2, fx_85000004_3, fx_85000004_4, fx_85000004_5, fx_85000004_6, fx_85000004_10, fx_102000008_0, fx_104000008_0, fx_106000008_0, fx_108000008_0, fx_110000011_1, fx_110000011_4, fx_110000011_5, fx_110000011_6, fx_110000011_9, fx_110000011_10, fx_110000011_11, fx_110000011_12, fx_110000011_14, fx_110000011_15, fx_110000011_20, fx_110000011_21, fx_110000011_22, fx_110000011_23, fx_110000011_25, fx_110000011_26, fx_110000011_31, fx_110000011_32, fx_110000011_37, fx_110000011_38, fx_110000011_39, fx_110000011_40, h, vnb0, vnb1]
theorem w48a_CP {k wm a b : Nat} (h : CPa μ pa) (hZ : TZ pa) (h0 : pa 0 < 7) : CPa (w48a μ (pa 0) k wm a b) (adP pa wm k a b) := by
  obtain ⟨h1, h2, h3, h4, h5, h6, h7, h8, h9, h10⟩ := h
  have e0 : adP pa wm k a b 0 = pa 0 + 1 := rfl
  have eo : ∀ x, 1 ≤ x → x < 8 ∨ 36 ≤ x → adP pa wm k a b x = pa x := fun x q1 q2 => by
    unfold adP
    rw [if_neg (by omega), if_neg (by omega), if_neg (by omega), if_neg (by omega), if_neg (by omega)]
  refine ⟨?_, fun i hi => ?_, fun i hi => ?_, ?_, ?_, ?_, fun f hf => ?_, ?_, ?_, ?_⟩
  · rw [w48a_r, if_pos ⟨rfl, rfl⟩, e0]
  · rw [e0] at hi
    by_cases e : i = pa 0
    · subst e
      have a1 : kd (adP pa wm k a b) (pa 0) = k := by unfold kd adP; rw [if_neg (by omega), if_pos rfl]
      have a2 : wmn (adP pa wm k a b) (pa 0) = wm := by unfold wmn adP; rw [if_neg (by omega), if_neg (by omega), if_pos rfl]
      have a3 : tl (adP pa wm k a b) (pa 0) = a := by unfold tl adP; rw [if_neg (by omega), if_neg (by omega), if_neg (by omega), if_pos rfl]
      have a4 : nk (adP pa wm k a b) (pa 0) = b := by unfold nk adP; rw [if_neg (by omega), if_neg (by omega), if_neg (by omega), if_neg (by omega), if_pos rfl]
      rw [a1, a2, a3, a4]
      refine ⟨?_, ?_, ?_, ?_⟩
      · rw [w48a_r, if_neg (by omega), if_neg (by omega), if_neg (by omega), if_neg (by omega), if_pos ⟨rfl, rfl⟩]
      · rw [w48a_r, if_neg (by omega), if_neg (by omega), if_neg (by omega), if_pos ⟨rfl, rfl⟩]
      · rw [w48a_r, if_neg (by omega), if_neg (by omega), if_pos ⟨rfl, rfl⟩]
      · rw [w48a_r, if_neg (by omega), if_pos ⟨rfl, rfl⟩]
    · have a1 : ∀ w, w < 4 → adP pa wm k a b (8 + 4 * i + w) = pa (8 + 4 * i + w) := fun w hw => by
        unfold adP
        rw [if_neg (by omega), if_neg (by omega), if_neg (by omega), if_neg (by omega), if_neg (by omega)]
      have g := h2 i (by omega)
      unfold kd wmn tl nk at g ⊢
      rw [show 8 + 4 * i = 8 + 4 * i + 0 by omega] at g ⊢
      rw [a1 0 (by omega)]
      rw [show 8 + 4 * i + 0 = 8 + 4 * i by omega] at g ⊢
      rw [a1 1 (by omega), a1 2 (by omega), a1 3 (by omega)]
      refine ⟨?_, ?_, ?_, ?_⟩
      · rw [w48a_r, if_neg (by omega), if_neg (by omega), if_neg (by omega), if_neg (by omega), if_neg (by omega)]; exact g.1
      · rw [w48a_r, if_neg (by omega), if_neg (by omega), if_neg (by omega), if_neg (by omega), if_neg (by omega)]; exact g.2.1
      · rw [w48a_r, if_neg (by omega), if_neg (by omega), if_neg (by omega), if_neg (by omega), if_neg (by omega)]; exact g.2.2.1
      · rw [w48a_r, if_neg (by omega), if_neg (by omega), if_neg (by omega), if_neg (by omega), if_neg (by omega)]; exact g.2.2.2
  · have b1 : bsN (adP pa wm k a b) 1 i = bsN pa 1 i := bsN_c (fun b _ => by rw [adP_tw h0])
    have b2 : bsN (adP pa wm k a b) 2 i = bsN pa 2 i := bsN_c (fun b _ => by rw [adP_tw h0])
    rw [b1, b2]
    rw [w48a_r, if_neg (by omega), if_neg (by omega), if_neg (by omega), if_neg (by omega), if_neg (by omega), w48a_r, if_neg (by omega), if_neg (by omega), if_neg (by omega), if_neg (by omega), if_neg (by omega)]
    exact h3 i hi
  · rw [w48a_r, if_neg (by omega), if_neg (by omega), if_neg (by omega), if_neg (by omega), if_neg (by omega), adP_twN h0 hZ (by omega)]; exact h4
  · rw [w48a_r, if_neg (by omega), if_neg (by omega), if_neg (by omega), if_neg (by omega), if_neg (by omega), adP_twN h0 hZ (by omega)]; exact h5
  · rw [w48a_r, if_neg (by omega), if_neg (by omega), if_neg (by omega), if_neg (by omega), if_neg (by omega), eo 1 (by omega) (by omega)]; exact h6
  · rw [eo 1 (by omega) (by omega)] at hf
    rw [w48a_r, if_neg (by omega), if_neg (by omega), if_neg (by omega), if_neg (by omega), if_neg (by omega), w48a_r, if_neg (by omega), if_neg (by omega), if_neg (by omega), if_neg (by omega), if_neg (by omega), eo _ (by omega) (by omega), eo _ (by omega) (by omega)]; exact h7 f hf
  · rw [w48a_r, if_neg (by omega), if_neg (by omega), if_neg (by omega), if_neg (by omega), if_neg (by omega), eo 3 (by omega) (by omega)]; exact h8
  · rw [w48a_r, if_neg (by omega), if_neg (by omega), if_neg (by omega), if_neg (by omega), if_neg (by omega), eo 4 (by omega) (by omega)]; exact h9
  · rw [w48a_r, if_neg (by omega), if_neg (by omega), if_neg (by omega), if_neg (by omega), if_neg (by omega), eo 2 (by omega) (by omega)]; exact h10
def w49a (μ : PM) (n a b : Nat) : PM := wI (wI (wI μ 18000420 n (nI a)) 19000420 n (nI b)) 11000005 9 (nI (n + 1))
theorem w49a_DF (μ : PM) (n a b : Nat) : DFa μ (w49a μ n a b) := DFa_tr (DFa_tr (DFa_w μ _ (by omega)) (DFa_w _ _ (by omega))) (DFa_w _ _ (by omega))
theorem w49a_r {n a b : Nat} (x j : Nat) : rI (w49a μ n a b) x j = if x = 11000005 ∧ j = 9 then nI (n + 1) else if x = 19000420 ∧ j = n then nI b else if x = 18000420 ∧ j = n then nI a else rI μ x j := by
  unfold w49a
  simp only [rI_wI, eq_comm]
theorem c49a (hF : FX μ) {n a b : Nat} (h : rI μ 11000005 9 = nI n) (hn : n < 4) : ∀ Q, R d 49 0 [some (.ref 11000005), some (.int (nI a)), some (.int (nI b))] [] μ Q = Q none (w49a μ n a b) := by
  intro Q
  unfold w49a
  simp (disch := first | assumption | omega) only [r49_0, r49_1, r49_4, r49_5, r49_8, r49_9, r49_12, r49_13, r49_16, r49_17, r49_18, r49_19, r49_22, r49_23, r49_26, r49_27, r49_28, r49_29, r49_29i, r49_30, r49_33, r49_34, r49_35, r49_38, rI_wI, rL_wL, rR_wR, rI_wL, rI_wR, rL_wI, rL_wR, rR_wI, rR_wL, va_rf_some, va_rf_none, Option.toList_some, Option.toList_none, List.nil_append, List.cons_append, true_and, and_true, false_and, and_false, and_self, if_true, if_false, not_true_eq_false, not_false_eq_true, or_false, false_or, or_true, true_or, or_self, ite_true, ite_false, Option.some.injEq, reduceCtorEq, Nat.reduceMod, Nat.reduceDiv, Nat.reduceLeDiff, Nat.reduceEqDiff, Nat.reduceAdd, Nat.reduceMul, Nat.reduceSub, Nat.reduceLT, sw_nil, sw_int, sw_long, sw_ref, li, lo, nI_m1, ng_eq, nn_eq, en_eq, ng_le, ng_lt, Int32.neg_neg, nI_add, pk_mul, nI_clampO, nI_ltO, nI_leO, nI_eqO, nI_subO, nle_t, nle_f, nlt_t, nlt_f, neq_f, fx_2000010_0, fx_2000010_1, fx_2000010_4, fx_2000010_5, fx_2000010_6, fx_2000010_8, fx_2000010_10, fx_2000010_11, fx_2000010_12, fx_2000010_13, fx_2000010_14, fx_2000010_15, fx_2000010_16, fx_2000010_17, fx_2000010_18, fx_3000009_0, fx_5000007_0, fx_5000007_1, fx_5000007_2, fx_5000007_3, fx_7000001_0, fx_11000005_1, fx_11000005_2, fx_11000005_3, fx_11000005_4, fx_11000005_5, fx_11000005_6, fx_11000005_10, fx_11000005_11, fx_11000005_12, fx_20000002_0, fx_20000002_2, fx_20000002_3, fx_20000002_4, fx_25000005_1, fx_25000005_2, fx_25000005_3, fx_25000005_4, fx_25000005_5, fx_25000005_6, fx_25000005_10, fx_25000005_11, fx_25000005_12, fx_34000002_0, fx_34000002_2, fx_34000002_3, fx_34000002_4, fx_39000008_0, fx_41000006_0, fx_42002024_0, fx_42002024_1, fx_42002024_2, fx_42002024_3, fx_42002024_4, fx_42002024_5, fx_42002024_6, fx_42002024_7, fx_42002024_8, fx_42002024_9, fx_42002024_10, fx_42002024_11, fx_42002024_12, fx_42002024_13, fx_42002024_14, fx_42002024_15, fx_42002024_16, fx_42002024_17, fx_42002024_18, fx_42002024_19, fx_43000008_0, fx_45000008_0, fx_47000008_0, fx_49000008_0, fx_51000008_0, fx_53000008_0, fx_55000008_0, fx_57000008_0, fx_59000008_0, fx_61000008_0, fx_63000008_0, fx_65000008_0, fx_67000008_0, fx_69000008_0, fx_71000008_0, fx_73000008_0, fx_75000008_0, fx_77000008_0, fx_79000008_0, fx_81000008_0, fx_83000424_0, fx_83000424_1, fx_83000424_2, fx_83000424_3, fx_85000004_0, fx_85000004_1, fx_85000004_2, fx_85000004_3, fx_85000004_4, fx_85000004_5, fx_85000004_6, fx_85000004_10, fx_102000008_0, fx_104000008_0, fx_106000008_0, fx_108000008_0, fx_110000011_1, fx_110000011_4, fx_110000011_5, fx_110000011_6, fx_110000011_9, fx_110000011_10, fx_110000011_11, fx_110000011_12, fx_110000011_14, fx_110000011_15, fx_110000011_20, fx_110000011_21, fx_110000011_22, fx_110000011_23, fx_110000011_25, fx_110000011_26, fx_110000011_31, fx_110000011_32, fx_110000011_37, fx_110000011_38, fx_110000011_39, fx_110000011_40, h]
theorem w49a_CP {a b : Nat} (h : CPa μ pa) (h7' : pa 0 ≤ 7) (h0 : pa 1 < 4) : CPa (w49a μ (pa 1) a b) (adF pa a b) := by
  obtain ⟨h1, h2, h3, h4, h5, h6, h7, h8, h9, h10⟩ := h
  have e1 : adF pa a b 1 = pa 1 + 1 := by unfold adF; rw [if_pos rfl]
  have eo : ∀ x, x ≠ 1 → x < 36 ∨ 44 ≤ x → adF pa a b x = pa x := fun x q1 q2 => by
    unfold adF
    rw [if_neg (by omega), if_neg (by omega), if_neg (by omega)]
  refine ⟨?_, fun i hi => ?_, fun i hi => ?_, ?_, ?_, ?_, fun f hf => ?_, ?_, ?_, ?_⟩
  · rw [w49a_r, if_neg (by omega), if_neg (by omega), if_neg (by omega), eo 0 (by omega) (by omega)]; exact h1
  · rw [eo 0 (by omega) (by omega)] at hi
    have g := h2 i hi
    unfold kd wmn tl nk at g ⊢
    rw [eo _ (by omega) (by omega), eo _ (by omega) (by omega), eo _ (by omega) (by omega), eo _ (by omega) (by omega)]
    refine ⟨?_, ?_, ?_, ?_⟩
    · rw [w49a_r, if_neg (by omega), if_neg (by omega), if_neg (by omega)]; exact g.1
    · rw [w49a_r, if_neg (by omega), if_neg (by omega), if_neg (by omega)]; exact g.2.1
    · rw [w49a_r, if_neg (by omega), if_neg (by omega), if_neg (by omega)]; exact g.2.2.1
    · rw [w49a_r, if_neg (by omega), if_neg (by omega), if_neg (by omega)]; exact g.2.2.2
  · have b1 : bsN (adF pa a b) 1 i = bsN pa 1 i := bsN_c (fun b _ => by rw [adF_tw h0])
    have b2 : bsN (adF pa a b) 2 i = bsN pa 2 i := bsN_c (fun b _ => by rw [adF_tw h0])
    rw [b1, b2]
    rw [w49a_r, if_neg (by omega), if_neg (by omega), if_neg (by omega), w49a_r, if_neg (by omega), if_neg (by omega), if_neg (by omega)]
    exact h3 i hi
  · rw [w49a_r, if_neg (by omega), if_neg (by omega), if_neg (by omega), twN_c (pa := pa) (eo 0 (by omega) (by omega)) h7' (fun a b _ _ => by rw [adF_tw h0])]; exact h4
  · rw [w49a_r, if_neg (by omega), if_neg (by omega), if_neg (by omega), twN_c (pa := pa) (eo 0 (by omega) (by omega)) h7' (fun a b _ _ => by rw [adF_tw h0])]; exact h5
  · rw [w49a_r, if_pos ⟨rfl, rfl⟩, e1]
  · rw [e1] at hf
    by_cases e : f = pa 1
    · subst e
      have a1 : adF pa a b (36 + 2 * pa 1) = a := by unfold adF; rw [if_neg (by omega), if_pos rfl]
      have a2 : adF pa a b (36 + 2 * pa 1 + 1) = b := by unfold adF; rw [if_neg (by omega), if_neg (by omega), if_pos rfl]
      rw [a1, a2]
      refine ⟨?_, ?_⟩
      · rw [w49a_r, if_neg (by omega), if_neg (by omega), if_pos ⟨rfl, rfl⟩]
      · rw [w49a_r, if_neg (by omega), if_pos ⟨rfl, rfl⟩]
    · have a1 : ∀ w, w < 2 → adF pa a b (36 + 2 * f + w) = pa (36 + 2 * f + w) := fun w hw => by
        unfold adF
        rw [if_neg (by omega), if_neg (by omega), if_neg (by omega)]
      have a0 : adF pa a b (36 + 2 * f) = pa (36 + 2 * f) := a1 0 (by omega)
      rw [a0, a1 1 (by omega), w49a_r, if_neg (by omega), if_neg (by omega), if_neg (by omega), w49a_r, if_neg (by omega), if_neg (by omega), if_neg (by omega)]
      exact h7 f (by omega)
  · rw [w49a_r, if_neg (by omega), if_neg (by omega), if_neg (by omega), eo 3 (by omega) (by omega)]; exact h8
  · rw [w49a_r, if_neg (by omega), if_neg (by omega), if_neg (by omega), eo 4 (by omega) (by omega)]; exact h9
  · rw [w49a_r, if_neg (by omega), if_neg (by omega), if_neg (by omega), eo 2 (by omega) (by omega)]; exact h10
end T1
def DFb (μ ν : PM) : Prop := (∀ a j, ¬ (a = 5000007 ∨ a = 6000003 ∨ a = 7000001 ∨ a = 8006420 ∨ (25000005 ≤ a ∧ a ≤ 38006420)) → rI ν a j = rI μ a j) ∧ (∀ a j, ¬ (a = 6000003 ∨ a = 9000721 ∨ a = 10000421) → rL ν a j = rL μ a j) ∧ (∀ a j, ¬ (a = 7000001 ∧ j = 4) → rR ν a j = rR μ a j) ∧ aS ν = aS μ
theorem DFb_rf (μ : PM) : DFb μ μ := ⟨fun _ _ _ => rfl, fun _ _ _ => rfl, fun _ _ _ => rfl, rfl⟩
theorem DFb_tr {μ ν ρ : PM} (h : DFb μ ν) (k : DFb ν ρ) : DFb μ ρ := ⟨fun a j q => (k.1 a j q).trans (h.1 a j q), fun a j q => (k.2.1 a j q).trans (h.2.1 a j q), fun a j q => (k.2.2.1 a j q).trans (h.2.2.1 a j q), k.2.2.2.trans h.2.2.2⟩
theorem DFb_Q {μ ν : PM} (h : QF μ ν) : DFb μ ν := ⟨fun a j q => h.1 a j (fun e => q (by omega)) (fun e => q (by omega)), fun a j q => h.2.1 a j (fun e => q (by omega)), fun a j _ => h.2.2.1 a j, h.2.2.2⟩
theorem DFb_w (μ : PM) {a j : Nat} (x : Int32) (h : a = 5000007 ∨ a = 6000003 ∨ a = 7000001 ∨ a = 8006420 ∨ (25000005 ≤ a ∧ a ≤ 38006420)) : DFb μ (wI μ a j x) := ⟨fun b k q => by rw [rI_wI, if_neg (fun e => q (by rw [← e.1]; exact h))], fun _ _ _ => rfl, fun _ _ _ => rfl, rfl⟩
theorem DFb_wL (μ : PM) {a j : Nat} (x : Int64) (h : a = 6000003 ∨ a = 9000721 ∨ a = 10000421) : DFb μ (wL μ a j x) := ⟨fun _ _ _ => rfl, fun b k q => by rw [rL_wL, if_neg (fun e => q (by rw [← e.1]; exact h))], fun _ _ _ => rfl, rfl⟩
def DLb (μ : PM) (lw : LW) (L0 : Nat) : Prop := rI μ 34000002 1 = nI L0 ∧ ∀ k, k < 3 → (lw k = none → rI μ 36000320 k = nI 0 ∧ rI μ 37000320 k = nI 0) ∧ ∀ l, lw k = some l → ∃ st, rI μ 36000320 k = nI st ∧ rI μ 37000320 k = nI (st + l.length) ∧ st + l.length ≤ L0 ∧ ∀ i, i < l.length → rI μ 35100020 (st + i) = enc (l.getD i (0, 0))
/-- what the class holds of what is told so far -/
def CSb (μ : PM) (S : SS) (L0 : Nat) : Prop := CPb μ S.1 ∧ DLb μ S.2.1 L0 ∧ NCr μ S.2.2.1 (S.1 0) (S.1 1) ∧ rI μ 5000007 5 = nI S.2.2.2
theorem CPb_o {μ ν : PM} {pa : Nat → Nat} (e : ∀ a j, 25000005 ≤ a → a ≤ 38006420 → rI ν a j = rI μ a j) (h : CPb μ pa) : CPb ν pa := by
  unfold CPb at h ⊢
  simpa (disch := omega) only [e] using h
theorem DLb_o {μ ν : PM} {lw : LW} {L0 : Nat} (e : ∀ a j, (a = 34000002 ∨ a = 36000320 ∨ a = 37000320 ∨ a = 35100020) → rI ν a j = rI μ a j) (h : DLb μ lw L0) : DLb ν lw L0 := by
  have e1 : ∀ j, rI ν 34000002 j = rI μ 34000002 j := fun j => e _ _ (by omega)
  have e2 : ∀ j, rI ν 36000320 j = rI μ 36000320 j := fun j => e _ _ (by omega)
  have e3 : ∀ j, rI ν 37000320 j = rI μ 37000320 j := fun j => e _ _ (by omega)
  have e4 : ∀ j, rI ν 35100020 j = rI μ 35100020 j := fun j => e _ _ (by omega)
  unfold DLb at h ⊢
  simpa only [e1, e2, e3, e4] using h
theorem CSb_Q {μ ν : PM} {S : SS} {L0 : Nat} (h : QF μ ν) (k : CSb μ S L0) : CSb ν S L0 := by
  obtain ⟨k1, k2, k3, k4⟩ := k
  exact ⟨CPb_o (fun a j q1 q2 => h.1 a j (by omega) (by omega)) k1, DLb_o (fun a j q => h.1 a j (by omega) (by omega)) k2, NCr_Q (fun j => h.2.1 _ _ (by decide)) (fun j => h.2.1 _ _ (by decide)) k3, (h.1 _ _ (by decide) (by decide)).trans k4⟩
section T1
variable {d : Nat} {μ : PM} {pa : Nat → Nat}
def w48b (μ : PM) (n k wm a b : Nat) : PM := wI (wI (wI (wI (wI μ 26000720 n (nI k)) 27000723 n (nI wm)) 28000720 n (nI a)) 29000720 n (nI b)) 25000005 0 (nI (n + 1))
theorem w48b_DF (μ : PM) (n k wm a b : Nat) : DFb μ (w48b μ n k wm a b) := DFb_tr (DFb_tr (DFb_tr (DFb_tr (DFb_w μ _ (by omega)) (DFb_w _ _ (by omega))) (DFb_w _ _ (by omega))) (DFb_w _ _ (by omega))) (DFb_w _ _ (by omega))
theorem w48b_r {n k wm a b : Nat} (x j : Nat) : rI (w48b μ n k wm a b) x j = if x = 25000005 ∧ j = 0 then nI (n + 1) else if x = 29000720 ∧ j = n then nI b else if x = 28000720 ∧ j = n then nI a else if x = 27000723 ∧ j = n then nI wm else if x = 26000720 ∧ j = n then nI k else rI μ x j := by
  unfold w48b
  simp only [rI_wI, eq_comm]
theorem c48b (hF : FX μ) {n k wm a b : Nat} (h : rI μ 25000005 0 = nI n) (hn : n < 7) (hw : wm ≤ 1) : ∀ Q, R d 48 0 [some (.ref 25000005), some (.int (nI k)), some (.int (nI wm)), some (.int (nI a)), some (.int (nI b))] [] μ Q = Q none (w48b μ n k wm a b) := by
  intro Q
  unfold w48b
  have : wm = 0 ∨ wm = 1 := by omega
  rcases this with rfl | rfl <;> simp (disch := first | assumption | omega) only [r48_0, r48_1, r48_4, r48_6, r48_9, r48_10, r48_13, r48_14, r48_17, r48_18, r48_19, r48_20, r48_23, r48_24, r48_27, r48_28, r48_29, r48_30, r48_33, r48_34, r48_37, r48_38, r48_39, r48_40, r48_43, r48_44, r48_47, r48_49, r48_50, r48_51, r48_51i, r48_52, r48_55, r48_56, r48_57, r48_60, rI_wI, rL_wL, rR_wR, rI_wL, rI_wR, rL_wI, rL_wR, rR_wI, rR_wL, va_rf_some, va_rf_none, Option.toList_some, Option.toList_none, List.nil_append, List.cons_append, true_and, and_true, false_and, and_false, and_self, if_true, if_false, not_true_eq_false, not_false_eq_true, or_false, false_or, or_true, true_or, or_self, ite_true, ite_false, Option.some.injEq, reduceCtorEq, Nat.reduceMod, Nat.reduceDiv, Nat.reduceLeDiff, Nat.reduceEqDiff, Nat.reduceAdd, Nat.reduceMul, Nat.reduceSub, Nat.reduceLT, sw_nil, sw_int, sw_long, sw_ref, li, lo, nI_m1, ng_eq, nn_eq, en_eq, ng_le, ng_lt, Int32.neg_neg, nI_add, pk_mul, nI_clampO, nI_ltO, nI_leO, nI_eqO, nI_subO, nle_t, nle_f, nlt_t, nlt_f, neq_f, fx_2000010_0, fx_2000010_1, fx_2000010_4, fx_2000010_5, fx_2000010_6, fx_2000010_8, fx_2000010_10, fx_2000010_11, fx_2000010_12, fx_2000010_13, fx_2000010_14, fx_2000010_15, fx_2000010_16, fx_2000010_17, fx_2000010_18, fx_3000009_0, fx_5000007_0, fx_5000007_1, fx_5000007_2, fx_5000007_3, fx_7000001_0, fx_11000005_1, fx_11000005_2, fx_11000005_3, fx_11000005_4, fx_11000005_5, fx_11000005_6, fx_11000005_10, fx_11000005_11, fx_11000005_12, fx_20000002_0, fx_20000002_2, fx_20000002_3, fx_20000002_4, fx_25000005_1, fx_25000005_2, fx_25000005_3, fx_25000005_4, fx_25000005_5, fx_25000005_6, fx_25000005_10, fx_25000005_11, fx_25000005_12, fx_34000002_0, fx_34000002_2, fx_34000002_3, fx_34000002_4, fx_39000008_0, fx_41000006_0, fx_42002024_0, fx_42002024_1, fx_42002024_2, fx_42002024_3, fx_42002024_4, fx_42002024_5, fx_42002024_6, fx_42002024_7, fx_42002024_8, fx_42002024_9, fx_42002024_10, fx_42002024_11, fx_42002024_12, fx_42002024_13, fx_42002024_14, fx_42002024_15, fx_42002024_16, fx_42002024_17, fx_42002024_18, fx_42002024_19, fx_43000008_0, fx_45000008_0, fx_47000008_0, fx_49000008_0, fx_51000008_0, fx_53000008_0, fx_55000008_0, fx_57000008_0, fx_59000008_0, fx_61000008_0, fx_63000008_0, fx_65000008_0, fx_67000008_0, fx_69000008_0, fx_71000008_0, fx_73000008_0, fx_75000008_0, fx_77000008_0, fx_79000008_0, fx_81000008_0, fx_83000424_0, fx_83000424_1, fx_83000424_2, fx_83000424_3, fx_85000004_0, fx_85000004_1, fx_85000004_2, fx_85000004_3, fx_85000004_4, fx_85000004_5, fx_85000004_6, fx_85000004_10, fx_102000008_0, fx_104000008_0, fx_106000008_0, fx_108000008_0, fx_110000011_1, fx_110000011_4, fx_110000011_5, fx_110000011_6, fx_110000011_9, fx_110000011_10, fx_110000011_11, fx_110000011_12, fx_110000011_14, fx_110000011_15, fx_110000011_20, fx_110000011_21, fx_110000011_22, fx_110000011_23, fx_110000011_25, fx_110000011_26, fx_110000011_31, fx_110000011_32, fx_110000011_37, fx_110000011_38, fx_110000011_39, fx_110000011_40, h, vnb0, vnb1]
theorem w48b_CP {k wm a b : Nat} (h : CPb μ pa) (hZ : TZ pa) (h0 : pa 0 < 7) : CPb (w48b μ (pa 0) k wm a b) (adP pa wm k a b) := by
  obtain ⟨h1, h2, h3, h4, h5, h6, h7, h8, h9, h10⟩ := h
  have e0 : adP pa wm k a b 0 = pa 0 + 1 := rfl
  have eo : ∀ x, 1 ≤ x → x < 8 ∨ 36 ≤ x → adP pa wm k a b x = pa x := fun x q1 q2 => by
    unfold adP
    rw [if_neg (by omega), if_neg (by omega), if_neg (by omega), if_neg (by omega), if_neg (by omega)]
  refine ⟨?_, fun i hi => ?_, fun i hi => ?_, ?_, ?_, ?_, fun f hf => ?_, ?_, ?_, ?_⟩
  · rw [w48b_r, if_pos ⟨rfl, rfl⟩, e0]
  · rw [e0] at hi
    by_cases e : i = pa 0
    · subst e
      have a1 : kd (adP pa wm k a b) (pa 0) = k := by unfold kd adP; rw [if_neg (by omega), if_pos rfl]
      have a2 : wmn (adP pa wm k a b) (pa 0) = wm := by unfold wmn adP; rw [if_neg (by omega), if_neg (by omega), if_pos rfl]
      have a3 : tl (adP pa wm k a b) (pa 0) = a := by unfold tl adP; rw [if_neg (by omega), if_neg (by omega), if_neg (by omega), if_pos rfl]
      have a4 : nk (adP pa wm k a b) (pa 0) = b := by unfold nk adP; rw [if_neg (by omega), if_neg (by omega), if_neg (by omega), if_neg (by omega), if_pos rfl]
      rw [a1, a2, a3, a4]
      refine ⟨?_, ?_, ?_, ?_⟩
      · rw [w48b_r, if_neg (by omega), if_neg (by omega), if_neg (by omega), if_neg (by omega), if_pos ⟨rfl, rfl⟩]
      · rw [w48b_r, if_neg (by omega), if_neg (by omega), if_neg (by omega), if_pos ⟨rfl, rfl⟩]
      · rw [w48b_r, if_neg (by omega), if_neg (by omega), if_pos ⟨rfl, rfl⟩]
      · rw [w48b_r, if_neg (by omega), if_pos ⟨rfl, rfl⟩]
    · have a1 : ∀ w, w < 4 → adP pa wm k a b (8 + 4 * i + w) = pa (8 + 4 * i + w) := fun w hw => by
        unfold adP
        rw [if_neg (by omega), if_neg (by omega), if_neg (by omega), if_neg (by omega), if_neg (by omega)]
      have g := h2 i (by omega)
      unfold kd wmn tl nk at g ⊢
      rw [show 8 + 4 * i = 8 + 4 * i + 0 by omega] at g ⊢
      rw [a1 0 (by omega)]
      rw [show 8 + 4 * i + 0 = 8 + 4 * i by omega] at g ⊢
      rw [a1 1 (by omega), a1 2 (by omega), a1 3 (by omega)]
      refine ⟨?_, ?_, ?_, ?_⟩
      · rw [w48b_r, if_neg (by omega), if_neg (by omega), if_neg (by omega), if_neg (by omega), if_neg (by omega)]; exact g.1
      · rw [w48b_r, if_neg (by omega), if_neg (by omega), if_neg (by omega), if_neg (by omega), if_neg (by omega)]; exact g.2.1
      · rw [w48b_r, if_neg (by omega), if_neg (by omega), if_neg (by omega), if_neg (by omega), if_neg (by omega)]; exact g.2.2.1
      · rw [w48b_r, if_neg (by omega), if_neg (by omega), if_neg (by omega), if_neg (by omega), if_neg (by omega)]; exact g.2.2.2
  · have b1 : bsN (adP pa wm k a b) 1 i = bsN pa 1 i := bsN_c (fun b _ => by rw [adP_tw h0])
    have b2 : bsN (adP pa wm k a b) 2 i = bsN pa 2 i := bsN_c (fun b _ => by rw [adP_tw h0])
    rw [b1, b2]
    rw [w48b_r, if_neg (by omega), if_neg (by omega), if_neg (by omega), if_neg (by omega), if_neg (by omega), w48b_r, if_neg (by omega), if_neg (by omega), if_neg (by omega), if_neg (by omega), if_neg (by omega)]
    exact h3 i hi
  · rw [w48b_r, if_neg (by omega), if_neg (by omega), if_neg (by omega), if_neg (by omega), if_neg (by omega), adP_twN h0 hZ (by omega)]; exact h4
  · rw [w48b_r, if_neg (by omega), if_neg (by omega), if_neg (by omega), if_neg (by omega), if_neg (by omega), adP_twN h0 hZ (by omega)]; exact h5
  · rw [w48b_r, if_neg (by omega), if_neg (by omega), if_neg (by omega), if_neg (by omega), if_neg (by omega), eo 1 (by omega) (by omega)]; exact h6
  · rw [eo 1 (by omega) (by omega)] at hf
    rw [w48b_r, if_neg (by omega), if_neg (by omega), if_neg (by omega), if_neg (by omega), if_neg (by omega), w48b_r, if_neg (by omega), if_neg (by omega), if_neg (by omega), if_neg (by omega), if_neg (by omega), eo _ (by omega) (by omega), eo _ (by omega) (by omega)]; exact h7 f hf
  · rw [w48b_r, if_neg (by omega), if_neg (by omega), if_neg (by omega), if_neg (by omega), if_neg (by omega), eo 3 (by omega) (by omega)]; exact h8
  · rw [w48b_r, if_neg (by omega), if_neg (by omega), if_neg (by omega), if_neg (by omega), if_neg (by omega), eo 4 (by omega) (by omega)]; exact h9
  · rw [w48b_r, if_neg (by omega), if_neg (by omega), if_neg (by omega), if_neg (by omega), if_neg (by omega), eo 2 (by omega) (by omega)]; exact h10
def w49b (μ : PM) (n a b : Nat) : PM := wI (wI (wI μ 32000420 n (nI a)) 33000420 n (nI b)) 25000005 9 (nI (n + 1))
theorem w49b_DF (μ : PM) (n a b : Nat) : DFb μ (w49b μ n a b) := DFb_tr (DFb_tr (DFb_w μ _ (by omega)) (DFb_w _ _ (by omega))) (DFb_w _ _ (by omega))
theorem w49b_r {n a b : Nat} (x j : Nat) : rI (w49b μ n a b) x j = if x = 25000005 ∧ j = 9 then nI (n + 1) else if x = 33000420 ∧ j = n then nI b else if x = 32000420 ∧ j = n then nI a else rI μ x j := by
  unfold w49b
  simp only [rI_wI, eq_comm]
theorem c49b (hF : FX μ) {n a b : Nat} (h : rI μ 25000005 9 = nI n) (hn : n < 4) : ∀ Q, R d 49 0 [some (.ref 25000005), some (.int (nI a)), some (.int (nI b))] [] μ Q = Q none (w49b μ n a b) := by
  intro Q
  unfold w49b
  simp (disch := first | assumption | omega) only [r49_0, r49_1, r49_4, r49_5, r49_8, r49_9, r49_12, r49_13, r49_16, r49_17, r49_18, r49_19, r49_22, r49_23, r49_26, r49_27, r49_28, r49_29, r49_29i, r49_30, r49_33, r49_34, r49_35, r49_38, rI_wI, rL_wL, rR_wR, rI_wL, rI_wR, rL_wI, rL_wR, rR_wI, rR_wL, va_rf_some, va_rf_none, Option.toList_some, Option.toList_none, List.nil_append, List.cons_append, true_and, and_true, false_and, and_false, and_self, if_true, if_false, not_true_eq_false, not_false_eq_true, or_false, false_or, or_true, true_or, or_self, ite_true, ite_false, Option.some.injEq, reduceCtorEq, Nat.reduceMod, Nat.reduceDiv, Nat.reduceLeDiff, Nat.reduceEqDiff, Nat.reduceAdd, Nat.reduceMul, Nat.reduceSub, Nat.reduceLT, sw_nil, sw_int, sw_long, sw_ref, li, lo, nI_m1, ng_eq, nn_eq, en_eq, ng_le, ng_lt, Int32.neg_neg, nI_add, pk_mul, nI_clampO, nI_ltO, nI_leO, nI_eqO, nI_subO, nle_t, nle_f, nlt_t, nlt_f, neq_f, fx_2000010_0, fx_2000010_1, fx_2000010_4, fx_2000010_5, fx_2000010_6, fx_2000010_8, fx_2000010_10, fx_2000010_11, fx_2000010_12, fx_2000010_13, fx_2000010_14, fx_2000010_15, fx_2000010_16, fx_2000010_17, fx_2000010_18, fx_3000009_0, fx_5000007_0, fx_5000007_1, fx_5000007_2, fx_5000007_3, fx_7000001_0, fx_11000005_1, fx_11000005_2, fx_11000005_3, fx_11000005_4, fx_11000005_5, fx_11000005_6, fx_11000005_10, fx_11000005_11, fx_11000005_12, fx_20000002_0, fx_20000002_2, fx_20000002_3, fx_20000002_4, fx_25000005_1, fx_25000005_2, fx_25000005_3, fx_25000005_4, fx_25000005_5, fx_25000005_6, fx_25000005_10, fx_25000005_11, fx_25000005_12, fx_34000002_0, fx_34000002_2, fx_34000002_3, fx_34000002_4, fx_39000008_0, fx_41000006_0, fx_42002024_0, fx_42002024_1, fx_42002024_2, fx_42002024_3, fx_42002024_4, fx_42002024_5, fx_42002024_6, fx_42002024_7, fx_42002024_8, fx_42002024_9, fx_42002024_10, fx_42002024_11, fx_42002024_12, fx_42002024_13, fx_42002024_14, fx_42002024_15, fx_42002024_16, fx_42002024_17, fx_42002024_18, fx_42002024_19, fx_43000008_0, fx_45000008_0, fx_47000008_0, fx_49000008_0, fx_51000008_0, fx_53000008_0, fx_55000008_0, fx_57000008_0, fx_59000008_0, fx_61000008_0, fx_63000008_0, fx_65000008_0, fx_67000008_0, fx_69000008_0, fx_71000008_0, fx_73000008_0, fx_75000008_0, fx_77000008_0, fx_79000008_0, fx_81000008_0, fx_83000424_0, fx_83000424_1, fx_83000424_2, fx_83000424_3, fx_85000004_0, fx_85000004_1, fx_85000004_2, fx_85000004_3, fx_85000004_4, fx_85000004_5, fx_85000004_6, fx_85000004_10, fx_102000008_0, fx_104000008_0, fx_106000008_0, fx_108000008_0, fx_110000011_1, fx_110000011_4, fx_110000011_5, fx_110000011_6, fx_110000011_9, fx_110000011_10, fx_110000011_11, fx_110000011_12, fx_110000011_14, fx_110000011_15, fx_110000011_20, fx_110000011_21, fx_110000011_22, fx_110000011_23, fx_110000011_25, fx_110000011_26, fx_110000011_31, fx_110000011_32, fx_110000011_37, fx_110000011_38, fx_110000011_39, fx_110000011_40, h]
theorem w49b_CP {a b : Nat} (h : CPb μ pa) (h7' : pa 0 ≤ 7) (h0 : pa 1 < 4) : CPb (w49b μ (pa 1) a b) (adF pa a b) := by
  obtain ⟨h1, h2, h3, h4, h5, h6, h7, h8, h9, h10⟩ := h
  have e1 : adF pa a b 1 = pa 1 + 1 := by unfold adF; rw [if_pos rfl]
  have eo : ∀ x, x ≠ 1 → x < 36 ∨ 44 ≤ x → adF pa a b x = pa x := fun x q1 q2 => by
    unfold adF
    rw [if_neg (by omega), if_neg (by omega), if_neg (by omega)]
  refine ⟨?_, fun i hi => ?_, fun i hi => ?_, ?_, ?_, ?_, fun f hf => ?_, ?_, ?_, ?_⟩
  · rw [w49b_r, if_neg (by omega), if_neg (by omega), if_neg (by omega), eo 0 (by omega) (by omega)]; exact h1
  · rw [eo 0 (by omega) (by omega)] at hi
    have g := h2 i hi
    unfold kd wmn tl nk at g ⊢
    rw [eo _ (by omega) (by omega), eo _ (by omega) (by omega), eo _ (by omega) (by omega), eo _ (by omega) (by omega)]
    refine ⟨?_, ?_, ?_, ?_⟩
    · rw [w49b_r, if_neg (by omega), if_neg (by omega), if_neg (by omega)]; exact g.1
    · rw [w49b_r, if_neg (by omega), if_neg (by omega), if_neg (by omega)]; exact g.2.1
    · rw [w49b_r, if_neg (by omega), if_neg (by omega), if_neg (by omega)]; exact g.2.2.1
    · rw [w49b_r, if_neg (by omega), if_neg (by omega), if_neg (by omega)]; exact g.2.2.2
  · have b1 : bsN (adF pa a b) 1 i = bsN pa 1 i := bsN_c (fun b _ => by rw [adF_tw h0])
    have b2 : bsN (adF pa a b) 2 i = bsN pa 2 i := bsN_c (fun b _ => by rw [adF_tw h0])
    rw [b1, b2]
    rw [w49b_r, if_neg (by omega), if_neg (by omega), if_neg (by omega), w49b_r, if_neg (by omega), if_neg (by omega), if_neg (by omega)]
    exact h3 i hi
  · rw [w49b_r, if_neg (by omega), if_neg (by omega), if_neg (by omega), twN_c (pa := pa) (eo 0 (by omega) (by omega)) h7' (fun a b _ _ => by rw [adF_tw h0])]; exact h4
  · rw [w49b_r, if_neg (by omega), if_neg (by omega), if_neg (by omega), twN_c (pa := pa) (eo 0 (by omega) (by omega)) h7' (fun a b _ _ => by rw [adF_tw h0])]; exact h5
  · rw [w49b_r, if_pos ⟨rfl, rfl⟩, e1]
  · rw [e1] at hf
    by_cases e : f = pa 1
    · subst e
      have a1 : adF pa a b (36 + 2 * pa 1) = a := by unfold adF; rw [if_neg (by omega), if_pos rfl]
      have a2 : adF pa a b (36 + 2 * pa 1 + 1) = b := by unfold adF; rw [if_neg (by omega), if_neg (by omega), if_pos rfl]
      rw [a1, a2]
      refine ⟨?_, ?_⟩
      · rw [w49b_r, if_neg (by omega), if_neg (by omega), if_pos ⟨rfl, rfl⟩]
      · rw [w49b_r, if_neg (by omega), if_pos ⟨rfl, rfl⟩]
    · have a1 : ∀ w, w < 2 → adF pa a b (36 + 2 * f + w) = pa (36 + 2 * f + w) := fun w hw => by
        unfold adF
        rw [if_neg (by omega), if_neg (by omega), if_neg (by omega)]
      have a0 : adF pa a b (36 + 2 * f) = pa (36 + 2 * f) := a1 0 (by omega)
      rw [a0, a1 1 (by omega), w49b_r, if_neg (by omega), if_neg (by omega), if_neg (by omega), w49b_r, if_neg (by omega), if_neg (by omega), if_neg (by omega)]
      exact h7 f (by omega)
  · rw [w49b_r, if_neg (by omega), if_neg (by omega), if_neg (by omega), eo 3 (by omega) (by omega)]; exact h8
  · rw [w49b_r, if_neg (by omega), if_neg (by omega), if_neg (by omega), eo 4 (by omega) (by omega)]; exact h9
  · rw [w49b_r, if_neg (by omega), if_neg (by omega), if_neg (by omega), eo 2 (by omega) (by omega)]; exact h10
end T1
