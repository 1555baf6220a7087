/-! LINES READ: THE REFERENCE'S NAMES, PEOPLE, FRUITS -/
def NQ (μ ν : PM) : Prop := (∀ a j, ¬ ((a = 110000011 ∧ (j = 7 ∨ j = 8 ∨ j = 16)) ∨ a = 120001120) → rI ν a j = rI μ a j) ∧ (∀ a j, a ≠ 119001121 → rL ν a j = rL μ a j) ∧ (∀ a j, rR ν a j = rR μ a j) ∧ aS ν = aS μ
theorem NQ_A {μ ν : PM} (h : AQ μ ν) : NQ μ ν := ⟨fun a j q => h.1 a j (fun e => q (Or.inl ⟨e.1, by omega⟩)), fun a j _ => h.2.1 a j, h.2.2.1, h.2.2.2⟩
theorem RM_p {μ : PM} {r : Except Nat (List Tok)} (h : RM μ r) (j : Nat) (x : Int32) : RM (wI μ 116018820 j x) r := by
  obtain ⟨h1, h2, h3, h4⟩ := h
  refine ⟨h1, ⟨h2.1, fun k hk => by rw [rI_wI, if_neg (by omega)]; exact h2.2 k hk⟩, fun f e => by rw [rI_wI, if_neg (by omega)]; exact h3 f e, fun T e => RX_o (h4 T e) (by rw [rI_wI, if_neg (by omega)]) (by rw [rI_wI, if_neg (by omega)]) (fun j => ⟨by rw [rI_wI, if_neg (by omega)], by rw [rI_wI, if_neg (by omega)], rfl⟩)⟩
def MZl (μ : PM) (lw : LW) (c0 : Nat) : Prop := ∀ k, k < 3 → (lw k = none → rI μ 116018820 (99 + k) = -nI 1) ∧ ∀ l, lw k = some l → ∃ st, rI μ 116018820 (99 + k) = nI st ∧ st + l.length + 1 ≤ c0 ∧ (∀ i, i < l.length → rI μ 117220020 (1100 + st + i) = nI (l.getD i (0, 0)).1 ∧ rI μ 118220020 (1100 + st + i) = nI (l.getD i (0, 0)).2) ∧ rI μ 117220020 (1100 + st + l.length) = nI 0
/-- what the reference holds of what is told so far -/
def MZ (μ : PM) (S : SS) (c0 : Nat) : Prop := (∀ x, x < 94 → x ≠ 5 ∧ x ≠ 6 ∧ x ≠ 7 → rI μ 116018820 (94 + x) = nI (S.1 x)) ∧ MZl μ S.2.1 c0 ∧ NMr μ S.2.2.1 ∧ rI μ 110000011 17 = nI (bt S.2.2.2 15) ∧ rI μ 110000011 18 = nI (bt S.2.2.2 12) ∧ rI μ 110000011 13 = nI c0
def GQ (μ ν : PM) : Prop := (∀ a j, ¬ ((a = 110000011 ∧ (j = 7 ∨ j = 8 ∨ j = 13 ∨ j = 16 ∨ j = 17 ∨ j = 18 ∨ j = 19)) ∨ (a = 116018820 ∧ 94 ≤ j) ∨ ((a = 117220020 ∨ a = 118220020) ∧ 1100 ≤ j) ∨ a = 120001120) → rI ν a j = rI μ a j) ∧ (∀ a j, a ≠ 119001121 → rL ν a j = rL μ a j) ∧ (∀ a j, rR ν a j = rR μ a j) ∧ aS ν = aS μ
theorem GQ_rf (μ : PM) : GQ μ μ := ⟨fun _ _ _ => rfl, fun _ _ _ => rfl, fun _ _ => rfl, rfl⟩
theorem GQ_tr {μ ν ρ : PM} (h : GQ μ ν) (k : GQ ν ρ) : GQ μ ρ := ⟨fun a j q => (k.1 a j q).trans (h.1 a j q), fun a j q => (k.2.1 a j q).trans (h.2.1 a j q), fun a j => (k.2.2.1 a j).trans (h.2.2.1 a j), k.2.2.2.trans h.2.2.2⟩
theorem GQ_N {μ ν : PM} (h : NQ μ ν) : GQ μ ν := ⟨fun a j q => h.1 a j (by omega), h.2.1, h.2.2.1, h.2.2.2⟩
theorem GQ_A {μ ν : PM} (h : AQ μ ν) : GQ μ ν := GQ_N (NQ_A h)
theorem GQ_p (μ : PM) {j : Nat} (x : Int32) (h : 94 ≤ j) : GQ μ (wI μ 116018820 j x) := ⟨fun a k q => by rw [rI_wI, if_neg (by omega)], fun _ _ _ => rfl, fun _ _ => rfl, rfl⟩
theorem GQ_m (μ : PM) {j : Nat} (x : Int32) (h : j = 7 ∨ j = 8 ∨ j = 13 ∨ j = 16 ∨ j = 17 ∨ j = 18 ∨ j = 19) : GQ μ (wI μ 110000011 j x) := ⟨fun a k q => by rw [rI_wI, if_neg (by omega)], fun _ _ _ => rfl, fun _ _ => rfl, rfl⟩
theorem MZl_o {μ ν : PM} {lw : LW} {c0 : Nat} (hp : ∀ k, k < 3 → rI ν 116018820 (99 + k) = rI μ 116018820 (99 + k)) (ho : ∀ j, rI ν 117220020 j = rI μ 117220020 j) (ha : ∀ j, rI ν 118220020 j = rI μ 118220020 j) (h : MZl μ lw c0) : MZl ν lw c0 := by
  intro k hk
  obtain ⟨h1, h2⟩ := h k hk
  refine ⟨fun e => (hp k hk).trans (h1 e), fun l e => ?_⟩
  obtain ⟨st, s1, s2, s3, s4⟩ := h2 l e
  exact ⟨st, (hp k hk).trans s1, s2, fun i hi => ⟨(ho _).trans (s3 i hi).1, (ha _).trans (s3 i hi).2⟩, (ho _).trans s4⟩
theorem NMr_o {μ ν : PM} {nm : Nms} (h1 : rI ν 110000011 16 = rI μ 110000011 16) (h2 : ∀ j, rL ν 119001121 j = rL μ 119001121 j) (h3 : ∀ j, rI ν 120001120 j = rI μ 120001120 j) (h : NMr μ nm) : NMr ν nm := ⟨h1.trans h.1, fun i hi => ⟨(h2 i).trans (h.2 i hi).1, (h3 i).trans (h.2 i hi).2⟩⟩
theorem MZ_A {μ ν : PM} {S : SS} {c0 : Nat} (h : AQ μ ν) (k : MZ μ S c0) : MZ ν S c0 := by
  obtain ⟨k1, k2, k3, k4, k5, k6⟩ := k
  exact ⟨fun x h1 h2 => (h.1 _ _ (by omega)).trans (k1 x h1 h2), MZl_o (fun k _ => h.1 _ _ (by omega)) (fun j => h.1 _ _ (by omega)) (fun j => h.1 _ _ (by omega)) k2, NMr_o (h.1 _ _ (by omega)) (fun j => h.2.1 _ _) (fun j => h.1 _ _ (by omega)) k3, (h.1 _ _ (by omega)).trans k4, (h.1 _ _ (by omega)).trans k5, (h.1 _ _ (by omega)).trans k6⟩
section T1
variable {d : Nat} {μ : PM} {T : List Tok} {nm : Nms}
theorem NMr_app {u : List Nat} {n : Nat} (h : NMr μ nm) {ν : PM} (h1 : rI ν 110000011 16 = nI (nm.length + 1)) (h2 : ∀ j, rL ν 119001121 j = if j = nm.length then lN (h37 u) else rL μ 119001121 j) (h3 : ∀ j, rI ν 120001120 j = if j = nm.length then nI n else rI μ 120001120 j) : NMr ν (nm ++ [(u, n)]) := by
  refine ⟨by rw [h1, List.length_append]; rfl, fun i hi => ?_⟩
  rw [List.length_append] at hi
  have hi : i < nm.length + 1 := hi
  rw [h2, h3]
  by_cases e : i = nm.length
  · rw [if_pos e, if_pos e, List.getD_eq_getElem?_getD, e, List.getElem?_append_right (Nat.le_refl _), Nat.sub_self]
    exact ⟨rfl, rfl⟩
  · rw [if_neg e, if_neg e, List.getD_eq_getElem?_getD, List.getElem?_append_left (by omega), ← List.getD_eq_getElem?_getD]
    exact h.2 i (by omega)
theorem m156 (hF : FX μ) (hC : MC μ) (h : RX μ T) (h30 : (hdT T).2.1 ≠ 30) (hG : NG nm) (hN : NMr μ nm) (hl : nm.length < 11) (hW : ∀ p, p ∈ nm → p.2 ≤ 100) {n : Nat} : ∃ ν, NQ μ ν ∧ RM ν (snx (tkU nm T.tail)) ∧ (∀ u T', tkU nm T.tail = .ok (u, T') → NMr ν (nm ++ [(u, n)])) ∧ ∀ Q, R (d + 1) 156 0 [some (.ref 110000011), some (.int (nI n))] [] μ Q = Q none ν := by
  obtain ⟨i, e1, e2, e3⟩ := RX_tl h h30
  have A1 : AQ μ (wI μ 110000011 7 (nI (i + 1))) := AQ_w μ _ (Or.inl rfl)
  have hF1 : FX (wI μ 110000011 7 (nI (i + 1))) := hF
  have hC1 := AQ_MC A1 hC
  have r7 : rI (wI μ 110000011 7 (nI (i + 1))) 110000011 7 = nI (i + 1) := by rw [rI_wI, if_pos ⟨rfl, rfl⟩]
  have k51 := m151 (d := d) hF1 hC1 e3
  obtain ⟨ok, j, j1, j2, j3⟩ := RT_h e3.1
  have ej : j = i + 1 := by
    have := j2.symm.trans r7
    rw [nI_eqO (by omega) (by omega)] at this
    exact this
  subst ej
  have h8 : rI μ 110000011 8 = nI 0 := h.2
  have f1 := flT_1 ok (k := 1) (T := T.tail) (by omega) (by omega)
  have f3 := flT_1 ok (k := 3) (T := T.tail) (by omega) (by omega)
  have f11 := f1.1
  have f12 := f1.2
  have f31 := f3.1
  have f32 := f3.2
  have hn := hN.1
  unfold tkU
  rcases Classical.em (isNm (hdT T.tail).2.1) with e | e
  · rw [pN_t e, if_pos rfl]
    rw [pN_t e] at k51
    have k52 := m152 (d := d) hF1 e3 e.2 hG (NMr_o (A1.1 _ _ (by omega)) (fun j => A1.2.1 _ _) (fun j => A1.1 _ _ (by omega)) hN) (by omega)
    cases z : fnm nm (hdT T.tail).2.2.1 with
    | none =>
      rw [if_pos rfl]
      rw [z] at k52
      have k52' : ∀ Q, R d 152 0 [some (.ref 110000011), none] [] (wI μ 110000011 7 (nI (i + 1))) Q = Q (some (.int (-nI 1))) (wI μ 110000011 7 (nI (i + 1))) := k52
      have hv : rL μ 114100221 (i + 1) = lN (h37 (hdT T.tail).2.2.1) := j3.2.2.1 e.2
      obtain ⟨i', q1, q2, q3⟩ := RX_tl e3 (by have := e.2; omega)
      have ei : i' = i + 1 := by
        have := q2.symm.trans r7
        rw [nI_eqO (by omega) (by omega)] at this
        exact this
      subst ei
      refine ⟨wI (wI (wI (wL (wI μ 110000011 7 (nI (i + 1))) 119001121 nm.length (lN (h37 (hdT T.tail).2.2.1))) 120001120 nm.length (nI n)) 110000011 16 (nI (nm.length + 1))) 110000011 7 (nI (i + 1 + 1)), ⟨fun a j q => ?_, fun a j q => ?_, fun _ _ => rfl, rfl⟩, ?_, fun u T' q => ?_, fun Q => ?_⟩
      · rw [rI_wI, if_neg (by omega), rI_wI, if_neg (by omega), rI_wI, if_neg (by omega)]
        show rI (wI μ 110000011 7 (nI (i + 1))) a j = _
        rw [rI_wI, if_neg (by omega)]
      · show rL (wL (wI μ 110000011 7 (nI (i + 1))) 119001121 nm.length (lN (h37 (hdT T.tail).2.2.1))) a j = _
        rw [rL_wL, if_neg (by omega)]
        rfl
      · have q4 : RX (wI (wI (wI (wL (wI μ 110000011 7 (nI (i + 1))) 119001121 nm.length (lN (h37 (hdT T.tail).2.2.1))) 120001120 nm.length (nI n)) 110000011 16 (nI (nm.length + 1))) 110000011 7 (nI (i + 1 + 1))) T.tail.tail := by
          refine RX_o q3 ?_ ?_ (fun j => ⟨?_, ?_, ?_⟩)
          · rw [rI_wI, if_pos ⟨rfl, rfl⟩, rI_wI, if_pos ⟨rfl, rfl⟩]
          · rw [rI_wI, if_neg (by omega), rI_wI, if_neg (by omega), rI_wI, if_neg (by omega), rI_wI, if_neg (by omega)]
            rfl
          · rw [rI_wI, if_neg (by omega), rI_wI, if_neg (by omega), rI_wI, if_neg (by omega), rI_wI, if_neg (by omega)]
            rfl
          · rw [rI_wI, if_neg (by omega), rI_wI, if_neg (by omega), rI_wI, if_neg (by omega), rI_wI, if_neg (by omega)]
            rfl
          · show rL (wL (wI μ 110000011 7 (nI (i + 1))) 119001121 nm.length (lN (h37 (hdT T.tail).2.2.1))) 114100221 j = _
            rw [rL_wL, if_neg (by omega)]
            rfl
        refine RM_o hF ⟨fun k hk => ?_, fun k hk => ?_⟩ q4
        · show rL (wL (wI μ 110000011 7 (nI (i + 1))) 119001121 nm.length (lN (h37 (hdT T.tail).2.2.1))) 115002821 k = _
          rw [rL_wL, if_neg (by omega)]
          exact hC.1 k hk
        · rw [rI_wI, if_neg (by omega), rI_wI, if_neg (by omega), rI_wI, if_neg (by omega)]
          show rI (wI μ 110000011 7 (nI (i + 1))) 121000520 k = _
          rw [rI_wI, if_neg (by omega)]
          exact hC.2 k hk
      · cases q
        refine NMr_app hN ?_ (fun j => ?_) (fun j => ?_)
        · rw [rI_wI, if_neg (by omega), rI_wI, if_pos ⟨rfl, rfl⟩]
        · show rL (wL (wI μ 110000011 7 (nI (i + 1))) 119001121 nm.length (lN (h37 (hdT T.tail).2.2.1))) 119001121 j = _
          rw [rL_wL]
          by_cases w : j = nm.length
          · rw [if_pos ⟨rfl, w.symm⟩, if_pos w]
          · rw [if_neg (by omega), if_neg w]
            rfl
        · rw [rI_wI, if_neg (by omega), rI_wI, if_neg (by omega), rI_wI]
          by_cases w : j = nm.length
          · rw [if_pos ⟨rfl, w.symm⟩, if_pos w]
          · rw [if_neg (by omega), if_neg w]
            show rI (wI μ 110000011 7 (nI (i + 1))) 120001120 j = _
            rw [rI_wI, if_neg (by omega)]
      · simp (disch := first | assumption | omega) only [r156_0, r156_1, r156_1i, r156_2, r156_5, r156_6, r156_7, r156_10, r156_11, r156_14, r156_17, r156_18, r156_19, r156_22, r156_25, r156_26, r156_29, r156_32, r156_33, r156_34, r156_37, r156_38, r156_41, r156_44, r156_45, r156_48, r156_49, r156_52, r156_53, r156_56, r156_57, r156_60, r156_61, r156_62, r156_63, r156_66, r156_67, r156_70, r156_71, r156_72, r156_73, r156_73i, r156_74, r156_77, r156_78, r156_79, r156_82, r156_83, r156_83i, r156_84, r156_87, r156_88, r156_89, r156_92, rI_wI, rL_wL, rR_wR, rI_wL, rI_wR, rL_wI, rL_wR, rR_wI, rR_wL, va_rf_some, va_rf_none, Option.toList_some, Option.toList_none, List.nil_append, List.cons_append, true_and, and_true, false_and, and_false, and_self, if_true, if_false, not_true_eq_false, not_false_eq_true, or_false, false_or, or_true, true_or, or_self, ite_true, ite_false, Option.some.injEq, reduceCtorEq, Nat.reduceMod, Nat.reduceDiv, Nat.reduceLeDiff, Nat.reduceEqDiff, Nat.reduceAdd, Nat.reduceMul, Nat.reduceSub, Nat.reduceLT, sw_nil, sw_int, sw_long, sw_ref, li, lo, nI_m1, ng_eq, nn_eq, en_eq, ng_le, ng_lt, Int32.neg_neg, nI_add, pk_mul, nI_clampO, nI_ltO, nI_leO, nI_eqO, nI_subO, nle_t, nle_f, nlt_t, nlt_f, neq_f, fx_2000010_0, fx_2000010_1, fx_2000010_4, fx_2000010_5, fx_2000010_6, fx_2000010_8, fx_2000010_10, fx_2000010_11, fx_2000010_12, fx_2000010_13, fx_2000010_14, fx_2000010_15, fx_2000010_16, fx_2000010_17, fx_2000010_18, fx_3000009_0, fx_5000007_0, fx_5000007_1, fx_5000007_2, fx_5000007_3, fx_7000001_0, fx_11000005_1, fx_11000005_2, fx_11000005_3, fx_11000005_4, fx_11000005_5, fx_11000005_6, fx_11000005_10, fx_11000005_11, fx_11000005_12, fx_20000002_0, fx_20000002_2, fx_20000002_3, fx_20000002_4, fx_25000005_1, fx_25000005_2, fx_25000005_3, fx_25000005_4, fx_25000005_5, fx_25000005_6, fx_25000005_10, fx_25000005_11, fx_25000005_12, fx_34000002_0, fx_34000002_2, fx_34000002_3, fx_34000002_4, fx_39000008_0, fx_41000006_0, fx_42002024_0, fx_42002024_1, fx_42002024_2, fx_42002024_3, fx_42002024_4, fx_42002024_5, fx_42002024_6, fx_42002024_7, fx_42002024_8, fx_42002024_9, fx_42002024_10, fx_42002024_11, fx_42002024_12, fx_42002024_13, fx_42002024_14, fx_42002024_15, fx_42002024_16, fx_42002024_17, fx_42002024_18, fx_42002024_19, fx_43000008_0, fx_45000008_0, fx_47000008_0, fx_49000008_0, fx_51000008_0, fx_53000008_0, fx_55000008_0, fx_57000008_0, fx_59000008_0, fx_61000008_0, fx_63000008_0, fx_65000008_0, fx_67000008_0, fx_69000008_0, fx_71000008_0, fx_73000008_0, fx_75000008_0, fx_77000008_0, fx_79000008_0, fx_81000008_0, fx_83000424_0, fx_83000424_1, fx_83000424_2, fx_83000424_3, fx_85000004_0, fx_85000004_1, fx_85000004_2, fx_85000004_3, fx_85000004_4, fx_85000004_5, fx_85000004_6, fx_85000004_10, fx_102000008_0, fx_104000008_0, fx_106000008_0, fx_108000008_0, fx_110000011_1, fx_110000011_4, fx_110000011_5, fx_110000011_6, fx_110000011_9, fx_110000011_10, fx_110000011_11, fx_110000011_12, fx_110000011_14, fx_110000011_15, fx_110000011_20, fx_110000011_21, fx_110000011_22, fx_110000011_23, fx_110000011_25, fx_110000011_26, fx_110000011_31, fx_110000011_32, fx_110000011_37, fx_110000011_38, fx_110000011_39, fx_110000011_40, e2, k51, k52', h8, hn, hv]
    | some w =>
      rw [if_neg (by simp)]
      rw [z] at k52
      have k52' : ∀ Q, R d 152 0 [some (.ref 110000011), none] [] (wI μ 110000011 7 (nI (i + 1))) Q = Q (some (.int (nI w))) (wI μ 110000011 7 (nI (i + 1))) := k52
      have hw100 : w ≤ 100 := hW _ (fnm_mem z)
      obtain ⟨l1, l2⟩ := m140 (d := d) hF1 hC1 e3 (k := 3) (by omega) (by omega)
      refine ⟨_, NQ_A (AQ_tr A1 (AQ_w _ _ (Or.inr rfl))), l1, fun u T' q => (by cases q), fun Q => ?_⟩
      simp (disch := first | assumption | omega) only [r156_0, r156_1, r156_1i, r156_2, r156_5, r156_6, r156_7, r156_10, r156_11, r156_14, r156_17, r156_18, r156_19, r156_22, r156_25, r156_26, r156_29, r156_32, r156_33, r156_34, r156_37, r156_38, r156_41, r156_44, r156_45, r156_48, r156_49, r156_52, r156_53, r156_56, r156_57, r156_60, r156_61, r156_62, r156_63, r156_66, r156_67, r156_70, r156_71, r156_72, r156_73, r156_73i, r156_74, r156_77, r156_78, r156_79, r156_82, r156_83, r156_83i, r156_84, r156_87, r156_88, r156_89, r156_92, rI_wI, rL_wL, rR_wR, rI_wL, rI_wR, rL_wI, rL_wR, rR_wI, rR_wL, va_rf_some, va_rf_none, Option.toList_some, Option.toList_none, List.nil_append, List.cons_append, true_and, and_true, false_and, and_false, and_self, if_true, if_false, not_true_eq_false, not_false_eq_true, or_false, false_or, or_true, true_or, or_self, ite_true, ite_false, Option.some.injEq, reduceCtorEq, Nat.reduceMod, Nat.reduceDiv, Nat.reduceLeDiff, Nat.reduceEqDiff, Nat.reduceAdd, Nat.reduceMul, Nat.reduceSub, Nat.reduceLT, sw_nil, sw_int, sw_long, sw_ref, li, lo, nI_m1, ng_eq, nn_eq, en_eq, ng_le, ng_lt, Int32.neg_neg, nI_add, pk_mul, nI_clampO, nI_ltO, nI_leO, nI_eqO, nI_subO, nle_t, nle_f, nlt_t, nlt_f, neq_f, fx_2000010_0, fx_2000010_1, fx_2000010_4, fx_2000010_5, fx_2000010_6, fx_2000010_8, fx_2000010_10, fx_2000010_11, fx_2000010_12, fx_2000010_13, fx_2000010_14, fx_2000010_15, fx_2000010_16, fx_2000010_17, fx_2000010_18, fx_3000009_0, fx_5000007_0, fx_5000007_1, fx_5000007_2, fx_5000007_3, fx_7000001_0, fx_11000005_1, fx_11000005_2, fx_11000005_3, fx_11000005_4, fx_11000005_5, fx_11000005_6, fx_11000005_10, fx_11000005_11, fx_11000005_12, fx_20000002_0, fx_20000002_2, fx_20000002_3, fx_20000002_4, fx_25000005_1, fx_25000005_2, fx_25000005_3, fx_25000005_4, fx_25000005_5, fx_25000005_6, fx_25000005_10, fx_25000005_11, fx_25000005_12, fx_34000002_0, fx_34000002_2, fx_34000002_3, fx_34000002_4, fx_39000008_0, fx_41000006_0, fx_42002024_0, fx_42002024_1, fx_42002024_2, fx_42002024_3, fx_42002024_4, fx_42002024_5, fx_42002024_6, fx_42002024_7, fx_42002024_8, fx_42002024_9, fx_42002024_10, fx_42002024_11, fx_42002024_12, fx_42002024_13, fx_42002024_14, fx_42002024_15, fx_42002024_16, fx_42002024_17, fx_42002024_18, fx_42002024_19, fx_43000008_0, fx_45000008_0, fx_47000008_0, fx_49000008_0, fx_51000008_0, fx_53000008_0, fx_55000008_0, fx_57000008_0, fx_59000008_0, fx_61000008_0, fx_63000008_0, fx_65000008_0, fx_67000008_0, fx_69000008_0, fx_71000008_0, fx_73000008_0, fx_75000008_0, fx_77000008_0, fx_79000008_0, fx_81000008_0, fx_83000424_0, fx_83000424_1, fx_83000424_2, fx_83000424_3, fx_85000004_0, fx_85000004_1, fx_85000004_2, fx_85000004_3, fx_85000004_4, fx_85000004_5, fx_85000004_6, fx_85000004_10, fx_102000008_0, fx_104000008_0, fx_106000008_0, fx_108000008_0, fx_110000011_1, fx_110000011_4, fx_110000011_5, fx_110000011_6, fx_110000011_9, fx_110000011_10, fx_110000011_11, fx_110000011_12, fx_110000011_14, fx_110000011_15, fx_110000011_20, fx_110000011_21, fx_110000011_22, fx_110000011_23, fx_110000011_25, fx_110000011_26, fx_110000011_31, fx_110000011_32, fx_110000011_37, fx_110000011_38, fx_110000011_39, fx_110000011_40, e2, k51, k52', l2]
  · rw [pN_f e, if_neg (by omega)]
    rw [pN_f e] at k51
    obtain ⟨l1, l2⟩ := m140 (d := d) hF1 hC1 e3 (k := 1) (by omega) (by omega)
    refine ⟨_, NQ_A (AQ_tr A1 (AQ_w _ _ (Or.inr rfl))), l1, fun u T' q => (by cases q), fun Q => ?_⟩
    simp (disch := first | assumption | omega) only [r156_0, r156_1, r156_1i, r156_2, r156_5, r156_6, r156_7, r156_10, r156_11, r156_14, r156_17, r156_18, r156_19, r156_22, r156_25, r156_26, r156_29, r156_32, r156_33, r156_34, r156_37, r156_38, r156_41, r156_44, r156_45, r156_48, r156_49, r156_52, r156_53, r156_56, r156_57, r156_60, r156_61, r156_62, r156_63, r156_66, r156_67, r156_70, r156_71, r156_72, r156_73, r156_73i, r156_74, r156_77, r156_78, r156_79, r156_82, r156_83, r156_83i, r156_84, r156_87, r156_88, r156_89, r156_92, rI_wI, rL_wL, rR_wR, rI_wL, rI_wR, rL_wI, rL_wR, rR_wI, rR_wL, va_rf_some, va_rf_none, Option.toList_some, Option.toList_none, List.nil_append, List.cons_append, true_and, and_true, false_and, and_false, and_self, if_true, if_false, not_true_eq_false, not_false_eq_true, or_false, false_or, or_true, true_or, or_self, ite_true, ite_false, Option.some.injEq, reduceCtorEq, Nat.reduceMod, Nat.reduceDiv, Nat.reduceLeDiff, Nat.reduceEqDiff, Nat.reduceAdd, Nat.reduceMul, Nat.reduceSub, Nat.reduceLT, sw_nil, sw_int, sw_long, sw_ref, li, lo, nI_m1, ng_eq, nn_eq, en_eq, ng_le, ng_lt, Int32.neg_neg, nI_add, pk_mul, nI_clampO, nI_ltO, nI_leO, nI_eqO, nI_subO, nle_t, nle_f, nlt_t, nlt_f, neq_f, fx_2000010_0, fx_2000010_1, fx_2000010_4, fx_2000010_5, fx_2000010_6, fx_2000010_8, fx_2000010_10, fx_2000010_11, fx_2000010_12, fx_2000010_13, fx_2000010_14, fx_2000010_15, fx_2000010_16, fx_2000010_17, fx_2000010_18, fx_3000009_0, fx_5000007_0, fx_5000007_1, fx_5000007_2, fx_5000007_3, fx_7000001_0, fx_11000005_1, fx_11000005_2, fx_11000005_3, fx_11000005_4, fx_11000005_5, fx_11000005_6, fx_11000005_10, fx_11000005_11, fx_11000005_12, fx_20000002_0, fx_20000002_2, fx_20000002_3, fx_20000002_4, fx_25000005_1, fx_25000005_2, fx_25000005_3, fx_25000005_4, fx_25000005_5, fx_25000005_6, fx_25000005_10, fx_25000005_11, fx_25000005_12, fx_34000002_0, fx_34000002_2, fx_34000002_3, fx_34000002_4, fx_39000008_0, fx_41000006_0, fx_42002024_0, fx_42002024_1, fx_42002024_2, fx_42002024_3, fx_42002024_4, fx_42002024_5, fx_42002024_6, fx_42002024_7, fx_42002024_8, fx_42002024_9, fx_42002024_10, fx_42002024_11, fx_42002024_12, fx_42002024_13, fx_42002024_14, fx_42002024_15, fx_42002024_16, fx_42002024_17, fx_42002024_18, fx_42002024_19, fx_43000008_0, fx_45000008_0, fx_47000008_0, fx_49000008_0, fx_51000008_0, fx_53000008_0, fx_55000008_0, fx_57000008_0, fx_59000008_0, fx_61000008_0, fx_63000008_0, fx_65000008_0, fx_67000008_0, fx_69000008_0, fx_71000008_0, fx_73000008_0, fx_75000008_0, fx_77000008_0, fx_79000008_0, fx_81000008_0, fx_83000424_0, fx_83000424_1, fx_83000424_2, fx_83000424_3, fx_85000004_0, fx_85000004_1, fx_85000004_2, fx_85000004_3, fx_85000004_4, fx_85000004_5, fx_85000004_6, fx_85000004_10, fx_102000008_0, fx_104000008_0, fx_106000008_0, fx_108000008_0, fx_110000011_1, fx_110000011_4, fx_110000011_5, fx_110000011_6, fx_110000011_9, fx_110000011_10, fx_110000011_11, fx_110000011_12, fx_110000011_14, fx_110000011_15, fx_110000011_20, fx_110000011_21, fx_110000011_22, fx_110000011_23, fx_110000011_25, fx_110000011_26, fx_110000011_31, fx_110000011_32, fx_110000011_37, fx_110000011_38, fx_110000011_39, fx_110000011_40, e2, k51, l2]
end T1
