/-! LINES READ: THE CLASS -/
theorem bnd_snx {α β : Type} (r : Except Nat (α × List Tok)) (g : List Tok → Except Nat β) : bnd (snx r) g = bnd r (fun p => g p.2) := by cases r <;> rfl
theorem snx_bnd {α β : Type} (r : Except Nat α) (g : α → Except Nat (β × List Tok)) : snx (bnd r g) = bnd r (fun a => snx (g a)) := by cases r <;> rfl
theorem bnd_bnd {α β γ : Type} (r : Except Nat α) (g : α → Except Nat β) (h : β → Except Nat γ) : bnd (bnd r g) h = bnd r (fun a => bnd (g a) h) := by cases r <;> rfl
theorem lnP_snx (S : SS) (wm : Nat) (T : List Tok) : snx (lnP S wm T) = snx (bnd (bnd (snx (bnd (bnd (snx (bnd (snx (tkU S.2.2.1 T)) tkK)) (tkW 2)) (tkN 99))) (tkW 3)) (tkN 9)) := by
  unfold lnP
  simp only [bnd_snx, snx_bnd, bnd_bnd]
  rfl
theorem lnF_snx (S : SS) (T : List Tok) : snx (lnF S T) = snx (bnd (bnd (snx (bnd (bnd (snx (tkU S.2.2.1 T)) (tkW 5)) (tkN 9))) (tkW 6)) (tkN 9)) := by
  unfold lnF
  simp only [bnd_snx, snx_bnd, bnd_bnd]
  rfl
theorem ln2_e1 {S : SS} {q f : Nat} {T : List Tok} (h : fdP S.2.2.1 T = .error f) : ln2 S q T = .error f := by
  unfold ln2
  rw [h]
  rfl
theorem ln2_e2 {S : SS} {q f i : Nat} {T : List Tok} (h : fdP S.2.2.1 T = .ok i) (h2 : fdP S.2.2.1 T.tail = .error f) : ln2 S q T = .error f := by
  unfold ln2
  rw [h, h2]
  rfl
theorem ln2_e3 {S : SS} {q i j : Nat} {T : List Tok} (h : fdP S.2.2.1 T = .ok i) (h2 : fdP S.2.2.1 T.tail = .ok j) (h3 : i = j ∨ tw S.1 i j ≠ 0) : ln2 S q T = .error (flT 3 T.tail) := by
  unfold ln2
  rw [h, h2]
  show (if i = j ∨ tw S.1 i j ≠ 0 then _ else _) = _
  rw [if_pos h3]
theorem ln2_o {S : SS} {q i j : Nat} {T : List Tok} (h : fdP S.2.2.1 T = .ok i) (h2 : fdP S.2.2.1 T.tail = .ok j) (h3 : i ≠ j) (h4 : tw S.1 i j = 0) : ln2 S q T = .ok ((adT S.1 i j q, S.2.1, S.2.2.1, S.2.2.2), T.tail.tail) := by
  unfold ln2
  rw [h, h2]
  show (if i = j ∨ tw S.1 i j ≠ 0 then _ else _) = _
  rw [if_neg (by omega)]
theorem NCr_P {μ : PM} {nm : Nms} {n m : Nat} {u : List Nat} (h : NCr μ nm n m) : NCr (wL μ 9000721 n (lN (b256 u))) (nm ++ [(u, n)]) (n + 1) m := by
  refine ⟨fun i hi => ?_, fun f hf => ?_, fun u' w hu => ?_⟩
  · by_cases e : i = n
    · subst e
      exact ⟨u, List.mem_append_right _ (List.mem_singleton.mpr rfl), by rw [rL_wL, if_pos ⟨rfl, rfl⟩]⟩
    · obtain ⟨v, v1, v2⟩ := h.1 i (by omega)
      exact ⟨v, List.mem_append_left _ v1, by rw [rL_wL, if_neg (by omega)]; exact v2⟩
  · obtain ⟨v, v1, v2⟩ := h.2.1 f hf
    exact ⟨v, List.mem_append_left _ v1, by rw [rL_wL, if_neg (by omega)]; exact v2⟩
  · rcases List.mem_append.mp hu with e | e
    · rcases h.2.2 u' w e with ⟨q1, q2⟩ | ⟨q1, f, q2, q3⟩
      · exact Or.inl ⟨by omega, by rw [rL_wL, if_neg (by omega)]; exact q2⟩
      · exact Or.inr ⟨q1, f, q2, by rw [rL_wL, if_neg (by omega)]; exact q3⟩
    · rw [List.mem_singleton] at e
      cases e
      exact Or.inl ⟨by omega, by rw [rL_wL, if_pos ⟨rfl, rfl⟩]⟩
theorem NCr_F {μ : PM} {nm : Nms} {n m : Nat} {u : List Nat} (h : NCr μ nm n m) : NCr (wL μ 10000421 m (lN (b256 u))) (nm ++ [(u, 100)]) n (m + 1) := by
  refine ⟨fun i hi => ?_, fun f hf => ?_, fun u' w hu => ?_⟩
  · obtain ⟨v, v1, v2⟩ := h.1 i hi
    exact ⟨v, List.mem_append_left _ v1, by rw [rL_wL, if_neg (by omega)]; exact v2⟩
  · by_cases e : f = m
    · subst e
      exact ⟨u, List.mem_append_right _ (List.mem_singleton.mpr rfl), by rw [rL_wL, if_pos ⟨rfl, rfl⟩]⟩
    · obtain ⟨v, v1, v2⟩ := h.2.1 f (by omega)
      exact ⟨v, List.mem_append_left _ v1, by rw [rL_wL, if_neg (by omega)]; exact v2⟩
  · rcases List.mem_append.mp hu with e | e
    · rcases h.2.2 u' w e with ⟨q1, q2⟩ | ⟨q1, f, q2, q3⟩
      · exact Or.inl ⟨q1, by rw [rL_wL, if_neg (by omega)]; exact q2⟩
      · exact Or.inr ⟨q1, f, by omega, by rw [rL_wL, if_neg (by omega)]; exact q3⟩
    · rw [List.mem_singleton] at e
      cases e
      exact Or.inr ⟨rfl, m, by omega, by rw [rL_wL, if_pos ⟨rfl, rfl⟩]⟩
theorem TX_o {μ ν : PM} {tp : List Nat} {T : List Tok} (e6 : ∀ j, rI ν 6000003 j = rI μ 6000003 j) (l6 : ∀ j, rL ν 6000003 j = rL μ 6000003 j) (h : TX μ tp T) : TX ν tp T := by
  obtain ⟨k0, k1, k2, k3, k4, k5, k6, k7⟩ := h
  exact ⟨k0, k1, k2, (e6 1).trans k3, (e6 2).trans k4, (e6 3).trans k5, fun q => (e6 4).trans (k6 q), fun q => (l6 5).trans (k7 q)⟩
section T1
variable {d : Nat} {μ ν : PM} {P : Nat} {tp : List Nat} {T : List Tok} {S : SS} {L0 : Nat}
theorem RBs_Da (h : DFa μ ν) (k : RBs μ P tp) : RBs ν P tp := by
  obtain ⟨k1, k2, k3, k4, k5⟩ := k
  exact ⟨fun q hq => (h.2.2.1 _ _ (fx_n7 q hq)).trans (k1 q hq), ⟨(h.1 _ _ (by omega)).trans k2.1, fun i hi => (h.1 _ _ (by omega)).trans (k2.2 i hi)⟩, fun i hi => (h.2.1 _ _ (by omega)).trans (k3 i hi), (h.2.2.1 _ _ (by omega)).trans k4, (h.2.2.1 _ _ (by omega)).trans k5⟩
theorem RC_Da {r : Except Nat (List Tok)} (h : DFa μ ν) (e5 : rI ν 5000007 6 = rI μ 5000007 6) (e6 : ∀ j, rI ν 6000003 j = rI μ 6000003 j) (l6 : ∀ j, rL ν 6000003 j = rL μ 6000003 j) (k : RC μ P tp r) : RC ν P tp r :=
  ⟨RBs_Da h k.1, fun f q => ⟨e5.trans (k.2.1 f q).1, (k.2.1 f q).2⟩, fun T q => ⟨e5.trans (k.2.2 T q).1, TX_o e6 l6 (k.2.2 T q).2.1, (k.2.2 T q).2.2⟩⟩
theorem c69a (hn : tp.length ≤ 1000) (hc : ∀ c, c ∈ tp → c < 127) (h : RC μ 11000005 tp (.ok T)) (hC : CSa μ S L0) (hS : SI S) (h30 : (hdT T).2.1 ≠ 30) (h0 : S.1 0 < 7) {wm : Nat} (hw : wm ≤ 1) : ∃ ν, DFa μ ν ∧ RC ν 11000005 tp (snx (lnP S wm T.tail)) ∧ (∀ p, lnP S wm T.tail = .ok p → CSa ν p.1 L0) ∧ ∀ Q, R (d + 4) 69 0 [some (.ref 5000007), some (.int (nI wm)), none, none, none, none, none] [] μ Q = Q none ν := by
  obtain ⟨ν1, a1, a2, a3⟩ := rcA (d := d + 1) hn hc h h30
  have a3 : ∀ Q, R (d + 3) 31 0 [some (.ref 6000003), none, none] [] μ Q = Q none ν1 := a3
  have C1 := CSa_Q a1 hC
  obtain ⟨ν2, v, b1, b2, b3, b4⟩ := c77 (d := d) hn hc a2 (by decide) hS.2.2.1 C1.2.2.1 (by omega) hS.1.1.2.1 C1.1.1 C1.1.2.2.2.2.2.1
  obtain ⟨ν3, x3, c1, c2, c3, c4⟩ := c76 (d := d) hn hc b2
  obtain ⟨ν4, d1, d2, d3⟩ := c74 (d := d) hn hc c2 (w := 2) (by omega) (by omega)
  obtain ⟨ν5, x5, e1, e2, e3, e4⟩ := c75 (d := d) hn hc d2 (m := 99) (by omega)
  obtain ⟨ν6, f1, f2, f3⟩ := c74 (d := d) hn hc e2 (w := 3) (by omega) (by omega)
  obtain ⟨ν7, x7, g1, g2, g3, g4⟩ := c75 (d := d) hn hc f2 (m := 9) (by omega)
  rw [← lnP_snx S wm T.tail] at g2
  have q7 : QF μ ν7 := QF_tr a1 (QF_tr b1 (QF_tr c1 (QF_tr d1 (QF_tr e1 (QF_tr f1 g1)))))
  have hF := h.1.1
  have h4 := h.1.2.2.2.2
  have C7 := CSa_Q q7 hC
  have p0 := hC.1.1
  have p07 := C7.1.1
  have hF7 := g2.1.1
  have h47 := g2.1.2.2.2.2
  cases hL : lnP S wm T.tail with
  | error f =>
    rw [hL] at g2
    obtain ⟨z1, z2, z3⟩ := g2.2.1 f rfl
    refine ⟨ν7, DFa_Q q7, g2, fun p q => (by cases q), fun Q => ?_⟩
    simp (disch := first | assumption | omega) only [r69_0, r69_1, r69_4, r69_7, r69_9, r69_12, r69_13, r69_14, r69_17, r69_18, r69_19, r69_22, r69_25, r69_26, r69_29, r69_30, r69_31, r69_34, r69_36, r69_37, r69_38, r69_41, r69_42, r69_44, r69_47, r69_49, r69_50, r69_51, r69_54, r69_55, r69_57, r69_60, r69_62, r69_63, r69_66, r69_69, r69_70, r69_73, r69_74, r69_77, r69_80, r69_81, r69_82, r69_83, r69_86, r69_88, r69_89, r69_91, r69_93, r69_96, rI_wI, rL_wL, rR_wR, rI_wL, rI_wR, rL_wI, rL_wR, rR_wI, rR_wL, va_rf_some, va_rf_none, Option.toList_some, Option.toList_none, List.nil_append, List.cons_append, true_and, and_true, false_and, and_false, and_self, if_true, if_false, not_true_eq_false, not_false_eq_true, or_false, false_or, or_true, true_or, or_self, ite_true, ite_false, Option.some.injEq, reduceCtorEq, Nat.reduceMod, Nat.reduceDiv, Nat.reduceLeDiff, Nat.reduceEqDiff, Nat.reduceAdd, Nat.reduceMul, Nat.reduceSub, Nat.reduceLT, sw_nil, sw_int, sw_long, sw_ref, li, lo, nI_m1, ng_eq, nn_eq, en_eq, ng_le, ng_lt, Int32.neg_neg, nI_add, pk_mul, nI_clampO, nI_ltO, nI_leO, nI_eqO, nI_subO, nle_t, nle_f, nlt_t, nlt_f, neq_f, fx_2000010_0, fx_2000010_1, fx_2000010_4, fx_2000010_5, fx_2000010_6, fx_2000010_8, fx_2000010_10, fx_2000010_11, fx_2000010_12, fx_2000010_13, fx_2000010_14, fx_2000010_15, fx_2000010_16, fx_2000010_17, fx_2000010_18, fx_3000009_0, fx_5000007_0, fx_5000007_1, fx_5000007_2, fx_5000007_3, fx_7000001_0, fx_11000005_1, fx_11000005_2, fx_11000005_3, fx_11000005_4, fx_11000005_5, fx_11000005_6, fx_11000005_10, fx_11000005_11, fx_11000005_12, fx_20000002_0, fx_20000002_2, fx_20000002_3, fx_20000002_4, fx_25000005_1, fx_25000005_2, fx_25000005_3, fx_25000005_4, fx_25000005_5, fx_25000005_6, fx_25000005_10, fx_25000005_11, fx_25000005_12, fx_34000002_0, fx_34000002_2, fx_34000002_3, fx_34000002_4, fx_39000008_0, fx_41000006_0, fx_42002024_0, fx_42002024_1, fx_42002024_2, fx_42002024_3, fx_42002024_4, fx_42002024_5, fx_42002024_6, fx_42002024_7, fx_42002024_8, fx_42002024_9, fx_42002024_10, fx_42002024_11, fx_42002024_12, fx_42002024_13, fx_42002024_14, fx_42002024_15, fx_42002024_16, fx_42002024_17, fx_42002024_18, fx_42002024_19, fx_43000008_0, fx_45000008_0, fx_47000008_0, fx_49000008_0, fx_51000008_0, fx_53000008_0, fx_55000008_0, fx_57000008_0, fx_59000008_0, fx_61000008_0, fx_63000008_0, fx_65000008_0, fx_67000008_0, fx_69000008_0, fx_71000008_0, fx_73000008_0, fx_75000008_0, fx_77000008_0, fx_79000008_0, fx_81000008_0, fx_83000424_0, fx_83000424_1, fx_83000424_2, fx_83000424_3, fx_85000004_0, fx_85000004_1, fx_85000004_2, fx_85000004_3, fx_85000004_4, fx_85000004_5, fx_85000004_6, fx_85000004_10, fx_102000008_0, fx_104000008_0, fx_106000008_0, fx_108000008_0, fx_110000011_1, fx_110000011_4, fx_110000011_5, fx_110000011_6, fx_110000011_9, fx_110000011_10, fx_110000011_11, fx_110000011_12, fx_110000011_14, fx_110000011_15, fx_110000011_20, fx_110000011_21, fx_110000011_22, fx_110000011_23, fx_110000011_25, fx_110000011_26, fx_110000011_31, fx_110000011_32, fx_110000011_37, fx_110000011_38, fx_110000011_39, fx_110000011_40, h4, p0, a3, b4, c4, d3, e4, f3, g4, z1]
  | ok p =>
    rw [hL] at g2
    obtain ⟨⟨u, T2⟩, o1, o1'⟩ := bnd_ok hL
    obtain ⟨⟨k, T3⟩, o2, o2'⟩ := bnd_ok o1'
    obtain ⟨T4, o3, o3'⟩ := bnd_ok o2'
    obtain ⟨⟨a, T5⟩, o4, o4'⟩ := bnd_ok o3'
    obtain ⟨T6, o5, o5'⟩ := bnd_ok o4'
    obtain ⟨⟨b, T7⟩, o6, o6'⟩ := bnd_ok o5'
    have o2 : tkK T2 = .ok (k, T3) := o2
    have o3 : tkW 2 T3 = .ok T4 := o3
    have o4 : tkN 99 T4 = .ok (a, T5) := o4
    have o5 : tkW 3 T5 = .ok T6 := o5
    have o6 : tkN 9 T6 = .ok (b, T7) := o6
    have i2 : bnd (snx (tkU S.2.2.1 T.tail)) tkK = .ok (k, T3) := by rw [o1]; exact o2
    have i4 : bnd (bnd (snx (bnd (snx (tkU S.2.2.1 T.tail)) tkK)) (tkW 2)) (tkN 99) = .ok (a, T5) := by
      rw [i2]
      show bnd (tkW 2 T3) (tkN 99) = _
      rw [o3]
      exact o4
    have ev : v = lN (b256 u) := b3 u T2 o1
    have ek : x3 = nI k := c3 k T3 i2
    have ea : x5 = nI a := e3 a T5 i4
    have eb : x7 = nI b := g3 b T7 (by
      rw [i4]
      show bnd (tkW 3 T5) (tkN 9) = _
      rw [o5]
      exact o6)
    cases o6'
    subst ev ek ea eb
    obtain ⟨z1, z2, z3⟩ := g2.2.2 T7 rfl
    have k8 := c48a (d := d + 3) (μ := wL ν7 9000721 (S.1 0) (lN (b256 u))) hF7 p07 h0 hw (k := k) (a := a) (b := b)
    have hr : ∀ x j, x ≠ 11000005 → x ≠ 15000720 → x ≠ 14000720 → x ≠ 13000723 → x ≠ 12000720 → rI (w48a (wL ν7 9000721 (S.1 0) (lN (b256 u))) (S.1 0) k wm a b) x j = rI ν7 x j := fun x j m1 m2 m3 m4 m5 => by
      rw [w48a_r, if_neg (fun q => m1 q.1), if_neg (fun q => m2 q.1), if_neg (fun q => m3 q.1), if_neg (fun q => m4 q.1), if_neg (fun q => m5 q.1)]
      rfl
    have D7 : DFa ν7 (w48a (wL ν7 9000721 (S.1 0) (lN (b256 u))) (S.1 0) k wm a b) := DFa_tr (DFa_wL ν7 _ (by omega)) (w48a_DF _ _ _ _ _ _)
    refine ⟨w48a (wL ν7 9000721 (S.1 0) (lN (b256 u))) (S.1 0) k wm a b, DFa_tr (DFa_Q q7) D7, ?_, ?_, fun Q => ?_⟩
    · exact RC_Da D7 (hr _ _ (by decide) (by decide) (by decide) (by decide) (by decide)) (fun j => hr _ _ (by decide) (by decide) (by decide) (by decide) (by decide)) (fun j => by show rL (wL ν7 9000721 (S.1 0) (lN (b256 u))) 6000003 j = _; rw [rL_wL, if_neg (by omega)]) g2
    · intro p q
      cases q
      refine ⟨w48a_CP (CPa_o (fun _ _ _ _ => rfl) C7.1) hS.2.1 h0, DLa_o (fun x j q => hr x j (by omega) (by omega) (by omega) (by omega) (by omega)) C7.2.1, ?_, (hr _ _ (by decide) (by decide) (by decide) (by decide) (by decide)).trans C7.2.2.2⟩
      show NCr _ (S.2.2.1 ++ [(u, S.1 0)]) (S.1 0 + 1) (adP S.1 wm k a b 1)
      have e1 : adP S.1 wm k a b 1 = S.1 1 := by
        unfold adP
        rw [if_neg (by omega), if_neg (by omega), if_neg (by omega), if_neg (by omega), if_neg (by omega)]
      rw [e1]
      exact NCr_Q (fun _ => rfl) (fun _ => rfl) (NCr_P C7.2.2.1)
    · simp (disch := first | assumption | omega) only [r69_0, r69_1, r69_4, r69_7, r69_9, r69_12, r69_13, r69_14, r69_17, r69_18, r69_19, r69_22, r69_25, r69_26, r69_29, r69_30, r69_31, r69_34, r69_36, r69_37, r69_38, r69_41, r69_42, r69_44, r69_47, r69_49, r69_50, r69_51, r69_54, r69_55, r69_57, r69_60, r69_62, r69_63, r69_66, r69_69, r69_70, r69_73, r69_74, r69_77, r69_80, r69_81, r69_82, r69_83, r69_86, r69_88, r69_89, r69_91, r69_93, r69_96, rI_wI, rL_wL, rR_wR, rI_wL, rI_wR, rL_wI, rL_wR, rR_wI, rR_wL, va_rf_some, va_rf_none, Option.toList_some, Option.toList_none, List.nil_append, List.cons_append, true_and, and_true, false_and, and_false, and_self, if_true, if_false, not_true_eq_false, not_false_eq_true, or_false, false_or, or_true, true_or, or_self, ite_true, ite_false, Option.some.injEq, reduceCtorEq, Nat.reduceMod, Nat.reduceDiv, Nat.reduceLeDiff, Nat.reduceEqDiff, Nat.reduceAdd, Nat.reduceMul, Nat.reduceSub, Nat.reduceLT, sw_nil, sw_int, sw_long, sw_ref, li, lo, nI_m1, ng_eq, nn_eq, en_eq, ng_le, ng_lt, Int32.neg_neg, nI_add, pk_mul, nI_clampO, nI_ltO, nI_leO, nI_eqO, nI_subO, nle_t, nle_f, nlt_t, nlt_f, neq_f, fx_2000010_0, fx_2000010_1, fx_2000010_4, fx_2000010_5, fx_2000010_6, fx_2000010_8, fx_2000010_10, fx_2000010_11, fx_2000010_12, fx_2000010_13, fx_2000010_14, fx_2000010_15, fx_2000010_16, fx_2000010_17, fx_2000010_18, fx_3000009_0, fx_5000007_0, fx_5000007_1, fx_5000007_2, fx_5000007_3, fx_7000001_0, fx_11000005_1, fx_11000005_2, fx_11000005_3, fx_11000005_4, fx_11000005_5, fx_11000005_6, fx_11000005_10, fx_11000005_11, fx_11000005_12, fx_20000002_0, fx_20000002_2, fx_20000002_3, fx_20000002_4, fx_25000005_1, fx_25000005_2, fx_25000005_3, fx_25000005_4, fx_25000005_5, fx_25000005_6, fx_25000005_10, fx_25000005_11, fx_25000005_12, fx_34000002_0, fx_34000002_2, fx_34000002_3, fx_34000002_4, fx_39000008_0, fx_41000006_0, fx_42002024_0, fx_42002024_1, fx_42002024_2, fx_42002024_3, fx_42002024_4, fx_42002024_5, fx_42002024_6, fx_42002024_7, fx_42002024_8, fx_42002024_9, fx_42002024_10, fx_42002024_11, fx_42002024_12, fx_42002024_13, fx_42002024_14, fx_42002024_15, fx_42002024_16, fx_42002024_17, fx_42002024_18, fx_42002024_19, fx_43000008_0, fx_45000008_0, fx_47000008_0, fx_49000008_0, fx_51000008_0, fx_53000008_0, fx_55000008_0, fx_57000008_0, fx_59000008_0, fx_61000008_0, fx_63000008_0, fx_65000008_0, fx_67000008_0, fx_69000008_0, fx_71000008_0, fx_73000008_0, fx_75000008_0, fx_77000008_0, fx_79000008_0, fx_81000008_0, fx_83000424_0, fx_83000424_1, fx_83000424_2, fx_83000424_3, fx_85000004_0, fx_85000004_1, fx_85000004_2, fx_85000004_3, fx_85000004_4, fx_85000004_5, fx_85000004_6, fx_85000004_10, fx_102000008_0, fx_104000008_0, fx_106000008_0, fx_108000008_0, fx_110000011_1, fx_110000011_4, fx_110000011_5, fx_110000011_6, fx_110000011_9, fx_110000011_10, fx_110000011_11, fx_110000011_12, fx_110000011_14, fx_110000011_15, fx_110000011_20, fx_110000011_21, fx_110000011_22, fx_110000011_23, fx_110000011_25, fx_110000011_26, fx_110000011_31, fx_110000011_32, fx_110000011_37, fx_110000011_38, fx_110000011_39, fx_110000011_40, h4, p0, a3, b4, c4, d3, e4, f3, g4, z1, h47, p07, k8]
theorem c70a (hn : tp.length ≤ 1000) (hc : ∀ c, c ∈ tp → c < 127) (h : RC μ 11000005 tp (.ok T)) (hC : CSa μ S L0) (hS : SI S) (h30 : (hdT T).2.1 ≠ 30) (h0 : S.1 1 < 4) : ∃ ν, DFa μ ν ∧ RC ν 11000005 tp (snx (lnF S T.tail)) ∧ (∀ p, lnF S T.tail = .ok p → CSa ν p.1 L0) ∧ ∀ Q, R (d + 4) 70 0 [some (.ref 5000007), none, none, none, none] [] μ Q = Q none ν := by
  obtain ⟨ν1, a1, a2, a3⟩ := rcA (d := d + 1) hn hc h h30
  have a3 : ∀ Q, R (d + 3) 31 0 [some (.ref 6000003), none, none] [] μ Q = Q none ν1 := a3
  have C1 := CSa_Q a1 hC
  obtain ⟨ν2, v, b1, b2, b3, b4⟩ := c77 (d := d) hn hc a2 (by decide) hS.2.2.1 C1.2.2.1 hS.1.1.1 (by omega) C1.1.1 C1.1.2.2.2.2.2.1
  obtain ⟨ν4, d1, d2, d3⟩ := c74 (d := d) hn hc b2 (w := 5) (by omega) (by omega)
  obtain ⟨ν5, x5, e1, e2, e3, e4⟩ := c75 (d := d) hn hc d2 (m := 9) (by omega)
  obtain ⟨ν6, f1, f2, f3⟩ := c74 (d := d) hn hc e2 (w := 6) (by omega) (by omega)
  obtain ⟨ν7, x7, g1, g2, g3, g4⟩ := c75 (d := d) hn hc f2 (m := 9) (by omega)
  rw [← lnF_snx S T.tail] at g2
  have q7 : QF μ ν7 := QF_tr a1 (QF_tr b1 (QF_tr d1 (QF_tr e1 (QF_tr f1 g1))))
  have hF := h.1.1
  have h4 := h.1.2.2.2.2
  have C7 := CSa_Q q7 hC
  have p0 := hC.1.2.2.2.2.2.1
  have p07 := C7.1.2.2.2.2.2.1
  have hF7 := g2.1.1
  have h47 := g2.1.2.2.2.2
  cases hL : lnF S T.tail with
  | error f =>
    rw [hL] at g2
    obtain ⟨z1, z2, z3⟩ := g2.2.1 f rfl
    refine ⟨ν7, DFa_Q q7, g2, fun p q => (by cases q), fun Q => ?_⟩
    simp (disch := first | assumption | omega) only [r70_0, r70_1, r70_4, r70_7, r70_8, r70_11, r70_12, r70_13, r70_16, r70_17, r70_18, r70_21, r70_24, r70_25, r70_28, r70_29, r70_30, r70_31, r70_34, r70_35, r70_37, r70_40, r70_41, r70_42, r70_44, r70_47, r70_48, r70_50, r70_53, r70_55, r70_56, r70_59, r70_62, r70_63, r70_66, r70_67, r70_70, r70_73, r70_74, r70_75, r70_76, r70_79, r70_80, r70_82, r70_85, rI_wI, rL_wL, rR_wR, rI_wL, rI_wR, rL_wI, rL_wR, rR_wI, rR_wL, va_rf_some, va_rf_none, Option.toList_some, Option.toList_none, List.nil_append, List.cons_append, true_and, and_true, false_and, and_false, and_self, if_true, if_false, not_true_eq_false, not_false_eq_true, or_false, false_or, or_true, true_or, or_self, ite_true, ite_false, Option.some.injEq, reduceCtorEq, Nat.reduceMod, Nat.reduceDiv, Nat.reduceLeDiff, Nat.reduceEqDiff, Nat.reduceAdd, Nat.reduceMul, Nat.reduceSub, Nat.reduceLT, sw_nil, sw_int, sw_long, sw_ref, li, lo, nI_m1, ng_eq, nn_eq, en_eq, ng_le, ng_lt, Int32.neg_neg, nI_add, pk_mul, nI_clampO, nI_ltO, nI_leO, nI_eqO, nI_subO, nle_t, nle_f, nlt_t, nlt_f, neq_f, fx_2000010_0, fx_2000010_1, fx_2000010_4, fx_2000010_5, fx_2000010_6, fx_2000010_8, fx_2000010_10, fx_2000010_11, fx_2000010_12, fx_2000010_13, fx_2000010_14, fx_2000010_15, fx_2000010_16, fx_2000010_17, fx_2000010_18, fx_3000009_0, fx_5000007_0, fx_5000007_1, fx_5000007_2, fx_5000007_3, fx_7000001_0, fx_11000005_1, fx_11000005_2, fx_11000005_3, fx_11000005_4, fx_11000005_5, fx_11000005_6, fx_11000005_10, fx_11000005_11, fx_11000005_12, fx_20000002_0, fx_20000002_2, fx_20000002_3, fx_20000002_4, fx_25000005_1, fx_25000005_2, fx_25000005_3, fx_25000005_4, fx_25000005_5, fx_25000005_6, fx_25000005_10, fx_25000005_11, fx_25000005_12, fx_34000002_0, fx_34000002_2, fx_34000002_3, fx_34000002_4, fx_39000008_0, fx_41000006_0, fx_42002024_0, fx_42002024_1, fx_42002024_2, fx_42002024_3, fx_42002024_4, fx_42002024_5, fx_42002024_6, fx_42002024_7, fx_42002024_8, fx_42002024_9, fx_42002024_10, fx_42002024_11, fx_42002024_12, fx_42002024_13, fx_42002024_14, fx_42002024_15, fx_42002024_16, fx_42002024_17, fx_42002024_18, fx_42002024_19, fx_43000008_0, fx_45000008_0, fx_47000008_0, fx_49000008_0, fx_51000008_0, fx_53000008_0, fx_55000008_0, fx_57000008_0, fx_59000008_0, fx_61000008_0, fx_63000008_0, fx_65000008_0, fx_67000008_0, fx_69000008_0, fx_71000008_0, fx_73000008_0, fx_75000008_0, fx_77000008_0, fx_79000008_0, fx_81000008_0, fx_83000424_0, fx_83000424_1, fx_83000424_2, fx_83000424_3, fx_85000004_0, fx_85000004_1, fx_85000004_2, fx_85000004_3, fx_85000004_4, fx_85000004_5, fx_85000004_6, fx_85000004_10, fx_102000008_0, fx_104000008_0, fx_106000008_0, fx_108000008_0, fx_110000011_1, fx_110000011_4, fx_110000011_5, fx_110000011_6, fx_110000011_9, fx_110000011_10, fx_110000011_11, fx_110000011_12, fx_110000011_14, fx_110000011_15, fx_110000011_20, fx_110000011_21, fx_110000011_22, fx_110000011_23, fx_110000011_25, fx_110000011_26, fx_110000011_31, fx_110000011_32, fx_110000011_37, fx_110000011_38, fx_110000011_39, fx_110000011_40, h4, p0, a3, b4, d3, e4, f3, g4, z1]
  | ok p =>
    rw [hL] at g2
    obtain ⟨⟨u, T2⟩, o1, o1'⟩ := bnd_ok hL
    obtain ⟨T4, o3, o3'⟩ := bnd_ok o1'
    obtain ⟨⟨a, T5⟩, o4, o4'⟩ := bnd_ok o3'
    obtain ⟨T6, o5, o5'⟩ := bnd_ok o4'
    obtain ⟨⟨b, T7⟩, o6, o6'⟩ := bnd_ok o5'
    have o3 : tkW 5 T2 = .ok T4 := o3
    have o4 : tkN 9 T4 = .ok (a, T5) := o4
    have o5 : tkW 6 T5 = .ok T6 := o5
    have o6 : tkN 9 T6 = .ok (b, T7) := o6
    have i4 : bnd (bnd (snx (tkU S.2.2.1 T.tail)) (tkW 5)) (tkN 9) = .ok (a, T5) := by
      rw [o1]
      show bnd (tkW 5 T2) (tkN 9) = _
      rw [o3]
      exact o4
    have ev : v = lN (b256 u) := b3 u T2 o1
    have ea : x5 = nI a := e3 a T5 i4
    have eb : x7 = nI b := g3 b T7 (by
      rw [i4]
      show bnd (tkW 6 T5) (tkN 9) = _
      rw [o5]
      exact o6)
    cases o6'
    subst ev ea eb
    obtain ⟨z1, z2, z3⟩ := g2.2.2 T7 rfl
    have k8 := c49a (d := d + 3) (μ := wL ν7 10000421 (S.1 1) (lN (b256 u))) hF7 p07 h0 (a := a) (b := b)
    have hr : ∀ x j, x ≠ 11000005 → x ≠ 19000420 → x ≠ 18000420 → rI (w49a (wL ν7 10000421 (S.1 1) (lN (b256 u))) (S.1 1) a b) x j = rI ν7 x j := fun x j m1 m2 m3 => by
      rw [w49a_r, if_neg (fun q => m1 q.1), if_neg (fun q => m2 q.1), if_neg (fun q => m3 q.1)]
      rfl
    have D7 : DFa ν7 (w49a (wL ν7 10000421 (S.1 1) (lN (b256 u))) (S.1 1) a b) := DFa_tr (DFa_wL ν7 _ (by omega)) (w49a_DF _ _ _ _)
    refine ⟨w49a (wL ν7 10000421 (S.1 1) (lN (b256 u))) (S.1 1) a b, DFa_tr (DFa_Q q7) D7, ?_, ?_, fun Q => ?_⟩
    · exact RC_Da D7 (hr _ _ (by decide) (by decide) (by decide)) (fun j => hr _ _ (by decide) (by decide) (by decide)) (fun j => by show rL (wL ν7 10000421 (S.1 1) (lN (b256 u))) 6000003 j = _; rw [rL_wL, if_neg (by omega)]) g2
    · intro p q
      cases q
      refine ⟨w49a_CP (CPa_o (fun _ _ _ _ => rfl) C7.1) hS.1.1.1 h0, DLa_o (fun x j q => hr x j (by omega) (by omega) (by omega)) C7.2.1, ?_, (hr _ _ (by decide) (by decide) (by decide)).trans C7.2.2.2⟩
      show NCr _ (S.2.2.1 ++ [(u, 100)]) (adF S.1 a b 0) (adF S.1 a b 1)
      have e0 : adF S.1 a b 0 = S.1 0 := by
        unfold adF
        rw [if_neg (by omega), if_neg (by omega), if_neg (by omega)]
      have e1 : adF S.1 a b 1 = S.1 1 + 1 := by
        unfold adF
        rw [if_pos rfl]
      rw [e0, e1]
      exact NCr_Q (fun _ => rfl) (fun _ => rfl) (NCr_F C7.2.2.1)
    · simp (disch := first | assumption | omega) only [r70_0, r70_1, r70_4, r70_7, r70_8, r70_11, r70_12, r70_13, r70_16, r70_17, r70_18, r70_21, r70_24, r70_25, r70_28, r70_29, r70_30, r70_31, r70_34, r70_35, r70_37, r70_40, r70_41, r70_42, r70_44, r70_47, r70_48, r70_50, r70_53, r70_55, r70_56, r70_59, r70_62, r70_63, r70_66, r70_67, r70_70, r70_73, r70_74, r70_75, r70_76, r70_79, r70_80, r70_82, r70_85, rI_wI, rL_wL, rR_wR, rI_wL, rI_wR, rL_wI, rL_wR, rR_wI, rR_wL, va_rf_some, va_rf_none, Option.toList_some, Option.toList_none, List.nil_append, List.cons_append, true_and, and_true, false_and, and_false, and_self, if_true, if_false, not_true_eq_false, not_false_eq_true, or_false, false_or, or_true, true_or, or_self, ite_true, ite_false, Option.some.injEq, reduceCtorEq, Nat.reduceMod, Nat.reduceDiv, Nat.reduceLeDiff, Nat.reduceEqDiff, Nat.reduceAdd, Nat.reduceMul, Nat.reduceSub, Nat.reduceLT, sw_nil, sw_int, sw_long, sw_ref, li, lo, nI_m1, ng_eq, nn_eq, en_eq, ng_le, ng_lt, Int32.neg_neg, nI_add, pk_mul, nI_clampO, nI_ltO, nI_leO, nI_eqO, nI_subO, nle_t, nle_f, nlt_t, nlt_f, neq_f, fx_2000010_0, fx_2000010_1, fx_2000010_4, fx_2000010_5, fx_2000010_6, fx_2000010_8, fx_2000010_10, fx_2000010_11, fx_2000010_12, fx_2000010_13, fx_2000010_14, fx_2000010_15, fx_2000010_16, fx_2000010_17, fx_2000010_18, fx_3000009_0, fx_5000007_0, fx_5000007_1, fx_5000007_2, fx_5000007_3, fx_7000001_0, fx_11000005_1, fx_11000005_2, fx_11000005_3, fx_11000005_4, fx_11000005_5, fx_11000005_6, fx_11000005_10, fx_11000005_11, fx_11000005_12, fx_20000002_0, fx_20000002_2, fx_20000002_3, fx_20000002_4, fx_25000005_1, fx_25000005_2, fx_25000005_3, fx_25000005_4, fx_25000005_5, fx_25000005_6, fx_25000005_10, fx_25000005_11, fx_25000005_12, fx_34000002_0, fx_34000002_2, fx_34000002_3, fx_34000002_4, fx_39000008_0, fx_41000006_0, fx_42002024_0, fx_42002024_1, fx_42002024_2, fx_42002024_3, fx_42002024_4, fx_42002024_5, fx_42002024_6, fx_42002024_7, fx_42002024_8, fx_42002024_9, fx_42002024_10, fx_42002024_11, fx_42002024_12, fx_42002024_13, fx_42002024_14, fx_42002024_15, fx_42002024_16, fx_42002024_17, fx_42002024_18, fx_42002024_19, fx_43000008_0, fx_45000008_0, fx_47000008_0, fx_49000008_0, fx_51000008_0, fx_53000008_0, fx_55000008_0, fx_57000008_0, fx_59000008_0, fx_61000008_0, fx_63000008_0, fx_65000008_0, fx_67000008_0, fx_69000008_0, fx_71000008_0, fx_73000008_0, fx_75000008_0, fx_77000008_0, fx_79000008_0, fx_81000008_0, fx_83000424_0, fx_83000424_1, fx_83000424_2, fx_83000424_3, fx_85000004_0, fx_85000004_1, fx_85000004_2, fx_85000004_3, fx_85000004_4, fx_85000004_5, fx_85000004_6, fx_85000004_10, fx_102000008_0, fx_104000008_0, fx_106000008_0, fx_108000008_0, fx_110000011_1, fx_110000011_4, fx_110000011_5, fx_110000011_6, fx_110000011_9, fx_110000011_10, fx_110000011_11, fx_110000011_12, fx_110000011_14, fx_110000011_15, fx_110000011_20, fx_110000011_21, fx_110000011_22, fx_110000011_23, fx_110000011_25, fx_110000011_26, fx_110000011_31, fx_110000011_32, fx_110000011_37, fx_110000011_38, fx_110000011_39, fx_110000011_40, h4, p0, a3, b4, d3, e4, f3, g4, z1, h47, p07, k8]
theorem c71a (hn : tp.length ≤ 1000) (hc : ∀ c, c ∈ tp → c < 127) (h : RC μ 11000005 tp (.ok T)) (hC : CSa μ S L0) (hS : SI S) (h30 : (hdT T).2.1 ≠ 30) {q : Nat} (hq : q = 1 ∨ q = 2) : ∃ ν, DFa μ ν ∧ RC ν 11000005 tp (snx (ln2 S q T.tail)) ∧ (∀ p, ln2 S q T.tail = .ok p → CSa ν p.1 L0) ∧ ∀ Q, R (d + 4) 71 0 [some (.ref 5000007), some (.int (nI (2 - q))), none, none] [] μ Q = Q none ν := by
  obtain ⟨ν1, a1, a2, a3⟩ := rcA (d := d + 1) hn hc h h30
  have a3 : ∀ Q, R (d + 3) 31 0 [some (.ref 6000003), none, none] [] μ Q = Q none ν1 := a3
  have C1 := CSa_Q a1 hC
  have hF := h.1.1
  have hF1 := a2.1.1
  obtain ⟨b1, b2⟩ := c78 (d := d + 2) hc a2 (by decide) hS.2.2.1 C1.2.2.1 hS.1.1.1 C1.1.1
  cases h1 : fdP S.2.2.1 T.tail with
  | error f =>
    obtain ⟨ν2, k1, k2, k3⟩ := b2 f h1
    rw [ln2_e1 h1]
    refine ⟨ν2, DFa_Q (QF_tr a1 k1), k2, fun p q => (by cases q), fun Q => ?_⟩
    simp (disch := first | assumption | omega) only [r71_0, r71_1, r71_4, r71_7, r71_8, r71_11, r71_12, r71_13, r71_14, r71_17, r71_18, r71_19, r71_22, r71_25, r71_26, r71_29, r71_30, r71_31, r71_32, r71_35, r71_36, r71_37, r71_38, r71_41, r71_42, r71_45, r71_46, r71_47, r71_50, r71_53, r71_54, r71_55, r71_58, r71_59, r71_60, r71_63, r71_66, r71_67, r71_70, r71_71, r71_72, r71_73, r71_76, rI_wI, rL_wL, rR_wR, rI_wL, rI_wR, rL_wI, rL_wR, rR_wI, rR_wL, va_rf_some, va_rf_none, Option.toList_some, Option.toList_none, List.nil_append, List.cons_append, true_and, and_true, false_and, and_false, and_self, if_true, if_false, not_true_eq_false, not_false_eq_true, or_false, false_or, or_true, true_or, or_self, ite_true, ite_false, Option.some.injEq, reduceCtorEq, Nat.reduceMod, Nat.reduceDiv, Nat.reduceLeDiff, Nat.reduceEqDiff, Nat.reduceAdd, Nat.reduceMul, Nat.reduceSub, Nat.reduceLT, sw_nil, sw_int, sw_long, sw_ref, li, lo, nI_m1, ng_eq, nn_eq, en_eq, ng_le, ng_lt, Int32.neg_neg, nI_add, pk_mul, nI_clampO, nI_ltO, nI_leO, nI_eqO, nI_subO, nle_t, nle_f, nlt_t, nlt_f, neq_f, fx_2000010_0, fx_2000010_1, fx_2000010_4, fx_2000010_5, fx_2000010_6, fx_2000010_8, fx_2000010_10, fx_2000010_11, fx_2000010_12, fx_2000010_13, fx_2000010_14, fx_2000010_15, fx_2000010_16, fx_2000010_17, fx_2000010_18, fx_3000009_0, fx_5000007_0, fx_5000007_1, fx_5000007_2, fx_5000007_3, fx_7000001_0, fx_11000005_1, fx_11000005_2, fx_11000005_3, fx_11000005_4, fx_11000005_5, fx_11000005_6, fx_11000005_10, fx_11000005_11, fx_11000005_12, fx_20000002_0, fx_20000002_2, fx_20000002_3, fx_20000002_4, fx_25000005_1, fx_25000005_2, fx_25000005_3, fx_25000005_4, fx_25000005_5, fx_25000005_6, fx_25000005_10, fx_25000005_11, fx_25000005_12, fx_34000002_0, fx_34000002_2, fx_34000002_3, fx_34000002_4, fx_39000008_0, fx_41000006_0, fx_42002024_0, fx_42002024_1, fx_42002024_2, fx_42002024_3, fx_42002024_4, fx_42002024_5, fx_42002024_6, fx_42002024_7, fx_42002024_8, fx_42002024_9, fx_42002024_10, fx_42002024_11, fx_42002024_12, fx_42002024_13, fx_42002024_14, fx_42002024_15, fx_42002024_16, fx_42002024_17, fx_42002024_18, fx_42002024_19, fx_43000008_0, fx_45000008_0, fx_47000008_0, fx_49000008_0, fx_51000008_0, fx_53000008_0, fx_55000008_0, fx_57000008_0, fx_59000008_0, fx_61000008_0, fx_63000008_0, fx_65000008_0, fx_67000008_0, fx_69000008_0, fx_71000008_0, fx_73000008_0, fx_75000008_0, fx_77000008_0, fx_79000008_0, fx_81000008_0, fx_83000424_0, fx_83000424_1, fx_83000424_2, fx_83000424_3, fx_85000004_0, fx_85000004_1, fx_85000004_2, fx_85000004_3, fx_85000004_4, fx_85000004_5, fx_85000004_6, fx_85000004_10, fx_102000008_0, fx_104000008_0, fx_106000008_0, fx_108000008_0, fx_110000011_1, fx_110000011_4, fx_110000011_5, fx_110000011_6, fx_110000011_9, fx_110000011_10, fx_110000011_11, fx_110000011_12, fx_110000011_14, fx_110000011_15, fx_110000011_20, fx_110000011_21, fx_110000011_22, fx_110000011_23, fx_110000011_25, fx_110000011_26, fx_110000011_31, fx_110000011_32, fx_110000011_37, fx_110000011_38, fx_110000011_39, fx_110000011_40, a3, k3]
  | ok i =>
    have k3 := b1 i h1
    have i7 := (fdP_ok h1).2.2
    have ip := fdP_lt hS h1
    obtain ⟨ν2, e1, e2, e3⟩ := rcA (d := d + 1) hn hc a2 (by have := (fdP_ok h1).1.2; omega)
    have e3 : ∀ Q, R (d + 3) 31 0 [some (.ref 6000003), none, none] [] ν1 Q = Q none ν2 := e3
    have C2 := CSa_Q e1 C1
    have hF2 := e2.1.1
    have h42 := e2.1.2.2.2.2
    obtain ⟨f1, f2⟩ := c78 (d := d + 2) hc e2 (by decide) hS.2.2.1 C2.2.2.1 hS.1.1.1 C2.1.1
    cases h2 : fdP S.2.2.1 T.tail.tail with
    | error f =>
      obtain ⟨ν3, l1, l2, l3⟩ := f2 f h2
      rw [ln2_e2 h1 h2]
      refine ⟨ν3, DFa_Q (QF_tr a1 (QF_tr e1 l1)), l2, fun p q => (by cases q), fun Q => ?_⟩
      simp (disch := first | assumption | omega) only [r71_0, r71_1, r71_4, r71_7, r71_8, r71_11, r71_12, r71_13, r71_14, r71_17, r71_18, r71_19, r71_22, r71_25, r71_26, r71_29, r71_30, r71_31, r71_32, r71_35, r71_36, r71_37, r71_38, r71_41, r71_42, r71_45, r71_46, r71_47, r71_50, r71_53, r71_54, r71_55, r71_58, r71_59, r71_60, r71_63, r71_66, r71_67, r71_70, r71_71, r71_72, r71_73, r71_76, rI_wI, rL_wL, rR_wR, rI_wL, rI_wR, rL_wI, rL_wR, rR_wI, rR_wL, va_rf_some, va_rf_none, Option.toList_some, Option.toList_none, List.nil_append, List.cons_append, true_and, and_true, false_and, and_false, and_self, if_true, if_false, not_true_eq_false, not_false_eq_true, or_false, false_or, or_true, true_or, or_self, ite_true, ite_false, Option.some.injEq, reduceCtorEq, Nat.reduceMod, Nat.reduceDiv, Nat.reduceLeDiff, Nat.reduceEqDiff, Nat.reduceAdd, Nat.reduceMul, Nat.reduceSub, Nat.reduceLT, sw_nil, sw_int, sw_long, sw_ref, li, lo, nI_m1, ng_eq, nn_eq, en_eq, ng_le, ng_lt, Int32.neg_neg, nI_add, pk_mul, nI_clampO, nI_ltO, nI_leO, nI_eqO, nI_subO, nle_t, nle_f, nlt_t, nlt_f, neq_f, fx_2000010_0, fx_2000010_1, fx_2000010_4, fx_2000010_5, fx_2000010_6, fx_2000010_8, fx_2000010_10, fx_2000010_11, fx_2000010_12, fx_2000010_13, fx_2000010_14, fx_2000010_15, fx_2000010_16, fx_2000010_17, fx_2000010_18, fx_3000009_0, fx_5000007_0, fx_5000007_1, fx_5000007_2, fx_5000007_3, fx_7000001_0, fx_11000005_1, fx_11000005_2, fx_11000005_3, fx_11000005_4, fx_11000005_5, fx_11000005_6, fx_11000005_10, fx_11000005_11, fx_11000005_12, fx_20000002_0, fx_20000002_2, fx_20000002_3, fx_20000002_4, fx_25000005_1, fx_25000005_2, fx_25000005_3, fx_25000005_4, fx_25000005_5, fx_25000005_6, fx_25000005_10, fx_25000005_11, fx_25000005_12, fx_34000002_0, fx_34000002_2, fx_34000002_3, fx_34000002_4, fx_39000008_0, fx_41000006_0, fx_42002024_0, fx_42002024_1, fx_42002024_2, fx_42002024_3, fx_42002024_4, fx_42002024_5, fx_42002024_6, fx_42002024_7, fx_42002024_8, fx_42002024_9, fx_42002024_10, fx_42002024_11, fx_42002024_12, fx_42002024_13, fx_42002024_14, fx_42002024_15, fx_42002024_16, fx_42002024_17, fx_42002024_18, fx_42002024_19, fx_43000008_0, fx_45000008_0, fx_47000008_0, fx_49000008_0, fx_51000008_0, fx_53000008_0, fx_55000008_0, fx_57000008_0, fx_59000008_0, fx_61000008_0, fx_63000008_0, fx_65000008_0, fx_67000008_0, fx_69000008_0, fx_71000008_0, fx_73000008_0, fx_75000008_0, fx_77000008_0, fx_79000008_0, fx_81000008_0, fx_83000424_0, fx_83000424_1, fx_83000424_2, fx_83000424_3, fx_85000004_0, fx_85000004_1, fx_85000004_2, fx_85000004_3, fx_85000004_4, fx_85000004_5, fx_85000004_6, fx_85000004_10, fx_102000008_0, fx_104000008_0, fx_106000008_0, fx_108000008_0, fx_110000011_1, fx_110000011_4, fx_110000011_5, fx_110000011_6, fx_110000011_9, fx_110000011_10, fx_110000011_11, fx_110000011_12, fx_110000011_14, fx_110000011_15, fx_110000011_20, fx_110000011_21, fx_110000011_22, fx_110000011_23, fx_110000011_25, fx_110000011_26, fx_110000011_31, fx_110000011_32, fx_110000011_37, fx_110000011_38, fx_110000011_39, fx_110000011_40, a3, k3, e3, l3]
    | ok j =>
      have l3 := f1 j h2
      have j7 := (fdP_ok h2).2.2
      have jp := fdP_lt hS h2
      obtain ⟨m1, m2⟩ := c73 (d := d + 3) hc e2 (k := 3) (by omega) (by omega)
      obtain ⟨n1, n2⟩ := c50a (d := d + 3) hF2 C2.1 hS.1 i7 j7
      by_cases hij : i = j
      · rw [ln2_e3 h1 h2 (Or.inl hij)]
        subst hij
        refine ⟨_, DFa_Q (QF_tr a1 (QF_tr e1 (QF_w ν2 _))), m1, fun p q => (by cases q), fun Q => ?_⟩
        simp (disch := first | assumption | omega) only [r71_0, r71_1, r71_4, r71_7, r71_8, r71_11, r71_12, r71_13, r71_14, r71_17, r71_18, r71_19, r71_22, r71_25, r71_26, r71_29, r71_30, r71_31, r71_32, r71_35, r71_36, r71_37, r71_38, r71_41, r71_42, r71_45, r71_46, r71_47, r71_50, r71_53, r71_54, r71_55, r71_58, r71_59, r71_60, r71_63, r71_66, r71_67, r71_70, r71_71, r71_72, r71_73, r71_76, rI_wI, rL_wL, rR_wR, rI_wL, rI_wR, rL_wI, rL_wR, rR_wI, rR_wL, va_rf_some, va_rf_none, Option.toList_some, Option.toList_none, List.nil_append, List.cons_append, true_and, and_true, false_and, and_false, and_self, if_true, if_false, not_true_eq_false, not_false_eq_true, or_false, false_or, or_true, true_or, or_self, ite_true, ite_false, Option.some.injEq, reduceCtorEq, Nat.reduceMod, Nat.reduceDiv, Nat.reduceLeDiff, Nat.reduceEqDiff, Nat.reduceAdd, Nat.reduceMul, Nat.reduceSub, Nat.reduceLT, sw_nil, sw_int, sw_long, sw_ref, li, lo, nI_m1, ng_eq, nn_eq, en_eq, ng_le, ng_lt, Int32.neg_neg, nI_add, pk_mul, nI_clampO, nI_ltO, nI_leO, nI_eqO, nI_subO, nle_t, nle_f, nlt_t, nlt_f, neq_f, fx_2000010_0, fx_2000010_1, fx_2000010_4, fx_2000010_5, fx_2000010_6, fx_2000010_8, fx_2000010_10, fx_2000010_11, fx_2000010_12, fx_2000010_13, fx_2000010_14, fx_2000010_15, fx_2000010_16, fx_2000010_17, fx_2000010_18, fx_3000009_0, fx_5000007_0, fx_5000007_1, fx_5000007_2, fx_5000007_3, fx_7000001_0, fx_11000005_1, fx_11000005_2, fx_11000005_3, fx_11000005_4, fx_11000005_5, fx_11000005_6, fx_11000005_10, fx_11000005_11, fx_11000005_12, fx_20000002_0, fx_20000002_2, fx_20000002_3, fx_20000002_4, fx_25000005_1, fx_25000005_2, fx_25000005_3, fx_25000005_4, fx_25000005_5, fx_25000005_6, fx_25000005_10, fx_25000005_11, fx_25000005_12, fx_34000002_0, fx_34000002_2, fx_34000002_3, fx_34000002_4, fx_39000008_0, fx_41000006_0, fx_42002024_0, fx_42002024_1, fx_42002024_2, fx_42002024_3, fx_42002024_4, fx_42002024_5, fx_42002024_6, fx_42002024_7, fx_42002024_8, fx_42002024_9, fx_42002024_10, fx_42002024_11, fx_42002024_12, fx_42002024_13, fx_42002024_14, fx_42002024_15, fx_42002024_16, fx_42002024_17, fx_42002024_18, fx_42002024_19, fx_43000008_0, fx_45000008_0, fx_47000008_0, fx_49000008_0, fx_51000008_0, fx_53000008_0, fx_55000008_0, fx_57000008_0, fx_59000008_0, fx_61000008_0, fx_63000008_0, fx_65000008_0, fx_67000008_0, fx_69000008_0, fx_71000008_0, fx_73000008_0, fx_75000008_0, fx_77000008_0, fx_79000008_0, fx_81000008_0, fx_83000424_0, fx_83000424_1, fx_83000424_2, fx_83000424_3, fx_85000004_0, fx_85000004_1, fx_85000004_2, fx_85000004_3, fx_85000004_4, fx_85000004_5, fx_85000004_6, fx_85000004_10, fx_102000008_0, fx_104000008_0, fx_106000008_0, fx_108000008_0, fx_110000011_1, fx_110000011_4, fx_110000011_5, fx_110000011_6, fx_110000011_9, fx_110000011_10, fx_110000011_11, fx_110000011_12, fx_110000011_14, fx_110000011_15, fx_110000011_20, fx_110000011_21, fx_110000011_22, fx_110000011_23, fx_110000011_25, fx_110000011_26, fx_110000011_31, fx_110000011_32, fx_110000011_37, fx_110000011_38, fx_110000011_39, fx_110000011_40, a3, k3, e3, l3, m2]
      · by_cases hz : tw S.1 i j = 0
        · rw [ln2_o h1 h2 hij hz]
          obtain ⟨ν4, u1, u2, u3⟩ := rcA (d := d + 1) hn hc e2 (by have := (fdP_ok h2).1.2; omega)
          have u3 : ∀ Q, R (d + 3) 31 0 [some (.ref 6000003), none, none] [] ν2 Q = Q none ν4 := u3
          have C4 := CSa_Q u1 C2
          have hF4 := u2.1.1
          have h44 := u2.1.2.2.2.2
          have n2' := n2 hz
          have q4 : QF μ ν4 := QF_tr a1 (QF_tr e1 u1)
          rcases hq with rfl | rfl
          · have w1 := c51pa (d := d + 3) hF4 C4.1 i7 j7 hij
            have D4 := w51a_DF ν4 (B := 16000720) (Or.inl rfl) 7 i j (bsN S.1 1 i ||| 2 ^ j) (bsN S.1 1 j ||| 2 ^ i) (twN S.1 1)
            have hr : ∀ x y, x ≠ 11000005 → x ≠ 16000720 → rI (w51a ν4 16000720 7 i j (bsN S.1 1 i ||| 2 ^ j) (bsN S.1 1 j ||| 2 ^ i) (twN S.1 1)) x y = rI ν4 x y := fun x y m1 m2 => by
              rw [w51a_r, if_neg (fun q => m1 q.1), if_neg (fun q => m2 q.1), if_neg (fun q => m2 q.1)]
            refine ⟨_, DFa_tr (DFa_Q q4) D4, RC_Da D4 (hr _ _ (by decide) (by decide)) (fun j => hr _ _ (by decide) (by decide)) (fun _ => rfl) u2, fun p q => ?_, fun Q => ?_⟩
            · cases q
              refine ⟨w51pa_CP C4.1 hS.1 ip jp hij hz, DLa_o (fun x j q => hr x j (by omega) (by omega)) C4.2.1, ?_, (hr _ _ (by decide) (by decide)).trans C4.2.2.2⟩
              show NCr _ S.2.2.1 (adT S.1 i j 1 0) (adT S.1 i j 1 1)
              rw [adT_o (by omega), adT_o (by omega)]
              exact NCr_Q (fun _ => rfl) (fun _ => rfl) C4.2.2.1
            · simp (disch := first | assumption | omega) only [r71_0, r71_1, r71_4, r71_7, r71_8, r71_11, r71_12, r71_13, r71_14, r71_17, r71_18, r71_19, r71_22, r71_25, r71_26, r71_29, r71_30, r71_31, r71_32, r71_35, r71_36, r71_37, r71_38, r71_41, r71_42, r71_45, r71_46, r71_47, r71_50, r71_53, r71_54, r71_55, r71_58, r71_59, r71_60, r71_63, r71_66, r71_67, r71_70, r71_71, r71_72, r71_73, r71_76, rI_wI, rL_wL, rR_wR, rI_wL, rI_wR, rL_wI, rL_wR, rR_wI, rR_wL, va_rf_some, va_rf_none, Option.toList_some, Option.toList_none, List.nil_append, List.cons_append, true_and, and_true, false_and, and_false, and_self, if_true, if_false, not_true_eq_false, not_false_eq_true, or_false, false_or, or_true, true_or, or_self, ite_true, ite_false, Option.some.injEq, reduceCtorEq, Nat.reduceMod, Nat.reduceDiv, Nat.reduceLeDiff, Nat.reduceEqDiff, Nat.reduceAdd, Nat.reduceMul, Nat.reduceSub, Nat.reduceLT, sw_nil, sw_int, sw_long, sw_ref, li, lo, nI_m1, ng_eq, nn_eq, en_eq, ng_le, ng_lt, Int32.neg_neg, nI_add, pk_mul, nI_clampO, nI_ltO, nI_leO, nI_eqO, nI_subO, nle_t, nle_f, nlt_t, nlt_f, neq_f, fx_2000010_0, fx_2000010_1, fx_2000010_4, fx_2000010_5, fx_2000010_6, fx_2000010_8, fx_2000010_10, fx_2000010_11, fx_2000010_12, fx_2000010_13, fx_2000010_14, fx_2000010_15, fx_2000010_16, fx_2000010_17, fx_2000010_18, fx_3000009_0, fx_5000007_0, fx_5000007_1, fx_5000007_2, fx_5000007_3, fx_7000001_0, fx_11000005_1, fx_11000005_2, fx_11000005_3, fx_11000005_4, fx_11000005_5, fx_11000005_6, fx_11000005_10, fx_11000005_11, fx_11000005_12, fx_20000002_0, fx_20000002_2, fx_20000002_3, fx_20000002_4, fx_25000005_1, fx_25000005_2, fx_25000005_3, fx_25000005_4, fx_25000005_5, fx_25000005_6, fx_25000005_10, fx_25000005_11, fx_25000005_12, fx_34000002_0, fx_34000002_2, fx_34000002_3, fx_34000002_4, fx_39000008_0, fx_41000006_0, fx_42002024_0, fx_42002024_1, fx_42002024_2, fx_42002024_3, fx_42002024_4, fx_42002024_5, fx_42002024_6, fx_42002024_7, fx_42002024_8, fx_42002024_9, fx_42002024_10, fx_42002024_11, fx_42002024_12, fx_42002024_13, fx_42002024_14, fx_42002024_15, fx_42002024_16, fx_42002024_17, fx_42002024_18, fx_42002024_19, fx_43000008_0, fx_45000008_0, fx_47000008_0, fx_49000008_0, fx_51000008_0, fx_53000008_0, fx_55000008_0, fx_57000008_0, fx_59000008_0, fx_61000008_0, fx_63000008_0, fx_65000008_0, fx_67000008_0, fx_69000008_0, fx_71000008_0, fx_73000008_0, fx_75000008_0, fx_77000008_0, fx_79000008_0, fx_81000008_0, fx_83000424_0, fx_83000424_1, fx_83000424_2, fx_83000424_3, fx_85000004_0, fx_85000004_1, fx_85000004_2, fx_85000004_3, fx_85000004_4, fx_85000004_5, fx_85000004_6, fx_85000004_10, fx_102000008_0, fx_104000008_0, fx_106000008_0, fx_108000008_0, fx_110000011_1, fx_110000011_4, fx_110000011_5, fx_110000011_6, fx_110000011_9, fx_110000011_10, fx_110000011_11, fx_110000011_12, fx_110000011_14, fx_110000011_15, fx_110000011_20, fx_110000011_21, fx_110000011_22, fx_110000011_23, fx_110000011_25, fx_110000011_26, fx_110000011_31, fx_110000011_32, fx_110000011_37, fx_110000011_38, fx_110000011_39, fx_110000011_40, a3, k3, e3, l3, h42, n2', u3, h44, w1]
          · have w1 := c51qa (d := d + 3) hF4 C4.1 i7 j7 hij
            have D4 := w51a_DF ν4 (B := 17000720) (Or.inr rfl) 8 i j (bsN S.1 2 i ||| 2 ^ j) (bsN S.1 2 j ||| 2 ^ i) (twN S.1 2)
            have hr : ∀ x y, x ≠ 11000005 → x ≠ 17000720 → rI (w51a ν4 17000720 8 i j (bsN S.1 2 i ||| 2 ^ j) (bsN S.1 2 j ||| 2 ^ i) (twN S.1 2)) x y = rI ν4 x y := fun x y m1 m2 => by
              rw [w51a_r, if_neg (fun q => m1 q.1), if_neg (fun q => m2 q.1), if_neg (fun q => m2 q.1)]
            refine ⟨_, DFa_tr (DFa_Q q4) D4, RC_Da D4 (hr _ _ (by decide) (by decide)) (fun j => hr _ _ (by decide) (by decide)) (fun _ => rfl) u2, fun p q => ?_, fun Q => ?_⟩
            · cases q
              refine ⟨w51qa_CP C4.1 hS.1 ip jp hij hz, DLa_o (fun x j q => hr x j (by omega) (by omega)) C4.2.1, ?_, (hr _ _ (by decide) (by decide)).trans C4.2.2.2⟩
              show NCr _ S.2.2.1 (adT S.1 i j 2 0) (adT S.1 i j 2 1)
              rw [adT_o (by omega), adT_o (by omega)]
              exact NCr_Q (fun _ => rfl) (fun _ => rfl) C4.2.2.1
            · simp (disch := first | assumption | omega) only [r71_0, r71_1, r71_4, r71_7, r71_8, r71_11, r71_12, r71_13, r71_14, r71_17, r71_18, r71_19, r71_22, r71_25, r71_26, r71_29, r71_30, r71_31, r71_32, r71_35, r71_36, r71_37, r71_38, r71_41, r71_42, r71_45, r71_46, r71_47, r71_50, r71_53, r71_54, r71_55, r71_58, r71_59, r71_60, r71_63, r71_66, r71_67, r71_70, r71_71, r71_72, r71_73, r71_76, rI_wI, rL_wL, rR_wR, rI_wL, rI_wR, rL_wI, rL_wR, rR_wI, rR_wL, va_rf_some, va_rf_none, Option.toList_some, Option.toList_none, List.nil_append, List.cons_append, true_and, and_true, false_and, and_false, and_self, if_true, if_false, not_true_eq_false, not_false_eq_true, or_false, false_or, or_true, true_or, or_self, ite_true, ite_false, Option.some.injEq, reduceCtorEq, Nat.reduceMod, Nat.reduceDiv, Nat.reduceLeDiff, Nat.reduceEqDiff, Nat.reduceAdd, Nat.reduceMul, Nat.reduceSub, Nat.reduceLT, sw_nil, sw_int, sw_long, sw_ref, li, lo, nI_m1, ng_eq, nn_eq, en_eq, ng_le, ng_lt, Int32.neg_neg, nI_add, pk_mul, nI_clampO, nI_ltO, nI_leO, nI_eqO, nI_subO, nle_t, nle_f, nlt_t, nlt_f, neq_f, fx_2000010_0, fx_2000010_1, fx_2000010_4, fx_2000010_5, fx_2000010_6, fx_2000010_8, fx_2000010_10, fx_2000010_11, fx_2000010_12, fx_2000010_13, fx_2000010_14, fx_2000010_15, fx_2000010_16, fx_2000010_17, fx_2000010_18, fx_3000009_0, fx_5000007_0, fx_5000007_1, fx_5000007_2, fx_5000007_3, fx_7000001_0, fx_11000005_1, fx_11000005_2, fx_11000005_3, fx_11000005_4, fx_11000005_5, fx_11000005_6, fx_11000005_10, fx_11000005_11, fx_11000005_12, fx_20000002_0, fx_20000002_2, fx_20000002_3, fx_20000002_4, fx_25000005_1, fx_25000005_2, fx_25000005_3, fx_25000005_4, fx_25000005_5, fx_25000005_6, fx_25000005_10, fx_25000005_11, fx_25000005_12, fx_34000002_0, fx_34000002_2, fx_34000002_3, fx_34000002_4, fx_39000008_0, fx_41000006_0, fx_42002024_0, fx_42002024_1, fx_42002024_2, fx_42002024_3, fx_42002024_4, fx_42002024_5, fx_42002024_6, fx_42002024_7, fx_42002024_8, fx_42002024_9, fx_42002024_10, fx_42002024_11, fx_42002024_12, fx_42002024_13, fx_42002024_14, fx_42002024_15, fx_42002024_16, fx_42002024_17, fx_42002024_18, fx_42002024_19, fx_43000008_0, fx_45000008_0, fx_47000008_0, fx_49000008_0, fx_51000008_0, fx_53000008_0, fx_55000008_0, fx_57000008_0, fx_59000008_0, fx_61000008_0, fx_63000008_0, fx_65000008_0, fx_67000008_0, fx_69000008_0, fx_71000008_0, fx_73000008_0, fx_75000008_0, fx_77000008_0, fx_79000008_0, fx_81000008_0, fx_83000424_0, fx_83000424_1, fx_83000424_2, fx_83000424_3, fx_85000004_0, fx_85000004_1, fx_85000004_2, fx_85000004_3, fx_85000004_4, fx_85000004_5, fx_85000004_6, fx_85000004_10, fx_102000008_0, fx_104000008_0, fx_106000008_0, fx_108000008_0, fx_110000011_1, fx_110000011_4, fx_110000011_5, fx_110000011_6, fx_110000011_9, fx_110000011_10, fx_110000011_11, fx_110000011_12, fx_110000011_14, fx_110000011_15, fx_110000011_20, fx_110000011_21, fx_110000011_22, fx_110000011_23, fx_110000011_25, fx_110000011_26, fx_110000011_31, fx_110000011_32, fx_110000011_37, fx_110000011_38, fx_110000011_39, fx_110000011_40, a3, k3, e3, l3, h42, n2', u3, h44, w1]
        · rw [ln2_e3 h1 h2 (Or.inr hz)]
          have n1' := n1 hz
          refine ⟨_, DFa_Q (QF_tr a1 (QF_tr e1 (QF_w ν2 _))), m1, fun p q => (by cases q), fun Q => ?_⟩
          simp (disch := first | assumption | omega) only [r71_0, r71_1, r71_4, r71_7, r71_8, r71_11, r71_12, r71_13, r71_14, r71_17, r71_18, r71_19, r71_22, r71_25, r71_26, r71_29, r71_30, r71_31, r71_32, r71_35, r71_36, r71_37, r71_38, r71_41, r71_42, r71_45, r71_46, r71_47, r71_50, r71_53, r71_54, r71_55, r71_58, r71_59, r71_60, r71_63, r71_66, r71_67, r71_70, r71_71, r71_72, r71_73, r71_76, rI_wI, rL_wL, rR_wR, rI_wL, rI_wR, rL_wI, rL_wR, rR_wI, rR_wL, va_rf_some, va_rf_none, Option.toList_some, Option.toList_none, List.nil_append, List.cons_append, true_and, and_true, false_and, and_false, and_self, if_true, if_false, not_true_eq_false, not_false_eq_true, or_false, false_or, or_true, true_or, or_self, ite_true, ite_false, Option.some.injEq, reduceCtorEq, Nat.reduceMod, Nat.reduceDiv, Nat.reduceLeDiff, Nat.reduceEqDiff, Nat.reduceAdd, Nat.reduceMul, Nat.reduceSub, Nat.reduceLT, sw_nil, sw_int, sw_long, sw_ref, li, lo, nI_m1, ng_eq, nn_eq, en_eq, ng_le, ng_lt, Int32.neg_neg, nI_add, pk_mul, nI_clampO, nI_ltO, nI_leO, nI_eqO, nI_subO, nle_t, nle_f, nlt_t, nlt_f, neq_f, fx_2000010_0, fx_2000010_1, fx_2000010_4, fx_2000010_5, fx_2000010_6, fx_2000010_8, fx_2000010_10, fx_2000010_11, fx_2000010_12, fx_2000010_13, fx_2000010_14, fx_2000010_15, fx_2000010_16, fx_2000010_17, fx_2000010_18, fx_3000009_0, fx_5000007_0, fx_5000007_1, fx_5000007_2, fx_5000007_3, fx_7000001_0, fx_11000005_1, fx_11000005_2, fx_11000005_3, fx_11000005_4, fx_11000005_5, fx_11000005_6, fx_11000005_10, fx_11000005_11, fx_11000005_12, fx_20000002_0, fx_20000002_2, fx_20000002_3, fx_20000002_4, fx_25000005_1, fx_25000005_2, fx_25000005_3, fx_25000005_4, fx_25000005_5, fx_25000005_6, fx_25000005_10, fx_25000005_11, fx_25000005_12, fx_34000002_0, fx_34000002_2, fx_34000002_3, fx_34000002_4, fx_39000008_0, fx_41000006_0, fx_42002024_0, fx_42002024_1, fx_42002024_2, fx_42002024_3, fx_42002024_4, fx_42002024_5, fx_42002024_6, fx_42002024_7, fx_42002024_8, fx_42002024_9, fx_42002024_10, fx_42002024_11, fx_42002024_12, fx_42002024_13, fx_42002024_14, fx_42002024_15, fx_42002024_16, fx_42002024_17, fx_42002024_18, fx_42002024_19, fx_43000008_0, fx_45000008_0, fx_47000008_0, fx_49000008_0, fx_51000008_0, fx_53000008_0, fx_55000008_0, fx_57000008_0, fx_59000008_0, fx_61000008_0, fx_63000008_0, fx_65000008_0, fx_67000008_0, fx_69000008_0, fx_71000008_0, fx_73000008_0, fx_75000008_0, fx_77000008_0, fx_79000008_0, fx_81000008_0, fx_83000424_0, fx_83000424_1, fx_83000424_2, fx_83000424_3, fx_85000004_0, fx_85000004_1, fx_85000004_2, fx_85000004_3, fx_85000004_4, fx_85000004_5, fx_85000004_6, fx_85000004_10, fx_102000008_0, fx_104000008_0, fx_106000008_0, fx_108000008_0, fx_110000011_1, fx_110000011_4, fx_110000011_5, fx_110000011_6, fx_110000011_9, fx_110000011_10, fx_110000011_11, fx_110000011_12, fx_110000011_14, fx_110000011_15, fx_110000011_20, fx_110000011_21, fx_110000011_22, fx_110000011_23, fx_110000011_25, fx_110000011_26, fx_110000011_31, fx_110000011_32, fx_110000011_37, fx_110000011_38, fx_110000011_39, fx_110000011_40, a3, k3, e3, l3, h42, n1', m2]
end T1
section T1
variable {d : Nat} {μ ν : PM} {P : Nat} {tp : List Nat} {T : List Tok} {S : SS} {L0 : Nat}
theorem RBs_Db (h : DFb μ ν) (k : RBs μ P tp) : RBs ν P tp := by
  obtain ⟨k1, k2, k3, k4, k5⟩ := k
  exact ⟨fun q hq => (h.2.2.1 _ _ (fx_n7 q hq)).trans (k1 q hq), ⟨(h.1 _ _ (by omega)).trans k2.1, fun i hi => (h.1 _ _ (by omega)).trans (k2.2 i hi)⟩, fun i hi => (h.2.1 _ _ (by omega)).trans (k3 i hi), (h.2.2.1 _ _ (by omega)).trans k4, (h.2.2.1 _ _ (by omega)).trans k5⟩
theorem RC_Db {r : Except Nat (List Tok)} (h : DFb μ ν) (e5 : rI ν 5000007 6 = rI μ 5000007 6) (e6 : ∀ j, rI ν 6000003 j = rI μ 6000003 j) (l6 : ∀ j, rL ν 6000003 j = rL μ 6000003 j) (k : RC μ P tp r) : RC ν P tp r :=
  ⟨RBs_Db h k.1, fun f q => ⟨e5.trans (k.2.1 f q).1, (k.2.1 f q).2⟩, fun T q => ⟨e5.trans (k.2.2 T q).1, TX_o e6 l6 (k.2.2 T q).2.1, (k.2.2 T q).2.2⟩⟩
theorem c69b (hn : tp.length ≤ 1000) (hc : ∀ c, c ∈ tp → c < 127) (h : RC μ 25000005 tp (.ok T)) (hC : CSb μ S L0) (hS : SI S) (h30 : (hdT T).2.1 ≠ 30) (h0 : S.1 0 < 7) {wm : Nat} (hw : wm ≤ 1) : ∃ ν, DFb μ ν ∧ RC ν 25000005 tp (snx (lnP S wm T.tail)) ∧ (∀ p, lnP S wm T.tail = .ok p → CSb ν p.1 L0) ∧ ∀ Q, R (d + 4) 69 0 [some (.ref 5000007), some (.int (nI wm)), none, none, none, none, none] [] μ Q = Q none ν := by
  obtain ⟨ν1, a1, a2, a3⟩ := rcA (d := d + 1) hn hc h h30
  have a3 : ∀ Q, R (d + 3) 31 0 [some (.ref 6000003), none, none] [] μ Q = Q none ν1 := a3
  have C1 := CSb_Q a1 hC
  obtain ⟨ν2, v, b1, b2, b3, b4⟩ := c77 (d := d) hn hc a2 (by decide) hS.2.2.1 C1.2.2.1 (by omega) hS.1.1.2.1 C1.1.1 C1.1.2.2.2.2.2.1
  obtain ⟨ν3, x3, c1, c2, c3, c4⟩ := c76 (d := d) hn hc b2
  obtain ⟨ν4, d1, d2, d3⟩ := c74 (d := d) hn hc c2 (w := 2) (by omega) (by omega)
  obtain ⟨ν5, x5, e1, e2, e3, e4⟩ := c75 (d := d) hn hc d2 (m := 99) (by omega)
  obtain ⟨ν6, f1, f2, f3⟩ := c74 (d := d) hn hc e2 (w := 3) (by omega) (by omega)
  obtain ⟨ν7, x7, g1, g2, g3, g4⟩ := c75 (d := d) hn hc f2 (m := 9) (by omega)
  rw [← lnP_snx S wm T.tail] at g2
  have q7 : QF μ ν7 := QF_tr a1 (QF_tr b1 (QF_tr c1 (QF_tr d1 (QF_tr e1 (QF_tr f1 g1)))))
  have hF := h.1.1
  have h4 := h.1.2.2.2.2
  have C7 := CSb_Q q7 hC
  have p0 := hC.1.1
  have p07 := C7.1.1
  have hF7 := g2.1.1
  have h47 := g2.1.2.2.2.2
  cases hL : lnP S wm T.tail with
  | error f =>
    rw [hL] at g2
    obtain ⟨z1, z2, z3⟩ := g2.2.1 f rfl
    refine ⟨ν7, DFb_Q q7, g2, fun p q => (by cases q), fun Q => ?_⟩
    simp (disch := first | assumption | omega) only [r69_0, r69_1, r69_4, r69_7, r69_9, r69_12, r69_13, r69_14, r69_17, r69_18, r69_19, r69_22, r69_25, r69_26, r69_29, r69_30, r69_31, r69_34, r69_36, r69_37, r69_38, r69_41, r69_42, r69_44, r69_47, r69_49, r69_50, r69_51, r69_54, r69_55, r69_57, r69_60, r69_62, r69_63, r69_66, r69_69, r69_70, r69_73, r69_74, r69_77, r69_80, r69_81, r69_82, r69_83, r69_86, r69_88, r69_89, r69_91, r69_93, r69_96, rI_wI, rL_wL, rR_wR, rI_wL, rI_wR, rL_wI, rL_wR, rR_wI, rR_wL, va_rf_some, va_rf_none, Option.toList_some, Option.toList_none, List.nil_append, List.cons_append, true_and, and_true, false_and, and_false, and_self, if_true, if_false, not_true_eq_false, not_false_eq_true, or_false, false_or, or_true, true_or, or_self, ite_true, ite_false, Option.some.injEq, reduceCtorEq, Nat.reduceMod, Nat.reduceDiv, Nat.reduceLeDiff, Nat.reduceEqDiff, Nat.reduceAdd, Nat.reduceMul, Nat.reduceSub, Nat.reduceLT, sw_nil, sw_int, sw_long, sw_ref, li, lo, nI_m1, ng_eq, nn_eq, en_eq, ng_le, ng_lt, Int32.neg_neg, nI_add, pk_mul, nI_clampO, nI_ltO, nI_leO, nI_eqO, nI_subO, nle_t, nle_f, nlt_t, nlt_f, neq_f, fx_2000010_0, fx_2000010_1, fx_2000010_4, fx_2000010_5, fx_2000010_6, fx_2000010_8, fx_2000010_10, fx_2000010_11, fx_2000010_12, fx_2000010_13, fx_2000010_14, fx_2000010_15, fx_2000010_16, fx_2000010_17, fx_2000010_18, fx_3000009_0, fx_5000007_0, fx_5000007_1, fx_5000007_2, fx_5000007_3, fx_7000001_0, fx_11000005_1, fx_11000005_2, fx_11000005_3, fx_11000005_4, fx_11000005_5, fx_11000005_6, fx_11000005_10, fx_11000005_11, fx_11000005_12, fx_20000002_0, fx_20000002_2, fx_20000002_3, fx_20000002_4, fx_25000005_1, fx_25000005_2, fx_25000005_3, fx_25000005_4, fx_25000005_5, fx_25000005_6, fx_25000005_10, fx_25000005_11, fx_25000005_12, fx_34000002_0, fx_34000002_2, fx_34000002_3, fx_34000002_4, fx_39000008_0, fx_41000006_0, fx_42002024_0, fx_42002024_1, fx_42002024_2, fx_42002024_3, fx_42002024_4, fx_42002024_5, fx_42002024_6, fx_42002024_7, fx_42002024_8, fx_42002024_9, fx_42002024_10, fx_42002024_11, fx_42002024_12, fx_42002024_13, fx_42002024_14, fx_42002024_15, fx_42002024_16, fx_42002024_17, fx_42002024_18, fx_42002024_19, fx_43000008_0, fx_45000008_0, fx_47000008_0, fx_49000008_0, fx_51000008_0, fx_53000008_0, fx_55000008_0, fx_57000008_0, fx_59000008_0, fx_61000008_0, fx_63000008_0, fx_65000008_0, fx_67000008_0, fx_69000008_0, fx_71000008_0, fx_73000008_0, fx_75000008_0, fx_77000008_0, fx_79000008_0, fx_81000008_0, fx_83000424_0, fx_83000424_1, fx_83000424_2, fx_83000424_3, fx_85000004_0, fx_85000004_1, fx_85000004_2, fx_85000004_3, fx_85000004_4, fx_85000004_5, fx_85000004_6, fx_85000004_10, fx_102000008_0, fx_104000008_0, fx_106000008_0, fx_108000008_0, fx_110000011_1, fx_110000011_4, fx_110000011_5, fx_110000011_6, fx_110000011_9, fx_110000011_10, fx_110000011_11, fx_110000011_12, fx_110000011_14, fx_110000011_15, fx_110000011_20, fx_110000011_21, fx_110000011_22, fx_110000011_23, fx_110000011_25, fx_110000011_26, fx_110000011_31, fx_110000011_32, fx_110000011_37, fx_110000011_38, fx_110000011_39, fx_110000011_40, h4, p0, a3, b4, c4, d3, e4, f3, g4, z1]
  | ok p =>
    rw [hL] at g2
    obtain ⟨⟨u, T2⟩, o1, o1'⟩ := bnd_ok hL
    obtain ⟨⟨k, T3⟩, o2, o2'⟩ := bnd_ok o1'
    obtain ⟨T4, o3, o3'⟩ := bnd_ok o2'
    obtain ⟨⟨a, T5⟩, o4, o4'⟩ := bnd_ok o3'
    obtain ⟨T6, o5, o5'⟩ := bnd_ok o4'
    obtain ⟨⟨b, T7⟩, o6, o6'⟩ := bnd_ok o5'
    have o2 : tkK T2 = .ok (k, T3) := o2
    have o3 : tkW 2 T3 = .ok T4 := o3
    have o4 : tkN 99 T4 = .ok (a, T5) := o4
    have o5 : tkW 3 T5 = .ok T6 := o5
    have o6 : tkN 9 T6 = .ok (b, T7) := o6
    have i2 : bnd (snx (tkU S.2.2.1 T.tail)) tkK = .ok (k, T3) := by rw [o1]; exact o2
    have i4 : bnd (bnd (snx (bnd (snx (tkU S.2.2.1 T.tail)) tkK)) (tkW 2)) (tkN 99) = .ok (a, T5) := by
      rw [i2]
      show bnd (tkW 2 T3) (tkN 99) = _
      rw [o3]
      exact o4
    have ev : v = lN (b256 u) := b3 u T2 o1
    have ek : x3 = nI k := c3 k T3 i2
    have ea : x5 = nI a := e3 a T5 i4
    have eb : x7 = nI b := g3 b T7 (by
      rw [i4]
      show bnd (tkW 3 T5) (tkN 9) = _
      rw [o5]
      exact o6)
    cases o6'
    subst ev ek ea eb
    obtain ⟨z1, z2, z3⟩ := g2.2.2 T7 rfl
    have k8 := c48b (d := d + 3) (μ := wL ν7 9000721 (S.1 0) (lN (b256 u))) hF7 p07 h0 hw (k := k) (a := a) (b := b)
    have hr : ∀ x j, x ≠ 25000005 → x ≠ 29000720 → x ≠ 28000720 → x ≠ 27000723 → x ≠ 26000720 → rI (w48b (wL ν7 9000721 (S.1 0) (lN (b256 u))) (S.1 0) k wm a b) x j = rI ν7 x j := fun x j m1 m2 m3 m4 m5 => by
      rw [w48b_r, if_neg (fun q => m1 q.1), if_neg (fun q => m2 q.1), if_neg (fun q => m3 q.1), if_neg (fun q => m4 q.1), if_neg (fun q => m5 q.1)]
      rfl
    have D7 : DFb ν7 (w48b (wL ν7 9000721 (S.1 0) (lN (b256 u))) (S.1 0) k wm a b) := DFb_tr (DFb_wL ν7 _ (by omega)) (w48b_DF _ _ _ _ _ _)
    refine ⟨w48b (wL ν7 9000721 (S.1 0) (lN (b256 u))) (S.1 0) k wm a b, DFb_tr (DFb_Q q7) D7, ?_, ?_, fun Q => ?_⟩
    · exact RC_Db D7 (hr _ _ (by decide) (by decide) (by decide) (by decide) (by decide)) (fun j => hr _ _ (by decide) (by decide) (by decide) (by decide) (by decide)) (fun j => by show rL (wL ν7 9000721 (S.1 0) (lN (b256 u))) 6000003 j = _; rw [rL_wL, if_neg (by omega)]) g2
    · intro p q
      cases q
      refine ⟨w48b_CP (CPb_o (fun _ _ _ _ => rfl) C7.1) hS.2.1 h0, DLb_o (fun x j q => hr x j (by omega) (by omega) (by omega) (by omega) (by omega)) C7.2.1, ?_, (hr _ _ (by decide) (by decide) (by decide) (by decide) (by decide)).trans C7.2.2.2⟩
      show NCr _ (S.2.2.1 ++ [(u, S.1 0)]) (S.1 0 + 1) (adP S.1 wm k a b 1)
      have e1 : adP S.1 wm k a b 1 = S.1 1 := by
        unfold adP
        rw [if_neg (by omega), if_neg (by omega), if_neg (by omega), if_neg (by omega), if_neg (by omega)]
      rw [e1]
      exact NCr_Q (fun _ => rfl) (fun _ => rfl) (NCr_P C7.2.2.1)
    · simp (disch := first | assumption | omega) only [r69_0, r69_1, r69_4, r69_7, r69_9, r69_12, r69_13, r69_14, r69_17, r69_18, r69_19, r69_22, r69_25, r69_26, r69_29, r69_30, r69_31, r69_34, r69_36, r69_37, r69_38, r69_41, r69_42, r69_44, r69_47, r69_49, r69_50, r69_51, r69_54, r69_55, r69_57, r69_60, r69_62, r69_63, r69_66, r69_69, r69_70, r69_73, r69_74, r69_77, r69_80, r69_81, r69_82, r69_83, r69_86, r69_88, r69_89, r69_91, r69_93, r69_96, rI_wI, rL_wL, rR_wR, rI_wL, rI_wR, rL_wI, rL_wR, rR_wI, rR_wL, va_rf_some, va_rf_none, Option.toList_some, Option.toList_none, List.nil_append, List.cons_append, true_and, and_true, false_and, and_false, and_self, if_true, if_false, not_true_eq_false, not_false_eq_true, or_false, false_or, or_true, true_or, or_self, ite_true, ite_false, Option.some.injEq, reduceCtorEq, Nat.reduceMod, Nat.reduceDiv, Nat.reduceLeDiff, Nat.reduceEqDiff, Nat.reduceAdd, Nat.reduceMul, Nat.reduceSub, Nat.reduceLT, sw_nil, sw_int, sw_long, sw_ref, li, lo, nI_m1, ng_eq, nn_eq, en_eq, ng_le, ng_lt, Int32.neg_neg, nI_add, pk_mul, nI_clampO, nI_ltO, nI_leO, nI_eqO, nI_subO, nle_t, nle_f, nlt_t, nlt_f, neq_f, fx_2000010_0, fx_2000010_1, fx_2000010_4, fx_2000010_5, fx_2000010_6, fx_2000010_8, fx_2000010_10, fx_2000010_11, fx_2000010_12, fx_2000010_13, fx_2000010_14, fx_2000010_15, fx_2000010_16, fx_2000010_17, fx_2000010_18, fx_3000009_0, fx_5000007_0, fx_5000007_1, fx_5000007_2, fx_5000007_3, fx_7000001_0, fx_11000005_1, fx_11000005_2, fx_11000005_3, fx_11000005_4, fx_11000005_5, fx_11000005_6, fx_11000005_10, fx_11000005_11, fx_11000005_12, fx_20000002_0, fx_20000002_2, fx_20000002_3, fx_20000002_4, fx_25000005_1, fx_25000005_2, fx_25000005_3, fx_25000005_4, fx_25000005_5, fx_25000005_6, fx_25000005_10, fx_25000005_11, fx_25000005_12, fx_34000002_0, fx_34000002_2, fx_34000002_3, fx_34000002_4, fx_39000008_0, fx_41000006_0, fx_42002024_0, fx_42002024_1, fx_42002024_2, fx_42002024_3, fx_42002024_4, fx_42002024_5, fx_42002024_6, fx_42002024_7, fx_42002024_8, fx_42002024_9, fx_42002024_10, fx_42002024_11, fx_42002024_12, fx_42002024_13, fx_42002024_14, fx_42002024_15, fx_42002024_16, fx_42002024_17, fx_42002024_18, fx_42002024_19, fx_43000008_0, fx_45000008_0, fx_47000008_0, fx_49000008_0, fx_51000008_0, fx_53000008_0, fx_55000008_0, fx_57000008_0, fx_59000008_0, fx_61000008_0, fx_63000008_0, fx_65000008_0, fx_67000008_0, fx_69000008_0, fx_71000008_0, fx_73000008_0, fx_75000008_0, fx_77000008_0, fx_79000008_0, fx_81000008_0, fx_83000424_0, fx_83000424_1, fx_83000424_2, fx_83000424_3, fx_85000004_0, fx_85000004_1, fx_85000004_2, fx_85000004_3, fx_85000004_4, fx_85000004_5, fx_85000004_6, fx_85000004_10, fx_102000008_0, fx_104000008_0, fx_106000008_0, fx_108000008_0, fx_110000011_1, fx_110000011_4, fx_110000011_5, fx_110000011_6, fx_110000011_9, fx_110000011_10, fx_110000011_11, fx_110000011_12, fx_110000011_14, fx_110000011_15, fx_110000011_20, fx_110000011_21, fx_110000011_22, fx_110000011_23, fx_110000011_25, fx_110000011_26, fx_110000011_31, fx_110000011_32, fx_110000011_37, fx_110000011_38, fx_110000011_39, fx_110000011_40, h4, p0, a3, b4, c4, d3, e4, f3, g4, z1, h47, p07, k8]
theorem c70b (hn : tp.length ≤ 1000) (hc : ∀ c, c ∈ tp → c < 127) (h : RC μ 25000005 tp (.ok T)) (hC : CSb μ S L0) (hS : SI S) (h30 : (hdT T).2.1 ≠ 30) (h0 : S.1 1 < 4) : ∃ ν, DFb μ ν ∧ RC ν 25000005 tp (snx (lnF S T.tail)) ∧ (∀ p, lnF S T.tail = .ok p → CSb ν p.1 L0) ∧ ∀ Q, R (d + 4) 70 0 [some (.ref 5000007), none, none, none, none] [] μ Q = Q none ν := by
  obtain ⟨ν1, a1, a2, a3⟩ := rcA (d := d + 1) hn hc h h30
  have a3 : ∀ Q, R (d + 3) 31 0 [some (.ref 6000003), none, none] [] μ Q = Q none ν1 := a3
  have C1 := CSb_Q a1 hC
  obtain ⟨ν2, v, b1, b2, b3, b4⟩ := c77 (d := d) hn hc a2 (by decide) hS.2.2.1 C1.2.2.1 hS.1.1.1 (by omega) C1.1.1 C1.1.2.2.2.2.2.1
  obtain ⟨ν4, d1, d2, d3⟩ := c74 (d := d) hn hc b2 (w := 5) (by omega) (by omega)
  obtain ⟨ν5, x5, e1, e2, e3, e4⟩ := c75 (d := d) hn hc d2 (m := 9) (by omega)
  obtain ⟨ν6, f1, f2, f3⟩ := c74 (d := d) hn hc e2 (w := 6) (by omega) (by omega)
  obtain ⟨ν7, x7, g1, g2, g3, g4⟩ := c75 (d := d) hn hc f2 (m := 9) (by omega)
  rw [← lnF_snx S T.tail] at g2
  have q7 : QF μ ν7 := QF_tr a1 (QF_tr b1 (QF_tr d1 (QF_tr e1 (QF_tr f1 g1))))
  have hF := h.1.1
  have h4 := h.1.2.2.2.2
  have C7 := CSb_Q q7 hC
  have p0 := hC.1.2.2.2.2.2.1
  have p07 := C7.1.2.2.2.2.2.1
  have hF7 := g2.1.1
  have h47 := g2.1.2.2.2.2
  cases hL : lnF S T.tail with
  | error f =>
    rw [hL] at g2
    obtain ⟨z1, z2, z3⟩ := g2.2.1 f rfl
    refine ⟨ν7, DFb_Q q7, g2, fun p q => (by cases q), fun Q => ?_⟩
    simp (disch := first | assumption | omega) only [r70_0, r70_1, r70_4, r70_7, r70_8, r70_11, r70_12, r70_13, r70_16, r70_17, r70_18, r70_21, r70_24, r70_25, r70_28, r70_29, r70_30, r70_31, r70_34, r70_35, r70_37, r70_40, r70_41, r70_42, r70_44, r70_47, r70_48, r70_50, r70_53, r70_55, r70_56, r70_59, r70_62, r70_63, r70_66, r70_67, r70_70, r70_73, r70_74, r70_75, r70_76, r70_79, r70_80, r70_82, r70_85, rI_wI, rL_wL, rR_wR, rI_wL, rI_wR, rL_wI, rL_wR, rR_wI, rR_wL, va_rf_some, va_rf_none, Option.toList_some, Option.toList_none, List.nil_append, List.cons_append, true_and, and_true, false_and, and_false, and_self, if_true, if_false, not_true_eq_false, not_false_eq_true, or_false, false_or, or_true, true_or, or_self, ite_true, ite_false, Option.some.injEq, reduceCtorEq, Nat.reduceMod, Nat.reduceDiv, Nat.reduceLeDiff, Nat.reduceEqDiff, Nat.reduceAdd, Nat.reduceMul, Nat.reduceSub, Nat.reduceLT, sw_nil, sw_int, sw_long, sw_ref, li, lo, nI_m1, ng_eq, nn_eq, en_eq, ng_le, ng_lt, Int32.neg_neg, nI_add, pk_mul, nI_clampO, nI_ltO, nI_leO, nI_eqO, nI_subO, nle_t, nle_f, nlt_t, nlt_f, neq_f, fx_2000010_0, fx_2000010_1, fx_2000010_4, fx_2000010_5, fx_2000010_6, fx_2000010_8, fx_2000010_10, fx_2000010_11, fx_2000010_12, fx_2000010_13, fx_2000010_14, fx_2000010_15, fx_2000010_16, fx_2000010_17, fx_2000010_18, fx_3000009_0, fx_5000007_0, fx_5000007_1, fx_5000007_2, fx_5000007_3, fx_7000001_0, fx_11000005_1, fx_11000005_2, fx_11000005_3, fx_11000005_4, fx_11000005_5, fx_11000005_6, fx_11000005_10, fx_11000005_11, fx_11000005_12, fx_20000002_0, fx_20000002_2, fx_20000002_3, fx_20000002_4, fx_25000005_1, fx_25000005_2, fx_25000005_3, fx_25000005_4, fx_25000005_5, fx_25000005_6, fx_25000005_10, fx_25000005_11, fx_25000005_12, fx_34000002_0, fx_34000002_2, fx_34000002_3, fx_34000002_4, fx_39000008_0, fx_41000006_0, fx_42002024_0, fx_42002024_1, fx_42002024_2, fx_42002024_3, fx_42002024_4, fx_42002024_5, fx_42002024_6, fx_42002024_7, fx_42002024_8, fx_42002024_9, fx_42002024_10, fx_42002024_11, fx_42002024_12, fx_42002024_13, fx_42002024_14, fx_42002024_15, fx_42002024_16, fx_42002024_17, fx_42002024_18, fx_42002024_19, fx_43000008_0, fx_45000008_0, fx_47000008_0, fx_49000008_0, fx_51000008_0, fx_53000008_0, fx_55000008_0, fx_57000008_0, fx_59000008_0, fx_61000008_0, fx_63000008_0, fx_65000008_0, fx_67000008_0, fx_69000008_0, fx_71000008_0, fx_73000008_0, fx_75000008_0, fx_77000008_0, fx_79000008_0, fx_81000008_0, fx_83000424_0, fx_83000424_1, fx_83000424_2, fx_83000424_3, fx_85000004_0, fx_85000004_1, fx_85000004_2, fx_85000004_3, fx_85000004_4, fx_85000004_5, fx_85000004_6, fx_85000004_10, fx_102000008_0, fx_104000008_0, fx_106000008_0, fx_108000008_0, fx_110000011_1, fx_110000011_4, fx_110000011_5, fx_110000011_6, fx_110000011_9, fx_110000011_10, fx_110000011_11, fx_110000011_12, fx_110000011_14, fx_110000011_15, fx_110000011_20, fx_110000011_21, fx_110000011_22, fx_110000011_23, fx_110000011_25, fx_110000011_26, fx_110000011_31, fx_110000011_32, fx_110000011_37, fx_110000011_38, fx_110000011_39, fx_110000011_40, h4, p0, a3, b4, d3, e4, f3, g4, z1]
  | ok p =>
    rw [hL] at g2
    obtain ⟨⟨u, T2⟩, o1, o1'⟩ := bnd_ok hL
    obtain ⟨T4, o3, o3'⟩ := bnd_ok o1'
    obtain ⟨⟨a, T5⟩, o4, o4'⟩ := bnd_ok o3'
    obtain ⟨T6, o5, o5'⟩ := bnd_ok o4'
    obtain ⟨⟨b, T7⟩, o6, o6'⟩ := bnd_ok o5'
    have o3 : tkW 5 T2 = .ok T4 := o3
    have o4 : tkN 9 T4 = .ok (a, T5) := o4
    have o5 : tkW 6 T5 = .ok T6 := o5
    have o6 : tkN 9 T6 = .ok (b, T7) := o6
    have i4 : bnd (bnd (snx (tkU S.2.2.1 T.tail)) (tkW 5)) (tkN 9) = .ok (a, T5) := by
      rw [o1]
      show bnd (tkW 5 T2) (tkN 9) = _
      rw [o3]
      exact o4
    have ev : v = lN (b256 u) := b3 u T2 o1
    have ea : x5 = nI a := e3 a T5 i4
    have eb : x7 = nI b := g3 b T7 (by
      rw [i4]
      show bnd (tkW 6 T5) (tkN 9) = _
      rw [o5]
      exact o6)
    cases o6'
    subst ev ea eb
    obtain ⟨z1, z2, z3⟩ := g2.2.2 T7 rfl
    have k8 := c49b (d := d + 3) (μ := wL ν7 10000421 (S.1 1) (lN (b256 u))) hF7 p07 h0 (a := a) (b := b)
    have hr : ∀ x j, x ≠ 25000005 → x ≠ 33000420 → x ≠ 32000420 → rI (w49b (wL ν7 10000421 (S.1 1) (lN (b256 u))) (S.1 1) a b) x j = rI ν7 x j := fun x j m1 m2 m3 => by
      rw [w49b_r, if_neg (fun q => m1 q.1), if_neg (fun q => m2 q.1), if_neg (fun q => m3 q.1)]
      rfl
    have D7 : DFb ν7 (w49b (wL ν7 10000421 (S.1 1) (lN (b256 u))) (S.1 1) a b) := DFb_tr (DFb_wL ν7 _ (by omega)) (w49b_DF _ _ _ _)
    refine ⟨w49b (wL ν7 10000421 (S.1 1) (lN (b256 u))) (S.1 1) a b, DFb_tr (DFb_Q q7) D7, ?_, ?_, fun Q => ?_⟩
    · exact RC_Db D7 (hr _ _ (by decide) (by decide) (by decide)) (fun j => hr _ _ (by decide) (by decide) (by decide)) (fun j => by show rL (wL ν7 10000421 (S.1 1) (lN (b256 u))) 6000003 j = _; rw [rL_wL, if_neg (by omega)]) g2
    · intro p q
      cases q
      refine ⟨w49b_CP (CPb_o (fun _ _ _ _ => rfl) C7.1) hS.1.1.1 h0, DLb_o (fun x j q => hr x j (by omega) (by omega) (by omega)) C7.2.1, ?_, (hr _ _ (by decide) (by decide) (by decide)).trans C7.2.2.2⟩
      show NCr _ (S.2.2.1 ++ [(u, 100)]) (adF S.1 a b 0) (adF S.1 a b 1)
      have e0 : adF S.1 a b 0 = S.1 0 := by
        unfold adF
        rw [if_neg (by omega), if_neg (by omega), if_neg (by omega)]
      have e1 : adF S.1 a b 1 = S.1 1 + 1 := by
        unfold adF
        rw [if_pos rfl]
      rw [e0, e1]
      exact NCr_Q (fun _ => rfl) (fun _ => rfl) (NCr_F C7.2.2.1)
    · simp (disch := first | assumption | omega) only [r70_0, r70_1, r70_4, r70_7, r70_8, r70_11, r70_12, r70_13, r70_16, r70_17, r70_18, r70_21, r70_24, r70_25, r70_28, r70_29, r70_30, r70_31, r70_34, r70_35, r70_37, r70_40, r70_41, r70_42, r70_44, r70_47, r70_48, r70_50, r70_53, r70_55, r70_56, r70_59, r70_62, r70_63, r70_66, r70_67, r70_70, r70_73, r70_74, r70_75, r70_76, r70_79, r70_80, r70_82, r70_85, rI_wI, rL_wL, rR_wR, rI_wL, rI_wR, rL_wI, rL_wR, rR_wI, rR_wL, va_rf_some, va_rf_none, Option.toList_some, Option.toList_none, List.nil_append, List.cons_append, true_and, and_true, false_and, and_false, and_self, if_true, if_false, not_true_eq_false, not_false_eq_true, or_false, false_or, or_true, true_or, or_self, ite_true, ite_false, Option.some.injEq, reduceCtorEq, Nat.reduceMod, Nat.reduceDiv, Nat.reduceLeDiff, Nat.reduceEqDiff, Nat.reduceAdd, Nat.reduceMul, Nat.reduceSub, Nat.reduceLT, sw_nil, sw_int, sw_long, sw_ref, li, lo, nI_m1, ng_eq, nn_eq, en_eq, ng_le, ng_lt, Int32.neg_neg, nI_add, pk_mul, nI_clampO, nI_ltO, nI_leO, nI_eqO, nI_subO, nle_t, nle_f, nlt_t, nlt_f, neq_f, fx_2000010_0, fx_2000010_1, fx_2000010_4, fx_2000010_5, fx_2000010_6, fx_2000010_8, fx_2000010_10, fx_2000010_11, fx_2000010_12, fx_2000010_13, fx_2000010_14, fx_2000010_15, fx_2000010_16, fx_2000010_17, fx_2000010_18, fx_3000009_0, fx_5000007_0, fx_5000007_1, fx_5000007_2, fx_5000007_3, fx_7000001_0, fx_11000005_1, fx_11000005_2, fx_11000005_3, fx_11000005_4, fx_11000005_5, fx_11000005_6, fx_11000005_10, fx_11000005_11, fx_11000005_12, fx_20000002_0, fx_20000002_2, fx_20000002_3, fx_20000002_4, fx_25000005_1, fx_25000005_2, fx_25000005_3, fx_25000005_4, fx_25000005_5, fx_25000005_6, fx_25000005_10, fx_25000005_11, fx_25000005_12, fx_34000002_0, fx_34000002_2, fx_34000002_3, fx_34000002_4, fx_39000008_0, fx_41000006_0, fx_42002024_0, fx_42002024_1, fx_42002024_2, fx_42002024_3, fx_42002024_4, fx_42002024_5, fx_42002024_6, fx_42002024_7, fx_42002024_8, fx_42002024_9, fx_42002024_10, fx_42002024_11, fx_42002024_12, fx_42002024_13, fx_42002024_14, fx_42002024_15, fx_42002024_16, fx_42002024_17, fx_42002024_18, fx_42002024_19, fx_43000008_0, fx_45000008_0, fx_47000008_0, fx_49000008_0, fx_51000008_0, fx_53000008_0, fx_55000008_0, fx_57000008_0, fx_59000008_0, fx_61000008_0, fx_63000008_0, fx_65000008_0, fx_67000008_0, fx_69000008_0, fx_71000008_0, fx_73000008_0, fx_75000008_0, fx_77000008_0, fx_79000008_0, fx_81000008_0, fx_83000424_0, fx_83000424_1, fx_83000424_2, fx_83000424_3, fx_85000004_0, fx_85000004_1, fx_85000004_2, fx_85000004_3, fx_85000004_4, fx_85000004_5, fx_85000004_6, fx_85000004_10, fx_102000008_0, fx_104000008_0, fx_106000008_0, fx_108000008_0, fx_110000011_1, fx_110000011_4, fx_110000011_5, fx_110000011_6, fx_110000011_9, fx_110000011_10, fx_110000011_11, fx_110000011_12, fx_110000011_14, fx_110000011_15, fx_110000011_20, fx_110000011_21, fx_110000011_22, fx_110000011_23, fx_110000011_25, fx_110000011_26, fx_110000011_31, fx_110000011_32, fx_110000011_37, fx_110000011_38, fx_110000011_39, fx_110000011_40, h4, p0, a3, b4, d3, e4, f3, g4, z1, h47, p07, k8]
theorem c71b (hn : tp.length ≤ 1000) (hc : ∀ c, c ∈ tp → c < 127) (h : RC μ 25000005 tp (.ok T)) (hC : CSb μ S L0) (hS : SI S) (h30 : (hdT T).2.1 ≠ 30) {q : Nat} (hq : q = 1 ∨ q = 2) : ∃ ν, DFb μ ν ∧ RC ν 25000005 tp (snx (ln2 S q T.tail)) ∧ (∀ p, ln2 S q T.tail = .ok p → CSb ν p.1 L0) ∧ ∀ Q, R (d + 4) 71 0 [some (.ref 5000007), some (.int (nI (2 - q))), none, none] [] μ Q = Q none ν := by
  obtain ⟨ν1, a1, a2, a3⟩ := rcA (d := d + 1) hn hc h h30
  have a3 : ∀ Q, R (d + 3) 31 0 [some (.ref 6000003), none, none] [] μ Q = Q none ν1 := a3
  have C1 := CSb_Q a1 hC
  have hF := h.1.1
  have hF1 := a2.1.1
  obtain ⟨b1, b2⟩ := c78 (d := d + 2) hc a2 (by decide) hS.2.2.1 C1.2.2.1 hS.1.1.1 C1.1.1
  cases h1 : fdP S.2.2.1 T.tail with
  | error f =>
    obtain ⟨ν2, k1, k2, k3⟩ := b2 f h1
    rw [ln2_e1 h1]
    refine ⟨ν2, DFb_Q (QF_tr a1 k1), k2, fun p q => (by cases q), fun Q => ?_⟩
    simp (disch := first | assumption | omega) only [r71_0, r71_1, r71_4, r71_7, r71_8, r71_11, r71_12, r71_13, r71_14, r71_17, r71_18, r71_19, r71_22, r71_25, r71_26, r71_29, r71_30, r71_31, r71_32, r71_35, r71_36, r71_37, r71_38, r71_41, r71_42, r71_45, r71_46, r71_47, r71_50, r71_53, r71_54, r71_55, r71_58, r71_59, r71_60, r71_63, r71_66, r71_67, r71_70, r71_71, r71_72, r71_73, r71_76, rI_wI, rL_wL, rR_wR, rI_wL, rI_wR, rL_wI, rL_wR, rR_wI, rR_wL, va_rf_some, va_rf_none, Option.toList_some, Option.toList_none, List.nil_append, List.cons_append, true_and, and_true, false_and, and_false, and_self, if_true, if_false, not_true_eq_false, not_false_eq_true, or_false, false_or, or_true, true_or, or_self, ite_true, ite_false, Option.some.injEq, reduceCtorEq, Nat.reduceMod, Nat.reduceDiv, Nat.reduceLeDiff, Nat.reduceEqDiff, Nat.reduceAdd, Nat.reduceMul, Nat.reduceSub, Nat.reduceLT, sw_nil, sw_int, sw_long, sw_ref, li, lo, nI_m1, ng_eq, nn_eq, en_eq, ng_le, ng_lt, Int32.neg_neg, nI_add, pk_mul, nI_clampO, nI_ltO, nI_leO, nI_eqO, nI_subO, nle_t, nle_f, nlt_t, nlt_f, neq_f, fx_2000010_0, fx_2000010_1, fx_2000010_4, fx_2000010_5, fx_2000010_6, fx_2000010_8, fx_2000010_10, fx_2000010_11, fx_2000010_12, fx_2000010_13, fx_2000010_14, fx_2000010_15, fx_2000010_16, fx_2000010_17, fx_2000010_18, fx_3000009_0, fx_5000007_0, fx_5000007_1, fx_5000007_2, fx_5000007_3, fx_7000001_0, fx_11000005_1, fx_11000005_2, fx_11000005_3, fx_11000005_4, fx_11000005_5, fx_11000005_6, fx_11000005_10, fx_11000005_11, fx_11000005_12, fx_20000002_0, fx_20000002_2, fx_20000002_3, fx_20000002_4, fx_25000005_1, fx_25000005_2, fx_25000005_3, fx_25000005_4, fx_25000005_5, fx_25000005_6, fx_25000005_10, fx_25000005_11, fx_25000005_12, fx_34000002_0, fx_34000002_2, fx_34000002_3, fx_34000002_4, fx_39000008_0, fx_41000006_0, fx_42002024_0, fx_42002024_1, fx_42002024_2, fx_42002024_3, fx_42002024_4, fx_42002024_5, fx_42002024_6, fx_42002024_7, fx_42002024_8, fx_42002024_9, fx_42002024_10, fx_42002024_11, fx_42002024_12, fx_42002024_13, fx_42002024_14, fx_42002024_15, fx_42002024_16, fx_42002024_17, fx_42002024_18, fx_42002024_19, fx_43000008_0, fx_45000008_0, fx_47000008_0, fx_49000008_0, fx_51000008_0, fx_53000008_0, fx_55000008_0, fx_57000008_0, fx_59000008_0, fx_61000008_0, fx_63000008_0, fx_65000008_0, fx_67000008_0, fx_69000008_0, fx_71000008_0, fx_73000008_0, fx_75000008_0, fx_77000008_0, fx_79000008_0, fx_81000008_0, fx_83000424_0, fx_83000424_1, fx_83000424_2, fx_83000424_3, fx_85000004_0, fx_85000004_1, fx_85000004_2, fx_85000004_3, fx_85000004_4, fx_85000004_5, fx_85000004_6, fx_85000004_10, fx_102000008_0, fx_104000008_0, fx_106000008_0, fx_108000008_0, fx_110000011_1, fx_110000011_4, fx_110000011_5, fx_110000011_6, fx_110000011_9, fx_110000011_10, fx_110000011_11, fx_110000011_12, fx_110000011_14, fx_110000011_15, fx_110000011_20, fx_110000011_21, fx_110000011_22, fx_110000011_23, fx_110000011_25, fx_110000011_26, fx_110000011_31, fx_110000011_32, fx_110000011_37, fx_110000011_38, fx_110000011_39, fx_110000011_40, a3, k3]
  | ok i =>
    have k3 := b1 i h1
    have i7 := (fdP_ok h1).2.2
    have ip := fdP_lt hS h1
    obtain ⟨ν2, e1, e2, e3⟩ := rcA (d := d + 1) hn hc a2 (by have := (fdP_ok h1).1.2; omega)
    have e3 : ∀ Q, R (d + 3) 31 0 [some (.ref 6000003), none, none] [] ν1 Q = Q none ν2 := e3
    have C2 := CSb_Q e1 C1
    have hF2 := e2.1.1
    have h42 := e2.1.2.2.2.2
    obtain ⟨f1, f2⟩ := c78 (d := d + 2) hc e2 (by decide) hS.2.2.1 C2.2.2.1 hS.1.1.1 C2.1.1
    cases h2 : fdP S.2.2.1 T.tail.tail with
    | error f =>
      obtain ⟨ν3, l1, l2, l3⟩ := f2 f h2
      rw [ln2_e2 h1 h2]
      refine ⟨ν3, DFb_Q (QF_tr a1 (QF_tr e1 l1)), l2, fun p q => (by cases q), fun Q => ?_⟩
      simp (disch := first | assumption | omega) only [r71_0, r71_1, r71_4, r71_7, r71_8, r71_11, r71_12, r71_13, r71_14, r71_17, r71_18, r71_19, r71_22, r71_25, r71_26, r71_29, r71_30, r71_31, r71_32, r71_35, r71_36, r71_37, r71_38, r71_41, r71_42, r71_45, r71_46, r71_47, r71_50, r71_53, r71_54, r71_55, r71_58, r71_59, r71_60, r71_63, r71_66, r71_67, r71_70, r71_71, r71_72, r71_73, r71_76, rI_wI, rL_wL, rR_wR, rI_wL, rI_wR, rL_wI, rL_wR, rR_wI, rR_wL, va_rf_some, va_rf_none, Option.toList_some, Option.toList_none, List.nil_append, List.cons_append, true_and, and_true, false_and, and_false, and_self, if_true, if_false, not_true_eq_false, not_false_eq_true, or_false, false_or, or_true, true_or, or_self, ite_true, ite_false, Option.some.injEq, reduceCtorEq, Nat.reduceMod, Nat.reduceDiv, Nat.reduceLeDiff, Nat.reduceEqDiff, Nat.reduceAdd, Nat.reduceMul, Nat.reduceSub, Nat.reduceLT, sw_nil, sw_int, sw_long, sw_ref, li, lo, nI_m1, ng_eq, nn_eq, en_eq, ng_le, ng_lt, Int32.neg_neg, nI_add, pk_mul, nI_clampO, nI_ltO, nI_leO, nI_eqO, nI_subO, nle_t, nle_f, nlt_t, nlt_f, neq_f, fx_2000010_0, fx_2000010_1, fx_2000010_4, fx_2000010_5, fx_2000010_6, fx_2000010_8, fx_2000010_10, fx_2000010_11, fx_2000010_12, fx_2000010_13, fx_2000010_14, fx_2000010_15, fx_2000010_16, fx_2000010_17, fx_2000010_18, fx_3000009_0, fx_5000007_0, fx_5000007_1, fx_5000007_2, fx_5000007_3, fx_7000001_0, fx_11000005_1, fx_11000005_2, fx_11000005_3, fx_11000005_4, fx_11000005_5, fx_11000005_6, fx_11000005_10, fx_11000005_11, fx_11000005_12, fx_20000002_0, fx_20000002_2, fx_20000002_3, fx_20000002_4, fx_25000005_1, fx_25000005_2, fx_25000005_3, fx_25000005_4, fx_25000005_5, fx_25000005_6, fx_25000005_10, fx_25000005_11, fx_25000005_12, fx_34000002_0, fx_34000002_2, fx_34000002_3, fx_34000002_4, fx_39000008_0, fx_41000006_0, fx_42002024_0, fx_42002024_1, fx_42002024_2, fx_42002024_3, fx_42002024_4, fx_42002024_5, fx_42002024_6, fx_42002024_7, fx_42002024_8, fx_42002024_9, fx_42002024_10, fx_42002024_11, fx_42002024_12, fx_42002024_13, fx_42002024_14, fx_42002024_15, fx_42002024_16, fx_42002024_17, fx_42002024_18, fx_42002024_19, fx_43000008_0, fx_45000008_0, fx_47000008_0, fx_49000008_0, fx_51000008_0, fx_53000008_0, fx_55000008_0, fx_57000008_0, fx_59000008_0, fx_61000008_0, fx_63000008_0, fx_65000008_0, fx_67000008_0, fx_69000008_0, fx_71000008_0, fx_73000008_0, fx_75000008_0, fx_77000008_0, fx_79000008_0, fx_81000008_0, fx_83000424_0, fx_83000424_1, fx_83000424_2, fx_83000424_3, fx_85000004_0, fx_85000004_1, fx_85000004_2, fx_85000004_3, fx_85000004_4, fx_85000004_5, fx_85000004_6, fx_85000004_10, fx_102000008_0, fx_104000008_0, fx_106000008_0, fx_108000008_0, fx_110000011_1, fx_110000011_4, fx_110000011_5, fx_110000011_6, fx_110000011_9, fx_110000011_10, fx_110000011_11, fx_110000011_12, fx_110000011_14, fx_110000011_15, fx_110000011_20, fx_110000011_21, fx_110000011_22, fx_110000011_23, fx_110000011_25, fx_110000011_26, fx_110000011_31, fx_110000011_32, fx_110000011_37, fx_110000011_38, fx_110000011_39, fx_110000011_40, a3, k3, e3, l3]
    | ok j =>
      have l3 := f1 j h2
      have j7 := (fdP_ok h2).2.2
      have jp := fdP_lt hS h2
      obtain ⟨m1, m2⟩ := c73 (d := d + 3) hc e2 (k := 3) (by omega) (by omega)
      obtain ⟨n1, n2⟩ := c50b (d := d + 3) hF2 C2.1 hS.1 i7 j7
      by_cases hij : i = j
      · rw [ln2_e3 h1 h2 (Or.inl hij)]
        subst hij
        refine ⟨_, DFb_Q (QF_tr a1 (QF_tr e1 (QF_w ν2 _))), m1, fun p q => (by cases q), fun Q => ?_⟩
        simp (disch := first | assumption | omega) only [r71_0, r71_1, r71_4, r71_7, r71_8, r71_11, r71_12, r71_13, r71_14, r71_17, r71_18, r71_19, r71_22, r71_25, r71_26, r71_29, r71_30, r71_31, r71_32, r71_35, r71_36, r71_37, r71_38, r71_41, r71_42, r71_45, r71_46, r71_47, r71_50, r71_53, r71_54, r71_55, r71_58, r71_59, r71_60, r71_63, r71_66, r71_67, r71_70, r71_71, r71_72, r71_73, r71_76, rI_wI, rL_wL, rR_wR, rI_wL, rI_wR, rL_wI, rL_wR, rR_wI, rR_wL, va_rf_some, va_rf_none, Option.toList_some, Option.toList_none, List.nil_append, List.cons_append, true_and, and_true, false_and, and_false, and_self, if_true, if_false, not_true_eq_false, not_false_eq_true, or_false, false_or, or_true, true_or, or_self, ite_true, ite_false, Option.some.injEq, reduceCtorEq, Nat.reduceMod, Nat.reduceDiv, Nat.reduceLeDiff, Nat.reduceEqDiff, Nat.reduceAdd, Nat.reduceMul, Nat.reduceSub, Nat.reduceLT, sw_nil, sw_int, sw_long, sw_ref, li, lo, nI_m1, ng_eq, nn_eq, en_eq, ng_le, ng_lt, Int32.neg_neg, nI_add, pk_mul, nI_clampO, nI_ltO, nI_leO, nI_eqO, nI_subO, nle_t, nle_f, nlt_t, nlt_f, neq_f, fx_2000010_0, fx_2000010_1, fx_2000010_4, fx_2000010_5, fx_2000010_6, fx_2000010_8, fx_2000010_10, fx_2000010_11, fx_2000010_12, fx_2000010_13, fx_2000010_14, fx_2000010_15, fx_2000010_16, fx_2000010_17, fx_2000010_18, fx_3000009_0, fx_5000007_0, fx_5000007_1, fx_5000007_2, fx_5000007_3, fx_7000001_0, fx_11000005_1, fx_11000005_2, fx_11000005_3, fx_11000005_4, fx_11000005_5, fx_11000005_6, fx_11000005_10, fx_11000005_11, fx_11000005_12, fx_20000002_0, fx_20000002_2, fx_20000002_3, fx_20000002_4, fx_25000005_1, fx_25000005_2, fx_25000005_3, fx_25000005_4, fx_25000005_5, fx_25000005_6, fx_25000005_10, fx_25000005_11, fx_25000005_12, fx_34000002_0, fx_34000002_2, fx_34000002_3, fx_34000002_4, fx_39000008_0, fx_41000006_0, fx_42002024_0, fx_42002024_1, fx_42002024_2, fx_42002024_3, fx_42002024_4, fx_42002024_5, fx_42002024_6, fx_42002024_7, fx_42002024_8, fx_42002024_9, fx_42002024_10, fx_42002024_11, fx_42002024_12, fx_42002024_13, fx_42002024_14, fx_42002024_15, fx_42002024_16, fx_42002024_17, fx_42002024_18, fx_42002024_19, fx_43000008_0, fx_45000008_0, fx_47000008_0, fx_49000008_0, fx_51000008_0, fx_53000008_0, fx_55000008_0, fx_57000008_0, fx_59000008_0, fx_61000008_0, fx_63000008_0, fx_65000008_0, fx_67000008_0, fx_69000008_0, fx_71000008_0, fx_73000008_0, fx_75000008_0, fx_77000008_0, fx_79000008_0, fx_81000008_0, fx_83000424_0, fx_83000424_1, fx_83000424_2, fx_83000424_3, fx_85000004_0, fx_85000004_1, fx_85000004_2, fx_85000004_3, fx_85000004_4, fx_85000004_5, fx_85000004_6, fx_85000004_10, fx_102000008_0, fx_104000008_0, fx_106000008_0, fx_108000008_0, fx_110000011_1, fx_110000011_4, fx_110000011_5, fx_110000011_6, fx_110000011_9, fx_110000011_10, fx_110000011_11, fx_110000011_12, fx_110000011_14, fx_110000011_15, fx_110000011_20, fx_110000011_21, fx_110000011_22, fx_110000011_23, fx_110000011_25, fx_110000011_26, fx_110000011_31, fx_110000011_32, fx_110000011_37, fx_110000011_38, fx_110000011_39, fx_110000011_40, a3, k3, e3, l3, m2]
      · by_cases hz : tw S.1 i j = 0
        · rw [ln2_o h1 h2 hij hz]
          obtain ⟨ν4, u1, u2, u3⟩ := rcA (d := d + 1) hn hc e2 (by have := (fdP_ok h2).1.2; omega)
          have u3 : ∀ Q, R (d + 3) 31 0 [some (.ref 6000003), none, none] [] ν2 Q = Q none ν4 := u3
          have C4 := CSb_Q u1 C2
          have hF4 := u2.1.1
          have h44 := u2.1.2.2.2.2
          have n2' := n2 hz
          have q4 : QF μ ν4 := QF_tr a1 (QF_tr e1 u1)
          rcases hq with rfl | rfl
          · have w1 := c51pb (d := d + 3) hF4 C4.1 i7 j7 hij
            have D4 := w51b_DF ν4 (B := 30000720) (Or.inl rfl) 7 i j (bsN S.1 1 i ||| 2 ^ j) (bsN S.1 1 j ||| 2 ^ i) (twN S.1 1)
            have hr : ∀ x y, x ≠ 25000005 → x ≠ 30000720 → rI (w51b ν4 30000720 7 i j (bsN S.1 1 i ||| 2 ^ j) (bsN S.1 1 j ||| 2 ^ i) (twN S.1 1)) x y = rI ν4 x y := fun x y m1 m2 => by
              rw [w51b_r, if_neg (fun q => m1 q.1), if_neg (fun q => m2 q.1), if_neg (fun q => m2 q.1)]
            refine ⟨_, DFb_tr (DFb_Q q4) D4, RC_Db D4 (hr _ _ (by decide) (by decide)) (fun j => hr _ _ (by decide) (by decide)) (fun _ => rfl) u2, fun p q => ?_, fun Q => ?_⟩
            · cases q
              refine ⟨w51pb_CP C4.1 hS.1 ip jp hij hz, DLb_o (fun x j q => hr x j (by omega) (by omega)) C4.2.1, ?_, (hr _ _ (by decide) (by decide)).trans C4.2.2.2⟩
              show NCr _ S.2.2.1 (adT S.1 i j 1 0) (adT S.1 i j 1 1)
              rw [adT_o (by omega), adT_o (by omega)]
              exact NCr_Q (fun _ => rfl) (fun _ => rfl) C4.2.2.1
            · simp (disch := first | assumption | omega) only [r71_0, r71_1, r71_4, r71_7, r71_8, r71_11, r71_12, r71_13, r71_14, r71_17, r71_18, r71_19, r71_22, r71_25, r71_26, r71_29, r71_30, r71_31, r71_32, r71_35, r71_36, r71_37, r71_38, r71_41, r71_42, r71_45, r71_46, r71_47, r71_50, r71_53, r71_54, r71_55, r71_58, r71_59, r71_60, r71_63, r71_66, r71_67, r71_70, r71_71, r71_72, r71_73, r71_76, rI_wI, rL_wL, rR_wR, rI_wL, rI_wR, rL_wI, rL_wR, rR_wI, rR_wL, va_rf_some, va_rf_none, Option.toList_some, Option.toList_none, List.nil_append, List.cons_append, true_and, and_true, false_and, and_false, and_self, if_true, if_false, not_true_eq_false, not_false_eq_true, or_false, false_or, or_true, true_or, or_self, ite_true, ite_false, Option.some.injEq, reduceCtorEq, Nat.reduceMod, Nat.reduceDiv, Nat.reduceLeDiff, Nat.reduceEqDiff, Nat.reduceAdd, Nat.reduceMul, Nat.reduceSub, Nat.reduceLT, sw_nil, sw_int, sw_long, sw_ref, li, lo, nI_m1, ng_eq, nn_eq, en_eq, ng_le, ng_lt, Int32.neg_neg, nI_add, pk_mul, nI_clampO, nI_ltO, nI_leO, nI_eqO, nI_subO, nle_t, nle_f, nlt_t, nlt_f, neq_f, fx_2000010_0, fx_2000010_1, fx_2000010_4, fx_2000010_5, fx_2000010_6, fx_2000010_8, fx_2000010_10, fx_2000010_11, fx_2000010_12, fx_2000010_13, fx_2000010_14, fx_2000010_15, fx_2000010_16, fx_2000010_17, fx_2000010_18, fx_3000009_0, fx_5000007_0, fx_5000007_1, fx_5000007_2, fx_5000007_3, fx_7000001_0, fx_11000005_1, fx_11000005_2, fx_11000005_3, fx_11000005_4, fx_11000005_5, fx_11000005_6, fx_11000005_10, fx_11000005_11, fx_11000005_12, fx_20000002_0, fx_20000002_2, fx_20000002_3, fx_20000002_4, fx_25000005_1, fx_25000005_2, fx_25000005_3, fx_25000005_4, fx_25000005_5, fx_25000005_6, fx_25000005_10, fx_25000005_11, fx_25000005_12, fx_34000002_0, fx_34000002_2, fx_34000002_3, fx_34000002_4, fx_39000008_0, fx_41000006_0, fx_42002024_0, fx_42002024_1, fx_42002024_2, fx_42002024_3, fx_42002024_4, fx_42002024_5, fx_42002024_6, fx_42002024_7, fx_42002024_8, fx_42002024_9, fx_42002024_10, fx_42002024_11, fx_42002024_12, fx_42002024_13, fx_42002024_14, fx_42002024_15, fx_42002024_16, fx_42002024_17, fx_42002024_18, fx_42002024_19, fx_43000008_0, fx_45000008_0, fx_47000008_0, fx_49000008_0, fx_51000008_0, fx_53000008_0, fx_55000008_0, fx_57000008_0, fx_59000008_0, fx_61000008_0, fx_63000008_0, fx_65000008_0, fx_67000008_0, fx_69000008_0, fx_71000008_0, fx_73000008_0, fx_75000008_0, fx_77000008_0, fx_79000008_0, fx_81000008_0, fx_83000424_0, fx_83000424_1, fx_83000424_2, fx_83000424_3, fx_85000004_0, fx_85000004_1, fx_85000004_2, fx_85000004_3, fx_85000004_4, fx_85000004_5, fx_85000004_6, fx_85000004_10, fx_102000008_0, fx_104000008_0, fx_106000008_0, fx_108000008_0, fx_110000011_1, fx_110000011_4, fx_110000011_5, fx_110000011_6, fx_110000011_9, fx_110000011_10, fx_110000011_11, fx_110000011_12, fx_110000011_14, fx_110000011_15, fx_110000011_20, fx_110000011_21, fx_110000011_22, fx_110000011_23, fx_110000011_25, fx_110000011_26, fx_110000011_31, fx_110000011_32, fx_110000011_37, fx_110000011_38, fx_110000011_39, fx_110000011_40, a3, k3, e3, l3, h42, n2', u3, h44, w1]
          · have w1 := c51qb (d := d + 3) hF4 C4.1 i7 j7 hij
            have D4 := w51b_DF ν4 (B := 31000720) (Or.inr rfl) 8 i j (bsN S.1 2 i ||| 2 ^ j) (bsN S.1 2 j ||| 2 ^ i) (twN S.1 2)
            have hr : ∀ x y, x ≠ 25000005 → x ≠ 31000720 → rI (w51b ν4 31000720 8 i j (bsN S.1 2 i ||| 2 ^ j) (bsN S.1 2 j ||| 2 ^ i) (twN S.1 2)) x y = rI ν4 x y := fun x y m1 m2 => by
              rw [w51b_r, if_neg (fun q => m1 q.1), if_neg (fun q => m2 q.1), if_neg (fun q => m2 q.1)]
            refine ⟨_, DFb_tr (DFb_Q q4) D4, RC_Db D4 (hr _ _ (by decide) (by decide)) (fun j => hr _ _ (by decide) (by decide)) (fun _ => rfl) u2, fun p q => ?_, fun Q => ?_⟩
            · cases q
              refine ⟨w51qb_CP C4.1 hS.1 ip jp hij hz, DLb_o (fun x j q => hr x j (by omega) (by omega)) C4.2.1, ?_, (hr _ _ (by decide) (by decide)).trans C4.2.2.2⟩
              show NCr _ S.2.2.1 (adT S.1 i j 2 0) (adT S.1 i j 2 1)
              rw [adT_o (by omega), adT_o (by omega)]
              exact NCr_Q (fun _ => rfl) (fun _ => rfl) C4.2.2.1
            · simp (disch := first | assumption | omega) only [r71_0, r71_1, r71_4, r71_7, r71_8, r71_11, r71_12, r71_13, r71_14, r71_17, r71_18, r71_19, r71_22, r71_25, r71_26, r71_29, r71_30, r71_31, r71_32, r71_35, r71_36, r71_37, r71_38, r71_41, r71_42, r71_45, r71_46, r71_47, r71_50, r71_53, r71_54, r71_55, r71_58, r71_59, r71_60, r71_63, r71_66, r71_67, r71_70, r71_71, r71_72, r71_73, r71_76, rI_wI, rL_wL, rR_wR, rI_wL, rI_wR, rL_wI, rL_wR, rR_wI, rR_wL, va_rf_some, va_rf_none, Option.toList_some, Option.toList_none, List.nil_append, List.cons_append, true_and, and_true, false_and, and_false, and_self, if_true, if_false, not_true_eq_false, not_false_eq_true, or_false, false_or, or_true, true_or, or_self, ite_true, ite_false, Option.some.injEq, reduceCtorEq, Nat.reduceMod, Nat.reduceDiv, Nat.reduceLeDiff, Nat.reduceEqDiff, Nat.reduceAdd, Nat.reduceMul, Nat.reduceSub, Nat.reduceLT, sw_nil, sw_int, sw_long, sw_ref, li, lo, nI_m1, ng_eq, nn_eq, en_eq, ng_le, ng_lt, Int32.neg_neg, nI_add, pk_mul, nI_clampO, nI_ltO, nI_leO, nI_eqO, nI_subO, nle_t, nle_f, nlt_t, nlt_f, neq_f, fx_2000010_0, fx_2000010_1, fx_2000010_4, fx_2000010_5, fx_2000010_6, fx_2000010_8, fx_2000010_10, fx_2000010_11, fx_2000010_12, fx_2000010_13, fx_2000010_14, fx_2000010_15, fx_2000010_16, fx_2000010_17, fx_2000010_18, fx_3000009_0, fx_5000007_0, fx_5000007_1, fx_5000007_2, fx_5000007_3, fx_7000001_0, fx_11000005_1, fx_11000005_2, fx_11000005_3, fx_11000005_4, fx_11000005_5, fx_11000005_6, fx_11000005_10, fx_11000005_11, fx_11000005_12, fx_20000002_0, fx_20000002_2, fx_20000002_3, fx_20000002_4, fx_25000005_1, fx_25000005_2, fx_25000005_3, fx_25000005_4, fx_25000005_5, fx_25000005_6, fx_25000005_10, fx_25000005_11, fx_25000005_12, fx_34000002_0, fx_34000002_2, fx_34000002_3, fx_34000002_4, fx_39000008_0, fx_41000006_0, fx_42002024_0, fx_42002024_1, fx_42002024_2, fx_42002024_3, fx_42002024_4, fx_42002024_5, fx_42002024_6, fx_42002024_7, fx_42002024_8, fx_42002024_9, fx_42002024_10, fx_42002024_11, fx_42002024_12, fx_42002024_13, fx_42002024_14, fx_42002024_15, fx_42002024_16, fx_42002024_17, fx_42002024_18, fx_42002024_19, fx_43000008_0, fx_45000008_0, fx_47000008_0, fx_49000008_0, fx_51000008_0, fx_53000008_0, fx_55000008_0, fx_57000008_0, fx_59000008_0, fx_61000008_0, fx_63000008_0, fx_65000008_0, fx_67000008_0, fx_69000008_0, fx_71000008_0, fx_73000008_0, fx_75000008_0, fx_77000008_0, fx_79000008_0, fx_81000008_0, fx_83000424_0, fx_83000424_1, fx_83000424_2, fx_83000424_3, fx_85000004_0, fx_85000004_1, fx_85000004_2, fx_85000004_3, fx_85000004_4, fx_85000004_5, fx_85000004_6, fx_85000004_10, fx_102000008_0, fx_104000008_0, fx_106000008_0, fx_108000008_0, fx_110000011_1, fx_110000011_4, fx_110000011_5, fx_110000011_6, fx_110000011_9, fx_110000011_10, fx_110000011_11, fx_110000011_12, fx_110000011_14, fx_110000011_15, fx_110000011_20, fx_110000011_21, fx_110000011_22, fx_110000011_23, fx_110000011_25, fx_110000011_26, fx_110000011_31, fx_110000011_32, fx_110000011_37, fx_110000011_38, fx_110000011_39, fx_110000011_40, a3, k3, e3, l3, h42, n2', u3, h44, w1]
        · rw [ln2_e3 h1 h2 (Or.inr hz)]
          have n1' := n1 hz
          refine ⟨_, DFb_Q (QF_tr a1 (QF_tr e1 (QF_w ν2 _))), m1, fun p q => (by cases q), fun Q => ?_⟩
          simp (disch := first | assumption | omega) only [r71_0, r71_1, r71_4, r71_7, r71_8, r71_11, r71_12, r71_13, r71_14, r71_17, r71_18, r71_19, r71_22, r71_25, r71_26, r71_29, r71_30, r71_31, r71_32, r71_35, r71_36, r71_37, r71_38, r71_41, r71_42, r71_45, r71_46, r71_47, r71_50, r71_53, r71_54, r71_55, r71_58, r71_59, r71_60, r71_63, r71_66, r71_67, r71_70, r71_71, r71_72, r71_73, r71_76, rI_wI, rL_wL, rR_wR, rI_wL, rI_wR, rL_wI, rL_wR, rR_wI, rR_wL, va_rf_some, va_rf_none, Option.toList_some, Option.toList_none, List.nil_append, List.cons_append, true_and, and_true, false_and, and_false, and_self, if_true, if_false, not_true_eq_false, not_false_eq_true, or_false, false_or, or_true, true_or, or_self, ite_true, ite_false, Option.some.injEq, reduceCtorEq, Nat.reduceMod, Nat.reduceDiv, Nat.reduceLeDiff, Nat.reduceEqDiff, Nat.reduceAdd, Nat.reduceMul, Nat.reduceSub, Nat.reduceLT, sw_nil, sw_int, sw_long, sw_ref, li, lo, nI_m1, ng_eq, nn_eq, en_eq, ng_le, ng_lt, Int32.neg_neg, nI_add, pk_mul, nI_clampO, nI_ltO, nI_leO, nI_eqO, nI_subO, nle_t, nle_f, nlt_t, nlt_f, neq_f, fx_2000010_0, fx_2000010_1, fx_2000010_4, fx_2000010_5, fx_2000010_6, fx_2000010_8, fx_2000010_10, fx_2000010_11, fx_2000010_12, fx_2000010_13, fx_2000010_14, fx_2000010_15, fx_2000010_16, fx_2000010_17, fx_2000010_18, fx_3000009_0, fx_5000007_0, fx_5000007_1, fx_5000007_2, fx_5000007_3, fx_7000001_0, fx_11000005_1, fx_11000005_2, fx_11000005_3, fx_11000005_4, fx_11000005_5, fx_11000005_6, fx_11000005_10, fx_11000005_11, fx_11000005_12, fx_20000002_0, fx_20000002_2, fx_20000002_3, fx_20000002_4, fx_25000005_1, fx_25000005_2, fx_25000005_3, fx_25000005_4, fx_25000005_5, fx_25000005_6, fx_25000005_10, fx_25000005_11, fx_25000005_12, fx_34000002_0, fx_34000002_2, fx_34000002_3, fx_34000002_4, fx_39000008_0, fx_41000006_0, fx_42002024_0, fx_42002024_1, fx_42002024_2, fx_42002024_3, fx_42002024_4, fx_42002024_5, fx_42002024_6, fx_42002024_7, fx_42002024_8, fx_42002024_9, fx_42002024_10, fx_42002024_11, fx_42002024_12, fx_42002024_13, fx_42002024_14, fx_42002024_15, fx_42002024_16, fx_42002024_17, fx_42002024_18, fx_42002024_19, fx_43000008_0, fx_45000008_0, fx_47000008_0, fx_49000008_0, fx_51000008_0, fx_53000008_0, fx_55000008_0, fx_57000008_0, fx_59000008_0, fx_61000008_0, fx_63000008_0, fx_65000008_0, fx_67000008_0, fx_69000008_0, fx_71000008_0, fx_73000008_0, fx_75000008_0, fx_77000008_0, fx_79000008_0, fx_81000008_0, fx_83000424_0, fx_83000424_1, fx_83000424_2, fx_83000424_3, fx_85000004_0, fx_85000004_1, fx_85000004_2, fx_85000004_3, fx_85000004_4, fx_85000004_5, fx_85000004_6, fx_85000004_10, fx_102000008_0, fx_104000008_0, fx_106000008_0, fx_108000008_0, fx_110000011_1, fx_110000011_4, fx_110000011_5, fx_110000011_6, fx_110000011_9, fx_110000011_10, fx_110000011_11, fx_110000011_12, fx_110000011_14, fx_110000011_15, fx_110000011_20, fx_110000011_21, fx_110000011_22, fx_110000011_23, fx_110000011_25, fx_110000011_26, fx_110000011_31, fx_110000011_32, fx_110000011_37, fx_110000011_38, fx_110000011_39, fx_110000011_40, a3, k3, e3, l3, h42, n1', m2]
end T1
