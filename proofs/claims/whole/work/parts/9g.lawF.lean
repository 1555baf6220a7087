/-! A LAW READ: THE CLASS'S LOOP -/
theorem TX_pl {μ : PM} {tp : List Nat} {t : Tok} {T : List Tok} (h : TX μ tp (t :: T)) : t.1 ≤ tp.length := by
  obtain ⟨k, h1, h2, -⟩ := h
  have e : t = tok tp k := h2.1
  obtain ⟨a1, a2⟩ := en_le isW tp h1
  rw [e]
  unfold tok
  by_cases z : tp.length ≤ en isW tp k
  · rw [tokA_e z]; exact a2
  · rw [(tokA_n (show en isW tp k < tp.length by omega)).2.1]; exact a2
theorem rk_30n {t : Nat} (h : 1 ≤ rk t) : t ≠ 30 := fun q => by rw [q, rk_30] at h; omega
theorem fx_n7 : ∀ q, q ∈ fxL → ¬ (q.1 = 7000001 ∧ q.2.1 = 4) := by decide +kernel
section T1
variable {d : Nat} {μ : PM} {tp : List Nat}
def IFa (L0 k : Nat) (μ ν : PM) : Prop := (∀ a j, ¬ ((a = 7000001 ∧ (j = 1 ∨ j = 2 ∨ j = 3)) ∨ a = 8006420 ∨ (a = 20000002 ∧ j = 1) ∨ a = 21100020 ∨ a = 6000003 ∨ (a = 23000320 ∧ j = k)) → rI ν a j = rI μ a j) ∧ (∀ j, j < L0 → rI ν 21100020 j = rI μ 21100020 j) ∧ (∀ a j, a ≠ 6000003 → rL ν a j = rL μ a j) ∧ (∀ a j, rR ν a j = rR μ a j) ∧ aS ν = aS μ
theorem IFa_tr {L0 k : Nat} {μ ν ρ : PM} (h : IFa L0 k μ ν) (k' : IFa L0 k ν ρ) : IFa L0 k μ ρ := ⟨fun a j q => (k'.1 a j q).trans (h.1 a j q), fun j q => (k'.2.1 j q).trans (h.2.1 j q), fun a j q => (k'.2.2.1 a j q).trans (h.2.2.1 a j q), fun a j => (k'.2.2.2.1 a j).trans (h.2.2.2.1 a j), k'.2.2.2.2.trans h.2.2.2.2⟩
theorem IFa_H {L0 k : Nat} {μ ν : PM} (h : HFa L0 μ ν) : IFa L0 k μ ν := ⟨fun a j q => h.1 a j (fun e => q (by omega)), h.2.1, h.2.2.1, h.2.2.2.1, h.2.2.2.2⟩
theorem IFa_e (L0 k : Nat) (μ : PM) (x : Int32) : IFa L0 k μ (wI μ 23000320 k x) := ⟨fun a j q => by rw [rI_wI, if_neg (fun e => q (by omega))], fun j _ => by rw [rI_wI, if_neg (by omega)], fun _ _ _ => rfl, fun _ _ => rfl, rfl⟩
theorem c8a_l (hn : tp.length ≤ 1000) (hc : ∀ c, c ∈ tp → c < 127) {L0 k : Nat} (hk : k < 3) : ∀ (T : List Tok) (σ : List Nat) (du : Bool) (κ : List Cod) (i : Nat) (μ : PM) (v5 : Option Value), LSa μ tp L0 σ du κ → wfs σ → nst σ ≤ 5 → (du = false → σ.headD 30 ≠ 23) → TX μ tp T → L0 + κ.length + σ.length + T.length ≤ 1000 → i + T.length ≤ 1001 →
    (∀ f, mac k T σ du κ = .error f → ∃ ν kd pl, IFa L0 k μ ν ∧ (kd = 1 ∨ kd = 5) ∧ rI ν 6000003 3 = nI pl ∧ f = kd + 16 * pl ∧ pl ≤ 1000 ∧ ∀ Q, R (d + 4) 8 31 [some (.ref 7000001), some (.ref 6000003), some (.ref 20000002), some (.int (nI (7 + k))), some (.int (nI i)), v5] [] μ Q = Q (some (.int (nI kd))) ν) ∧
    (∀ κ' T', mac k T σ du κ = .ok (κ', T') → ∃ ν, IFa L0 k μ ν ∧ TX ν tp T' ∧ KSa ν L0 κ' ∧ rI ν 23000320 k = nI (L0 + κ'.length) ∧ L0 + κ'.length + T'.length ≤ 1000 ∧ ∀ Q, R (d + 4) 8 31 [some (.ref 7000001), some (.ref 6000003), some (.ref 20000002), some (.int (nI (7 + k))), some (.int (nI i)), v5] [] μ Q = Q (some (.int (nI 0))) ν) := by
  intro T
  induction T with
  | nil => intro σ du κ i μ v5 _ _ _ _ h; exact (TX_n h).elim
  | cons t T ih =>
    intro σ du κ i μ v5 hS hw hns h23 hT hb hi
    have hb' : L0 + κ.length + σ.length + (T.length + 1) ≤ 1000 := by simpa using hb
    have hi' : i + (T.length + 1) ≤ 1001 := by simpa using hi
    obtain ⟨hx, hx8⟩ := TX_c hT hc
    have hpl := TX_pl hT
    have x2 := hx.2.1
    have hSS := hS
    obtain ⟨hF, hCT, hKW, h6, h4, hW, h2, h3, hK⟩ := hSS
    obtain ⟨wl, wo⟩ := wfs_len hw hns
    -- going on
    have go : ∀ σ' du' κ' ν, GFa L0 μ ν → LSa ν tp L0 σ' du' κ' → wfs σ' → nst σ' ≤ 5 → (du' = false → σ'.headD 30 ≠ 23) → κ'.length + σ'.length ≤ κ.length + σ.length + 1 → t.2.1 ≠ 30 → (∀ Q, R (d + 4) 8 31 [some (.ref 7000001), some (.ref 6000003), some (.ref 20000002), some (.int (nI (7 + k))), some (.int (nI i)), v5] [] μ Q = R (d + 4) 8 111 [some (.ref 7000001), some (.ref 6000003), some (.ref 20000002), some (.int (nI (7 + k))), some (.int (nI i)), some (.int (nI 0))] [] ν Q) →
        (∀ f, mac k T σ' du' κ' = .error f → ∃ ν kd pl, IFa L0 k μ ν ∧ (kd = 1 ∨ kd = 5) ∧ rI ν 6000003 3 = nI pl ∧ f = kd + 16 * pl ∧ pl ≤ 1000 ∧ ∀ Q, R (d + 4) 8 31 [some (.ref 7000001), some (.ref 6000003), some (.ref 20000002), some (.int (nI (7 + k))), some (.int (nI i)), v5] [] μ Q = Q (some (.int (nI kd))) ν) ∧
        (∀ κ'' T', mac k T σ' du' κ' = .ok (κ'', T') → ∃ ν, IFa L0 k μ ν ∧ TX ν tp T' ∧ KSa ν L0 κ'' ∧ rI ν 23000320 k = nI (L0 + κ''.length) ∧ L0 + κ''.length + T'.length ≤ 1000 ∧ ∀ Q, R (d + 4) 8 31 [some (.ref 7000001), some (.ref 6000003), some (.ref 20000002), some (.int (nI (7 + k))), some (.int (nI i)), v5] [] μ Q = Q (some (.int (nI 0))) ν) := by
      intro σ' du' κ' ν hG hL' hw' hn' h23' hlen h30 hrun
      have hL2 := hL'
      obtain ⟨g1, g2, g3, g4, -⟩ := hL'
      obtain ⟨ν2, m1, m2, m3⟩ := adv (d := d + 1) hn hc g1 g2 g3 g4 (GFa_TX hG hT) h30
      obtain ⟨i1, i2⟩ := ih σ' du' κ' (i + 1) ν2 (some (.int (nI 0))) (LSa_L m1 hL2) hw' hn' h23' m2 (by omega) (by omega)
      have hIF : IFa L0 k μ ν2 := IFa_tr (IFa_H (HFa_G hG)) (IFa_H (HFa_L m1))
      have st : ∀ Q, R (d + 4) 8 31 [some (.ref 7000001), some (.ref 6000003), some (.ref 20000002), some (.int (nI (7 + k))), some (.int (nI i)), v5] [] μ Q = R (d + 4) 8 31 [some (.ref 7000001), some (.ref 6000003), some (.ref 20000002), some (.int (nI (7 + k))), some (.int (nI (i + 1))), some (.int (nI 0))] [] ν2 Q := by
        intro Q
        rw [hrun]
        simp (disch := first | assumption | omega) only [r8_111, r8_112, r8_115, r8_118, rI_wI, rL_wL, rR_wR, rI_wL, rI_wR, rL_wI, rL_wR, rR_wI, rR_wL, va_rf_some, va_rf_none, Option.toList_some, Option.toList_none, List.nil_append, List.cons_append, true_and, and_true, false_and, and_false, and_self, if_true, if_false, not_true_eq_false, not_false_eq_true, or_false, false_or, or_true, true_or, or_self, ite_true, ite_false, Option.some.injEq, reduceCtorEq, Nat.reduceMod, Nat.reduceDiv, Nat.reduceLeDiff, Nat.reduceEqDiff, Nat.reduceAdd, Nat.reduceMul, Nat.reduceSub, Nat.reduceLT, sw_nil, sw_int, sw_long, sw_ref, li, lo, nI_m1, ng_eq, nn_eq, en_eq, ng_le, ng_lt, Int32.neg_neg, nI_add, pk_mul, nI_clampO, nI_ltO, nI_leO, nI_eqO, nI_subO, nle_t, nle_f, nlt_t, nlt_f, neq_f, m3]
      refine ⟨fun f hf => ?_, fun κ'' T' hf => ?_⟩
      · obtain ⟨ν3, kd, pl, p1, p2, p3, p4, p5, p6⟩ := i1 f hf
        exact ⟨ν3, kd, pl, IFa_tr hIF p1, p2, p3, p4, p5, fun Q => (st Q).trans (p6 Q)⟩
      · obtain ⟨ν3, p1, p2, p3, p4, p5, p6⟩ := i2 κ'' T' hf
        exact ⟨ν3, IFa_tr hIF p1, p2, p3, p4, p5, fun Q => (st Q).trans (p6 Q)⟩
    -- a fault here
    have ft : ∀ kd ν, (kd = 1 ∨ kd = 5) → GFa L0 μ ν → (∀ Q, R (d + 4) 8 31 [some (.ref 7000001), some (.ref 6000003), some (.ref 20000002), some (.int (nI (7 + k))), some (.int (nI i)), v5] [] μ Q = Q (some (.int (nI kd))) ν) → ∃ ν kd' pl, IFa L0 k μ ν ∧ (kd' = 1 ∨ kd' = 5) ∧ rI ν 6000003 3 = nI pl ∧ ftk kd t = kd' + 16 * pl ∧ pl ≤ 1000 ∧ ∀ Q, R (d + 4) 8 31 [some (.ref 7000001), some (.ref 6000003), some (.ref 20000002), some (.int (nI (7 + k))), some (.int (nI i)), v5] [] μ Q = Q (some (.int (nI kd'))) ν := fun kd ν hkd hG hrun => ⟨ν, kd, t.1, IFa_H (HFa_G hG), hkd, (hG.1 _ _ (by omega)).trans hx.2.2.1, rfl, by omega, hrun⟩
    cases du with
    | true =>
      have h3' : rI μ 7000001 3 = nI 1 := h3
      obtain ⟨p1, p2, p3, p4⟩ := c9a (d := d) hc hk hS hw hns hT (by omega)
      obtain ⟨nw1, nw2, nw3, nw4⟩ := nots_wf hw
      have callr : ∀ (kd : Nat) ν, (∀ Q, R (d + 3) 9 0 [some (.ref 7000001), some (.ref 6000003), some (.int (nI (7 + k))), none, none] [] μ Q = Q (some (.int (nI kd))) ν) → kd ≤ 5 → ∀ Q, R (d + 4) 8 31 [some (.ref 7000001), some (.ref 6000003), some (.ref 20000002), some (.int (nI (7 + k))), some (.int (nI i)), v5] [] μ Q = if kd = 0 then R (d + 4) 8 111 [some (.ref 7000001), some (.ref 6000003), some (.ref 20000002), some (.int (nI (7 + k))), some (.int (nI i)), some (.int (nI 0))] [] ν Q else Q (some (.int (nI kd))) ν := by
        intro kd ν hcall hkd Q
        rw [r8_31]
        by_cases z : kd = 0
        · subst z
          rw [if_pos rfl]
          simp (disch := first | assumption | omega) only [r8_0, r8_1, r8_2, r8_2n, r8_5, r8_6, r8_7, r8_10, r8_11, r8_12, r8_15, r8_16, r8_17, r8_20, r8_21, r8_24, r8_25, r8_28, r8_29, r8_33, r8_36, r8_39, r8_40, r8_43, r8_46, r8_47, r8_50, r8_53, r8_54, r8_57, r8_59, r8_62, r8_63, r8_64, r8_67, r8_68, r8_71, r8_72, r8_75, r8_76, r8_77, r8_78, r8_81, r8_84, r8_85, r8_86, r8_87, r8_90, r8_93, r8_94, r8_95, r8_98, r8_101, r8_103, r8_105, r8_108, r8_110, r8_112, r8_115, r8_118, r8_121, r8_122, rI_wI, rL_wL, rR_wR, rI_wL, rI_wR, rL_wI, rL_wR, rR_wI, rR_wL, va_rf_some, va_rf_none, Option.toList_some, Option.toList_none, List.nil_append, List.cons_append, true_and, and_true, false_and, and_false, and_self, if_true, if_false, not_true_eq_false, not_false_eq_true, or_false, false_or, or_true, true_or, or_self, ite_true, ite_false, Option.some.injEq, reduceCtorEq, Nat.reduceMod, Nat.reduceDiv, Nat.reduceLeDiff, Nat.reduceEqDiff, Nat.reduceAdd, Nat.reduceMul, Nat.reduceSub, Nat.reduceLT, sw_nil, sw_int, sw_long, sw_ref, li, lo, nI_m1, ng_eq, nn_eq, en_eq, ng_le, ng_lt, Int32.neg_neg, nI_add, pk_mul, nI_clampO, nI_ltO, nI_leO, nI_eqO, nI_subO, nle_t, nle_f, nlt_t, nlt_f, neq_f, h3', hcall]
        · rw [if_neg z]
          simp (disch := first | assumption | omega) only [r8_0, r8_1, r8_2, r8_2n, r8_5, r8_6, r8_7, r8_10, r8_11, r8_12, r8_15, r8_16, r8_17, r8_20, r8_21, r8_24, r8_25, r8_28, r8_29, r8_33, r8_36, r8_39, r8_40, r8_43, r8_46, r8_47, r8_50, r8_53, r8_54, r8_57, r8_59, r8_62, r8_63, r8_64, r8_67, r8_68, r8_71, r8_72, r8_75, r8_76, r8_77, r8_78, r8_81, r8_84, r8_85, r8_86, r8_87, r8_90, r8_93, r8_94, r8_95, r8_98, r8_101, r8_103, r8_105, r8_108, r8_110, r8_112, r8_115, r8_118, r8_121, r8_122, rI_wI, rL_wL, rR_wR, rI_wL, rI_wR, rL_wI, rL_wR, rR_wI, rR_wL, va_rf_some, va_rf_none, Option.toList_some, Option.toList_none, List.nil_append, List.cons_append, true_and, and_true, false_and, and_false, and_self, if_true, if_false, not_true_eq_false, not_false_eq_true, or_false, false_or, or_true, true_or, or_self, ite_true, ite_false, Option.some.injEq, reduceCtorEq, Nat.reduceMod, Nat.reduceDiv, Nat.reduceLeDiff, Nat.reduceEqDiff, Nat.reduceAdd, Nat.reduceMul, Nat.reduceSub, Nat.reduceLT, sw_nil, sw_int, sw_long, sw_ref, li, lo, nI_m1, ng_eq, nn_eq, en_eq, ng_le, ng_lt, Int32.neg_neg, nI_add, pk_mul, nI_clampO, nI_ltO, nI_leO, nI_eqO, nI_subO, nle_t, nle_f, nlt_t, nlt_f, neq_f, h3', hcall]
      rw [mac]
      by_cases ho : t.2.1 = 23 ∨ t.2.1 = 40
      · rw [if_pos ho]
        by_cases h5 : 5 ≤ nst σ
        · rw [if_pos h5]
          refine ⟨fun f hf => ?_, fun κ' T' hf => by simp at hf⟩
          have hf' : ftk 5 t = f := by simpa using hf
          rw [← hf']
          exact ft 5 μ (Or.inr rfl) (GFa_rf L0 μ) (fun Q => callr 5 μ (p3 (by rcases ho with o | o; exact Or.inl o; exact Or.inr (Or.inl o)) h5) (by omega) Q)
        · rw [if_neg h5]
          obtain ⟨ν, g1, g2, g3⟩ := p1 ho (by omega)
          have hns' : nst (t.2.1 :: σ) = 1 + nst σ := by show (if t.2.1 = 23 ∨ t.2.1 = 40 then 1 else 0) + nst σ = _; rw [if_pos ho]
          exact go (t.2.1 :: σ) true κ ν g1 g2 ⟨hw, Or.inl ho⟩ (by omega) (fun q => by simp at q) (by simp; omega) (by omega) (fun Q => callr 0 ν g3 (by omega) Q)
      · rw [if_neg ho]
        by_cases h29 : t.2.1 = 29
        · rw [if_pos h29]
          by_cases h5 : 5 ≤ nst σ
          · rw [if_pos h5]
            refine ⟨fun f hf => ?_, fun κ' T' hf => by simp at hf⟩
            have hf' : ftk 5 t = f := by simpa using hf
            rw [← hf']
            exact ft 5 μ (Or.inr rfl) (GFa_rf L0 μ) (fun Q => callr 5 μ (p3 (Or.inr (Or.inr (Or.inl h29))) h5) (by omega) Q)
          · rw [if_neg h5]
            obtain ⟨ν, g1, g2, g3⟩ := p2 (1, n10 t.2.2.1) (Or.inl ⟨h29, rfl⟩) (by omega)
            exact go (nots σ).2 false _ ν g1 g2 nw1 (by omega) (fun _ => nw4) (by rw [List.length_append, List.length_cons]; omega) (by omega) (fun Q => callr 0 ν g3 (by omega) Q)
        · rw [if_neg h29]
          rcases Classical.em (fal k t.2.1) with hfa | hfa
          · rw [pN_t hfa, if_pos rfl]
            have h30 : t.2.1 ≠ 30 := by rcases fal_l hfa with z | z | ⟨-, z | z | z⟩ <;> omega
            by_cases h5 : 5 ≤ nst σ
            · rw [if_pos h5]
              refine ⟨fun f hf => ?_, fun κ' T' hf => by simp at hf⟩
              have hf' : ftk 5 t = f := by simpa using hf
              rw [← hf']
              exact ft 5 μ (Or.inr rfl) (GFa_rf L0 μ) (fun Q => callr 5 μ (p3 (Or.inr (Or.inr (Or.inr hfa))) h5) (by omega) Q)
            · rw [if_neg h5]
              obtain ⟨ν, g1, g2, g3⟩ := p2 (2, fci t.2.1) (Or.inr ⟨h29, hfa, rfl⟩) (by omega)
              exact go (nots σ).2 false _ ν g1 g2 nw1 (by omega) (fun _ => nw4) (by rw [List.length_append, List.length_cons]; omega) h30 (fun Q => callr 0 ν g3 (by omega) Q)
          · rw [pN_f hfa, if_neg (by omega)]
            refine ⟨fun f hf => ?_, fun κ' T' hf => by simp at hf⟩
            have hf' : ftk 1 t = f := by simpa using hf
            rw [← hf']
            exact ft 1 μ (Or.inl rfl) (GFa_rf L0 μ) (fun Q => callr 1 μ (p4 (fun q => by rcases q with q | q | q | q; exact ho (Or.inl q); exact ho (Or.inr q); exact h29 q; exact hfa q)) (by omega) Q)
    | false =>
      have h3' : rI μ 7000001 3 = nI 0 := h3
      have hh := h23 rfl
      rw [mac]
      by_cases he : t.2.1 = 59 ∧ nst σ = 0
      · rw [if_pos he]
        refine ⟨fun f hf => by simp at hf, fun κ' T' hf => ?_⟩
        have hf' : (κ ++ (joi 1 σ).1, t :: T) = (κ', T') := by simpa using hf
        cases hf'
        obtain ⟨j1, j2, j3, j4⟩ := joi_wf 1 hw (by omega)
        obtain ⟨ν1, n1, n2, n3, n4, n5⟩ := c13a (d := d + 2) (L0 := L0) (r := 1) (by omega) (by omega) hF h4 hw (by omega) hW hK (by omega)
        obtain ⟨b1, b2, b3, b4, b5⟩ := GFa_b n1 hF hCT hKW h6 h4
        have hlen : (κ ++ (joi 1 σ).1).length ≤ κ.length + σ.length := by rw [List.length_append]; omega
        have hTX := GFa_TX n1 hT
        refine ⟨wI ν1 23000320 k (nI (L0 + (κ ++ (joi 1 σ).1).length)), IFa_tr (IFa_H (HFa_G n1)) (IFa_e L0 k _ _), ?_, ⟨by rw [rI_wI, if_neg (by omega)]; exact n4.1, fun i hi => by rw [rI_wI, if_neg (by omega)]; exact n4.2 i hi⟩, by rw [rI_wI, if_pos ⟨rfl, rfl⟩], by simp only [List.length_cons]; omega, fun Q => ?_⟩
        · obtain ⟨k0, k1, k2, k3, k4, k5, k6, k7⟩ := hTX
          have e : ∀ j, rI (wI ν1 23000320 k (nI (L0 + (κ ++ (joi 1 σ).1).length))) 6000003 j = rI ν1 6000003 j := fun j => by rw [rI_wI, if_neg (by omega)]
          exact ⟨k0, k1, k2, (e 1).trans k3, (e 2).trans k4, (e 3).trans k5, fun q => (e 4).trans (k6 q), fun q => k7 q⟩
        · obtain ⟨e1, e2⟩ := he
          rw [e1] at x2
          rw [e2] at h2
          have g1 := n4.1
          have e7 : 7 + k - 7 = k := by omega
          have c20 : ∀ Q, R (d + 3) 20 0 [some (.ref 20000002), some (.int (nI (7 + k)))] [] ν1 Q = Q none (wI ν1 23000320 k (nI (L0 + (κ ++ (joi 1 σ).1).length))) := by
            intro Q
            simp (disch := first | assumption | omega) only [r20_0, r20_1, r20_4, r20_5, r20_7, r20_8, r20_9, r20_12, r20_13, rI_wI, rL_wL, rR_wR, rI_wL, rI_wR, rL_wI, rL_wR, rR_wI, rR_wL, va_rf_some, va_rf_none, Option.toList_some, Option.toList_none, List.nil_append, List.cons_append, true_and, and_true, false_and, and_false, and_self, if_true, if_false, not_true_eq_false, not_false_eq_true, or_false, false_or, or_true, true_or, or_self, ite_true, ite_false, Option.some.injEq, reduceCtorEq, Nat.reduceMod, Nat.reduceDiv, Nat.reduceLeDiff, Nat.reduceEqDiff, Nat.reduceAdd, Nat.reduceMul, Nat.reduceSub, Nat.reduceLT, sw_nil, sw_int, sw_long, sw_ref, li, lo, nI_m1, ng_eq, nn_eq, en_eq, ng_le, ng_lt, Int32.neg_neg, nI_add, pk_mul, nI_clampO, nI_ltO, nI_leO, nI_eqO, nI_subO, nle_t, nle_f, nlt_t, nlt_f, neq_f, fx_2000010_0, fx_2000010_1, fx_2000010_4, fx_2000010_5, fx_2000010_6, fx_2000010_8, fx_2000010_10, fx_2000010_11, fx_2000010_12, fx_2000010_13, fx_2000010_14, fx_2000010_15, fx_2000010_16, fx_2000010_17, fx_2000010_18, fx_3000009_0, fx_5000007_0, fx_5000007_1, fx_5000007_2, fx_5000007_3, fx_7000001_0, fx_11000005_1, fx_11000005_2, fx_11000005_3, fx_11000005_4, fx_11000005_5, fx_11000005_6, fx_11000005_10, fx_11000005_11, fx_11000005_12, fx_20000002_0, fx_20000002_2, fx_20000002_3, fx_20000002_4, fx_25000005_1, fx_25000005_2, fx_25000005_3, fx_25000005_4, fx_25000005_5, fx_25000005_6, fx_25000005_10, fx_25000005_11, fx_25000005_12, fx_34000002_0, fx_34000002_2, fx_34000002_3, fx_34000002_4, fx_39000008_0, fx_41000006_0, fx_42002024_0, fx_42002024_1, fx_42002024_2, fx_42002024_3, fx_42002024_4, fx_42002024_5, fx_42002024_6, fx_42002024_7, fx_42002024_8, fx_42002024_9, fx_42002024_10, fx_42002024_11, fx_42002024_12, fx_42002024_13, fx_42002024_14, fx_42002024_15, fx_42002024_16, fx_42002024_17, fx_42002024_18, fx_42002024_19, fx_43000008_0, fx_45000008_0, fx_47000008_0, fx_49000008_0, fx_51000008_0, fx_53000008_0, fx_55000008_0, fx_57000008_0, fx_59000008_0, fx_61000008_0, fx_63000008_0, fx_65000008_0, fx_67000008_0, fx_69000008_0, fx_71000008_0, fx_73000008_0, fx_75000008_0, fx_77000008_0, fx_79000008_0, fx_81000008_0, fx_83000424_0, fx_83000424_1, fx_83000424_2, fx_83000424_3, fx_85000004_0, fx_85000004_1, fx_85000004_2, fx_85000004_3, fx_85000004_4, fx_85000004_5, fx_85000004_6, fx_85000004_10, fx_102000008_0, fx_104000008_0, fx_106000008_0, fx_108000008_0, fx_110000011_1, fx_110000011_4, fx_110000011_5, fx_110000011_6, fx_110000011_9, fx_110000011_10, fx_110000011_11, fx_110000011_12, fx_110000011_14, fx_110000011_15, fx_110000011_20, fx_110000011_21, fx_110000011_22, fx_110000011_23, fx_110000011_25, fx_110000011_26, fx_110000011_31, fx_110000011_32, fx_110000011_37, fx_110000011_38, fx_110000011_39, fx_110000011_40, g1, e7]
          rw [r8_31]
          simp (disch := first | assumption | omega) only [r8_0, r8_1, r8_2, r8_2n, r8_5, r8_6, r8_7, r8_10, r8_11, r8_12, r8_15, r8_16, r8_17, r8_20, r8_21, r8_24, r8_25, r8_28, r8_29, r8_33, r8_36, r8_39, r8_40, r8_43, r8_46, r8_47, r8_50, r8_53, r8_54, r8_57, r8_59, r8_62, r8_63, r8_64, r8_67, r8_68, r8_71, r8_72, r8_75, r8_76, r8_77, r8_78, r8_81, r8_84, r8_85, r8_86, r8_87, r8_90, r8_93, r8_94, r8_95, r8_98, r8_101, r8_103, r8_105, r8_108, r8_110, r8_112, r8_115, r8_118, r8_121, r8_122, rI_wI, rL_wL, rR_wR, rI_wL, rI_wR, rL_wI, rL_wR, rR_wI, rR_wL, va_rf_some, va_rf_none, Option.toList_some, Option.toList_none, List.nil_append, List.cons_append, true_and, and_true, false_and, and_false, and_self, if_true, if_false, not_true_eq_false, not_false_eq_true, or_false, false_or, or_true, true_or, or_self, ite_true, ite_false, Option.some.injEq, reduceCtorEq, Nat.reduceMod, Nat.reduceDiv, Nat.reduceLeDiff, Nat.reduceEqDiff, Nat.reduceAdd, Nat.reduceMul, Nat.reduceSub, Nat.reduceLT, sw_nil, sw_int, sw_long, sw_ref, li, lo, nI_m1, ng_eq, nn_eq, en_eq, ng_le, ng_lt, Int32.neg_neg, nI_add, pk_mul, nI_clampO, nI_ltO, nI_leO, nI_eqO, nI_subO, nle_t, nle_f, nlt_t, nlt_f, neq_f, h3', h2, x2, n5, b5, c20]
      · rw [if_neg he]
        have callo : ∀ (kd : Nat) ν, (∀ Q, R (d + 3) 11 0 [some (.ref 7000001), some (.int (nI t.2.1)), none, none] [] μ Q = Q (some (.int (nI kd))) ν) → kd ≤ 5 → ∀ Q, R (d + 4) 8 31 [some (.ref 7000001), some (.ref 6000003), some (.ref 20000002), some (.int (nI (7 + k))), some (.int (nI i)), v5] [] μ Q = if kd = 0 then R (d + 4) 8 111 [some (.ref 7000001), some (.ref 6000003), some (.ref 20000002), some (.int (nI (7 + k))), some (.int (nI i)), some (.int (nI 0))] [] ν Q else Q (some (.int (nI kd))) ν := by
          intro kd ν hcall hkd Q
          have h77 : R (d + 4) 8 31 [some (.ref 7000001), some (.ref 6000003), some (.ref 20000002), some (.int (nI (7 + k))), some (.int (nI i)), v5] [] μ Q = R (d + 4) 8 77 [some (.ref 7000001), some (.ref 6000003), some (.ref 20000002), some (.int (nI (7 + k))), some (.int (nI i)), v5] [] μ Q := by
            rw [r8_31]
            by_cases z : nst σ = 0
            · have hne : t.2.1 ≠ 59 := fun q => he ⟨q, z⟩
              rw [z] at h2
              simp (disch := first | assumption | omega) only [r8_0, r8_1, r8_2, r8_2n, r8_5, r8_6, r8_7, r8_10, r8_11, r8_12, r8_15, r8_16, r8_17, r8_20, r8_21, r8_24, r8_25, r8_28, r8_29, r8_33, r8_36, r8_39, r8_40, r8_43, r8_46, r8_47, r8_50, r8_53, r8_54, r8_57, r8_59, r8_62, r8_63, r8_64, r8_67, r8_68, r8_71, r8_72, r8_75, r8_76, r8_78, r8_81, r8_84, r8_85, r8_86, r8_87, r8_90, r8_93, r8_94, r8_95, r8_98, r8_101, r8_103, r8_105, r8_108, r8_110, r8_112, r8_115, r8_118, r8_121, r8_122, rI_wI, rL_wL, rR_wR, rI_wL, rI_wR, rL_wI, rL_wR, rR_wI, rR_wL, va_rf_some, va_rf_none, Option.toList_some, Option.toList_none, List.nil_append, List.cons_append, true_and, and_true, false_and, and_false, and_self, if_true, if_false, not_true_eq_false, not_false_eq_true, or_false, false_or, or_true, true_or, or_self, ite_true, ite_false, Option.some.injEq, reduceCtorEq, Nat.reduceMod, Nat.reduceDiv, Nat.reduceLeDiff, Nat.reduceEqDiff, Nat.reduceAdd, Nat.reduceMul, Nat.reduceSub, Nat.reduceLT, sw_nil, sw_int, sw_long, sw_ref, li, lo, nI_m1, ng_eq, nn_eq, en_eq, ng_le, ng_lt, Int32.neg_neg, nI_add, pk_mul, nI_clampO, nI_ltO, nI_leO, nI_eqO, nI_subO, nle_t, nle_f, nlt_t, nlt_f, neq_f, h3', h2, x2]
            · simp (disch := first | assumption | omega) only [r8_0, r8_1, r8_2, r8_2n, r8_5, r8_6, r8_7, r8_10, r8_11, r8_12, r8_15, r8_16, r8_17, r8_20, r8_21, r8_24, r8_25, r8_28, r8_29, r8_33, r8_36, r8_39, r8_40, r8_43, r8_46, r8_47, r8_50, r8_53, r8_54, r8_57, r8_59, r8_62, r8_63, r8_64, r8_67, r8_68, r8_71, r8_72, r8_75, r8_76, r8_78, r8_81, r8_84, r8_85, r8_86, r8_87, r8_90, r8_93, r8_94, r8_95, r8_98, r8_101, r8_103, r8_105, r8_108, r8_110, r8_112, r8_115, r8_118, r8_121, r8_122, rI_wI, rL_wL, rR_wR, rI_wL, rI_wR, rL_wI, rL_wR, rR_wI, rR_wL, va_rf_some, va_rf_none, Option.toList_some, Option.toList_none, List.nil_append, List.cons_append, true_and, and_true, false_and, and_false, and_self, if_true, if_false, not_true_eq_false, not_false_eq_true, or_false, false_or, or_true, true_or, or_self, ite_true, ite_false, Option.some.injEq, reduceCtorEq, Nat.reduceMod, Nat.reduceDiv, Nat.reduceLeDiff, Nat.reduceEqDiff, Nat.reduceAdd, Nat.reduceMul, Nat.reduceSub, Nat.reduceLT, sw_nil, sw_int, sw_long, sw_ref, li, lo, nI_m1, ng_eq, nn_eq, en_eq, ng_le, ng_lt, Int32.neg_neg, nI_add, pk_mul, nI_clampO, nI_ltO, nI_leO, nI_eqO, nI_subO, nle_t, nle_f, nlt_t, nlt_f, neq_f, h3', h2, x2]
          rw [h77]
          by_cases z : kd = 0
          · subst z
            rw [if_pos rfl]
            simp (disch := first | assumption | omega) only [r8_0, r8_1, r8_2, r8_2n, r8_5, r8_6, r8_7, r8_10, r8_11, r8_12, r8_15, r8_16, r8_17, r8_20, r8_21, r8_24, r8_25, r8_28, r8_29, r8_33, r8_36, r8_39, r8_40, r8_43, r8_46, r8_47, r8_50, r8_53, r8_54, r8_57, r8_59, r8_62, r8_63, r8_64, r8_67, r8_68, r8_71, r8_72, r8_75, r8_76, r8_77, r8_78, r8_81, r8_84, r8_85, r8_86, r8_87, r8_90, r8_93, r8_94, r8_95, r8_98, r8_101, r8_103, r8_105, r8_108, r8_110, r8_112, r8_115, r8_118, r8_121, r8_122, rI_wI, rL_wL, rR_wR, rI_wL, rI_wR, rL_wI, rL_wR, rR_wI, rR_wL, va_rf_some, va_rf_none, Option.toList_some, Option.toList_none, List.nil_append, List.cons_append, true_and, and_true, false_and, and_false, and_self, if_true, if_false, not_true_eq_false, not_false_eq_true, or_false, false_or, or_true, true_or, or_self, ite_true, ite_false, Option.some.injEq, reduceCtorEq, Nat.reduceMod, Nat.reduceDiv, Nat.reduceLeDiff, Nat.reduceEqDiff, Nat.reduceAdd, Nat.reduceMul, Nat.reduceSub, Nat.reduceLT, sw_nil, sw_int, sw_long, sw_ref, li, lo, nI_m1, ng_eq, nn_eq, en_eq, ng_le, ng_lt, Int32.neg_neg, nI_add, pk_mul, nI_clampO, nI_ltO, nI_leO, nI_eqO, nI_subO, nle_t, nle_f, nlt_t, nlt_f, neq_f, h3', x2, hcall]
          · rw [if_neg z]
            simp (disch := first | assumption | omega) only [r8_0, r8_1, r8_2, r8_2n, r8_5, r8_6, r8_7, r8_10, r8_11, r8_12, r8_15, r8_16, r8_17, r8_20, r8_21, r8_24, r8_25, r8_28, r8_29, r8_33, r8_36, r8_39, r8_40, r8_43, r8_46, r8_47, r8_50, r8_53, r8_54, r8_57, r8_59, r8_62, r8_63, r8_64, r8_67, r8_68, r8_71, r8_72, r8_75, r8_76, r8_77, r8_78, r8_81, r8_84, r8_85, r8_86, r8_87, r8_90, r8_93, r8_94, r8_95, r8_98, r8_101, r8_103, r8_105, r8_108, r8_110, r8_112, r8_115, r8_118, r8_121, r8_122, rI_wI, rL_wL, rR_wR, rI_wL, rI_wR, rL_wI, rL_wR, rR_wI, rR_wL, va_rf_some, va_rf_none, Option.toList_some, Option.toList_none, List.nil_append, List.cons_append, true_and, and_true, false_and, and_false, and_self, if_true, if_false, not_true_eq_false, not_false_eq_true, or_false, false_or, or_true, true_or, or_self, ite_true, ite_false, Option.some.injEq, reduceCtorEq, Nat.reduceMod, Nat.reduceDiv, Nat.reduceLeDiff, Nat.reduceEqDiff, Nat.reduceAdd, Nat.reduceMul, Nat.reduceSub, Nat.reduceLT, sw_nil, sw_int, sw_long, sw_ref, li, lo, nI_m1, ng_eq, nn_eq, en_eq, ng_le, ng_lt, Int32.neg_neg, nI_add, pk_mul, nI_clampO, nI_ltO, nI_leO, nI_eqO, nI_subO, nle_t, nle_f, nlt_t, nlt_f, neq_f, h3', x2, hcall]
        by_cases hp : t.2.1 = 41 ∧ 0 < nst σ
        · rw [if_pos hp]
          obtain ⟨ν, g1, g2, g3⟩ := c11a_p (d := d) hS hw hns hh hp.2 (by omega)
          rw [← hp.1] at g3
          obtain ⟨j1, j2, j3, j4⟩ := joi_wf 1 hw (by omega)
          obtain ⟨τ, hτ⟩ := top_p j1 (by omega) (by omega) (joi_23 1 hw (by omega) hh)
          rw [hτ, List.tail_cons] at g2 ⊢
          rw [hτ] at j1 j2 j4
          obtain ⟨w1, w2, w3, w4⟩ := nots_wf j1.1
          have hns2 : nst (40 :: τ) = 1 + nst τ := rfl
          have jl : (joi 1 σ).1.length + (τ.length + 1) = σ.length := by simpa using j4
          exact go (nots τ).2 false _ ν g1 g2 w1 (by omega) (fun _ => w4) (by rw [List.length_append, List.length_append]; omega) (by omega) (fun Q => callo 0 ν g3 (by omega) Q)
        · rw [if_neg hp]
          obtain ⟨o1, o2, o3⟩ := c11a_o (d := d) hx8 hS hw hns hp (by omega)
          by_cases hr0 : rk t.2.1 = 0
          · rw [if_pos hr0]
            refine ⟨fun f hf => ?_, fun κ' T' hf => by simp at hf⟩
            have hf' : ftk 1 t = f := by simpa using hf
            rw [← hf']
            exact ft 1 μ (Or.inl rfl) (GFa_rf L0 μ) (fun Q => callo 1 μ (o1 hr0) (by omega) Q)
          · rw [if_neg hr0]
            have h30 := rk_30n (t := t.2.1) (by omega)
            have htn : ¬ (t.2.1 = 23 ∨ t.2.1 = 40) := fun q => by rw [rk_c q] at hr0; omega
            have hnn : ∀ τ, nst (t.2.1 :: τ) = nst τ := fun τ => by show (if t.2.1 = 23 ∨ t.2.1 = 40 then 1 else 0) + nst τ = _; rw [if_neg htn]; omega
            by_cases hr2 : rk t.2.1 = 2
            · rw [if_pos hr2]
              by_cases hz : rk ((joi 3 σ).2.headD 30) = 2
              · rw [if_pos hz]
                refine ⟨fun f hf => ?_, fun κ' T' hf => by simp at hf⟩
                have hf' : ftk 1 t = f := by simpa using hf
                rw [← hf']
                obtain ⟨ν, g1, g2⟩ := o2 hr2 hz
                exact ft 1 ν (Or.inl rfl) g1 (fun Q => callo 1 ν g2 (by omega) Q)
              · rw [if_neg hz]
                obtain ⟨j1, j2, j3, j4⟩ := joi_wf 3 hw (by omega)
                obtain ⟨ν, g1, g2, g3⟩ := o3 3 (Or.inl ⟨hr2, rfl, hz⟩)
                exact go _ true _ ν g1 g2 ⟨j1, Or.inr ⟨by omega, by omega, joi_23 3 hw (by omega) hh⟩⟩ (by rw [hnn]; omega) (fun q => by simp at q) (by rw [List.length_append, List.length_cons]; omega) h30 (fun Q => callo 0 ν g3 (by omega) Q)
            · rw [if_neg hr2]
              obtain ⟨j1, j2, j3, j4⟩ := joi_wf (rk t.2.1) hw (by omega)
              obtain ⟨ν, g1, g2, g3⟩ := o3 (rk t.2.1) (Or.inr ⟨hr2, by omega, rfl⟩)
              exact go _ true _ ν g1 g2 ⟨j1, Or.inr ⟨by omega, j3, joi_23 _ hw (by omega) hh⟩⟩ (by rw [hnn]; omega) (fun q => by simp at q) (by rw [List.length_append, List.length_cons]; omega) h30 (fun Q => callo 0 ν g3 (by omega) Q)
theorem c8a (hn : tp.length ≤ 1000) (hc : ∀ c, c ∈ tp → c < 127) {L0 k : Nat} (hk : k < 3) {T : List Tok} (hF : FX μ) (hCT : CTp μ tp) (hKW : KW μ) (h6 : rR μ 6000003 0 = some 3000009) (hL : rI μ 20000002 1 = nI L0) (hT : TX μ tp T) (hb : L0 + T.length ≤ 1000) :
    ∃ ν0, (∀ a j, a ≠ 7000001 → ¬ (a = 22000320 ∧ j = k) → rI ν0 a j = rI μ a j) ∧ (∀ a j, rL ν0 a j = rL μ a j) ∧ (∀ a j, ¬ (a = 7000001 ∧ j = 4) → rR ν0 a j = rR μ a j) ∧ aS ν0 = aS μ ∧ FX ν0 ∧ rI ν0 22000320 k = nI L0 ∧
    (∀ f, mac k T [] true [] = .error f → ∃ ν kd pl, IFa L0 k ν0 ν ∧ (kd = 1 ∨ kd = 5) ∧ rI ν 6000003 3 = nI pl ∧ f = kd + 16 * pl ∧ pl ≤ 1000 ∧ ∀ Q, R (d + 4) 8 0 [some (.ref 7000001), some (.ref 6000003), some (.ref 20000002), some (.int (nI (7 + k))), none, none] [] μ Q = Q (some (.int (nI kd))) ν) ∧
    (∀ κ' T', mac k T [] true [] = .ok (κ', T') → ∃ ν, IFa L0 k ν0 ν ∧ TX ν tp T' ∧ KSa ν L0 κ' ∧ rI ν 22000320 k = nI L0 ∧ rI ν 23000320 k = nI (L0 + κ'.length) ∧ L0 + κ'.length + T'.length ≤ 1000 ∧ ∀ Q, R (d + 4) 8 0 [some (.ref 7000001), some (.ref 6000003), some (.ref 20000002), some (.int (nI (7 + k))), none, none] [] μ Q = Q (some (.int (nI 0))) ν) := by
  let ν0 := wI (wI (wI (wI (wR μ 7000001 4 (some 20000002)) 7000001 1 (nI 0)) 7000001 2 (nI 0)) 7000001 3 (nI 1)) 22000320 k (nI L0)
  have hi : ∀ a j, a ≠ 7000001 → ¬ (a = 22000320 ∧ j = k) → rI ν0 a j = rI μ a j := fun a j h1 h2 => by
    show rI (wI (wI (wI (wI (wR μ 7000001 4 (some 20000002)) 7000001 1 (nI 0)) 7000001 2 (nI 0)) 7000001 3 (nI 1)) 22000320 k (nI L0)) a j = _
    rw [rI_wI, if_neg (fun q => h2 ⟨q.1.symm, q.2.symm⟩), rI_wI, if_neg (fun q => h1 q.1.symm), rI_wI, if_neg (fun q => h1 q.1.symm), rI_wI, if_neg (fun q => h1 q.1.symm)]
    rfl
  have hRR : ∀ a j, ¬ (a = 7000001 ∧ j = 4) → rR ν0 a j = rR μ a j := fun a j h => by
    show rR (wR μ 7000001 4 (some 20000002)) a j = _
    rw [rR_wR, if_neg (fun q => h ⟨q.1.symm, q.2.symm⟩)]
  have hF0 : FX ν0 := fun q hq => by
    rw [hRR _ _ (fx_n7 q hq)]
    exact hF q hq
  have h4 : rR ν0 7000001 4 = some 20000002 := by
    show rR (wR μ 7000001 4 (some 20000002)) 7000001 4 = _
    rw [rR_wR, if_pos ⟨rfl, rfl⟩]
  have b0 : rI ν0 22000320 k = nI L0 := by
    show rI (wI (wI (wI (wI (wR μ 7000001 4 (some 20000002)) 7000001 1 (nI 0)) 7000001 2 (nI 0)) 7000001 3 (nI 1)) 22000320 k (nI L0)) 22000320 k = _
    rw [rI_wI, if_pos ⟨rfl, rfl⟩]
  have i7 : rI ν0 7000001 1 = nI 0 ∧ rI ν0 7000001 2 = nI 0 ∧ rI ν0 7000001 3 = nI 1 := by
    refine ⟨?_, ?_, ?_⟩
    · show rI (wI (wI (wI (wI (wR μ 7000001 4 (some 20000002)) 7000001 1 (nI 0)) 7000001 2 (nI 0)) 7000001 3 (nI 1)) 22000320 k (nI L0)) 7000001 1 = _
      rw [rI_wI, if_neg (by omega), rI_wI, if_neg (by decide), rI_wI, if_neg (by decide), rI_wI, if_pos ⟨rfl, rfl⟩]
    · show rI (wI (wI (wI (wI (wR μ 7000001 4 (some 20000002)) 7000001 1 (nI 0)) 7000001 2 (nI 0)) 7000001 3 (nI 1)) 22000320 k (nI L0)) 7000001 2 = _
      rw [rI_wI, if_neg (by omega), rI_wI, if_neg (by decide), rI_wI, if_pos ⟨rfl, rfl⟩]
    · show rI (wI (wI (wI (wI (wR μ 7000001 4 (some 20000002)) 7000001 1 (nI 0)) 7000001 2 (nI 0)) 7000001 3 (nI 1)) 22000320 k (nI L0)) 7000001 3 = _
      rw [rI_wI, if_neg (by omega), rI_wI, if_pos ⟨rfl, rfl⟩]
  have e6 : ∀ j, rI ν0 6000003 j = rI μ 6000003 j := fun j => hi _ _ (by decide) (by omega)
  have hT0 : TX ν0 tp T := by
    obtain ⟨k0, k1, k2, k3, k4, k5, k6, k7⟩ := hT
    exact ⟨k0, k1, k2, (e6 1).trans k3, (e6 2).trans k4, (e6 3).trans k5, fun q => (e6 4).trans (k6 q), fun q => k7 q⟩
  have hS : LSa ν0 tp L0 [] true [] := ⟨hF0, ⟨(hi _ _ (by decide) (by omega)).trans hCT.1, fun i hi' => (hi _ _ (by decide) (by omega)).trans (hCT.2 i hi')⟩, fun i hi' => hKW i hi', (hRR _ _ (by decide)).trans h6, h4, ⟨i7.1, fun j hj => by simp at hj⟩, i7.2.1, i7.2.2, (hi _ _ (by decide) (by omega)).trans hL, fun i hi' => by simp at hi'⟩
  have hTl : 1 ≤ T.length := by
    cases T with
    | nil => exact (TX_n hT).elim
    | cons t T => simp
  obtain ⟨p1, p2⟩ := c8a_l (d := d) hn hc (L0 := L0) hk T [] true [] 0 ν0 none hS trivial (Nat.zero_le _) (fun q => by simp at q) hT0 (by simp; omega) (by omega)
  have st : ∀ Q, R (d + 4) 8 0 [some (.ref 7000001), some (.ref 6000003), some (.ref 20000002), some (.int (nI (7 + k))), none, none] [] μ Q = R (d + 4) 8 31 [some (.ref 7000001), some (.ref 6000003), some (.ref 20000002), some (.int (nI (7 + k))), some (.int (nI 0)), none] [] ν0 Q := by
    intro Q
    have hF1 : FX (wI (wI (wI (wR μ 7000001 4 (some 20000002)) 7000001 1 (nI 0)) 7000001 2 (nI 0)) 7000001 3 (nI 1)) := hF0
    have hL1 : rI (wI (wI (wI (wR μ 7000001 4 (some 20000002)) 7000001 1 (nI 0)) 7000001 2 (nI 0)) 7000001 3 (nI 1)) 20000002 1 = nI L0 := by
      rw [rI_wI, if_neg (by omega), rI_wI, if_neg (by omega), rI_wI, if_neg (by omega)]; exact hL
    have e7 : 7 + k - 7 = k := by omega
    have c19 : ∀ Q, R (d + 3) 19 0 [some (.ref 20000002), some (.int (nI (7 + k)))] [] (wI (wI (wI (wR μ 7000001 4 (some 20000002)) 7000001 1 (nI 0)) 7000001 2 (nI 0)) 7000001 3 (nI 1)) Q = Q none ν0 := by
      intro Q
      simp (disch := first | assumption | omega) only [r19_0, r19_1, r19_4, r19_5, r19_7, r19_8, r19_9, r19_12, r19_13, rI_wI, rL_wL, rR_wR, rI_wL, rI_wR, rL_wI, rL_wR, rR_wI, rR_wL, va_rf_some, va_rf_none, Option.toList_some, Option.toList_none, List.nil_append, List.cons_append, true_and, and_true, false_and, and_false, and_self, if_true, if_false, not_true_eq_false, not_false_eq_true, or_false, false_or, or_true, true_or, or_self, ite_true, ite_false, Option.some.injEq, reduceCtorEq, Nat.reduceMod, Nat.reduceDiv, Nat.reduceLeDiff, Nat.reduceEqDiff, Nat.reduceAdd, Nat.reduceMul, Nat.reduceSub, Nat.reduceLT, sw_nil, sw_int, sw_long, sw_ref, li, lo, nI_m1, ng_eq, nn_eq, en_eq, ng_le, ng_lt, Int32.neg_neg, nI_add, pk_mul, nI_clampO, nI_ltO, nI_leO, nI_eqO, nI_subO, nle_t, nle_f, nlt_t, nlt_f, neq_f, fx_2000010_0, fx_2000010_1, fx_2000010_4, fx_2000010_5, fx_2000010_6, fx_2000010_8, fx_2000010_10, fx_2000010_11, fx_2000010_12, fx_2000010_13, fx_2000010_14, fx_2000010_15, fx_2000010_16, fx_2000010_17, fx_2000010_18, fx_3000009_0, fx_5000007_0, fx_5000007_1, fx_5000007_2, fx_5000007_3, fx_7000001_0, fx_11000005_1, fx_11000005_2, fx_11000005_3, fx_11000005_4, fx_11000005_5, fx_11000005_6, fx_11000005_10, fx_11000005_11, fx_11000005_12, fx_20000002_0, fx_20000002_2, fx_20000002_3, fx_20000002_4, fx_25000005_1, fx_25000005_2, fx_25000005_3, fx_25000005_4, fx_25000005_5, fx_25000005_6, fx_25000005_10, fx_25000005_11, fx_25000005_12, fx_34000002_0, fx_34000002_2, fx_34000002_3, fx_34000002_4, fx_39000008_0, fx_41000006_0, fx_42002024_0, fx_42002024_1, fx_42002024_2, fx_42002024_3, fx_42002024_4, fx_42002024_5, fx_42002024_6, fx_42002024_7, fx_42002024_8, fx_42002024_9, fx_42002024_10, fx_42002024_11, fx_42002024_12, fx_42002024_13, fx_42002024_14, fx_42002024_15, fx_42002024_16, fx_42002024_17, fx_42002024_18, fx_42002024_19, fx_43000008_0, fx_45000008_0, fx_47000008_0, fx_49000008_0, fx_51000008_0, fx_53000008_0, fx_55000008_0, fx_57000008_0, fx_59000008_0, fx_61000008_0, fx_63000008_0, fx_65000008_0, fx_67000008_0, fx_69000008_0, fx_71000008_0, fx_73000008_0, fx_75000008_0, fx_77000008_0, fx_79000008_0, fx_81000008_0, fx_83000424_0, fx_83000424_1, fx_83000424_2, fx_83000424_3, fx_85000004_0, fx_85000004_1, fx_85000004_2, fx_85000004_3, fx_85000004_4, fx_85000004_5, fx_85000004_6, fx_85000004_10, fx_102000008_0, fx_104000008_0, fx_106000008_0, fx_108000008_0, fx_110000011_1, fx_110000011_4, fx_110000011_5, fx_110000011_6, fx_110000011_9, fx_110000011_10, fx_110000011_11, fx_110000011_12, fx_110000011_14, fx_110000011_15, fx_110000011_20, fx_110000011_21, fx_110000011_22, fx_110000011_23, fx_110000011_25, fx_110000011_26, fx_110000011_31, fx_110000011_32, fx_110000011_37, fx_110000011_38, fx_110000011_39, fx_110000011_40, hL1, e7]
      rfl
    simp (disch := first | assumption | omega) only [r8_0, r8_1, r8_2, r8_5, r8_6, r8_7, r8_10, r8_11, r8_12, r8_15, r8_16, r8_17, r8_20, r8_21, r8_24, r8_25, r8_28, r8_29, rI_wI, rL_wL, rR_wR, rI_wL, rI_wR, rL_wI, rL_wR, rR_wI, rR_wL, va_rf_some, va_rf_none, Option.toList_some, Option.toList_none, List.nil_append, List.cons_append, true_and, and_true, false_and, and_false, and_self, if_true, if_false, not_true_eq_false, not_false_eq_true, or_false, false_or, or_true, true_or, or_self, ite_true, ite_false, Option.some.injEq, reduceCtorEq, Nat.reduceMod, Nat.reduceDiv, Nat.reduceLeDiff, Nat.reduceEqDiff, Nat.reduceAdd, Nat.reduceMul, Nat.reduceSub, Nat.reduceLT, sw_nil, sw_int, sw_long, sw_ref, li, lo, nI_m1, ng_eq, nn_eq, en_eq, ng_le, ng_lt, Int32.neg_neg, nI_add, pk_mul, nI_clampO, nI_ltO, nI_leO, nI_eqO, nI_subO, nle_t, nle_f, nlt_t, nlt_f, neq_f, vnb1, c19]
  refine ⟨ν0, hi, fun _ _ => rfl, hRR, rfl, hF0, b0, fun f hf => ?_, fun κ' T' hf => ?_⟩
  · obtain ⟨ν, kd, pl, q1, q2, q3, q4, q5, q6⟩ := p1 f hf
    exact ⟨ν, kd, pl, q1, q2, q3, q4, q5, fun Q => (st Q).trans (q6 Q)⟩
  · obtain ⟨ν, q1, q2, q3, q4, q5, q6⟩ := p2 κ' T' hf
    exact ⟨ν, q1, q2, q3, (q1.1 _ _ (by omega)).trans b0, q4, q5, fun Q => (st Q).trans (q6 Q)⟩
def IFb (L0 k : Nat) (μ ν : PM) : Prop := (∀ a j, ¬ ((a = 7000001 ∧ (j = 1 ∨ j = 2 ∨ j = 3)) ∨ a = 8006420 ∨ (a = 34000002 ∧ j = 1) ∨ a = 35100020 ∨ a = 6000003 ∨ (a = 37000320 ∧ j = k)) → rI ν a j = rI μ a j) ∧ (∀ j, j < L0 → rI ν 35100020 j = rI μ 35100020 j) ∧ (∀ a j, a ≠ 6000003 → rL ν a j = rL μ a j) ∧ (∀ a j, rR ν a j = rR μ a j) ∧ aS ν = aS μ
theorem IFb_tr {L0 k : Nat} {μ ν ρ : PM} (h : IFb L0 k μ ν) (k' : IFb L0 k ν ρ) : IFb L0 k μ ρ := ⟨fun a j q => (k'.1 a j q).trans (h.1 a j q), fun j q => (k'.2.1 j q).trans (h.2.1 j q), fun a j q => (k'.2.2.1 a j q).trans (h.2.2.1 a j q), fun a j => (k'.2.2.2.1 a j).trans (h.2.2.2.1 a j), k'.2.2.2.2.trans h.2.2.2.2⟩
theorem IFb_H {L0 k : Nat} {μ ν : PM} (h : HFb L0 μ ν) : IFb L0 k μ ν := ⟨fun a j q => h.1 a j (fun e => q (by omega)), h.2.1, h.2.2.1, h.2.2.2.1, h.2.2.2.2⟩
theorem IFb_e (L0 k : Nat) (μ : PM) (x : Int32) : IFb L0 k μ (wI μ 37000320 k x) := ⟨fun a j q => by rw [rI_wI, if_neg (fun e => q (by omega))], fun j _ => by rw [rI_wI, if_neg (by omega)], fun _ _ _ => rfl, fun _ _ => rfl, rfl⟩
theorem c8b_l (hn : tp.length ≤ 1000) (hc : ∀ c, c ∈ tp → c < 127) {L0 k : Nat} (hk : k < 3) : ∀ (T : List Tok) (σ : List Nat) (du : Bool) (κ : List Cod) (i : Nat) (μ : PM) (v5 : Option Value), LSb μ tp L0 σ du κ → wfs σ → nst σ ≤ 5 → (du = false → σ.headD 30 ≠ 23) → TX μ tp T → L0 + κ.length + σ.length + T.length ≤ 1000 → i + T.length ≤ 1001 →
    (∀ f, mac k T σ du κ = .error f → ∃ ν kd pl, IFb L0 k μ ν ∧ (kd = 1 ∨ kd = 5) ∧ rI ν 6000003 3 = nI pl ∧ f = kd + 16 * pl ∧ pl ≤ 1000 ∧ ∀ Q, R (d + 4) 8 31 [some (.ref 7000001), some (.ref 6000003), some (.ref 34000002), some (.int (nI (7 + k))), some (.int (nI i)), v5] [] μ Q = Q (some (.int (nI kd))) ν) ∧
    (∀ κ' T', mac k T σ du κ = .ok (κ', T') → ∃ ν, IFb L0 k μ ν ∧ TX ν tp T' ∧ KSb ν L0 κ' ∧ rI ν 37000320 k = nI (L0 + κ'.length) ∧ L0 + κ'.length + T'.length ≤ 1000 ∧ ∀ Q, R (d + 4) 8 31 [some (.ref 7000001), some (.ref 6000003), some (.ref 34000002), some (.int (nI (7 + k))), some (.int (nI i)), v5] [] μ Q = Q (some (.int (nI 0))) ν) := by
  intro T
  induction T with
  | nil => intro σ du κ i μ v5 _ _ _ _ h; exact (TX_n h).elim
  | cons t T ih =>
    intro σ du κ i μ v5 hS hw hns h23 hT hb hi
    have hb' : L0 + κ.length + σ.length + (T.length + 1) ≤ 1000 := by simpa using hb
    have hi' : i + (T.length + 1) ≤ 1001 := by simpa using hi
    obtain ⟨hx, hx8⟩ := TX_c hT hc
    have hpl := TX_pl hT
    have x2 := hx.2.1
    have hSS := hS
    obtain ⟨hF, hCT, hKW, h6, h4, hW, h2, h3, hK⟩ := hSS
    obtain ⟨wl, wo⟩ := wfs_len hw hns
    -- going on
    have go : ∀ σ' du' κ' ν, GFb L0 μ ν → LSb ν tp L0 σ' du' κ' → wfs σ' → nst σ' ≤ 5 → (du' = false → σ'.headD 30 ≠ 23) → κ'.length + σ'.length ≤ κ.length + σ.length + 1 → t.2.1 ≠ 30 → (∀ Q, R (d + 4) 8 31 [some (.ref 7000001), some (.ref 6000003), some (.ref 34000002), some (.int (nI (7 + k))), some (.int (nI i)), v5] [] μ Q = R (d + 4) 8 111 [some (.ref 7000001), some (.ref 6000003), some (.ref 34000002), some (.int (nI (7 + k))), some (.int (nI i)), some (.int (nI 0))] [] ν Q) →
        (∀ f, mac k T σ' du' κ' = .error f → ∃ ν kd pl, IFb L0 k μ ν ∧ (kd = 1 ∨ kd = 5) ∧ rI ν 6000003 3 = nI pl ∧ f = kd + 16 * pl ∧ pl ≤ 1000 ∧ ∀ Q, R (d + 4) 8 31 [some (.ref 7000001), some (.ref 6000003), some (.ref 34000002), some (.int (nI (7 + k))), some (.int (nI i)), v5] [] μ Q = Q (some (.int (nI kd))) ν) ∧
        (∀ κ'' T', mac k T σ' du' κ' = .ok (κ'', T') → ∃ ν, IFb L0 k μ ν ∧ TX ν tp T' ∧ KSb ν L0 κ'' ∧ rI ν 37000320 k = nI (L0 + κ''.length) ∧ L0 + κ''.length + T'.length ≤ 1000 ∧ ∀ Q, R (d + 4) 8 31 [some (.ref 7000001), some (.ref 6000003), some (.ref 34000002), some (.int (nI (7 + k))), some (.int (nI i)), v5] [] μ Q = Q (some (.int (nI 0))) ν) := by
      intro σ' du' κ' ν hG hL' hw' hn' h23' hlen h30 hrun
      have hL2 := hL'
      obtain ⟨g1, g2, g3, g4, -⟩ := hL'
      obtain ⟨ν2, m1, m2, m3⟩ := adv (d := d + 1) hn hc g1 g2 g3 g4 (GFb_TX hG hT) h30
      obtain ⟨i1, i2⟩ := ih σ' du' κ' (i + 1) ν2 (some (.int (nI 0))) (LSb_L m1 hL2) hw' hn' h23' m2 (by omega) (by omega)
      have hIF : IFb L0 k μ ν2 := IFb_tr (IFb_H (HFb_G hG)) (IFb_H (HFb_L m1))
      have st : ∀ Q, R (d + 4) 8 31 [some (.ref 7000001), some (.ref 6000003), some (.ref 34000002), some (.int (nI (7 + k))), some (.int (nI i)), v5] [] μ Q = R (d + 4) 8 31 [some (.ref 7000001), some (.ref 6000003), some (.ref 34000002), some (.int (nI (7 + k))), some (.int (nI (i + 1))), some (.int (nI 0))] [] ν2 Q := by
        intro Q
        rw [hrun]
        simp (disch := first | assumption | omega) only [r8_111, r8_112, r8_115, r8_118, rI_wI, rL_wL, rR_wR, rI_wL, rI_wR, rL_wI, rL_wR, rR_wI, rR_wL, va_rf_some, va_rf_none, Option.toList_some, Option.toList_none, List.nil_append, List.cons_append, true_and, and_true, false_and, and_false, and_self, if_true, if_false, not_true_eq_false, not_false_eq_true, or_false, false_or, or_true, true_or, or_self, ite_true, ite_false, Option.some.injEq, reduceCtorEq, Nat.reduceMod, Nat.reduceDiv, Nat.reduceLeDiff, Nat.reduceEqDiff, Nat.reduceAdd, Nat.reduceMul, Nat.reduceSub, Nat.reduceLT, sw_nil, sw_int, sw_long, sw_ref, li, lo, nI_m1, ng_eq, nn_eq, en_eq, ng_le, ng_lt, Int32.neg_neg, nI_add, pk_mul, nI_clampO, nI_ltO, nI_leO, nI_eqO, nI_subO, nle_t, nle_f, nlt_t, nlt_f, neq_f, m3]
      refine ⟨fun f hf => ?_, fun κ'' T' hf => ?_⟩
      · obtain ⟨ν3, kd, pl, p1, p2, p3, p4, p5, p6⟩ := i1 f hf
        exact ⟨ν3, kd, pl, IFb_tr hIF p1, p2, p3, p4, p5, fun Q => (st Q).trans (p6 Q)⟩
      · obtain ⟨ν3, p1, p2, p3, p4, p5, p6⟩ := i2 κ'' T' hf
        exact ⟨ν3, IFb_tr hIF p1, p2, p3, p4, p5, fun Q => (st Q).trans (p6 Q)⟩
    -- a fault here
    have ft : ∀ kd ν, (kd = 1 ∨ kd = 5) → GFb L0 μ ν → (∀ Q, R (d + 4) 8 31 [some (.ref 7000001), some (.ref 6000003), some (.ref 34000002), some (.int (nI (7 + k))), some (.int (nI i)), v5] [] μ Q = Q (some (.int (nI kd))) ν) → ∃ ν kd' pl, IFb L0 k μ ν ∧ (kd' = 1 ∨ kd' = 5) ∧ rI ν 6000003 3 = nI pl ∧ ftk kd t = kd' + 16 * pl ∧ pl ≤ 1000 ∧ ∀ Q, R (d + 4) 8 31 [some (.ref 7000001), some (.ref 6000003), some (.ref 34000002), some (.int (nI (7 + k))), some (.int (nI i)), v5] [] μ Q = Q (some (.int (nI kd'))) ν := fun kd ν hkd hG hrun => ⟨ν, kd, t.1, IFb_H (HFb_G hG), hkd, (hG.1 _ _ (by omega)).trans hx.2.2.1, rfl, by omega, hrun⟩
    cases du with
    | true =>
      have h3' : rI μ 7000001 3 = nI 1 := h3
      obtain ⟨p1, p2, p3, p4⟩ := c9b (d := d) hc hk hS hw hns hT (by omega)
      obtain ⟨nw1, nw2, nw3, nw4⟩ := nots_wf hw
      have callr : ∀ (kd : Nat) ν, (∀ Q, R (d + 3) 9 0 [some (.ref 7000001), some (.ref 6000003), some (.int (nI (7 + k))), none, none] [] μ Q = Q (some (.int (nI kd))) ν) → kd ≤ 5 → ∀ Q, R (d + 4) 8 31 [some (.ref 7000001), some (.ref 6000003), some (.ref 34000002), some (.int (nI (7 + k))), some (.int (nI i)), v5] [] μ Q = if kd = 0 then R (d + 4) 8 111 [some (.ref 7000001), some (.ref 6000003), some (.ref 34000002), some (.int (nI (7 + k))), some (.int (nI i)), some (.int (nI 0))] [] ν Q else Q (some (.int (nI kd))) ν := by
        intro kd ν hcall hkd Q
        rw [r8_31]
        by_cases z : kd = 0
        · subst z
          rw [if_pos rfl]
          simp (disch := first | assumption | omega) only [r8_0, r8_1, r8_2, r8_2n, r8_5, r8_6, r8_7, r8_10, r8_11, r8_12, r8_15, r8_16, r8_17, r8_20, r8_21, r8_24, r8_25, r8_28, r8_29, r8_33, r8_36, r8_39, r8_40, r8_43, r8_46, r8_47, r8_50, r8_53, r8_54, r8_57, r8_59, r8_62, r8_63, r8_64, r8_67, r8_68, r8_71, r8_72, r8_75, r8_76, r8_77, r8_78, r8_81, r8_84, r8_85, r8_86, r8_87, r8_90, r8_93, r8_94, r8_95, r8_98, r8_101, r8_103, r8_105, r8_108, r8_110, r8_112, r8_115, r8_118, r8_121, r8_122, rI_wI, rL_wL, rR_wR, rI_wL, rI_wR, rL_wI, rL_wR, rR_wI, rR_wL, va_rf_some, va_rf_none, Option.toList_some, Option.toList_none, List.nil_append, List.cons_append, true_and, and_true, false_and, and_false, and_self, if_true, if_false, not_true_eq_false, not_false_eq_true, or_false, false_or, or_true, true_or, or_self, ite_true, ite_false, Option.some.injEq, reduceCtorEq, Nat.reduceMod, Nat.reduceDiv, Nat.reduceLeDiff, Nat.reduceEqDiff, Nat.reduceAdd, Nat.reduceMul, Nat.reduceSub, Nat.reduceLT, sw_nil, sw_int, sw_long, sw_ref, li, lo, nI_m1, ng_eq, nn_eq, en_eq, ng_le, ng_lt, Int32.neg_neg, nI_add, pk_mul, nI_clampO, nI_ltO, nI_leO, nI_eqO, nI_subO, nle_t, nle_f, nlt_t, nlt_f, neq_f, h3', hcall]
        · rw [if_neg z]
          simp (disch := first | assumption | omega) only [r8_0, r8_1, r8_2, r8_2n, r8_5, r8_6, r8_7, r8_10, r8_11, r8_12, r8_15, r8_16, r8_17, r8_20, r8_21, r8_24, r8_25, r8_28, r8_29, r8_33, r8_36, r8_39, r8_40, r8_43, r8_46, r8_47, r8_50, r8_53, r8_54, r8_57, r8_59, r8_62, r8_63, r8_64, r8_67, r8_68, r8_71, r8_72, r8_75, r8_76, r8_77, r8_78, r8_81, r8_84, r8_85, r8_86, r8_87, r8_90, r8_93, r8_94, r8_95, r8_98, r8_101, r8_103, r8_105, r8_108, r8_110, r8_112, r8_115, r8_118, r8_121, r8_122, rI_wI, rL_wL, rR_wR, rI_wL, rI_wR, rL_wI, rL_wR, rR_wI, rR_wL, va_rf_some, va_rf_none, Option.toList_some, Option.toList_none, List.nil_append, List.cons_append, true_and, and_true, false_and, and_false, and_self, if_true, if_false, not_true_eq_false, not_false_eq_true, or_false, false_or, or_true, true_or, or_self, ite_true, ite_false, Option.some.injEq, reduceCtorEq, Nat.reduceMod, Nat.reduceDiv, Nat.reduceLeDiff, Nat.reduceEqDiff, Nat.reduceAdd, Nat.reduceMul, Nat.reduceSub, Nat.reduceLT, sw_nil, sw_int, sw_long, sw_ref, li, lo, nI_m1, ng_eq, nn_eq, en_eq, ng_le, ng_lt, Int32.neg_neg, nI_add, pk_mul, nI_clampO, nI_ltO, nI_leO, nI_eqO, nI_subO, nle_t, nle_f, nlt_t, nlt_f, neq_f, h3', hcall]
      rw [mac]
      by_cases ho : t.2.1 = 23 ∨ t.2.1 = 40
      · rw [if_pos ho]
        by_cases h5 : 5 ≤ nst σ
        · rw [if_pos h5]
          refine ⟨fun f hf => ?_, fun κ' T' hf => by simp at hf⟩
          have hf' : ftk 5 t = f := by simpa using hf
          rw [← hf']
          exact ft 5 μ (Or.inr rfl) (GFb_rf L0 μ) (fun Q => callr 5 μ (p3 (by rcases ho with o | o; exact Or.inl o; exact Or.inr (Or.inl o)) h5) (by omega) Q)
        · rw [if_neg h5]
          obtain ⟨ν, g1, g2, g3⟩ := p1 ho (by omega)
          have hns' : nst (t.2.1 :: σ) = 1 + nst σ := by show (if t.2.1 = 23 ∨ t.2.1 = 40 then 1 else 0) + nst σ = _; rw [if_pos ho]
          exact go (t.2.1 :: σ) true κ ν g1 g2 ⟨hw, Or.inl ho⟩ (by omega) (fun q => by simp at q) (by simp; omega) (by omega) (fun Q => callr 0 ν g3 (by omega) Q)
      · rw [if_neg ho]
        by_cases h29 : t.2.1 = 29
        · rw [if_pos h29]
          by_cases h5 : 5 ≤ nst σ
          · rw [if_pos h5]
            refine ⟨fun f hf => ?_, fun κ' T' hf => by simp at hf⟩
            have hf' : ftk 5 t = f := by simpa using hf
            rw [← hf']
            exact ft 5 μ (Or.inr rfl) (GFb_rf L0 μ) (fun Q => callr 5 μ (p3 (Or.inr (Or.inr (Or.inl h29))) h5) (by omega) Q)
          · rw [if_neg h5]
            obtain ⟨ν, g1, g2, g3⟩ := p2 (1, n10 t.2.2.1) (Or.inl ⟨h29, rfl⟩) (by omega)
            exact go (nots σ).2 false _ ν g1 g2 nw1 (by omega) (fun _ => nw4) (by rw [List.length_append, List.length_cons]; omega) (by omega) (fun Q => callr 0 ν g3 (by omega) Q)
        · rw [if_neg h29]
          rcases Classical.em (fal k t.2.1) with hfa | hfa
          · rw [pN_t hfa, if_pos rfl]
            have h30 : t.2.1 ≠ 30 := by rcases fal_l hfa with z | z | ⟨-, z | z | z⟩ <;> omega
            by_cases h5 : 5 ≤ nst σ
            · rw [if_pos h5]
              refine ⟨fun f hf => ?_, fun κ' T' hf => by simp at hf⟩
              have hf' : ftk 5 t = f := by simpa using hf
              rw [← hf']
              exact ft 5 μ (Or.inr rfl) (GFb_rf L0 μ) (fun Q => callr 5 μ (p3 (Or.inr (Or.inr (Or.inr hfa))) h5) (by omega) Q)
            · rw [if_neg h5]
              obtain ⟨ν, g1, g2, g3⟩ := p2 (2, fci t.2.1) (Or.inr ⟨h29, hfa, rfl⟩) (by omega)
              exact go (nots σ).2 false _ ν g1 g2 nw1 (by omega) (fun _ => nw4) (by rw [List.length_append, List.length_cons]; omega) h30 (fun Q => callr 0 ν g3 (by omega) Q)
          · rw [pN_f hfa, if_neg (by omega)]
            refine ⟨fun f hf => ?_, fun κ' T' hf => by simp at hf⟩
            have hf' : ftk 1 t = f := by simpa using hf
            rw [← hf']
            exact ft 1 μ (Or.inl rfl) (GFb_rf L0 μ) (fun Q => callr 1 μ (p4 (fun q => by rcases q with q | q | q | q; exact ho (Or.inl q); exact ho (Or.inr q); exact h29 q; exact hfa q)) (by omega) Q)
    | false =>
      have h3' : rI μ 7000001 3 = nI 0 := h3
      have hh := h23 rfl
      rw [mac]
      by_cases he : t.2.1 = 59 ∧ nst σ = 0
      · rw [if_pos he]
        refine ⟨fun f hf => by simp at hf, fun κ' T' hf => ?_⟩
        have hf' : (κ ++ (joi 1 σ).1, t :: T) = (κ', T') := by simpa using hf
        cases hf'
        obtain ⟨j1, j2, j3, j4⟩ := joi_wf 1 hw (by omega)
        obtain ⟨ν1, n1, n2, n3, n4, n5⟩ := c13b (d := d + 2) (L0 := L0) (r := 1) (by omega) (by omega) hF h4 hw (by omega) hW hK (by omega)
        obtain ⟨b1, b2, b3, b4, b5⟩ := GFb_b n1 hF hCT hKW h6 h4
        have hlen : (κ ++ (joi 1 σ).1).length ≤ κ.length + σ.length := by rw [List.length_append]; omega
        have hTX := GFb_TX n1 hT
        refine ⟨wI ν1 37000320 k (nI (L0 + (κ ++ (joi 1 σ).1).length)), IFb_tr (IFb_H (HFb_G n1)) (IFb_e L0 k _ _), ?_, ⟨by rw [rI_wI, if_neg (by omega)]; exact n4.1, fun i hi => by rw [rI_wI, if_neg (by omega)]; exact n4.2 i hi⟩, by rw [rI_wI, if_pos ⟨rfl, rfl⟩], by simp only [List.length_cons]; omega, fun Q => ?_⟩
        · obtain ⟨k0, k1, k2, k3, k4, k5, k6, k7⟩ := hTX
          have e : ∀ j, rI (wI ν1 37000320 k (nI (L0 + (κ ++ (joi 1 σ).1).length))) 6000003 j = rI ν1 6000003 j := fun j => by rw [rI_wI, if_neg (by omega)]
          exact ⟨k0, k1, k2, (e 1).trans k3, (e 2).trans k4, (e 3).trans k5, fun q => (e 4).trans (k6 q), fun q => k7 q⟩
        · obtain ⟨e1, e2⟩ := he
          rw [e1] at x2
          rw [e2] at h2
          have g1 := n4.1
          have e7 : 7 + k - 7 = k := by omega
          have c20 : ∀ Q, R (d + 3) 20 0 [some (.ref 34000002), some (.int (nI (7 + k)))] [] ν1 Q = Q none (wI ν1 37000320 k (nI (L0 + (κ ++ (joi 1 σ).1).length))) := by
            intro Q
            simp (disch := first | assumption | omega) only [r20_0, r20_1, r20_4, r20_5, r20_7, r20_8, r20_9, r20_12, r20_13, rI_wI, rL_wL, rR_wR, rI_wL, rI_wR, rL_wI, rL_wR, rR_wI, rR_wL, va_rf_some, va_rf_none, Option.toList_some, Option.toList_none, List.nil_append, List.cons_append, true_and, and_true, false_and, and_false, and_self, if_true, if_false, not_true_eq_false, not_false_eq_true, or_false, false_or, or_true, true_or, or_self, ite_true, ite_false, Option.some.injEq, reduceCtorEq, Nat.reduceMod, Nat.reduceDiv, Nat.reduceLeDiff, Nat.reduceEqDiff, Nat.reduceAdd, Nat.reduceMul, Nat.reduceSub, Nat.reduceLT, sw_nil, sw_int, sw_long, sw_ref, li, lo, nI_m1, ng_eq, nn_eq, en_eq, ng_le, ng_lt, Int32.neg_neg, nI_add, pk_mul, nI_clampO, nI_ltO, nI_leO, nI_eqO, nI_subO, nle_t, nle_f, nlt_t, nlt_f, neq_f, fx_2000010_0, fx_2000010_1, fx_2000010_4, fx_2000010_5, fx_2000010_6, fx_2000010_8, fx_2000010_10, fx_2000010_11, fx_2000010_12, fx_2000010_13, fx_2000010_14, fx_2000010_15, fx_2000010_16, fx_2000010_17, fx_2000010_18, fx_3000009_0, fx_5000007_0, fx_5000007_1, fx_5000007_2, fx_5000007_3, fx_7000001_0, fx_11000005_1, fx_11000005_2, fx_11000005_3, fx_11000005_4, fx_11000005_5, fx_11000005_6, fx_11000005_10, fx_11000005_11, fx_11000005_12, fx_20000002_0, fx_20000002_2, fx_20000002_3, fx_20000002_4, fx_25000005_1, fx_25000005_2, fx_25000005_3, fx_25000005_4, fx_25000005_5, fx_25000005_6, fx_25000005_10, fx_25000005_11, fx_25000005_12, fx_34000002_0, fx_34000002_2, fx_34000002_3, fx_34000002_4, fx_39000008_0, fx_41000006_0, fx_42002024_0, fx_42002024_1, fx_42002024_2, fx_42002024_3, fx_42002024_4, fx_42002024_5, fx_42002024_6, fx_42002024_7, fx_42002024_8, fx_42002024_9, fx_42002024_10, fx_42002024_11, fx_42002024_12, fx_42002024_13, fx_42002024_14, fx_42002024_15, fx_42002024_16, fx_42002024_17, fx_42002024_18, fx_42002024_19, fx_43000008_0, fx_45000008_0, fx_47000008_0, fx_49000008_0, fx_51000008_0, fx_53000008_0, fx_55000008_0, fx_57000008_0, fx_59000008_0, fx_61000008_0, fx_63000008_0, fx_65000008_0, fx_67000008_0, fx_69000008_0, fx_71000008_0, fx_73000008_0, fx_75000008_0, fx_77000008_0, fx_79000008_0, fx_81000008_0, fx_83000424_0, fx_83000424_1, fx_83000424_2, fx_83000424_3, fx_85000004_0, fx_85000004_1, fx_85000004_2, fx_85000004_3, fx_85000004_4, fx_85000004_5, fx_85000004_6, fx_85000004_10, fx_102000008_0, fx_104000008_0, fx_106000008_0, fx_108000008_0, fx_110000011_1, fx_110000011_4, fx_110000011_5, fx_110000011_6, fx_110000011_9, fx_110000011_10, fx_110000011_11, fx_110000011_12, fx_110000011_14, fx_110000011_15, fx_110000011_20, fx_110000011_21, fx_110000011_22, fx_110000011_23, fx_110000011_25, fx_110000011_26, fx_110000011_31, fx_110000011_32, fx_110000011_37, fx_110000011_38, fx_110000011_39, fx_110000011_40, g1, e7]
          rw [r8_31]
          simp (disch := first | assumption | omega) only [r8_0, r8_1, r8_2, r8_2n, r8_5, r8_6, r8_7, r8_10, r8_11, r8_12, r8_15, r8_16, r8_17, r8_20, r8_21, r8_24, r8_25, r8_28, r8_29, r8_33, r8_36, r8_39, r8_40, r8_43, r8_46, r8_47, r8_50, r8_53, r8_54, r8_57, r8_59, r8_62, r8_63, r8_64, r8_67, r8_68, r8_71, r8_72, r8_75, r8_76, r8_77, r8_78, r8_81, r8_84, r8_85, r8_86, r8_87, r8_90, r8_93, r8_94, r8_95, r8_98, r8_101, r8_103, r8_105, r8_108, r8_110, r8_112, r8_115, r8_118, r8_121, r8_122, rI_wI, rL_wL, rR_wR, rI_wL, rI_wR, rL_wI, rL_wR, rR_wI, rR_wL, va_rf_some, va_rf_none, Option.toList_some, Option.toList_none, List.nil_append, List.cons_append, true_and, and_true, false_and, and_false, and_self, if_true, if_false, not_true_eq_false, not_false_eq_true, or_false, false_or, or_true, true_or, or_self, ite_true, ite_false, Option.some.injEq, reduceCtorEq, Nat.reduceMod, Nat.reduceDiv, Nat.reduceLeDiff, Nat.reduceEqDiff, Nat.reduceAdd, Nat.reduceMul, Nat.reduceSub, Nat.reduceLT, sw_nil, sw_int, sw_long, sw_ref, li, lo, nI_m1, ng_eq, nn_eq, en_eq, ng_le, ng_lt, Int32.neg_neg, nI_add, pk_mul, nI_clampO, nI_ltO, nI_leO, nI_eqO, nI_subO, nle_t, nle_f, nlt_t, nlt_f, neq_f, h3', h2, x2, n5, b5, c20]
      · rw [if_neg he]
        have callo : ∀ (kd : Nat) ν, (∀ Q, R (d + 3) 11 0 [some (.ref 7000001), some (.int (nI t.2.1)), none, none] [] μ Q = Q (some (.int (nI kd))) ν) → kd ≤ 5 → ∀ Q, R (d + 4) 8 31 [some (.ref 7000001), some (.ref 6000003), some (.ref 34000002), some (.int (nI (7 + k))), some (.int (nI i)), v5] [] μ Q = if kd = 0 then R (d + 4) 8 111 [some (.ref 7000001), some (.ref 6000003), some (.ref 34000002), some (.int (nI (7 + k))), some (.int (nI i)), some (.int (nI 0))] [] ν Q else Q (some (.int (nI kd))) ν := by
          intro kd ν hcall hkd Q
          have h77 : R (d + 4) 8 31 [some (.ref 7000001), some (.ref 6000003), some (.ref 34000002), some (.int (nI (7 + k))), some (.int (nI i)), v5] [] μ Q = R (d + 4) 8 77 [some (.ref 7000001), some (.ref 6000003), some (.ref 34000002), some (.int (nI (7 + k))), some (.int (nI i)), v5] [] μ Q := by
            rw [r8_31]
            by_cases z : nst σ = 0
            · have hne : t.2.1 ≠ 59 := fun q => he ⟨q, z⟩
              rw [z] at h2
              simp (disch := first | assumption | omega) only [r8_0, r8_1, r8_2, r8_2n, r8_5, r8_6, r8_7, r8_10, r8_11, r8_12, r8_15, r8_16, r8_17, r8_20, r8_21, r8_24, r8_25, r8_28, r8_29, r8_33, r8_36, r8_39, r8_40, r8_43, r8_46, r8_47, r8_50, r8_53, r8_54, r8_57, r8_59, r8_62, r8_63, r8_64, r8_67, r8_68, r8_71, r8_72, r8_75, r8_76, r8_78, r8_81, r8_84, r8_85, r8_86, r8_87, r8_90, r8_93, r8_94, r8_95, r8_98, r8_101, r8_103, r8_105, r8_108, r8_110, r8_112, r8_115, r8_118, r8_121, r8_122, rI_wI, rL_wL, rR_wR, rI_wL, rI_wR, rL_wI, rL_wR, rR_wI, rR_wL, va_rf_some, va_rf_none, Option.toList_some, Option.toList_none, List.nil_append, List.cons_append, true_and, and_true, false_and, and_false, and_self, if_true, if_false, not_true_eq_false, not_false_eq_true, or_false, false_or, or_true, true_or, or_self, ite_true, ite_false, Option.some.injEq, reduceCtorEq, Nat.reduceMod, Nat.reduceDiv, Nat.reduceLeDiff, Nat.reduceEqDiff, Nat.reduceAdd, Nat.reduceMul, Nat.reduceSub, Nat.reduceLT, sw_nil, sw_int, sw_long, sw_ref, li, lo, nI_m1, ng_eq, nn_eq, en_eq, ng_le, ng_lt, Int32.neg_neg, nI_add, pk_mul, nI_clampO, nI_ltO, nI_leO, nI_eqO, nI_subO, nle_t, nle_f, nlt_t, nlt_f, neq_f, h3', h2, x2]
            · simp (disch := first | assumption | omega) only [r8_0, r8_1, r8_2, r8_2n, r8_5, r8_6, r8_7, r8_10, r8_11, r8_12, r8_15, r8_16, r8_17, r8_20, r8_21, r8_24, r8_25, r8_28, r8_29, r8_33, r8_36, r8_39, r8_40, r8_43, r8_46, r8_47, r8_50, r8_53, r8_54, r8_57, r8_59, r8_62, r8_63, r8_64, r8_67, r8_68, r8_71, r8_72, r8_75, r8_76, r8_78, r8_81, r8_84, r8_85, r8_86, r8_87, r8_90, r8_93, r8_94, r8_95, r8_98, r8_101, r8_103, r8_105, r8_108, r8_110, r8_112, r8_115, r8_118, r8_121, r8_122, rI_wI, rL_wL, rR_wR, rI_wL, rI_wR, rL_wI, rL_wR, rR_wI, rR_wL, va_rf_some, va_rf_none, Option.toList_some, Option.toList_none, List.nil_append, List.cons_append, true_and, and_true, false_and, and_false, and_self, if_true, if_false, not_true_eq_false, not_false_eq_true, or_false, false_or, or_true, true_or, or_self, ite_true, ite_false, Option.some.injEq, reduceCtorEq, Nat.reduceMod, Nat.reduceDiv, Nat.reduceLeDiff, Nat.reduceEqDiff, Nat.reduceAdd, Nat.reduceMul, Nat.reduceSub, Nat.reduceLT, sw_nil, sw_int, sw_long, sw_ref, li, lo, nI_m1, ng_eq, nn_eq, en_eq, ng_le, ng_lt, Int32.neg_neg, nI_add, pk_mul, nI_clampO, nI_ltO, nI_leO, nI_eqO, nI_subO, nle_t, nle_f, nlt_t, nlt_f, neq_f, h3', h2, x2]
          rw [h77]
          by_cases z : kd = 0
          · subst z
            rw [if_pos rfl]
            simp (disch := first | assumption | omega) only [r8_0, r8_1, r8_2, r8_2n, r8_5, r8_6, r8_7, r8_10, r8_11, r8_12, r8_15, r8_16, r8_17, r8_20, r8_21, r8_24, r8_25, r8_28, r8_29, r8_33, r8_36, r8_39, r8_40, r8_43, r8_46, r8_47, r8_50, r8_53, r8_54, r8_57, r8_59, r8_62, r8_63, r8_64, r8_67, r8_68, r8_71, r8_72, r8_75, r8_76, r8_77, r8_78, r8_81, r8_84, r8_85, r8_86, r8_87, r8_90, r8_93, r8_94, r8_95, r8_98, r8_101, r8_103, r8_105, r8_108, r8_110, r8_112, r8_115, r8_118, r8_121, r8_122, rI_wI, rL_wL, rR_wR, rI_wL, rI_wR, rL_wI, rL_wR, rR_wI, rR_wL, va_rf_some, va_rf_none, Option.toList_some, Option.toList_none, List.nil_append, List.cons_append, true_and, and_true, false_and, and_false, and_self, if_true, if_false, not_true_eq_false, not_false_eq_true, or_false, false_or, or_true, true_or, or_self, ite_true, ite_false, Option.some.injEq, reduceCtorEq, Nat.reduceMod, Nat.reduceDiv, Nat.reduceLeDiff, Nat.reduceEqDiff, Nat.reduceAdd, Nat.reduceMul, Nat.reduceSub, Nat.reduceLT, sw_nil, sw_int, sw_long, sw_ref, li, lo, nI_m1, ng_eq, nn_eq, en_eq, ng_le, ng_lt, Int32.neg_neg, nI_add, pk_mul, nI_clampO, nI_ltO, nI_leO, nI_eqO, nI_subO, nle_t, nle_f, nlt_t, nlt_f, neq_f, h3', x2, hcall]
          · rw [if_neg z]
            simp (disch := first | assumption | omega) only [r8_0, r8_1, r8_2, r8_2n, r8_5, r8_6, r8_7, r8_10, r8_11, r8_12, r8_15, r8_16, r8_17, r8_20, r8_21, r8_24, r8_25, r8_28, r8_29, r8_33, r8_36, r8_39, r8_40, r8_43, r8_46, r8_47, r8_50, r8_53, r8_54, r8_57, r8_59, r8_62, r8_63, r8_64, r8_67, r8_68, r8_71, r8_72, r8_75, r8_76, r8_77, r8_78, r8_81, r8_84, r8_85, r8_86, r8_87, r8_90, r8_93, r8_94, r8_95, r8_98, r8_101, r8_103, r8_105, r8_108, r8_110, r8_112, r8_115, r8_118, r8_121, r8_122, rI_wI, rL_wL, rR_wR, rI_wL, rI_wR, rL_wI, rL_wR, rR_wI, rR_wL, va_rf_some, va_rf_none, Option.toList_some, Option.toList_none, List.nil_append, List.cons_append, true_and, and_true, false_and, and_false, and_self, if_true, if_false, not_true_eq_false, not_false_eq_true, or_false, false_or, or_true, true_or, or_self, ite_true, ite_false, Option.some.injEq, reduceCtorEq, Nat.reduceMod, Nat.reduceDiv, Nat.reduceLeDiff, Nat.reduceEqDiff, Nat.reduceAdd, Nat.reduceMul, Nat.reduceSub, Nat.reduceLT, sw_nil, sw_int, sw_long, sw_ref, li, lo, nI_m1, ng_eq, nn_eq, en_eq, ng_le, ng_lt, Int32.neg_neg, nI_add, pk_mul, nI_clampO, nI_ltO, nI_leO, nI_eqO, nI_subO, nle_t, nle_f, nlt_t, nlt_f, neq_f, h3', x2, hcall]
        by_cases hp : t.2.1 = 41 ∧ 0 < nst σ
        · rw [if_pos hp]
          obtain ⟨ν, g1, g2, g3⟩ := c11b_p (d := d) hS hw hns hh hp.2 (by omega)
          rw [← hp.1] at g3
          obtain ⟨j1, j2, j3, j4⟩ := joi_wf 1 hw (by omega)
          obtain ⟨τ, hτ⟩ := top_p j1 (by omega) (by omega) (joi_23 1 hw (by omega) hh)
          rw [hτ, List.tail_cons] at g2 ⊢
          rw [hτ] at j1 j2 j4
          obtain ⟨w1, w2, w3, w4⟩ := nots_wf j1.1
          have hns2 : nst (40 :: τ) = 1 + nst τ := rfl
          have jl : (joi 1 σ).1.length + (τ.length + 1) = σ.length := by simpa using j4
          exact go (nots τ).2 false _ ν g1 g2 w1 (by omega) (fun _ => w4) (by rw [List.length_append, List.length_append]; omega) (by omega) (fun Q => callo 0 ν g3 (by omega) Q)
        · rw [if_neg hp]
          obtain ⟨o1, o2, o3⟩ := c11b_o (d := d) hx8 hS hw hns hp (by omega)
          by_cases hr0 : rk t.2.1 = 0
          · rw [if_pos hr0]
            refine ⟨fun f hf => ?_, fun κ' T' hf => by simp at hf⟩
            have hf' : ftk 1 t = f := by simpa using hf
            rw [← hf']
            exact ft 1 μ (Or.inl rfl) (GFb_rf L0 μ) (fun Q => callo 1 μ (o1 hr0) (by omega) Q)
          · rw [if_neg hr0]
            have h30 := rk_30n (t := t.2.1) (by omega)
            have htn : ¬ (t.2.1 = 23 ∨ t.2.1 = 40) := fun q => by rw [rk_c q] at hr0; omega
            have hnn : ∀ τ, nst (t.2.1 :: τ) = nst τ := fun τ => by show (if t.2.1 = 23 ∨ t.2.1 = 40 then 1 else 0) + nst τ = _; rw [if_neg htn]; omega
            by_cases hr2 : rk t.2.1 = 2
            · rw [if_pos hr2]
              by_cases hz : rk ((joi 3 σ).2.headD 30) = 2
              · rw [if_pos hz]
                refine ⟨fun f hf => ?_, fun κ' T' hf => by simp at hf⟩
                have hf' : ftk 1 t = f := by simpa using hf
                rw [← hf']
                obtain ⟨ν, g1, g2⟩ := o2 hr2 hz
                exact ft 1 ν (Or.inl rfl) g1 (fun Q => callo 1 ν g2 (by omega) Q)
              · rw [if_neg hz]
                obtain ⟨j1, j2, j3, j4⟩ := joi_wf 3 hw (by omega)
                obtain ⟨ν, g1, g2, g3⟩ := o3 3 (Or.inl ⟨hr2, rfl, hz⟩)
                exact go _ true _ ν g1 g2 ⟨j1, Or.inr ⟨by omega, by omega, joi_23 3 hw (by omega) hh⟩⟩ (by rw [hnn]; omega) (fun q => by simp at q) (by rw [List.length_append, List.length_cons]; omega) h30 (fun Q => callo 0 ν g3 (by omega) Q)
            · rw [if_neg hr2]
              obtain ⟨j1, j2, j3, j4⟩ := joi_wf (rk t.2.1) hw (by omega)
              obtain ⟨ν, g1, g2, g3⟩ := o3 (rk t.2.1) (Or.inr ⟨hr2, by omega, rfl⟩)
              exact go _ true _ ν g1 g2 ⟨j1, Or.inr ⟨by omega, j3, joi_23 _ hw (by omega) hh⟩⟩ (by rw [hnn]; omega) (fun q => by simp at q) (by rw [List.length_append, List.length_cons]; omega) h30 (fun Q => callo 0 ν g3 (by omega) Q)
theorem c8b (hn : tp.length ≤ 1000) (hc : ∀ c, c ∈ tp → c < 127) {L0 k : Nat} (hk : k < 3) {T : List Tok} (hF : FX μ) (hCT : CTp μ tp) (hKW : KW μ) (h6 : rR μ 6000003 0 = some 3000009) (hL : rI μ 34000002 1 = nI L0) (hT : TX μ tp T) (hb : L0 + T.length ≤ 1000) :
    ∃ ν0, (∀ a j, a ≠ 7000001 → ¬ (a = 36000320 ∧ j = k) → rI ν0 a j = rI μ a j) ∧ (∀ a j, rL ν0 a j = rL μ a j) ∧ (∀ a j, ¬ (a = 7000001 ∧ j = 4) → rR ν0 a j = rR μ a j) ∧ aS ν0 = aS μ ∧ FX ν0 ∧ rI ν0 36000320 k = nI L0 ∧
    (∀ f, mac k T [] true [] = .error f → ∃ ν kd pl, IFb L0 k ν0 ν ∧ (kd = 1 ∨ kd = 5) ∧ rI ν 6000003 3 = nI pl ∧ f = kd + 16 * pl ∧ pl ≤ 1000 ∧ ∀ Q, R (d + 4) 8 0 [some (.ref 7000001), some (.ref 6000003), some (.ref 34000002), some (.int (nI (7 + k))), none, none] [] μ Q = Q (some (.int (nI kd))) ν) ∧
    (∀ κ' T', mac k T [] true [] = .ok (κ', T') → ∃ ν, IFb L0 k ν0 ν ∧ TX ν tp T' ∧ KSb ν L0 κ' ∧ rI ν 36000320 k = nI L0 ∧ rI ν 37000320 k = nI (L0 + κ'.length) ∧ L0 + κ'.length + T'.length ≤ 1000 ∧ ∀ Q, R (d + 4) 8 0 [some (.ref 7000001), some (.ref 6000003), some (.ref 34000002), some (.int (nI (7 + k))), none, none] [] μ Q = Q (some (.int (nI 0))) ν) := by
  let ν0 := wI (wI (wI (wI (wR μ 7000001 4 (some 34000002)) 7000001 1 (nI 0)) 7000001 2 (nI 0)) 7000001 3 (nI 1)) 36000320 k (nI L0)
  have hi : ∀ a j, a ≠ 7000001 → ¬ (a = 36000320 ∧ j = k) → rI ν0 a j = rI μ a j := fun a j h1 h2 => by
    show rI (wI (wI (wI (wI (wR μ 7000001 4 (some 34000002)) 7000001 1 (nI 0)) 7000001 2 (nI 0)) 7000001 3 (nI 1)) 36000320 k (nI L0)) a j = _
    rw [rI_wI, if_neg (fun q => h2 ⟨q.1.symm, q.2.symm⟩), rI_wI, if_neg (fun q => h1 q.1.symm), rI_wI, if_neg (fun q => h1 q.1.symm), rI_wI, if_neg (fun q => h1 q.1.symm)]
    rfl
  have hRR : ∀ a j, ¬ (a = 7000001 ∧ j = 4) → rR ν0 a j = rR μ a j := fun a j h => by
    show rR (wR μ 7000001 4 (some 34000002)) a j = _
    rw [rR_wR, if_neg (fun q => h ⟨q.1.symm, q.2.symm⟩)]
  have hF0 : FX ν0 := fun q hq => by
    rw [hRR _ _ (fx_n7 q hq)]
    exact hF q hq
  have h4 : rR ν0 7000001 4 = some 34000002 := by
    show rR (wR μ 7000001 4 (some 34000002)) 7000001 4 = _
    rw [rR_wR, if_pos ⟨rfl, rfl⟩]
  have b0 : rI ν0 36000320 k = nI L0 := by
    show rI (wI (wI (wI (wI (wR μ 7000001 4 (some 34000002)) 7000001 1 (nI 0)) 7000001 2 (nI 0)) 7000001 3 (nI 1)) 36000320 k (nI L0)) 36000320 k = _
    rw [rI_wI, if_pos ⟨rfl, rfl⟩]
  have i7 : rI ν0 7000001 1 = nI 0 ∧ rI ν0 7000001 2 = nI 0 ∧ rI ν0 7000001 3 = nI 1 := by
    refine ⟨?_, ?_, ?_⟩
    · show rI (wI (wI (wI (wI (wR μ 7000001 4 (some 34000002)) 7000001 1 (nI 0)) 7000001 2 (nI 0)) 7000001 3 (nI 1)) 36000320 k (nI L0)) 7000001 1 = _
      rw [rI_wI, if_neg (by omega), rI_wI, if_neg (by decide), rI_wI, if_neg (by decide), rI_wI, if_pos ⟨rfl, rfl⟩]
    · show rI (wI (wI (wI (wI (wR μ 7000001 4 (some 34000002)) 7000001 1 (nI 0)) 7000001 2 (nI 0)) 7000001 3 (nI 1)) 36000320 k (nI L0)) 7000001 2 = _
      rw [rI_wI, if_neg (by omega), rI_wI, if_neg (by decide), rI_wI, if_pos ⟨rfl, rfl⟩]
    · show rI (wI (wI (wI (wI (wR μ 7000001 4 (some 34000002)) 7000001 1 (nI 0)) 7000001 2 (nI 0)) 7000001 3 (nI 1)) 36000320 k (nI L0)) 7000001 3 = _
      rw [rI_wI, if_neg (by omega), rI_wI, if_pos ⟨rfl, rfl⟩]
  have e6 : ∀ j, rI ν0 6000003 j = rI μ 6000003 j := fun j => hi _ _ (by decide) (by omega)
  have hT0 : TX ν0 tp T := by
    obtain ⟨k0, k1, k2, k3, k4, k5, k6, k7⟩ := hT
    exact ⟨k0, k1, k2, (e6 1).trans k3, (e6 2).trans k4, (e6 3).trans k5, fun q => (e6 4).trans (k6 q), fun q => k7 q⟩
  have hS : LSb ν0 tp L0 [] true [] := ⟨hF0, ⟨(hi _ _ (by decide) (by omega)).trans hCT.1, fun i hi' => (hi _ _ (by decide) (by omega)).trans (hCT.2 i hi')⟩, fun i hi' => hKW i hi', (hRR _ _ (by decide)).trans h6, h4, ⟨i7.1, fun j hj => by simp at hj⟩, i7.2.1, i7.2.2, (hi _ _ (by decide) (by omega)).trans hL, fun i hi' => by simp at hi'⟩
  have hTl : 1 ≤ T.length := by
    cases T with
    | nil => exact (TX_n hT).elim
    | cons t T => simp
  obtain ⟨p1, p2⟩ := c8b_l (d := d) hn hc (L0 := L0) hk T [] true [] 0 ν0 none hS trivial (Nat.zero_le _) (fun q => by simp at q) hT0 (by simp; omega) (by omega)
  have st : ∀ Q, R (d + 4) 8 0 [some (.ref 7000001), some (.ref 6000003), some (.ref 34000002), some (.int (nI (7 + k))), none, none] [] μ Q = R (d + 4) 8 31 [some (.ref 7000001), some (.ref 6000003), some (.ref 34000002), some (.int (nI (7 + k))), some (.int (nI 0)), none] [] ν0 Q := by
    intro Q
    have hF1 : FX (wI (wI (wI (wR μ 7000001 4 (some 34000002)) 7000001 1 (nI 0)) 7000001 2 (nI 0)) 7000001 3 (nI 1)) := hF0
    have hL1 : rI (wI (wI (wI (wR μ 7000001 4 (some 34000002)) 7000001 1 (nI 0)) 7000001 2 (nI 0)) 7000001 3 (nI 1)) 34000002 1 = nI L0 := by
      rw [rI_wI, if_neg (by omega), rI_wI, if_neg (by omega), rI_wI, if_neg (by omega)]; exact hL
    have e7 : 7 + k - 7 = k := by omega
    have c19 : ∀ Q, R (d + 3) 19 0 [some (.ref 34000002), some (.int (nI (7 + k)))] [] (wI (wI (wI (wR μ 7000001 4 (some 34000002)) 7000001 1 (nI 0)) 7000001 2 (nI 0)) 7000001 3 (nI 1)) Q = Q none ν0 := by
      intro Q
      simp (disch := first | assumption | omega) only [r19_0, r19_1, r19_4, r19_5, r19_7, r19_8, r19_9, r19_12, r19_13, rI_wI, rL_wL, rR_wR, rI_wL, rI_wR, rL_wI, rL_wR, rR_wI, rR_wL, va_rf_some, va_rf_none, Option.toList_some, Option.toList_none, List.nil_append, List.cons_append, true_and, and_true, false_and, and_false, and_self, if_true, if_false, not_true_eq_false, not_false_eq_true, or_false, false_or, or_true, true_or, or_self, ite_true, ite_false, Option.some.injEq, reduceCtorEq, Nat.reduceMod, Nat.reduceDiv, Nat.reduceLeDiff, Nat.reduceEqDiff, Nat.reduceAdd, Nat.reduceMul, Nat.reduceSub, Nat.reduceLT, sw_nil, sw_int, sw_long, sw_ref, li, lo, nI_m1, ng_eq, nn_eq, en_eq, ng_le, ng_lt, Int32.neg_neg, nI_add, pk_mul, nI_clampO, nI_ltO, nI_leO, nI_eqO, nI_subO, nle_t, nle_f, nlt_t, nlt_f, neq_f, fx_2000010_0, fx_2000010_1, fx_2000010_4, fx_2000010_5, fx_2000010_6, fx_2000010_8, fx_2000010_10, fx_2000010_11, fx_2000010_12, fx_2000010_13, fx_2000010_14, fx_2000010_15, fx_2000010_16, fx_2000010_17, fx_2000010_18, fx_3000009_0, fx_5000007_0, fx_5000007_1, fx_5000007_2, fx_5000007_3, fx_7000001_0, fx_11000005_1, fx_11000005_2, fx_11000005_3, fx_11000005_4, fx_11000005_5, fx_11000005_6, fx_11000005_10, fx_11000005_11, fx_11000005_12, fx_20000002_0, fx_20000002_2, fx_20000002_3, fx_20000002_4, fx_25000005_1, fx_25000005_2, fx_25000005_3, fx_25000005_4, fx_25000005_5, fx_25000005_6, fx_25000005_10, fx_25000005_11, fx_25000005_12, fx_34000002_0, fx_34000002_2, fx_34000002_3, fx_34000002_4, fx_39000008_0, fx_41000006_0, fx_42002024_0, fx_42002024_1, fx_42002024_2, fx_42002024_3, fx_42002024_4, fx_42002024_5, fx_42002024_6, fx_42002024_7, fx_42002024_8, fx_42002024_9, fx_42002024_10, fx_42002024_11, fx_42002024_12, fx_42002024_13, fx_42002024_14, fx_42002024_15, fx_42002024_16, fx_42002024_17, fx_42002024_18, fx_42002024_19, fx_43000008_0, fx_45000008_0, fx_47000008_0, fx_49000008_0, fx_51000008_0, fx_53000008_0, fx_55000008_0, fx_57000008_0, fx_59000008_0, fx_61000008_0, fx_63000008_0, fx_65000008_0, fx_67000008_0, fx_69000008_0, fx_71000008_0, fx_73000008_0, fx_75000008_0, fx_77000008_0, fx_79000008_0, fx_81000008_0, fx_83000424_0, fx_83000424_1, fx_83000424_2, fx_83000424_3, fx_85000004_0, fx_85000004_1, fx_85000004_2, fx_85000004_3, fx_85000004_4, fx_85000004_5, fx_85000004_6, fx_85000004_10, fx_102000008_0, fx_104000008_0, fx_106000008_0, fx_108000008_0, fx_110000011_1, fx_110000011_4, fx_110000011_5, fx_110000011_6, fx_110000011_9, fx_110000011_10, fx_110000011_11, fx_110000011_12, fx_110000011_14, fx_110000011_15, fx_110000011_20, fx_110000011_21, fx_110000011_22, fx_110000011_23, fx_110000011_25, fx_110000011_26, fx_110000011_31, fx_110000011_32, fx_110000011_37, fx_110000011_38, fx_110000011_39, fx_110000011_40, hL1, e7]
      rfl
    simp (disch := first | assumption | omega) only [r8_0, r8_1, r8_2, r8_5, r8_6, r8_7, r8_10, r8_11, r8_12, r8_15, r8_16, r8_17, r8_20, r8_21, r8_24, r8_25, r8_28, r8_29, rI_wI, rL_wL, rR_wR, rI_wL, rI_wR, rL_wI, rL_wR, rR_wI, rR_wL, va_rf_some, va_rf_none, Option.toList_some, Option.toList_none, List.nil_append, List.cons_append, true_and, and_true, false_and, and_false, and_self, if_true, if_false, not_true_eq_false, not_false_eq_true, or_false, false_or, or_true, true_or, or_self, ite_true, ite_false, Option.some.injEq, reduceCtorEq, Nat.reduceMod, Nat.reduceDiv, Nat.reduceLeDiff, Nat.reduceEqDiff, Nat.reduceAdd, Nat.reduceMul, Nat.reduceSub, Nat.reduceLT, sw_nil, sw_int, sw_long, sw_ref, li, lo, nI_m1, ng_eq, nn_eq, en_eq, ng_le, ng_lt, Int32.neg_neg, nI_add, pk_mul, nI_clampO, nI_ltO, nI_leO, nI_eqO, nI_subO, nle_t, nle_f, nlt_t, nlt_f, neq_f, vnb1, c19]
  refine ⟨ν0, hi, fun _ _ => rfl, hRR, rfl, hF0, b0, fun f hf => ?_, fun κ' T' hf => ?_⟩
  · obtain ⟨ν, kd, pl, q1, q2, q3, q4, q5, q6⟩ := p1 f hf
    exact ⟨ν, kd, pl, q1, q2, q3, q4, q5, fun Q => (st Q).trans (q6 Q)⟩
  · obtain ⟨ν, q1, q2, q3, q4, q5, q6⟩ := p2 κ' T' hf
    exact ⟨ν, q1, q2, q3, (q1.1 _ _ (by omega)).trans b0, q4, q5, fun Q => (st Q).trans (q6 Q)⟩
end T1
