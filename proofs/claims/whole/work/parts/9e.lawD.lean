/-! A LAW READ: THE CLASS -/
theorem tokA_c {tp : List Nat} (hc : ∀ c, c ∈ tp → c < 127) (k : Nat) : (tokA tp k).2.1 < 128 := by
  unfold tokA
  split
  · show (30 : Nat) < 128; decide
  · rename_i h
    split
    · show (if en isL tp k - k ≤ 8 then kwS (b256 (slc tp 96 k (en isL tp k - k))) 28 0 else 31) < 128
      have := kwS_le (b256 (slc tp 96 k (en isL tp k - k))) 28 0 (by omega)
      split <;> omega
    · split
      · show (if en isD tp k - k ≤ 4 then 29 else 31) < 128
        split <;> omega
      · show (if isM (tp.getD k 0) = true then tp.getD k 0 else 31) < 128
        have := hc _ (gD_mem (show k < tp.length by omega))
        split <;> omega
/-- the lexer stands at the first of these -/
def TX (μ : PM) (tp : List Nat) (T : List Tok) : Prop := ∃ k, k ≤ tp.length ∧ isT tp k T ∧ LXr μ (tok tp k)
theorem TX_c {μ : PM} {tp : List Nat} {t : Tok} {T : List Tok} (h : TX μ tp (t :: T)) (hc : ∀ c, c ∈ tp → c < 127) : LXr μ t ∧ t.2.1 < 128 := by
  obtain ⟨k, -, h2, h3⟩ := h
  have e : t = tok tp k := h2.1
  rw [e]
  exact ⟨h3, tokA_c hc _⟩
theorem TX_n {μ : PM} {tp : List Nat} (h : TX μ tp []) : False := by
  obtain ⟨k, -, h2, -⟩ := h
  exact h2
section T1
variable {d : Nat} {μ : PM} {tp : List Nat}
theorem adv (hn : tp.length ≤ 1000) (hc : ∀ c, c ∈ tp → c < 127) (hF : FX μ) (hT : CTp μ tp) (hKW : KW μ) (hr : rR μ 6000003 0 = some 3000009) {t : Tok} {T : List Tok} (h : TX μ tp (t :: T)) (h30 : t.2.1 ≠ 30) : ∃ ν, LFr μ ν ∧ TX ν tp T ∧ ∀ Q, R (d + 2) 31 0 [some (.ref 6000003), none, none] [] μ Q = Q none ν := by
  obtain ⟨k, h1, h2, h3⟩ := h
  obtain ⟨e, h4⟩ := h2
  rw [if_neg h30] at h4
  have hb : t.2.2.2 ≤ tp.length := by
    rw [e]
    obtain ⟨a1, a2⟩ := en_le isW tp h1
    by_cases z : tp.length ≤ en isW tp k
    · have : (tok tp k).2.1 = 30 := by unfold tok; rw [tokA_e z]
      rw [e] at h30
      exact absurd this h30
    · exact (tokA_n (show en isW tp k < tp.length by omega)).2.2.2
  have hx := h3.1
  rw [← e] at hx
  obtain ⟨ν, k1, k2, k3⟩ := c31 (d := d) hn hc hb hF hT hKW hr hx
  exact ⟨ν, k1, ⟨t.2.2.2, hb, h4, k2⟩, k3⟩
theorem fal_l {k t : Nat} (h : fal k t) : t = 26 ∨ t = 3 ∨ (k ≠ 2 ∧ (t = 5 ∨ t = 6 ∨ t = 27)) := by
  unfold fal fci at h
  by_cases k2 : k = 2
  · rw [if_pos k2] at h
    by_cases a : t = 26
    · exact Or.inl a
    · by_cases b : t = 3
      · exact Or.inr (Or.inl b)
      · rw [if_neg a, if_neg b] at h
        split at h
        · omega
        · split at h
          · omega
          · split at h <;> omega
  · rw [if_neg k2] at h
    by_cases a : t = 26
    · exact Or.inl a
    · by_cases b : t = 3
      · exact Or.inr (Or.inl b)
      · by_cases c : t = 5
        · exact Or.inr (Or.inr ⟨k2, Or.inl c⟩)
        · by_cases e : t = 6
          · exact Or.inr (Or.inr ⟨k2, Or.inr (Or.inl e)⟩)
          · by_cases f : t = 27
            · exact Or.inr (Or.inr ⟨k2, Or.inr (Or.inr f)⟩)
            · rw [if_neg a, if_neg b, if_neg c, if_neg e, if_neg f] at h; omega
theorem fal_r {k t : Nat} (h : t = 26 ∨ t = 3 ∨ (k ≠ 2 ∧ (t = 5 ∨ t = 6 ∨ t = 27))) : fal k t := by
  unfold fal
  rcases h with rfl | rfl | ⟨h1, rfl | rfl | rfl⟩
  · show 0 < _; split <;> omega
  · show 1 < _; split <;> omega
  · rw [if_neg h1]; decide
  · rw [if_neg h1]; decide
  · rw [if_neg h1]; decide
theorem c10 {k t : Nat} (hk : k < 3) (ht : t < 128) : ∀ Q, R (d + 1) 10 0 [some (.int (nI t)), some (.int (nI (7 + k)))] [] μ Q = Q (some (.int (nI (pN (fal k t))))) μ := by
  intro Q
  by_cases k2 : k = 2
  · subst k2
    by_cases a : t = 26
    · rw [pN_t (fal_r (Or.inl a))]
      subst a
      simp (disch := first | assumption | omega) only [r10_0, r10_1, r10_3, r10_6, r10_7, r10_9, r10_12, r10_13, r10_14, r10_17, r10_18, r10_21, r10_22, r10_25, r10_26, r10_29, rI_wI, rL_wL, rR_wR, rI_wL, rI_wR, rL_wI, rL_wR, rR_wI, rR_wL, va_rf_some, va_rf_none, Option.toList_some, Option.toList_none, List.nil_append, List.cons_append, true_and, and_true, false_and, and_false, and_self, if_true, if_false, not_true_eq_false, not_false_eq_true, or_false, false_or, or_true, true_or, or_self, ite_true, ite_false, Option.some.injEq, reduceCtorEq, Nat.reduceMod, Nat.reduceDiv, Nat.reduceLeDiff, Nat.reduceEqDiff, Nat.reduceAdd, Nat.reduceMul, Nat.reduceSub, Nat.reduceLT, sw_nil, sw_int, sw_long, sw_ref, li, lo, nI_m1, ng_eq, nn_eq, en_eq, ng_le, ng_lt, Int32.neg_neg, nI_add, pk_mul, nI_clampO, nI_ltO, nI_leO, nI_eqO, nI_subO, nle_t, nle_f, nlt_t, nlt_f, neq_f]
    · by_cases b : t = 3
      · rw [pN_t (fal_r (Or.inr (Or.inl b)))]
        subst b
        simp (disch := first | assumption | omega) only [r10_0, r10_1, r10_3, r10_6, r10_7, r10_9, r10_12, r10_13, r10_14, r10_17, r10_18, r10_21, r10_22, r10_25, r10_26, r10_29, rI_wI, rL_wL, rR_wR, rI_wL, rI_wR, rL_wI, rL_wR, rR_wI, rR_wL, va_rf_some, va_rf_none, Option.toList_some, Option.toList_none, List.nil_append, List.cons_append, true_and, and_true, false_and, and_false, and_self, if_true, if_false, not_true_eq_false, not_false_eq_true, or_false, false_or, or_true, true_or, or_self, ite_true, ite_false, Option.some.injEq, reduceCtorEq, Nat.reduceMod, Nat.reduceDiv, Nat.reduceLeDiff, Nat.reduceEqDiff, Nat.reduceAdd, Nat.reduceMul, Nat.reduceSub, Nat.reduceLT, sw_nil, sw_int, sw_long, sw_ref, li, lo, nI_m1, ng_eq, nn_eq, en_eq, ng_le, ng_lt, Int32.neg_neg, nI_add, pk_mul, nI_clampO, nI_ltO, nI_leO, nI_eqO, nI_subO, nle_t, nle_f, nlt_t, nlt_f, neq_f]
      · rw [pN_f (fun q => by rcases fal_l q with q | q | ⟨q, -⟩; exact a q; exact b q; exact q rfl)]
        simp (disch := first | assumption | omega) only [r10_0, r10_1, r10_3, r10_6, r10_7, r10_9, r10_12, r10_13, r10_14, r10_17, r10_18, r10_21, r10_22, r10_25, r10_26, r10_29, rI_wI, rL_wL, rR_wR, rI_wL, rI_wR, rL_wI, rL_wR, rR_wI, rR_wL, va_rf_some, va_rf_none, Option.toList_some, Option.toList_none, List.nil_append, List.cons_append, true_and, and_true, false_and, and_false, and_self, if_true, if_false, not_true_eq_false, not_false_eq_true, or_false, false_or, or_true, true_or, or_self, ite_true, ite_false, Option.some.injEq, reduceCtorEq, Nat.reduceMod, Nat.reduceDiv, Nat.reduceLeDiff, Nat.reduceEqDiff, Nat.reduceAdd, Nat.reduceMul, Nat.reduceSub, Nat.reduceLT, sw_nil, sw_int, sw_long, sw_ref, li, lo, nI_m1, ng_eq, nn_eq, en_eq, ng_le, ng_lt, Int32.neg_neg, nI_add, pk_mul, nI_clampO, nI_ltO, nI_leO, nI_eqO, nI_subO, nle_t, nle_f, nlt_t, nlt_f, neq_f]
  · by_cases q : t = 26 ∨ t = 3 ∨ t = 5 ∨ t = 6 ∨ t = 27
    · have c := fun Q => c26y (d := d) (μ := μ) (Q := Q) q
      rw [pN_t (fal_r (by rcases q with q | q | q | q | q; exact Or.inl q; exact Or.inr (Or.inl q); exact Or.inr (Or.inr ⟨k2, Or.inl q⟩); exact Or.inr (Or.inr ⟨k2, Or.inr (Or.inl q)⟩); exact Or.inr (Or.inr ⟨k2, Or.inr (Or.inr q)⟩)))]
      simp (disch := first | assumption | omega) only [r10_0, r10_1, r10_3, r10_6, r10_7, r10_9, r10_12, r10_13, r10_14, r10_17, r10_18, r10_21, r10_22, r10_25, r10_26, r10_29, rI_wI, rL_wL, rR_wR, rI_wL, rI_wR, rL_wI, rL_wR, rR_wI, rR_wL, va_rf_some, va_rf_none, Option.toList_some, Option.toList_none, List.nil_append, List.cons_append, true_and, and_true, false_and, and_false, and_self, if_true, if_false, not_true_eq_false, not_false_eq_true, or_false, false_or, or_true, true_or, or_self, ite_true, ite_false, Option.some.injEq, reduceCtorEq, Nat.reduceMod, Nat.reduceDiv, Nat.reduceLeDiff, Nat.reduceEqDiff, Nat.reduceAdd, Nat.reduceMul, Nat.reduceSub, Nat.reduceLT, sw_nil, sw_int, sw_long, sw_ref, li, lo, nI_m1, ng_eq, nn_eq, en_eq, ng_le, ng_lt, Int32.neg_neg, nI_add, pk_mul, nI_clampO, nI_ltO, nI_leO, nI_eqO, nI_subO, nle_t, nle_f, nlt_t, nlt_f, neq_f, c]
    · have c := fun Q => c26n (d := d) (μ := μ) (Q := Q) q (by omega)
      rw [pN_f (fun z => q (by rcases fal_l z with z | z | ⟨-, z | z | z⟩ <;> omega))]
      simp (disch := first | assumption | omega) only [r10_0, r10_1, r10_3, r10_6, r10_7, r10_9, r10_12, r10_13, r10_14, r10_17, r10_18, r10_21, r10_22, r10_25, r10_26, r10_29, rI_wI, rL_wL, rR_wR, rI_wL, rI_wR, rL_wI, rL_wR, rR_wI, rR_wL, va_rf_some, va_rf_none, Option.toList_some, Option.toList_none, List.nil_append, List.cons_append, true_and, and_true, false_and, and_false, and_self, if_true, if_false, not_true_eq_false, not_false_eq_true, or_false, false_or, or_true, true_or, or_self, ite_true, ite_false, Option.some.injEq, reduceCtorEq, Nat.reduceMod, Nat.reduceDiv, Nat.reduceLeDiff, Nat.reduceEqDiff, Nat.reduceAdd, Nat.reduceMul, Nat.reduceSub, Nat.reduceLT, sw_nil, sw_int, sw_long, sw_ref, li, lo, nI_m1, ng_eq, nn_eq, en_eq, ng_le, ng_lt, Int32.neg_neg, nI_add, pk_mul, nI_clampO, nI_ltO, nI_leO, nI_eqO, nI_subO, nle_t, nle_f, nlt_t, nlt_f, neq_f, c]
theorem enc_f {t : Nat} {k : Nat} (h : fal k t) : -nI t = enc (2, fci t) := by
  rcases fal_l h with rfl | rfl | ⟨-, rfl | rfl | rfl⟩ <;> rfl
theorem fci_5 {t k : Nat} (h : fal k t) : fci t < 5 := by
  unfold fal at h
  split at h <;> omega
/-- all that a law's reading stands on -/
def LSa (μ : PM) (tp : List Nat) (L0 : Nat) (σ : List Nat) (du : Bool) (κ : List Cod) : Prop := FX μ ∧ CTp μ tp ∧ KW μ ∧ rR μ 6000003 0 = some 3000009 ∧ rR μ 7000001 4 = some 20000002 ∧ WS μ σ ∧ rI μ 7000001 2 = nI (nst σ) ∧ rI μ 7000001 3 = nI (if du = true then 1 else 0) ∧ KSa μ L0 κ
def HFa (L0 : Nat) (μ ν : PM) : Prop := (∀ a j, ¬ ((a = 7000001 ∧ (j = 1 ∨ j = 2 ∨ j = 3)) ∨ a = 8006420 ∨ (a = 20000002 ∧ j = 1) ∨ a = 21100020 ∨ a = 6000003) → rI ν a j = rI μ a j) ∧ (∀ j, j < L0 → rI ν 21100020 j = rI μ 21100020 j) ∧ (∀ a j, a ≠ 6000003 → rL ν a j = rL μ a j) ∧ (∀ a j, rR ν a j = rR μ a j) ∧ aS ν = aS μ
theorem HFa_rf (L0 : Nat) (μ : PM) : HFa L0 μ μ := ⟨fun _ _ _ => rfl, fun _ _ => rfl, fun _ _ _ => rfl, fun _ _ => rfl, rfl⟩
theorem HFa_tr {L0 : Nat} {μ ν ρ : PM} (h : HFa L0 μ ν) (k : HFa L0 ν ρ) : HFa L0 μ ρ := ⟨fun a j q => (k.1 a j q).trans (h.1 a j q), fun j q => (k.2.1 j q).trans (h.2.1 j q), fun a j q => (k.2.2.1 a j q).trans (h.2.2.1 a j q), fun a j => (k.2.2.2.1 a j).trans (h.2.2.2.1 a j), k.2.2.2.2.trans h.2.2.2.2⟩
theorem HFa_G {L0 : Nat} {μ ν : PM} (h : GFa L0 μ ν) : HFa L0 μ ν := ⟨fun a j q => h.1 a j (fun e => q (by omega)), h.2.1, fun a j _ => h.2.2.1 a j, h.2.2.2.1, h.2.2.2.2⟩
theorem HFa_L {L0 : Nat} {μ ν : PM} (h : LFr μ ν) : HFa L0 μ ν := ⟨fun a j q => h.1 a j (fun e => q (by omega)), fun j _ => h.1 _ _ (by decide), h.2.1, h.2.2.1, h.2.2.2⟩
theorem LSa_L {μ ν : PM} {L0 : Nat} {σ : List Nat} {du : Bool} {κ : List Cod} (h : LFr μ ν) (k : LSa μ tp L0 σ du κ) : LSa ν tp L0 σ du κ := by
  obtain ⟨a1, a2, a3, a4, a5, a6, a7, a8, a9⟩ := k
  exact ⟨LFr_FX h a1, LFr_CTp h a2, LFr_KW h a3, (h.2.2.1 _ _).trans a4, (h.2.2.1 _ _).trans a5, WS_of (h.1 _ _ (by decide)) (fun j => h.1 _ _ (by decide)) a6, (h.1 _ _ (by decide)).trans a7, (h.1 _ _ (by decide)).trans a8, (h.1 _ _ (by decide)).trans a9.1, fun i hi => (h.1 _ _ (by decide)).trans (a9.2 i hi)⟩
theorem GFa_TX {L0 : Nat} {μ ν : PM} {T : List Tok} (h : GFa L0 μ ν) (k : TX μ tp T) : TX ν tp T := by
  obtain ⟨k0, k1, k2, k3, k4, k5, k6, k7⟩ := k
  have e : ∀ j, rI ν 6000003 j = rI μ 6000003 j := fun j => h.1 _ _ (by omega)
  exact ⟨k0, k1, k2, (e 1).trans k3, (e 2).trans k4, (e 3).trans k5, fun q => (e 4).trans (k6 q), fun q => (h.2.2.1 _ _).trans (k7 q)⟩
theorem GFa_b {L0 : Nat} {μ ν : PM} (h : GFa L0 μ ν) (hF : FX μ) (hT : CTp μ tp) (hKW : KW μ) (h6 : rR μ 6000003 0 = some 3000009) (h4 : rR μ 7000001 4 = some 20000002) : FX ν ∧ CTp ν tp ∧ KW ν ∧ rR ν 6000003 0 = some 3000009 ∧ rR ν 7000001 4 = some 20000002 := ⟨fun q hq => (h.2.2.2.1 _ _).trans (hF q hq), ⟨(h.1 _ _ (by omega)).trans hT.1, fun i hi => (h.1 _ _ (by omega)).trans (hT.2 i hi)⟩, fun i hi => (h.2.2.1 _ _).trans (hKW i hi), (h.2.2.2.1 _ _).trans h6, (h.2.2.2.1 _ _).trans h4⟩
/-- a part is read -/
theorem c9a (hc : ∀ c, c ∈ tp → c < 127) {L0 k : Nat} (hk : k < 3) {σ : List Nat} {κ : List Cod} (hS : LSa μ tp L0 σ true κ) (hw : wfs σ) (hn : nst σ ≤ 5) {t : Tok} {T : List Tok} (hT : TX μ tp (t :: T)) (hb : L0 + κ.length + σ.length < 1000) :
    ((t.2.1 = 23 ∨ t.2.1 = 40) → nst σ < 5 → ∃ ν, GFa L0 μ ν ∧ LSa ν tp L0 (t.2.1 :: σ) true κ ∧ ∀ Q, R (d + 3) 9 0 [some (.ref 7000001), some (.ref 6000003), some (.int (nI (7 + k))), none, none] [] μ Q = Q (some (.int (nI 0))) ν) ∧
    (∀ c, (t.2.1 = 29 ∧ c = (1, n10 t.2.2.1) ∨ t.2.1 ≠ 29 ∧ fal k t.2.1 ∧ c = (2, fci t.2.1)) → nst σ < 5 → ∃ ν, GFa L0 μ ν ∧ LSa ν tp L0 (nots σ).2 false (κ ++ c :: (nots σ).1) ∧ ∀ Q, R (d + 3) 9 0 [some (.ref 7000001), some (.ref 6000003), some (.int (nI (7 + k))), none, none] [] μ Q = Q (some (.int (nI 0))) ν) ∧
    ((t.2.1 = 23 ∨ t.2.1 = 40 ∨ t.2.1 = 29 ∨ fal k t.2.1) → 5 ≤ nst σ → ∀ Q, R (d + 3) 9 0 [some (.ref 7000001), some (.ref 6000003), some (.int (nI (7 + k))), none, none] [] μ Q = Q (some (.int (nI 5))) μ) ∧
    (¬ (t.2.1 = 23 ∨ t.2.1 = 40 ∨ t.2.1 = 29 ∨ fal k t.2.1) → ∀ Q, R (d + 3) 9 0 [some (.ref 7000001), some (.ref 6000003), some (.int (nI (7 + k))), none, none] [] μ Q = Q (some (.int (nI 1))) μ) := by
  obtain ⟨hF, hCT, hKW, h6, h4, hW, h2, h3, hK⟩ := hS
  obtain ⟨hx, hx8⟩ := TX_c hT hc
  have x2 := hx.2.1
  obtain ⟨wl, -⟩ := wfs_len hw hn
  have cf := c10 (d := d + 1) (μ := μ) hk hx8
  have h3' : rI μ 7000001 3 = nI 1 := h3
  refine ⟨fun ho hlt => ?_, fun c hcc hlt => ?_, fun ho hge Q => ?_, fun ho Q => ?_⟩
  · let ν0 := wI μ 7000001 2 (nI (nst σ + 1))
    have hW0 : WS ν0 σ := WS_of (by show rI (wI μ 7000001 2 (nI (nst σ + 1))) _ _ = _; rw [rI_wI, if_neg (by decide)]) (fun j => by show rI (wI μ 7000001 2 (nI (nst σ + 1))) _ _ = _; rw [rI_wI, if_neg (by omega)]) hW
    have cp := fun Q => c15 (d := d + 2) (μ := ν0) (Q := Q) (x := t.2.1) hF hW0 (by omega)
    have hG : GFa L0 μ (wI (wI ν0 8006420 σ.length (nI t.2.1)) 7000001 1 (nI (σ.length + 1))) := GFa_tr (GFa_tr (GFa_w7 L0 μ _ (by omega)) (GFa_w8 L0 _ _ _)) (GFa_w7 L0 _ _ (by omega))
    obtain ⟨b1, b2, b3, b4, b5⟩ := GFa_b hG hF hCT hKW h6 h4
    refine ⟨_, hG, ⟨b1, b2, b3, b4, b5, WS_push hW0, ?_, ?_, KSa_7 (KSa_7 (KSa_7 hK (Or.inl rfl)) (Or.inr rfl)) (Or.inl rfl)⟩, fun Q => ?_⟩
    · rw [rI_wI, if_neg (by decide), rI_wI, if_neg (by omega)]
      show rI (wI μ 7000001 2 (nI (nst σ + 1))) _ _ = nI ((if t.2.1 = 23 ∨ t.2.1 = 40 then 1 else 0) + nst σ)
      rw [rI_wI, if_pos ⟨rfl, rfl⟩, if_pos ho, Nat.add_comm]
    · rw [rI_wI, if_neg (by decide), rI_wI, if_neg (by omega)]
      show rI (wI μ 7000001 2 (nI (nst σ + 1))) _ _ = _
      rw [rI_wI, if_neg (by decide)]
      exact h3
    · have cp' : ∀ Q, R (d + 2) 15 0 [some (.ref 7000001), some (.int (nI t.2.1))] [] (wI μ 7000001 2 (nI (nst σ + 1))) Q = Q none (wI (wI ν0 8006420 σ.length (nI t.2.1)) 7000001 1 (nI (σ.length + 1))) := cp
      rcases ho with e | e
      · rw [e] at x2 cp' ⊢
        simp (disch := first | assumption | omega) only [r9_0, r9_1, r9_4, r9_5, r9_6, r9_8, r9_11, r9_12, j9_14, r9_17, r9_18, r9_21, r9_22, r9_24, r9_26, r9_29, r9_30, r9_32, r9_35, r9_36, r9_37, r9_40, r9_43, r9_44, r9_45, r9_46, r9_49, r9_50, r9_53, r9_54, r9_55, r9_57, r9_60, r9_61, r9_61i, r9_62, r9_65, r9_66, r9_67, r9_70, r9_71, r9_72, r9_75, r9_78, r9_79, r9_82, r9_83, r9_85, r9_88, r9_89, r9_92, r9_95, r9_96, r9_97, r9_100, r9_101, r9_104, r9_105, rI_wI, rL_wL, rR_wR, rI_wL, rI_wR, rL_wI, rL_wR, rR_wI, rR_wL, va_rf_some, va_rf_none, Option.toList_some, Option.toList_none, List.nil_append, List.cons_append, true_and, and_true, false_and, and_false, and_self, if_true, if_false, not_true_eq_false, not_false_eq_true, or_false, false_or, or_true, true_or, or_self, ite_true, ite_false, Option.some.injEq, reduceCtorEq, Nat.reduceMod, Nat.reduceDiv, Nat.reduceLeDiff, Nat.reduceEqDiff, Nat.reduceAdd, Nat.reduceMul, Nat.reduceSub, Nat.reduceLT, sw_nil, sw_int, sw_long, sw_ref, li, lo, nI_m1, ng_eq, nn_eq, en_eq, ng_le, ng_lt, Int32.neg_neg, nI_add, pk_mul, nI_clampO, nI_ltO, nI_leO, nI_eqO, nI_subO, nle_t, nle_f, nlt_t, nlt_f, neq_f, x2, h2, cp']
      · rw [e] at x2 cp' ⊢
        simp (disch := first | assumption | omega) only [r9_0, r9_1, r9_4, r9_5, r9_6, r9_8, r9_11, r9_12, j9_14, r9_17, r9_18, r9_21, r9_22, r9_24, r9_26, r9_29, r9_30, r9_32, r9_35, r9_36, r9_37, r9_40, r9_43, r9_44, r9_45, r9_46, r9_49, r9_50, r9_53, r9_54, r9_55, r9_57, r9_60, r9_61, r9_61i, r9_62, r9_65, r9_66, r9_67, r9_70, r9_71, r9_72, r9_75, r9_78, r9_79, r9_82, r9_83, r9_85, r9_88, r9_89, r9_92, r9_95, r9_96, r9_97, r9_100, r9_101, r9_104, r9_105, rI_wI, rL_wL, rR_wR, rI_wL, rI_wR, rL_wI, rL_wR, rR_wI, rR_wL, va_rf_some, va_rf_none, Option.toList_some, Option.toList_none, List.nil_append, List.cons_append, true_and, and_true, false_and, and_false, and_self, if_true, if_false, not_true_eq_false, not_false_eq_true, or_false, false_or, or_true, true_or, or_self, ite_true, ite_false, Option.some.injEq, reduceCtorEq, Nat.reduceMod, Nat.reduceDiv, Nat.reduceLeDiff, Nat.reduceEqDiff, Nat.reduceAdd, Nat.reduceMul, Nat.reduceSub, Nat.reduceLT, sw_nil, sw_int, sw_long, sw_ref, li, lo, nI_m1, ng_eq, nn_eq, en_eq, ng_le, ng_lt, Int32.neg_neg, nI_add, pk_mul, nI_clampO, nI_ltO, nI_leO, nI_eqO, nI_subO, nle_t, nle_f, nlt_t, nlt_f, neq_f, x2, h2, cp']
  · have hen : ∃ v, v = enc c ∧ ((t.2.1 = 29 ∧ rI μ 6000003 4 = v) ∨ (t.2.1 ≠ 29 ∧ fal k t.2.1 ∧ -nI t.2.1 = v)) := by
      rcases hcc with ⟨e1, e2⟩ | ⟨e1, e2, e3⟩
      · exact ⟨_, rfl, Or.inl ⟨e1, by rw [e2]; exact hx.2.2.2.1 e1⟩⟩
      · exact ⟨_, rfl, Or.inr ⟨e1, e2, by rw [e3]; exact enc_f e2⟩⟩
    obtain ⟨v, hv, hvv⟩ := hen
    subst hv
    have ca := fun Q => c21a (d := d + 2) (μ := μ) (Q := Q) (x := enc c) hF hK.1 (by omega)
    have hG1 := ada_GF (L0 := L0) (p := L0 + κ.length) μ (enc c) (by omega)
    obtain ⟨ν, k1, k2, k3, k4, k5, k6⟩ := c12a_l (d := d + 1) (L0 := L0) σ (κ ++ [c]) 0 (ada μ (L0 + κ.length) (enc c)) hF h4 hw (by omega) (by omega) (ada_WS hW) (by rw [ada_7]; exact h2) (ada_KS hK) (by rw [List.length_append]; simp; omega)
    have hG := GFa_tr hG1 k1
    obtain ⟨b1, b2, b3, b4, b5⟩ := GFa_b hG hF hCT hKW h6 h4
    have k6' : ∀ Q, R (d + 2) 12 0 [some (.ref 7000001), none] [] (ada μ (L0 + κ.length) (enc c)) Q = Q none ν := by
      intro Q
      simp (disch := first | assumption | omega) only [r12_0, r12_1, rI_wI, rL_wL, rR_wR, rI_wL, rI_wR, rL_wI, rL_wR, rR_wI, rR_wL, va_rf_some, va_rf_none, Option.toList_some, Option.toList_none, List.nil_append, List.cons_append, true_and, and_true, false_and, and_false, and_self, if_true, if_false, not_true_eq_false, not_false_eq_true, or_false, false_or, or_true, true_or, or_self, ite_true, ite_false, Option.some.injEq, reduceCtorEq, Nat.reduceMod, Nat.reduceDiv, Nat.reduceLeDiff, Nat.reduceEqDiff, Nat.reduceAdd, Nat.reduceMul, Nat.reduceSub, Nat.reduceLT, sw_nil, sw_int, sw_long, sw_ref, li, lo, nI_m1, ng_eq, nn_eq, en_eq, ng_le, ng_lt, Int32.neg_neg, nI_add, pk_mul, nI_clampO, nI_ltO, nI_leO, nI_eqO, nI_subO, nle_t, nle_f, nlt_t, nlt_f, neq_f, k6]
    refine ⟨ν, hG, ⟨b1, b2, b3, b4, b5, k2, k3, k4, ?_⟩, fun Q => ?_⟩
    · rw [List.append_assoc] at k5; exact k5
    · rcases hvv with ⟨e1, e2⟩ | ⟨e1, e2, e3⟩
      · rw [e1] at x2
        simp (disch := first | assumption | omega) only [r9_0, r9_1, r9_4, r9_5, r9_6, r9_8, r9_11, r9_12, j9_14, r9_17, r9_18, r9_21, r9_22, r9_24, r9_26, r9_29, r9_30, r9_32, r9_35, r9_36, r9_37, r9_40, r9_43, r9_44, r9_45, r9_46, r9_49, r9_50, r9_53, r9_54, r9_55, r9_57, r9_60, r9_61, r9_61i, r9_62, r9_65, r9_66, r9_67, r9_70, r9_71, r9_72, r9_75, r9_78, r9_79, r9_82, r9_83, r9_85, r9_88, r9_89, r9_92, r9_95, r9_96, r9_97, r9_100, r9_101, r9_104, r9_105, rI_wI, rL_wL, rR_wR, rI_wL, rI_wR, rL_wI, rL_wR, rR_wI, rR_wL, va_rf_some, va_rf_none, Option.toList_some, Option.toList_none, List.nil_append, List.cons_append, true_and, and_true, false_and, and_false, and_self, if_true, if_false, not_true_eq_false, not_false_eq_true, or_false, false_or, or_true, true_or, or_self, ite_true, ite_false, Option.some.injEq, reduceCtorEq, Nat.reduceMod, Nat.reduceDiv, Nat.reduceLeDiff, Nat.reduceEqDiff, Nat.reduceAdd, Nat.reduceMul, Nat.reduceSub, Nat.reduceLT, sw_nil, sw_int, sw_long, sw_ref, li, lo, nI_m1, ng_eq, nn_eq, en_eq, ng_le, ng_lt, Int32.neg_neg, nI_add, pk_mul, nI_clampO, nI_ltO, nI_leO, nI_eqO, nI_subO, nle_t, nle_f, nlt_t, nlt_f, neq_f, x2, h2, h4, e2, ca, k6']
      · rw [pN_t e2] at cf
        have n1 : t.2.1 ≠ 23 ∧ t.2.1 ≠ 40 := by rcases fal_l e2 with z | z | ⟨-, z | z | z⟩ <;> omega
        obtain ⟨n1, n2⟩ := n1
        simp (disch := first | assumption | omega) only [r9_0, r9_1, r9_4, r9_5, r9_6, r9_8, r9_11, r9_12, j9_14, r9_17, r9_18, r9_21, r9_22, r9_24, r9_26, r9_29, r9_30, r9_32, r9_35, r9_36, r9_37, r9_40, r9_43, r9_44, r9_45, r9_46, r9_49, r9_50, r9_53, r9_54, r9_55, r9_57, r9_60, r9_61, r9_61i, r9_62, r9_65, r9_66, r9_67, r9_70, r9_71, r9_72, r9_75, r9_78, r9_79, r9_82, r9_83, r9_85, r9_88, r9_89, r9_92, r9_95, r9_96, r9_97, r9_100, r9_101, r9_104, r9_105, rI_wI, rL_wL, rR_wR, rI_wL, rI_wR, rL_wI, rL_wR, rR_wI, rR_wL, va_rf_some, va_rf_none, Option.toList_some, Option.toList_none, List.nil_append, List.cons_append, true_and, and_true, false_and, and_false, and_self, if_true, if_false, not_true_eq_false, not_false_eq_true, or_false, false_or, or_true, true_or, or_self, ite_true, ite_false, Option.some.injEq, reduceCtorEq, Nat.reduceMod, Nat.reduceDiv, Nat.reduceLeDiff, Nat.reduceEqDiff, Nat.reduceAdd, Nat.reduceMul, Nat.reduceSub, Nat.reduceLT, sw_nil, sw_int, sw_long, sw_ref, li, lo, nI_m1, ng_eq, nn_eq, en_eq, ng_le, ng_lt, Int32.neg_neg, nI_add, pk_mul, nI_clampO, nI_ltO, nI_leO, nI_eqO, nI_subO, nle_t, nle_f, nlt_t, nlt_f, neq_f, x2, h2, h4, cf, e3, ca, k6']
  · by_cases a : t.2.1 = 23
    · rw [a] at x2
      simp (disch := first | assumption | omega) only [r9_0, r9_1, r9_4, r9_5, r9_6, r9_8, r9_11, r9_12, j9_14, r9_17, r9_18, r9_21, r9_22, r9_24, r9_26, r9_29, r9_30, r9_32, r9_35, r9_36, r9_37, r9_40, r9_43, r9_44, r9_45, r9_46, r9_49, r9_50, r9_53, r9_54, r9_55, r9_57, r9_60, r9_61, r9_61i, r9_62, r9_65, r9_66, r9_67, r9_70, r9_71, r9_72, r9_75, r9_78, r9_79, r9_82, r9_83, r9_85, r9_88, r9_89, r9_92, r9_95, r9_96, r9_97, r9_100, r9_101, r9_104, r9_105, rI_wI, rL_wL, rR_wR, rI_wL, rI_wR, rL_wI, rL_wR, rR_wI, rR_wL, va_rf_some, va_rf_none, Option.toList_some, Option.toList_none, List.nil_append, List.cons_append, true_and, and_true, false_and, and_false, and_self, if_true, if_false, not_true_eq_false, not_false_eq_true, or_false, false_or, or_true, true_or, or_self, ite_true, ite_false, Option.some.injEq, reduceCtorEq, Nat.reduceMod, Nat.reduceDiv, Nat.reduceLeDiff, Nat.reduceEqDiff, Nat.reduceAdd, Nat.reduceMul, Nat.reduceSub, Nat.reduceLT, sw_nil, sw_int, sw_long, sw_ref, li, lo, nI_m1, ng_eq, nn_eq, en_eq, ng_le, ng_lt, Int32.neg_neg, nI_add, pk_mul, nI_clampO, nI_ltO, nI_leO, nI_eqO, nI_subO, nle_t, nle_f, nlt_t, nlt_f, neq_f, x2, h2]
    · by_cases b : t.2.1 = 40
      · rw [b] at x2
        simp (disch := first | assumption | omega) only [r9_0, r9_1, r9_4, r9_5, r9_6, r9_8, r9_11, r9_12, j9_14, r9_17, r9_18, r9_21, r9_22, r9_24, r9_26, r9_29, r9_30, r9_32, r9_35, r9_36, r9_37, r9_40, r9_43, r9_44, r9_45, r9_46, r9_49, r9_50, r9_53, r9_54, r9_55, r9_57, r9_60, r9_61, r9_61i, r9_62, r9_65, r9_66, r9_67, r9_70, r9_71, r9_72, r9_75, r9_78, r9_79, r9_82, r9_83, r9_85, r9_88, r9_89, r9_92, r9_95, r9_96, r9_97, r9_100, r9_101, r9_104, r9_105, rI_wI, rL_wL, rR_wR, rI_wL, rI_wR, rL_wI, rL_wR, rR_wI, rR_wL, va_rf_some, va_rf_none, Option.toList_some, Option.toList_none, List.nil_append, List.cons_append, true_and, and_true, false_and, and_false, and_self, if_true, if_false, not_true_eq_false, not_false_eq_true, or_false, false_or, or_true, true_or, or_self, ite_true, ite_false, Option.some.injEq, reduceCtorEq, Nat.reduceMod, Nat.reduceDiv, Nat.reduceLeDiff, Nat.reduceEqDiff, Nat.reduceAdd, Nat.reduceMul, Nat.reduceSub, Nat.reduceLT, sw_nil, sw_int, sw_long, sw_ref, li, lo, nI_m1, ng_eq, nn_eq, en_eq, ng_le, ng_lt, Int32.neg_neg, nI_add, pk_mul, nI_clampO, nI_ltO, nI_leO, nI_eqO, nI_subO, nle_t, nle_f, nlt_t, nlt_f, neq_f, x2, h2]
      · by_cases e : t.2.1 = 29
        · rw [e] at x2
          simp (disch := first | assumption | omega) only [r9_0, r9_1, r9_4, r9_5, r9_6, r9_8, r9_11, r9_12, j9_14, r9_17, r9_18, r9_21, r9_22, r9_24, r9_26, r9_29, r9_30, r9_32, r9_35, r9_36, r9_37, r9_40, r9_43, r9_44, r9_45, r9_46, r9_49, r9_50, r9_53, r9_54, r9_55, r9_57, r9_60, r9_61, r9_61i, r9_62, r9_65, r9_66, r9_67, r9_70, r9_71, r9_72, r9_75, r9_78, r9_79, r9_82, r9_83, r9_85, r9_88, r9_89, r9_92, r9_95, r9_96, r9_97, r9_100, r9_101, r9_104, r9_105, rI_wI, rL_wL, rR_wR, rI_wL, rI_wR, rL_wI, rL_wR, rR_wI, rR_wL, va_rf_some, va_rf_none, Option.toList_some, Option.toList_none, List.nil_append, List.cons_append, true_and, and_true, false_and, and_false, and_self, if_true, if_false, not_true_eq_false, not_false_eq_true, or_false, false_or, or_true, true_or, or_self, ite_true, ite_false, Option.some.injEq, reduceCtorEq, Nat.reduceMod, Nat.reduceDiv, Nat.reduceLeDiff, Nat.reduceEqDiff, Nat.reduceAdd, Nat.reduceMul, Nat.reduceSub, Nat.reduceLT, sw_nil, sw_int, sw_long, sw_ref, li, lo, nI_m1, ng_eq, nn_eq, en_eq, ng_le, ng_lt, Int32.neg_neg, nI_add, pk_mul, nI_clampO, nI_ltO, nI_leO, nI_eqO, nI_subO, nle_t, nle_f, nlt_t, nlt_f, neq_f, x2, h2]
        · have hf : fal k t.2.1 := by rcases ho with o | o | o | o; exact absurd o a; exact absurd o b; exact absurd o e; exact o
          rw [pN_t hf] at cf
          simp (disch := first | assumption | omega) only [r9_0, r9_1, r9_4, r9_5, r9_6, r9_8, r9_11, r9_12, j9_14, r9_17, r9_18, r9_21, r9_22, r9_24, r9_26, r9_29, r9_30, r9_32, r9_35, r9_36, r9_37, r9_40, r9_43, r9_44, r9_45, r9_46, r9_49, r9_50, r9_53, r9_54, r9_55, r9_57, r9_60, r9_61, r9_61i, r9_62, r9_65, r9_66, r9_67, r9_70, r9_71, r9_72, r9_75, r9_78, r9_79, r9_82, r9_83, r9_85, r9_88, r9_89, r9_92, r9_95, r9_96, r9_97, r9_100, r9_101, r9_104, r9_105, rI_wI, rL_wL, rR_wR, rI_wL, rI_wR, rL_wI, rL_wR, rR_wI, rR_wL, va_rf_some, va_rf_none, Option.toList_some, Option.toList_none, List.nil_append, List.cons_append, true_and, and_true, false_and, and_false, and_self, if_true, if_false, not_true_eq_false, not_false_eq_true, or_false, false_or, or_true, true_or, or_self, ite_true, ite_false, Option.some.injEq, reduceCtorEq, Nat.reduceMod, Nat.reduceDiv, Nat.reduceLeDiff, Nat.reduceEqDiff, Nat.reduceAdd, Nat.reduceMul, Nat.reduceSub, Nat.reduceLT, sw_nil, sw_int, sw_long, sw_ref, li, lo, nI_m1, ng_eq, nn_eq, en_eq, ng_le, ng_lt, Int32.neg_neg, nI_add, pk_mul, nI_clampO, nI_ltO, nI_leO, nI_eqO, nI_subO, nle_t, nle_f, nlt_t, nlt_f, neq_f, x2, h2, cf]
  · have hn1 : t.2.1 ≠ 23 := fun q => ho (Or.inl q)
    have hn2 : t.2.1 ≠ 40 := fun q => ho (Or.inr (Or.inl q))
    have hn3 : t.2.1 ≠ 29 := fun q => ho (Or.inr (Or.inr (Or.inl q)))
    rw [pN_f (fun q => ho (Or.inr (Or.inr (Or.inr q))))] at cf
    simp (disch := first | assumption | omega) only [r9_0, r9_1, r9_4, r9_5, r9_6, r9_8, r9_11, r9_12, j9_14, r9_17, r9_18, r9_21, r9_22, r9_24, r9_26, r9_29, r9_30, r9_32, r9_35, r9_36, r9_37, r9_40, r9_43, r9_44, r9_45, r9_46, r9_49, r9_50, r9_53, r9_54, r9_55, r9_57, r9_60, r9_61, r9_61i, r9_62, r9_65, r9_66, r9_67, r9_70, r9_71, r9_72, r9_75, r9_78, r9_79, r9_82, r9_83, r9_85, r9_88, r9_89, r9_92, r9_95, r9_96, r9_97, r9_100, r9_101, r9_104, r9_105, rI_wI, rL_wL, rR_wR, rI_wL, rI_wR, rL_wI, rL_wR, rR_wI, rR_wL, va_rf_some, va_rf_none, Option.toList_some, Option.toList_none, List.nil_append, List.cons_append, true_and, and_true, false_and, and_false, and_self, if_true, if_false, not_true_eq_false, not_false_eq_true, or_false, false_or, or_true, true_or, or_self, ite_true, ite_false, Option.some.injEq, reduceCtorEq, Nat.reduceMod, Nat.reduceDiv, Nat.reduceLeDiff, Nat.reduceEqDiff, Nat.reduceAdd, Nat.reduceMul, Nat.reduceSub, Nat.reduceLT, sw_nil, sw_int, sw_long, sw_ref, li, lo, nI_m1, ng_eq, nn_eq, en_eq, ng_le, ng_lt, Int32.neg_neg, nI_add, pk_mul, nI_clampO, nI_ltO, nI_leO, nI_eqO, nI_subO, nle_t, nle_f, nlt_t, nlt_f, neq_f, x2, h2, cf]
/-- all that a law's reading stands on -/
def LSb (μ : PM) (tp : List Nat) (L0 : Nat) (σ : List Nat) (du : Bool) (κ : List Cod) : Prop := FX μ ∧ CTp μ tp ∧ KW μ ∧ rR μ 6000003 0 = some 3000009 ∧ rR μ 7000001 4 = some 34000002 ∧ WS μ σ ∧ rI μ 7000001 2 = nI (nst σ) ∧ rI μ 7000001 3 = nI (if du = true then 1 else 0) ∧ KSb μ L0 κ
def HFb (L0 : Nat) (μ ν : PM) : Prop := (∀ a j, ¬ ((a = 7000001 ∧ (j = 1 ∨ j = 2 ∨ j = 3)) ∨ a = 8006420 ∨ (a = 34000002 ∧ j = 1) ∨ a = 35100020 ∨ a = 6000003) → rI ν a j = rI μ a j) ∧ (∀ j, j < L0 → rI ν 35100020 j = rI μ 35100020 j) ∧ (∀ a j, a ≠ 6000003 → rL ν a j = rL μ a j) ∧ (∀ a j, rR ν a j = rR μ a j) ∧ aS ν = aS μ
theorem HFb_rf (L0 : Nat) (μ : PM) : HFb L0 μ μ := ⟨fun _ _ _ => rfl, fun _ _ => rfl, fun _ _ _ => rfl, fun _ _ => rfl, rfl⟩
theorem HFb_tr {L0 : Nat} {μ ν ρ : PM} (h : HFb L0 μ ν) (k : HFb L0 ν ρ) : HFb L0 μ ρ := ⟨fun a j q => (k.1 a j q).trans (h.1 a j q), fun j q => (k.2.1 j q).trans (h.2.1 j q), fun a j q => (k.2.2.1 a j q).trans (h.2.2.1 a j q), fun a j => (k.2.2.2.1 a j).trans (h.2.2.2.1 a j), k.2.2.2.2.trans h.2.2.2.2⟩
theorem HFb_G {L0 : Nat} {μ ν : PM} (h : GFb L0 μ ν) : HFb L0 μ ν := ⟨fun a j q => h.1 a j (fun e => q (by omega)), h.2.1, fun a j _ => h.2.2.1 a j, h.2.2.2.1, h.2.2.2.2⟩
theorem HFb_L {L0 : Nat} {μ ν : PM} (h : LFr μ ν) : HFb L0 μ ν := ⟨fun a j q => h.1 a j (fun e => q (by omega)), fun j _ => h.1 _ _ (by decide), h.2.1, h.2.2.1, h.2.2.2⟩
theorem LSb_L {μ ν : PM} {L0 : Nat} {σ : List Nat} {du : Bool} {κ : List Cod} (h : LFr μ ν) (k : LSb μ tp L0 σ du κ) : LSb ν tp L0 σ du κ := by
  obtain ⟨a1, a2, a3, a4, a5, a6, a7, a8, a9⟩ := k
  exact ⟨LFr_FX h a1, LFr_CTp h a2, LFr_KW h a3, (h.2.2.1 _ _).trans a4, (h.2.2.1 _ _).trans a5, WS_of (h.1 _ _ (by decide)) (fun j => h.1 _ _ (by decide)) a6, (h.1 _ _ (by decide)).trans a7, (h.1 _ _ (by decide)).trans a8, (h.1 _ _ (by decide)).trans a9.1, fun i hi => (h.1 _ _ (by decide)).trans (a9.2 i hi)⟩
theorem GFb_TX {L0 : Nat} {μ ν : PM} {T : List Tok} (h : GFb L0 μ ν) (k : TX μ tp T) : TX ν tp T := by
  obtain ⟨k0, k1, k2, k3, k4, k5, k6, k7⟩ := k
  have e : ∀ j, rI ν 6000003 j = rI μ 6000003 j := fun j => h.1 _ _ (by omega)
  exact ⟨k0, k1, k2, (e 1).trans k3, (e 2).trans k4, (e 3).trans k5, fun q => (e 4).trans (k6 q), fun q => (h.2.2.1 _ _).trans (k7 q)⟩
theorem GFb_b {L0 : Nat} {μ ν : PM} (h : GFb L0 μ ν) (hF : FX μ) (hT : CTp μ tp) (hKW : KW μ) (h6 : rR μ 6000003 0 = some 3000009) (h4 : rR μ 7000001 4 = some 34000002) : FX ν ∧ CTp ν tp ∧ KW ν ∧ rR ν 6000003 0 = some 3000009 ∧ rR ν 7000001 4 = some 34000002 := ⟨fun q hq => (h.2.2.2.1 _ _).trans (hF q hq), ⟨(h.1 _ _ (by omega)).trans hT.1, fun i hi => (h.1 _ _ (by omega)).trans (hT.2 i hi)⟩, fun i hi => (h.2.2.1 _ _).trans (hKW i hi), (h.2.2.2.1 _ _).trans h6, (h.2.2.2.1 _ _).trans h4⟩
/-- a part is read -/
theorem c9b (hc : ∀ c, c ∈ tp → c < 127) {L0 k : Nat} (hk : k < 3) {σ : List Nat} {κ : List Cod} (hS : LSb μ tp L0 σ true κ) (hw : wfs σ) (hn : nst σ ≤ 5) {t : Tok} {T : List Tok} (hT : TX μ tp (t :: T)) (hb : L0 + κ.length + σ.length < 1000) :
    ((t.2.1 = 23 ∨ t.2.1 = 40) → nst σ < 5 → ∃ ν, GFb L0 μ ν ∧ LSb ν tp L0 (t.2.1 :: σ) true κ ∧ ∀ Q, R (d + 3) 9 0 [some (.ref 7000001), some (.ref 6000003), some (.int (nI (7 + k))), none, none] [] μ Q = Q (some (.int (nI 0))) ν) ∧
    (∀ c, (t.2.1 = 29 ∧ c = (1, n10 t.2.2.1) ∨ t.2.1 ≠ 29 ∧ fal k t.2.1 ∧ c = (2, fci t.2.1)) → nst σ < 5 → ∃ ν, GFb L0 μ ν ∧ LSb ν tp L0 (nots σ).2 false (κ ++ c :: (nots σ).1) ∧ ∀ Q, R (d + 3) 9 0 [some (.ref 7000001), some (.ref 6000003), some (.int (nI (7 + k))), none, none] [] μ Q = Q (some (.int (nI 0))) ν) ∧
    ((t.2.1 = 23 ∨ t.2.1 = 40 ∨ t.2.1 = 29 ∨ fal k t.2.1) → 5 ≤ nst σ → ∀ Q, R (d + 3) 9 0 [some (.ref 7000001), some (.ref 6000003), some (.int (nI (7 + k))), none, none] [] μ Q = Q (some (.int (nI 5))) μ) ∧
    (¬ (t.2.1 = 23 ∨ t.2.1 = 40 ∨ t.2.1 = 29 ∨ fal k t.2.1) → ∀ Q, R (d + 3) 9 0 [some (.ref 7000001), some (.ref 6000003), some (.int (nI (7 + k))), none, none] [] μ Q = Q (some (.int (nI 1))) μ) := by
  obtain ⟨hF, hCT, hKW, h6, h4, hW, h2, h3, hK⟩ := hS
  obtain ⟨hx, hx8⟩ := TX_c hT hc
  have x2 := hx.2.1
  obtain ⟨wl, -⟩ := wfs_len hw hn
  have cf := c10 (d := d + 1) (μ := μ) hk hx8
  have h3' : rI μ 7000001 3 = nI 1 := h3
  refine ⟨fun ho hlt => ?_, fun c hcc hlt => ?_, fun ho hge Q => ?_, fun ho Q => ?_⟩
  · let ν0 := wI μ 7000001 2 (nI (nst σ + 1))
    have hW0 : WS ν0 σ := WS_of (by show rI (wI μ 7000001 2 (nI (nst σ + 1))) _ _ = _; rw [rI_wI, if_neg (by decide)]) (fun j => by show rI (wI μ 7000001 2 (nI (nst σ + 1))) _ _ = _; rw [rI_wI, if_neg (by omega)]) hW
    have cp := fun Q => c15 (d := d + 2) (μ := ν0) (Q := Q) (x := t.2.1) hF hW0 (by omega)
    have hG : GFb L0 μ (wI (wI ν0 8006420 σ.length (nI t.2.1)) 7000001 1 (nI (σ.length + 1))) := GFb_tr (GFb_tr (GFb_w7 L0 μ _ (by omega)) (GFb_w8 L0 _ _ _)) (GFb_w7 L0 _ _ (by omega))
    obtain ⟨b1, b2, b3, b4, b5⟩ := GFb_b hG hF hCT hKW h6 h4
    refine ⟨_, hG, ⟨b1, b2, b3, b4, b5, WS_push hW0, ?_, ?_, KSb_7 (KSb_7 (KSb_7 hK (Or.inl rfl)) (Or.inr rfl)) (Or.inl rfl)⟩, fun Q => ?_⟩
    · rw [rI_wI, if_neg (by decide), rI_wI, if_neg (by omega)]
      show rI (wI μ 7000001 2 (nI (nst σ + 1))) _ _ = nI ((if t.2.1 = 23 ∨ t.2.1 = 40 then 1 else 0) + nst σ)
      rw [rI_wI, if_pos ⟨rfl, rfl⟩, if_pos ho, Nat.add_comm]
    · rw [rI_wI, if_neg (by decide), rI_wI, if_neg (by omega)]
      show rI (wI μ 7000001 2 (nI (nst σ + 1))) _ _ = _
      rw [rI_wI, if_neg (by decide)]
      exact h3
    · have cp' : ∀ Q, R (d + 2) 15 0 [some (.ref 7000001), some (.int (nI t.2.1))] [] (wI μ 7000001 2 (nI (nst σ + 1))) Q = Q none (wI (wI ν0 8006420 σ.length (nI t.2.1)) 7000001 1 (nI (σ.length + 1))) := cp
      rcases ho with e | e
      · rw [e] at x2 cp' ⊢
        simp (disch := first | assumption | omega) only [r9_0, r9_1, r9_4, r9_5, r9_6, r9_8, r9_11, r9_12, j9_14, r9_17, r9_18, r9_21, r9_22, r9_24, r9_26, r9_29, r9_30, r9_32, r9_35, r9_36, r9_37, r9_40, r9_43, r9_44, r9_45, r9_46, r9_49, r9_50, r9_53, r9_54, r9_55, r9_57, r9_60, r9_61, r9_61i, r9_62, r9_65, r9_66, r9_67, r9_70, r9_71, r9_72, r9_75, r9_78, r9_79, r9_82, r9_83, r9_85, r9_88, r9_89, r9_92, r9_95, r9_96, r9_97, r9_100, r9_101, r9_104, r9_105, rI_wI, rL_wL, rR_wR, rI_wL, rI_wR, rL_wI, rL_wR, rR_wI, rR_wL, va_rf_some, va_rf_none, Option.toList_some, Option.toList_none, List.nil_append, List.cons_append, true_and, and_true, false_and, and_false, and_self, if_true, if_false, not_true_eq_false, not_false_eq_true, or_false, false_or, or_true, true_or, or_self, ite_true, ite_false, Option.some.injEq, reduceCtorEq, Nat.reduceMod, Nat.reduceDiv, Nat.reduceLeDiff, Nat.reduceEqDiff, Nat.reduceAdd, Nat.reduceMul, Nat.reduceSub, Nat.reduceLT, sw_nil, sw_int, sw_long, sw_ref, li, lo, nI_m1, ng_eq, nn_eq, en_eq, ng_le, ng_lt, Int32.neg_neg, nI_add, pk_mul, nI_clampO, nI_ltO, nI_leO, nI_eqO, nI_subO, nle_t, nle_f, nlt_t, nlt_f, neq_f, x2, h2, cp']
      · rw [e] at x2 cp' ⊢
        simp (disch := first | assumption | omega) only [r9_0, r9_1, r9_4, r9_5, r9_6, r9_8, r9_11, r9_12, j9_14, r9_17, r9_18, r9_21, r9_22, r9_24, r9_26, r9_29, r9_30, r9_32, r9_35, r9_36, r9_37, r9_40, r9_43, r9_44, r9_45, r9_46, r9_49, r9_50, r9_53, r9_54, r9_55, r9_57, r9_60, r9_61, r9_61i, r9_62, r9_65, r9_66, r9_67, r9_70, r9_71, r9_72, r9_75, r9_78, r9_79, r9_82, r9_83, r9_85, r9_88, r9_89, r9_92, r9_95, r9_96, r9_97, r9_100, r9_101, r9_104, r9_105, rI_wI, rL_wL, rR_wR, rI_wL, rI_wR, rL_wI, rL_wR, rR_wI, rR_wL, va_rf_some, va_rf_none, Option.toList_some, Option.toList_none, List.nil_append, List.cons_append, true_and, and_true, false_and, and_false, and_self, if_true, if_false, not_true_eq_false, not_false_eq_true, or_false, false_or, or_true, true_or, or_self, ite_true, ite_false, Option.some.injEq, reduceCtorEq, Nat.reduceMod, Nat.reduceDiv, Nat.reduceLeDiff, Nat.reduceEqDiff, Nat.reduceAdd, Nat.reduceMul, Nat.reduceSub, Nat.reduceLT, sw_nil, sw_int, sw_long, sw_ref, li, lo, nI_m1, ng_eq, nn_eq, en_eq, ng_le, ng_lt, Int32.neg_neg, nI_add, pk_mul, nI_clampO, nI_ltO, nI_leO, nI_eqO, nI_subO, nle_t, nle_f, nlt_t, nlt_f, neq_f, x2, h2, cp']
  · have hen : ∃ v, v = enc c ∧ ((t.2.1 = 29 ∧ rI μ 6000003 4 = v) ∨ (t.2.1 ≠ 29 ∧ fal k t.2.1 ∧ -nI t.2.1 = v)) := by
      rcases hcc with ⟨e1, e2⟩ | ⟨e1, e2, e3⟩
      · exact ⟨_, rfl, Or.inl ⟨e1, by rw [e2]; exact hx.2.2.2.1 e1⟩⟩
      · exact ⟨_, rfl, Or.inr ⟨e1, e2, by rw [e3]; exact enc_f e2⟩⟩
    obtain ⟨v, hv, hvv⟩ := hen
    subst hv
    have ca := fun Q => c21b (d := d + 2) (μ := μ) (Q := Q) (x := enc c) hF hK.1 (by omega)
    have hG1 := adb_GF (L0 := L0) (p := L0 + κ.length) μ (enc c) (by omega)
    obtain ⟨ν, k1, k2, k3, k4, k5, k6⟩ := c12b_l (d := d + 1) (L0 := L0) σ (κ ++ [c]) 0 (adb μ (L0 + κ.length) (enc c)) hF h4 hw (by omega) (by omega) (adb_WS hW) (by rw [adb_7]; exact h2) (adb_KS hK) (by rw [List.length_append]; simp; omega)
    have hG := GFb_tr hG1 k1
    obtain ⟨b1, b2, b3, b4, b5⟩ := GFb_b hG hF hCT hKW h6 h4
    have k6' : ∀ Q, R (d + 2) 12 0 [some (.ref 7000001), none] [] (adb μ (L0 + κ.length) (enc c)) Q = Q none ν := by
      intro Q
      simp (disch := first | assumption | omega) only [r12_0, r12_1, rI_wI, rL_wL, rR_wR, rI_wL, rI_wR, rL_wI, rL_wR, rR_wI, rR_wL, va_rf_some, va_rf_none, Option.toList_some, Option.toList_none, List.nil_append, List.cons_append, true_and, and_true, false_and, and_false, and_self, if_true, if_false, not_true_eq_false, not_false_eq_true, or_false, false_or, or_true, true_or, or_self, ite_true, ite_false, Option.some.injEq, reduceCtorEq, Nat.reduceMod, Nat.reduceDiv, Nat.reduceLeDiff, Nat.reduceEqDiff, Nat.reduceAdd, Nat.reduceMul, Nat.reduceSub, Nat.reduceLT, sw_nil, sw_int, sw_long, sw_ref, li, lo, nI_m1, ng_eq, nn_eq, en_eq, ng_le, ng_lt, Int32.neg_neg, nI_add, pk_mul, nI_clampO, nI_ltO, nI_leO, nI_eqO, nI_subO, nle_t, nle_f, nlt_t, nlt_f, neq_f, k6]
    refine ⟨ν, hG, ⟨b1, b2, b3, b4, b5, k2, k3, k4, ?_⟩, fun Q => ?_⟩
    · rw [List.append_assoc] at k5; exact k5
    · rcases hvv with ⟨e1, e2⟩ | ⟨e1, e2, e3⟩
      · rw [e1] at x2
        simp (disch := first | assumption | omega) only [r9_0, r9_1, r9_4, r9_5, r9_6, r9_8, r9_11, r9_12, j9_14, r9_17, r9_18, r9_21, r9_22, r9_24, r9_26, r9_29, r9_30, r9_32, r9_35, r9_36, r9_37, r9_40, r9_43, r9_44, r9_45, r9_46, r9_49, r9_50, r9_53, r9_54, r9_55, r9_57, r9_60, r9_61, r9_61i, r9_62, r9_65, r9_66, r9_67, r9_70, r9_71, r9_72, r9_75, r9_78, r9_79, r9_82, r9_83, r9_85, r9_88, r9_89, r9_92, r9_95, r9_96, r9_97, r9_100, r9_101, r9_104, r9_105, rI_wI, rL_wL, rR_wR, rI_wL, rI_wR, rL_wI, rL_wR, rR_wI, rR_wL, va_rf_some, va_rf_none, Option.toList_some, Option.toList_none, List.nil_append, List.cons_append, true_and, and_true, false_and, and_false, and_self, if_true, if_false, not_true_eq_false, not_false_eq_true, or_false, false_or, or_true, true_or, or_self, ite_true, ite_false, Option.some.injEq, reduceCtorEq, Nat.reduceMod, Nat.reduceDiv, Nat.reduceLeDiff, Nat.reduceEqDiff, Nat.reduceAdd, Nat.reduceMul, Nat.reduceSub, Nat.reduceLT, sw_nil, sw_int, sw_long, sw_ref, li, lo, nI_m1, ng_eq, nn_eq, en_eq, ng_le, ng_lt, Int32.neg_neg, nI_add, pk_mul, nI_clampO, nI_ltO, nI_leO, nI_eqO, nI_subO, nle_t, nle_f, nlt_t, nlt_f, neq_f, x2, h2, h4, e2, ca, k6']
      · rw [pN_t e2] at cf
        have n1 : t.2.1 ≠ 23 ∧ t.2.1 ≠ 40 := by rcases fal_l e2 with z | z | ⟨-, z | z | z⟩ <;> omega
        obtain ⟨n1, n2⟩ := n1
        simp (disch := first | assumption | omega) only [r9_0, r9_1, r9_4, r9_5, r9_6, r9_8, r9_11, r9_12, j9_14, r9_17, r9_18, r9_21, r9_22, r9_24, r9_26, r9_29, r9_30, r9_32, r9_35, r9_36, r9_37, r9_40, r9_43, r9_44, r9_45, r9_46, r9_49, r9_50, r9_53, r9_54, r9_55, r9_57, r9_60, r9_61, r9_61i, r9_62, r9_65, r9_66, r9_67, r9_70, r9_71, r9_72, r9_75, r9_78, r9_79, r9_82, r9_83, r9_85, r9_88, r9_89, r9_92, r9_95, r9_96, r9_97, r9_100, r9_101, r9_104, r9_105, rI_wI, rL_wL, rR_wR, rI_wL, rI_wR, rL_wI, rL_wR, rR_wI, rR_wL, va_rf_some, va_rf_none, Option.toList_some, Option.toList_none, List.nil_append, List.cons_append, true_and, and_true, false_and, and_false, and_self, if_true, if_false, not_true_eq_false, not_false_eq_true, or_false, false_or, or_true, true_or, or_self, ite_true, ite_false, Option.some.injEq, reduceCtorEq, Nat.reduceMod, Nat.reduceDiv, Nat.reduceLeDiff, Nat.reduceEqDiff, Nat.reduceAdd, Nat.reduceMul, Nat.reduceSub, Nat.reduceLT, sw_nil, sw_int, sw_long, sw_ref, li, lo, nI_m1, ng_eq, nn_eq, en_eq, ng_le, ng_lt, Int32.neg_neg, nI_add, pk_mul, nI_clampO, nI_ltO, nI_leO, nI_eqO, nI_subO, nle_t, nle_f, nlt_t, nlt_f, neq_f, x2, h2, h4, cf, e3, ca, k6']
  · by_cases a : t.2.1 = 23
    · rw [a] at x2
      simp (disch := first | assumption | omega) only [r9_0, r9_1, r9_4, r9_5, r9_6, r9_8, r9_11, r9_12, j9_14, r9_17, r9_18, r9_21, r9_22, r9_24, r9_26, r9_29, r9_30, r9_32, r9_35, r9_36, r9_37, r9_40, r9_43, r9_44, r9_45, r9_46, r9_49, r9_50, r9_53, r9_54, r9_55, r9_57, r9_60, r9_61, r9_61i, r9_62, r9_65, r9_66, r9_67, r9_70, r9_71, r9_72, r9_75, r9_78, r9_79, r9_82, r9_83, r9_85, r9_88, r9_89, r9_92, r9_95, r9_96, r9_97, r9_100, r9_101, r9_104, r9_105, rI_wI, rL_wL, rR_wR, rI_wL, rI_wR, rL_wI, rL_wR, rR_wI, rR_wL, va_rf_some, va_rf_none, Option.toList_some, Option.toList_none, List.nil_append, List.cons_append, true_and, and_true, false_and, and_false, and_self, if_true, if_false, not_true_eq_false, not_false_eq_true, or_false, false_or, or_true, true_or, or_self, ite_true, ite_false, Option.some.injEq, reduceCtorEq, Nat.reduceMod, Nat.reduceDiv, Nat.reduceLeDiff, Nat.reduceEqDiff, Nat.reduceAdd, Nat.reduceMul, Nat.reduceSub, Nat.reduceLT, sw_nil, sw_int, sw_long, sw_ref, li, lo, nI_m1, ng_eq, nn_eq, en_eq, ng_le, ng_lt, Int32.neg_neg, nI_add, pk_mul, nI_clampO, nI_ltO, nI_leO, nI_eqO, nI_subO, nle_t, nle_f, nlt_t, nlt_f, neq_f, x2, h2]
    · by_cases b : t.2.1 = 40
      · rw [b] at x2
        simp (disch := first | assumption | omega) only [r9_0, r9_1, r9_4, r9_5, r9_6, r9_8, r9_11, r9_12, j9_14, r9_17, r9_18, r9_21, r9_22, r9_24, r9_26, r9_29, r9_30, r9_32, r9_35, r9_36, r9_37, r9_40, r9_43, r9_44, r9_45, r9_46, r9_49, r9_50, r9_53, r9_54, r9_55, r9_57, r9_60, r9_61, r9_61i, r9_62, r9_65, r9_66, r9_67, r9_70, r9_71, r9_72, r9_75, r9_78, r9_79, r9_82, r9_83, r9_85, r9_88, r9_89, r9_92, r9_95, r9_96, r9_97, r9_100, r9_101, r9_104, r9_105, rI_wI, rL_wL, rR_wR, rI_wL, rI_wR, rL_wI, rL_wR, rR_wI, rR_wL, va_rf_some, va_rf_none, Option.toList_some, Option.toList_none, List.nil_append, List.cons_append, true_and, and_true, false_and, and_false, and_self, if_true, if_false, not_true_eq_false, not_false_eq_true, or_false, false_or, or_true, true_or, or_self, ite_true, ite_false, Option.some.injEq, reduceCtorEq, Nat.reduceMod, Nat.reduceDiv, Nat.reduceLeDiff, Nat.reduceEqDiff, Nat.reduceAdd, Nat.reduceMul, Nat.reduceSub, Nat.reduceLT, sw_nil, sw_int, sw_long, sw_ref, li, lo, nI_m1, ng_eq, nn_eq, en_eq, ng_le, ng_lt, Int32.neg_neg, nI_add, pk_mul, nI_clampO, nI_ltO, nI_leO, nI_eqO, nI_subO, nle_t, nle_f, nlt_t, nlt_f, neq_f, x2, h2]
      · by_cases e : t.2.1 = 29
        · rw [e] at x2
          simp (disch := first | assumption | omega) only [r9_0, r9_1, r9_4, r9_5, r9_6, r9_8, r9_11, r9_12, j9_14, r9_17, r9_18, r9_21, r9_22, r9_24, r9_26, r9_29, r9_30, r9_32, r9_35, r9_36, r9_37, r9_40, r9_43, r9_44, r9_45, r9_46, r9_49, r9_50, r9_53, r9_54, r9_55, r9_57, r9_60, r9_61, r9_61i, r9_62, r9_65, r9_66, r9_67, r9_70, r9_71, r9_72, r9_75, r9_78, r9_79, r9_82, r9_83, r9_85, r9_88, r9_89, r9_92, r9_95, r9_96, r9_97, r9_100, r9_101, r9_104, r9_105, rI_wI, rL_wL, rR_wR, rI_wL, rI_wR, rL_wI, rL_wR, rR_wI, rR_wL, va_rf_some, va_rf_none, Option.toList_some, Option.toList_none, List.nil_append, List.cons_append, true_and, and_true, false_and, and_false, and_self, if_true, if_false, not_true_eq_false, not_false_eq_true, or_false, false_or, or_true, true_or, or_self, ite_true, ite_false, Option.some.injEq, reduceCtorEq, Nat.reduceMod, Nat.reduceDiv, Nat.reduceLeDiff, Nat.reduceEqDiff, Nat.reduceAdd, Nat.reduceMul, Nat.reduceSub, Nat.reduceLT, sw_nil, sw_int, sw_long, sw_ref, li, lo, nI_m1, ng_eq, nn_eq, en_eq, ng_le, ng_lt, Int32.neg_neg, nI_add, pk_mul, nI_clampO, nI_ltO, nI_leO, nI_eqO, nI_subO, nle_t, nle_f, nlt_t, nlt_f, neq_f, x2, h2]
        · have hf : fal k t.2.1 := by rcases ho with o | o | o | o; exact absurd o a; exact absurd o b; exact absurd o e; exact o
          rw [pN_t hf] at cf
          simp (disch := first | assumption | omega) only [r9_0, r9_1, r9_4, r9_5, r9_6, r9_8, r9_11, r9_12, j9_14, r9_17, r9_18, r9_21, r9_22, r9_24, r9_26, r9_29, r9_30, r9_32, r9_35, r9_36, r9_37, r9_40, r9_43, r9_44, r9_45, r9_46, r9_49, r9_50, r9_53, r9_54, r9_55, r9_57, r9_60, r9_61, r9_61i, r9_62, r9_65, r9_66, r9_67, r9_70, r9_71, r9_72, r9_75, r9_78, r9_79, r9_82, r9_83, r9_85, r9_88, r9_89, r9_92, r9_95, r9_96, r9_97, r9_100, r9_101, r9_104, r9_105, rI_wI, rL_wL, rR_wR, rI_wL, rI_wR, rL_wI, rL_wR, rR_wI, rR_wL, va_rf_some, va_rf_none, Option.toList_some, Option.toList_none, List.nil_append, List.cons_append, true_and, and_true, false_and, and_false, and_self, if_true, if_false, not_true_eq_false, not_false_eq_true, or_false, false_or, or_true, true_or, or_self, ite_true, ite_false, Option.some.injEq, reduceCtorEq, Nat.reduceMod, Nat.reduceDiv, Nat.reduceLeDiff, Nat.reduceEqDiff, Nat.reduceAdd, Nat.reduceMul, Nat.reduceSub, Nat.reduceLT, sw_nil, sw_int, sw_long, sw_ref, li, lo, nI_m1, ng_eq, nn_eq, en_eq, ng_le, ng_lt, Int32.neg_neg, nI_add, pk_mul, nI_clampO, nI_ltO, nI_leO, nI_eqO, nI_subO, nle_t, nle_f, nlt_t, nlt_f, neq_f, x2, h2, cf]
  · have hn1 : t.2.1 ≠ 23 := fun q => ho (Or.inl q)
    have hn2 : t.2.1 ≠ 40 := fun q => ho (Or.inr (Or.inl q))
    have hn3 : t.2.1 ≠ 29 := fun q => ho (Or.inr (Or.inr (Or.inl q)))
    rw [pN_f (fun q => ho (Or.inr (Or.inr (Or.inr q))))] at cf
    simp (disch := first | assumption | omega) only [r9_0, r9_1, r9_4, r9_5, r9_6, r9_8, r9_11, r9_12, j9_14, r9_17, r9_18, r9_21, r9_22, r9_24, r9_26, r9_29, r9_30, r9_32, r9_35, r9_36, r9_37, r9_40, r9_43, r9_44, r9_45, r9_46, r9_49, r9_50, r9_53, r9_54, r9_55, r9_57, r9_60, r9_61, r9_61i, r9_62, r9_65, r9_66, r9_67, r9_70, r9_71, r9_72, r9_75, r9_78, r9_79, r9_82, r9_83, r9_85, r9_88, r9_89, r9_92, r9_95, r9_96, r9_97, r9_100, r9_101, r9_104, r9_105, rI_wI, rL_wL, rR_wR, rI_wL, rI_wR, rL_wI, rL_wR, rR_wI, rR_wL, va_rf_some, va_rf_none, Option.toList_some, Option.toList_none, List.nil_append, List.cons_append, true_and, and_true, false_and, and_false, and_self, if_true, if_false, not_true_eq_false, not_false_eq_true, or_false, false_or, or_true, true_or, or_self, ite_true, ite_false, Option.some.injEq, reduceCtorEq, Nat.reduceMod, Nat.reduceDiv, Nat.reduceLeDiff, Nat.reduceEqDiff, Nat.reduceAdd, Nat.reduceMul, Nat.reduceSub, Nat.reduceLT, sw_nil, sw_int, sw_long, sw_ref, li, lo, nI_m1, ng_eq, nn_eq, en_eq, ng_le, ng_lt, Int32.neg_neg, nI_add, pk_mul, nI_clampO, nI_ltO, nI_leO, nI_eqO, nI_subO, nle_t, nle_f, nlt_t, nlt_f, neq_f, x2, h2, cf]
end T1
