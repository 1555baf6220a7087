/-! THE FIRST MEMORY -/
def cl0 : PM := (fun _ _ => 0, fun a j => if a = kwA then kwF j else 0, fun _ _ => none, [])
def nu0 : PM := V40 (nw (V39 (nw cl0 2000010)) 110000011)
def mu1 (L : Nat) (xs : Nat → Int32) : PM := V40 (nw (V39 (nw (mu0 L xs) 2000010)) 110000011)
theorem mu1_AG {L : Nat} {xs : Nat → Int32} (hL : L ≤ 3584) : AG (fun a j => if a = L * 100 + 20 then xs j else 0) (mu1 L xs) nu0 := by
  have h0 : AG (fun a j => if a = L * 100 + 20 then xs j else 0) (mu0 L xs) cl0 := ⟨fun a j q => by
    show (if a = L * 100 + 20 then xs j else 0) = (0 : Int32)
    rw [if_neg (by omega)], fun _ _ _ => rfl, rfl⟩
  exact V40_AG (AG_N (by decide) (V39_AG (AG_N (by decide) h0)))
set_option maxRecDepth 100000 in
theorem nu0_FX : FX nu0 := by
  unfold FX
  decide +kernel
set_option maxRecDepth 100000 in
theorem nu0_KW : KW nu0 := by
  unfold KW
  decide +kernel
set_option maxRecDepth 100000 in
theorem nu0_MC : MC nu0 := by
  unfold MC
  decide +kernel
set_option maxRecDepth 100000 in
theorem nu0_CPa : CPa nu0 paZ := by
  unfold CPa
  decide +kernel
set_option maxRecDepth 100000 in
theorem nu0_CLa : ∀ k, k < 3 → rI nu0 22000320 k = nI 0 ∧ rI nu0 23000320 k = nI 0 := by decide +kernel
set_option maxRecDepth 100000 in
theorem nu0_a : rR nu0 2000010 2 = some 11000005 ∧ rR nu0 2000010 3 = some 25000005 ∧ rI nu0 39000008 1 = nI 0 ∧ rI nu0 39000008 2 = -nI 1 ∧ rI nu0 39000008 3 = nI 0 ∧ rI nu0 41000006 2 = nI 0 ∧ rI nu0 41000006 1 = nI 0 ∧ rI nu0 2000010 7 = nI 0 ∧ rI nu0 2000010 9 = nI 0 ∧ rI nu0 3000009 1 = nI 0 ∧ rI nu0 85000004 7 = nI 0 ∧ rI nu0 110000011 2 = nI 0 := by decide +kernel
set_option maxRecDepth 100000 in
theorem nu0_m : (∀ m, m < 4 → rI nu0 125000423 m = nI 0) ∧ ∀ k, k < 250 → rI nu0 124025020 k = nI 0 := by decide +kernel
set_option maxRecDepth 100000 in
theorem nu0_sl : (aS nu0).length ≤ 600000 ∧ slS nu0 ≤ 7302250 := by
  unfold slS
  decide +kernel
theorem nu0_CH : CH nu0 paZ lwZ (s00 paZ) [] (fun _ => none) [] := by
  obtain ⟨a1, a2, a3, a4, a5, a6, a7, a8, a9, a10, a11, -⟩ := nu0_a
  refine ⟨nu0_FX, Or.inl ⟨a1, a2, nu0_CPa, fun k hk => ⟨fun _ => ⟨0, by omega, nu0_CLa k hk⟩, fun l q => (by cases q)⟩⟩, ⟨fun k hk => absurd hk (Nat.not_lt_zero k), a3, a4, a5⟩, ⟨a6, 0, by omega, a7, fun i hi => absurd hi (Nat.not_lt_zero i)⟩, ⟨0, by omega, a8, fun m _ => ⟨fun _ => by unfold bt; rw [Nat.zero_div], fun t q => (by cases q)⟩⟩, ?_, ⟨a10, fun i hi => absurd hi (Nat.not_lt_zero i)⟩, Or.inl a11⟩
  have e : ln paZ (s00 paZ) = [] := rfl
  rw [e]
  exact ⟨a9, fun i hi => absurd hi (Nat.not_lt_zero i)⟩
/-- the class's view rests on its own cells alone -/
theorem CH_ag {μ ν : PM} {pa : Nat → Nat} {lw : LW} {s : Nat → Nat} {un : List (Nat → Nat)} {mk : Nat → Option (Nat → Nat)} {tp : List Nat} (e : ∀ a j, 2000000 ≤ a → a < 110000000 → rI ν a j = rI μ a j) (h2' : ν.2 = μ.2) (hC : CH μ pa lw s un mk tp) : CH ν pa lw s un mk tp := by
  obtain ⟨h1, h2, h3, h4, h5, h6, h7, h8⟩ := hC
  have eL : ∀ a j, rL ν a j = rL μ a j := fun a j => by unfold rL; rw [h2']
  have eR : ∀ a j, rR ν a j = rR μ a j := fun a j => by unfold rR; rw [h2']
  have eS : ∀ (a o n : Nat) (s : Nat → Nat), 2000000 ≤ a → a < 110000000 → 2000000 ≤ o → o < 110000000 → CSg μ a o n s → CSg ν a o n s := fun a o n s q1 q2 q3 q4 q => by
    unfold CSg at q ⊢
    simpa (disch := omega) only [e] using q
  refine ⟨fun q hq => (eR _ _).trans (h1 q hq), ?_, eS _ _ _ _ (by omega) (by omega) (by omega) (by omega) h3, ?_, ?_, ?_, ?_, ?_⟩
  · unfold CPt CPa CPb CLa CLb cdCa cdCb at h2 ⊢
    simpa (disch := omega) only [e, eR] using h2
  · obtain ⟨q1, nx, q2, q3, q4⟩ := h4
    refine ⟨(e _ _ (by omega) (by omega)).trans q1, nx, q2, (e _ _ (by omega) (by omega)).trans q3, fun i hi => eS _ _ _ _ ?_ ?_ ?_ ?_ (q4 i hi)⟩
    · unfold pstA; omega
    · unfold pstA; omega
    · unfold pstO; omega
    · unfold pstO; omega
  · obtain ⟨b, q1, q2, q3⟩ := h5
    refine ⟨b, q1, (e _ _ (by omega) (by omega)).trans q2, fun m hm => ⟨(q3 m hm).1, fun t ht => ⟨((q3 m hm).2 t ht).1, eS _ _ _ _ ?_ ?_ ?_ ?_ ((q3 m hm).2 t ht).2⟩⟩⟩
    · unfold mrkA; omega
    · unfold mrkA; omega
    · unfold mrkO; omega
    · unfold mrkO; omega
  · unfold CLn at h6 ⊢
    simpa (disch := omega) only [e] using h6
  · unfold CTp at h7 ⊢
    simpa (disch := omega) only [e] using h7
  · unfold CO OCk at h8 ⊢
    simpa (disch := omega) only [e, eL] using h8
theorem paZ_PK : PK paZ := by
  refine ⟨⟨by decide, by decide, by decide, by decide, by decide⟩, fun i _ => ?_, fun f _ => ?_, fun a b _ _ => ?_, fun a _ => ?_⟩
  · unfold paZ
    rw [if_neg (by omega), if_neg (by omega), if_neg (by omega), if_neg (by omega)]
    omega
  · unfold paZ
    rw [if_neg (by omega), if_neg (by omega)]
    omega
  · unfold paZ
    rw [if_neg (by omega), if_neg (by omega)]
    omega
  · unfold paZ
    rw [if_neg (by omega)]
/-- the reference's beginning, behind its rows -/
theorem kbeg {d L : Nat} {xs : Nat → Int32} (hL : L ≤ 3584) : ∃ ν, IVA ν ∧ (∀ j, rI ν (L * 100 + 20) j = xs j) ∧ ν.2 = nu0.2 ∧ ∀ Q, R (d + 1) 134 399 [some (.ref 110000011)] [] (mu1 L xs) Q = Q none ν := by
  obtain ⟨g1, g2, g3⟩ := mu1_AG (xs := xs) hL
  have hF : FX (mu1 L xs) := fun q hq => by
    unfold rR
    rw [g3]
    exact nu0_FX q hq
  obtain ⟨ν2, a1, a2, a3, a4⟩ := m148 (d := d) hF (b := 0) (by omega)
  have hF2 := SJ_FX a1 hF
  have p1 : rI ν2 116018820 1 = nI (paZ 1) := a2 1 (by omega) (by omega)
  obtain ⟨ν3, b1, b2, b3, b4, b5⟩ := m154 (d := d) hF2 (pa := paZ) p1 (by decide)
  have e2 : ν3.2 = nu0.2 := b1.2.trans (a1.2.trans g3)
  have eL : ∀ a j, rL ν3 a j = rL nu0 a j := fun a j => by unfold rL; rw [e2]
  have ei : ∀ a j, ¬ (a = 116018820 ∨ (a = 124025020 ∧ j < 10) ∨ (a = 110000011 ∧ j = 24)) → rI ν3 a j = rI (mu1 L xs) a j := fun a j q => (b1.1 a j (by omega)).trans (a1.1 a j (by omega))
  have e : ∀ a j, 2000000 ≤ a → ¬ (a = 116018820 ∨ (a = 124025020 ∧ j < 10) ∨ (a = 110000011 ∧ j = 24)) → rI ν3 a j = rI nu0 a j := fun a j q1 q2 => (ei a j q2).trans (g1 a j q1)
  have hC : CH ν3 paZ lwZ (s00 paZ) [] (fun _ => none) [] := CH_ag (fun a j q1 q2 => e a j q1 (by omega)) e2 nu0_CH
  have h2 : rI nu0 110000011 2 = nI 0 := nu0_a.2.2.2.2.2.2.2.2.2.2.2
  have p2 : ∀ x, rI ν3 116018820 x = rI ν2 116018820 x := fun x => b1.1 _ _ (by omega)
  have hM : MH ν3 paZ lwZ (s00 paZ) [] (fun _ => none) [] := by
    refine ⟨SJ_FX b1 hF2, fun k q1 q2 => ?_, fun k hk => ⟨fun _ => ?_, fun l q => (by cases q)⟩, ⟨fun j k => if j = 0 then s00 paZ k else if k = 8 then 1 else 0, ⟨fun j k q1 q2 q3 => ?_, fun j q1 => ?_⟩, ?_, fun i hi => absurd hi (Nat.not_lt_zero i), fun m hm => ⟨fun _ => ?_, fun t q => (by cases q)⟩⟩, b4, ⟨(e _ _ (by omega) (by omega)).trans h2, fun i hi => absurd hi (Nat.not_lt_zero i)⟩, ⟨fun k hk => (eL _ _).trans (nu0_MC.1 k hk), fun k hk => (e _ _ (by omega) (by omega)).trans (nu0_MC.2 k hk)⟩⟩
    · rw [p2]
      have := a2 k q1 q2
      rwa [Nat.zero_add] at this
    · rw [p2]
      have := a3 k hk
      rwa [Nat.zero_add] at this
    · show rI ν3 124025020 (10 * j + k) = nI (if j = 0 then s00 paZ k else if k = 8 then 1 else 0)
      by_cases ej : j = 0
      · subst ej
        rw [if_pos rfl, show 10 * 0 + k = k by omega]
        exact b2 k q2 q3
      · rw [if_neg ej, if_neg q3, e _ _ (by omega) (by omega)]
        exact nu0_m.2 _ (by omega)
    · show rI ν3 124025020 (10 * j + 8) = fI (if j = 0 then s00 paZ 8 else if 8 = 8 then 1 else 0)
      by_cases ej : j = 0
      · subst ej
        rw [if_pos rfl]
        exact b3
      · rw [if_neg ej, if_pos rfl, e _ _ (by omega) (by omega)]
        exact nu0_m.2 _ (by omega)
    · funext k
      exact if_pos rfl
    · rw [e _ _ (by omega) (by omega)]
      exact nu0_m.1 m hm
  refine ⟨ν3, ⟨fun i hi => (eL _ _).trans (nu0_KW i hi), paZ, lwZ, s00 paZ, [], fun _ => none, [], hC, hM, ⟨paZ_PK, s00_SO paZ (by decide), fun t ht => absurd ht List.not_mem_nil, Nat.zero_le _, fun m t _ q => (by cases q), Nat.zero_le _, fun q hq => absurd hq List.not_mem_nil⟩, fun l q => (by cases q), fun a b _ _ _ => ?_⟩, fun j => ?_, e2, fun Q => ?_⟩
  · unfold tw paZ
    rw [if_neg (by omega)]
  · rw [ei _ _ (by omega), g2 _ _ (by omega)]
    exact if_pos rfl
  · have a4 : ∀ Q, R d 148 0 [some (.ref 110000011), some (.int (nI 0)), none] [] (mu1 L xs) Q = Q none ν2 := a4
    simp (disch := first | assumption | omega) only [r134_399, r134_400, r134_401, r134_404, r134_405, r134_408, rI_wI, rL_wL, rR_wR, rI_wL, rI_wR, rL_wI, rL_wR, rR_wI, rR_wL, va_rf_some, va_rf_none, Option.toList_some, Option.toList_none, List.nil_append, List.cons_append, true_and, and_true, false_and, and_false, and_self, if_true, if_false, not_true_eq_false, not_false_eq_true, or_false, false_or, or_true, true_or, or_self, ite_true, ite_false, Option.some.injEq, reduceCtorEq, Nat.reduceMod, Nat.reduceDiv, Nat.reduceLeDiff, Nat.reduceEqDiff, Nat.reduceAdd, Nat.reduceMul, Nat.reduceSub, Nat.reduceLT, sw_nil, sw_int, sw_long, sw_ref, li, lo, nI_m1, ng_eq, nn_eq, en_eq, ng_le, ng_lt, Int32.neg_neg, nI_add, pk_mul, nI_clampO, nI_ltO, nI_leO, nI_eqO, nI_subO, nle_t, nle_f, nlt_t, nlt_f, neq_f, a4, b5]
/-- up to the loop -/
theorem first {L : Nat} {xs : Nat → Int32} (hL : L ≤ 3584) : ∃ ν, IVA ν ∧ (∀ j, rI ν (L * 100 + 20) j = xs j) ∧ aS ν = aS nu0 ∧ ∀ Q, R 60 232 0 [some (.ref (L * 100 + 20)), none, none, none] [] (mu0 L xs) Q = R 60 232 18 [some (.ref (L * 100 + 20)), some (.ref 2000010), some (.ref 110000011), some (.int (nI 0))] [] ν Q := by
  obtain ⟨ν, f1, f2, f3, f4⟩ := kbeg (d := 58) (xs := xs) hL
  have f4 : ∀ Q, R 59 134 399 [some (.ref 110000011)] [] (V40 (nw (V39 (nw (mu0 L xs) 2000010)) 110000011)) Q = Q none ν := f4
  have l0 : (aS (mu0 L xs)).length = 0 := rfl
  have l1 : (aS (nw (mu0 L xs) 2000010)).length = 1 := by rw [aSl_N, l0]
  have l2 : (aS (V39 (nw (mu0 L xs) 2000010))).length = 108 := by rw [V39_l, l1]
  have l3 : (aS (nw (V39 (nw (mu0 L xs) 2000010)) 110000011)).length = 109 := by rw [aSl_N, l2]
  have n1 : nx (mu0 L xs) 0 10 = 2000010 := by unfold nx; rw [l0]
  have n2 : nx (V39 (nw (mu0 L xs) 2000010)) 0 11 = 110000011 := by unfold nx; rw [l2]
  have c1 := k39 (d := 57) l1
  have c1 : ∀ Q, R 59 89 0 [some (.ref 2000010), none] [] (nw (mu0 L xs) 2000010) Q = Q none (V39 (nw (mu0 L xs) 2000010)) := c1
  have c2 : ∀ Q, R 59 134 0 [some (.ref 110000011)] [] (nw (V39 (nw (mu0 L xs) 2000010)) 110000011) Q = Q none ν := fun Q => (k40 (d := 59) l3 Q).trans (f4 Q)
  refine ⟨ν, f1, f2, by unfold aS; rw [f3], fun Q => ?_⟩
  simp (disch := first | assumption | omega) only [r232_0, r232_3, r232_4, r232_7, r232_8, r232_11, r232_12, r232_15, r232_16, r232_17, rI_wI, rL_wL, rR_wR, rI_wL, rI_wR, rL_wI, rL_wR, rR_wI, rR_wL, va_rf_some, va_rf_none, Option.toList_some, Option.toList_none, List.nil_append, List.cons_append, true_and, and_true, false_and, and_false, and_self, if_true, if_false, not_true_eq_false, not_false_eq_true, or_false, false_or, or_true, true_or, or_self, ite_true, ite_false, Option.some.injEq, reduceCtorEq, Nat.reduceMod, Nat.reduceDiv, Nat.reduceLeDiff, Nat.reduceEqDiff, Nat.reduceAdd, Nat.reduceMul, Nat.reduceSub, Nat.reduceLT, sw_nil, sw_int, sw_long, sw_ref, li, n1, n2, c1, c2]
