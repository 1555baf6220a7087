/-! A PARTY: THE REFERENCE, WHOLE -/
section T1
variable {d : Nat} {μ : PM} {pa : Nat → Nat} {lw : LW} {s : Nat → Nat} {un : List (Nat → Nat)} {mk : Nat → Option (Nat → Nat)} {tp : List Nat} {T : List Tok}
theorem ML_o {μ ν : PM} (e : ∀ j, j < 94 → rI ν 116018820 j = rI μ 116018820 j) (e2 : ∀ j, j < 1100 → rI ν 117220020 j = rI μ 117220020 j) (e3 : ∀ j, j < 1100 → rI ν 118220020 j = rI μ 118220020 j) (h : ML μ lw) : ML ν lw := by
  intro k hk
  obtain ⟨h1, h2⟩ := h k hk
  refine ⟨fun q => (e _ (by omega)).trans (h1 q), fun l q => ?_⟩
  obtain ⟨g1, g2, st, g3, g4, g5, g6⟩ := h2 l q
  exact ⟨g1, g2, st, (e _ (by omega)).trans g3, fun i hi => ⟨(e2 _ (by omega)).trans (g4 i hi).1, (e3 _ (by omega)).trans (g4 i hi).2⟩, (e2 _ (by omega)).trans g5, g6⟩
/-- what the reading leaves alone -/
def PG (μ ν : PM) : Prop := (∀ a j, ¬ ((a = 110000011 ∧ (j = 0 ∨ j = 2 ∨ j = 3 ∨ j = 7 ∨ j = 8 ∨ j = 13 ∨ j = 16 ∨ j = 17 ∨ j = 18 ∨ j = 19)) ∨ a = 112100220 ∨ a = 113100220 ∨ (a = 116018820 ∧ 94 ≤ j) ∨ ((a = 117220020 ∨ a = 118220020) ∧ 1100 ≤ j) ∨ a = 120001120) → rI ν a j = rI μ a j) ∧ (∀ a j, ¬ (a = 114100221 ∨ a = 119001121) → rL ν a j = rL μ a j) ∧ (∀ a j, rR ν a j = rR μ a j) ∧ aS ν = aS μ
theorem PG_LE {μ ν : PM} (h : PG μ ν) : LE μ ν := ⟨fun a j q => ⟨h.1 a j (by omega), h.2.1 a j (by omega), h.2.2.1 a j⟩, h.2.2.2⟩
theorem PG_MH {μ ν : PM} (h : PG μ ν) (h2 : rI ν 110000011 2 = nI 0) (hM : MH μ pa lw s un mk tp) : MH ν pa lw s un mk [] := by
  obtain ⟨m1, m2, m3, ⟨sd, k1, k2, k3, k4⟩, m5, m6, m7⟩ := hM
  refine ⟨fun q hq => (h.2.2.1 _ _).trans (m1 q hq), fun k q1 q2 => (h.1 _ _ (by omega)).trans (m2 k q1 q2), ML_o (fun j _ => h.1 _ _ (by omega)) (fun j _ => h.1 _ _ (by omega)) (fun j _ => h.1 _ _ (by omega)) m3, ⟨sd, ⟨fun j k q1 q2 q3 => (h.1 _ _ (by omega)).trans (k1.1 j k q1 q2 q3), fun j q1 => (h.1 _ _ (by omega)).trans (k1.2 j q1)⟩, k2, k3, fun m hm => ⟨fun q => (h.1 _ _ (by omega)).trans ((k4 m hm).1 q), fun t q => ⟨(h.1 _ _ (by omega)).trans ((k4 m hm).2 t q).1, ((k4 m hm).2 t q).2⟩⟩⟩, (h.1 _ _ (by omega)).trans m5, ⟨h2, fun i hi => absurd hi (Nat.not_lt_zero i)⟩, ⟨fun k hk => (h.2.1 _ _ (by omega)).trans (m7.1 k hk), fun k hk => (h.1 _ _ (by omega)).trans (m7.2 k hk)⟩⟩
/-- up to the first line -/
theorem m153_0 (hM : MH μ pa lw s un mk tp) (hn : tp.length ≤ 1000) (hc : ∀ c, c ∈ tp → c < 127) (hI : isT tp 0 T) (hl : T.length ≤ 1001) : ∃ ν, PG μ ν ∧ rI ν 110000011 2 = nI 0 ∧ RM ν (.ok T) ∧ MZ ν SZ 0 ∧ ∀ Q, R (d + 35) 153 0 [some (.ref 110000011), none] [] μ Q = R (d + 35) 153 35 [some (.ref 110000011), none] [] ν Q := by
  obtain ⟨m1, m2, m3, m4, m5, m6, m7⟩ := hM
  have hF1 : FX (wI (wI (wI μ 110000011 0 (nI 0)) 110000011 3 (nI tp.length)) 110000011 2 (nI 0)) := m1
  have t0 : rI (wI μ 110000011 0 (nI 0)) 110000011 2 = nI tp.length := by rw [rI_wI, if_neg (by omega)]; exact m6.1
  have hTA : TA (wI (wI (wI μ 110000011 0 (nI 0)) 110000011 3 (nI tp.length)) 110000011 2 (nI 0)) tp := ⟨by rw [rI_wI, if_neg (by omega), rI_wI, if_pos ⟨rfl, rfl⟩], fun i hi => by rw [rI_wI, if_neg (by omega), rI_wI, if_neg (by omega), rI_wI, if_neg (by omega)]; exact m6.2 i hi⟩
  obtain ⟨ν1, a1, a2, a3, a4, a5, a6, a7⟩ := c139_m (d := d + 32) hn hc T 0 0 _ none none none none hI (Nat.zero_le _) (by omega) hF1 hTA
  have a7 : ∀ Q, R (d + 34) 139 17 [some (.ref 110000011), some (.int (nI 0)), some (.int (nI 0)), none, none, none, none] [] (wI (wI (wI μ 110000011 0 (nI 0)) 110000011 3 (nI tp.length)) 110000011 2 (nI 0)) Q = Q none ν1 := a7
  have k39 : ∀ Q, R (d + 34) 139 0 [some (.ref 110000011), none, none, none, none, none, none] [] (wI μ 110000011 0 (nI 0)) Q = Q none ν1 := fun Q => by
    rw [← a7 Q]
    simp (disch := first | assumption | omega) only [r139_0, r139_1, r139_2, r139_5, r139_8, r139_9, r139_10, r139_13, r139_14, r139_15, r139_16, rI_wI, rL_wL, rR_wR, rI_wL, rI_wR, rL_wI, rL_wR, rR_wI, rR_wL, va_rf_some, va_rf_none, Option.toList_some, Option.toList_none, List.nil_append, List.cons_append, true_and, and_true, false_and, and_false, and_self, if_true, if_false, not_true_eq_false, not_false_eq_true, or_false, false_or, or_true, true_or, or_self, ite_true, ite_false, Option.some.injEq, reduceCtorEq, Nat.reduceMod, Nat.reduceDiv, Nat.reduceLeDiff, Nat.reduceEqDiff, Nat.reduceAdd, Nat.reduceMul, Nat.reduceSub, Nat.reduceLT, sw_nil, sw_int, sw_long, sw_ref, li, lo, nI_m1, ng_eq, nn_eq, en_eq, ng_le, ng_lt, Int32.neg_neg, nI_add, pk_mul, nI_clampO, nI_ltO, nI_leO, nI_eqO, nI_subO, nle_t, nle_f, nlt_t, nlt_f, neq_f, t0, m6.1]
  have r2 : rI ν1 110000011 2 = nI 0 := by rw [a4, rI_wI, if_pos ⟨rfl, rfl⟩]
  have hFn1 : FX ν1 := fun q hq => (a1.2.2.1 _ _).trans (hF1 q hq)
  have hF2 : FX (wI (wI (wI (wI ν1 110000011 13 (nI 0)) 110000011 16 (nI 0)) 110000011 17 (nI 0)) 110000011 18 (nI 0)) := hFn1
  obtain ⟨ν3, b1, b2, b3, b4⟩ := m148 (d := d + 34) hF2 (b := 94) (by omega)
  have rm : ∀ a j, ¬ (a = 116018820 ∧ 94 ≤ j ∧ j < 94 + 94) → rI ν3 a j = rI (wI (wI (wI (wI ν1 110000011 13 (nI 0)) 110000011 16 (nI 0)) 110000011 17 (nI 0)) 110000011 18 (nI 0)) a j := b1.1
  have ro : ∀ a j, a ≠ 110000011 → ¬ (a = 116018820 ∧ 94 ≤ j ∧ j < 94 + 94) → rI ν3 a j = rI ν1 a j := fun a j q1 q2 => by
    rw [rm a j q2, rI_wI, if_neg (by omega), rI_wI, if_neg (by omega), rI_wI, if_neg (by omega), rI_wI, if_neg (by omega)]
  have rs : ∀ j, j ≠ 13 → j ≠ 16 → j ≠ 17 → j ≠ 18 → rI ν3 110000011 j = rI ν1 110000011 j := fun j q1 q2 q3 q4 => by
    rw [rm _ j (by omega), rI_wI, if_neg (by omega), rI_wI, if_neg (by omega), rI_wI, if_neg (by omega), rI_wI, if_neg (by omega)]
  have rl : ∀ a j, rL ν3 a j = rL ν1 a j := fun a j => SJ_L b1 a j
  have hG := isT_GT hn hc T 0 (Nat.zero_le _) hI
  have hPG : PG μ ν3 := by
    refine ⟨fun a j q => ?_, fun a j q => ?_, fun a j => ?_, ?_⟩
    · by_cases e : a = 110000011
      · subst e
        rw [rs j (by omega) (by omega) (by omega) (by omega), a1.1 _ _ (by omega), rI_wI, if_neg (by omega), rI_wI, if_neg (by omega), rI_wI, if_neg (by omega)]
      · rw [ro a j e (by omega), a1.1 _ _ (by omega), rI_wI, if_neg (by omega), rI_wI, if_neg (by omega), rI_wI, if_neg (by omega)]
    · rw [rl, a1.2.1 a j (by omega)]
      rfl
    · rw [SJ_R b1]
      exact a1.2.2.1 a j
    · rw [SJ_S b1]
      exact a1.2.2.2
  refine ⟨ν3, hPG, (rs 2 (by omega) (by omega) (by omega) (by omega)).trans r2, RM_o (SJ_FX b1 hF2) ⟨fun k hk => (hPG.2.1 _ _ (by omega)).trans (m7.1 k hk), fun k hk => (hPG.1 _ _ (by omega)).trans (m7.2 k hk)⟩ ⟨⟨hG.1, hG.2, 0, by omega, (rs 7 (by omega) (by omega) (by omega) (by omega)).trans a5, fun j hj => rq1_c (ro _ _ (by omega) (by omega)) (ro _ _ (by omega) (by omega)) (rl _ _) (a3 j hj)⟩, (rs 8 (by omega) (by omega) (by omega) (by omega)).trans a6⟩, ⟨fun x q1 q2 => b2 x q1 q2, fun k hk => ⟨fun _ => ?_, fun l q => (by cases q)⟩, ⟨?_, fun i hi => absurd hi (Nat.not_lt_zero i)⟩, ?_, ?_, ?_⟩, fun Q => ?_⟩
  · rw [show 99 + k = 94 + 5 + k by omega]
    exact b3 k hk
  · rw [rm _ _ (by omega), rI_wI, if_neg (by omega), rI_wI, if_neg (by omega), rI_wI, if_pos ⟨rfl, rfl⟩]
    rfl
  · rw [rm _ _ (by omega), rI_wI, if_neg (by omega), rI_wI, if_pos ⟨rfl, rfl⟩]
    rfl
  · rw [rm _ _ (by omega), rI_wI, if_pos ⟨rfl, rfl⟩]
    rfl
  · rw [rm _ _ (by omega), rI_wI, if_neg (by omega), rI_wI, if_neg (by omega), rI_wI, if_neg (by omega), rI_wI, if_pos ⟨rfl, rfl⟩]
  · simp (disch := first | assumption | omega) only [r153_0, r153_1, r153_2, r153_5, r153_6, r153_9, r153_10, r153_11, r153_14, r153_15, r153_16, r153_19, r153_20, r153_21, r153_24, r153_25, r153_26, r153_29, r153_30, r153_32, rI_wI, rL_wL, rR_wR, rI_wL, rI_wR, rL_wI, rL_wR, rR_wI, rR_wL, va_rf_some, va_rf_none, Option.toList_some, Option.toList_none, List.nil_append, List.cons_append, true_and, and_true, false_and, and_false, and_self, if_true, if_false, not_true_eq_false, not_false_eq_true, or_false, false_or, or_true, true_or, or_self, ite_true, ite_false, Option.some.injEq, reduceCtorEq, Nat.reduceMod, Nat.reduceDiv, Nat.reduceLeDiff, Nat.reduceEqDiff, Nat.reduceAdd, Nat.reduceMul, Nat.reduceSub, Nat.reduceLT, sw_nil, sw_int, sw_long, sw_ref, li, lo, nI_m1, ng_eq, nn_eq, en_eq, ng_le, ng_lt, Int32.neg_neg, nI_add, pk_mul, nI_clampO, nI_ltO, nI_leO, nI_eqO, nI_subO, nle_t, nle_f, nlt_t, nlt_f, neq_f, vnb0, k39, b4]
/-- from the last line on -/
theorem m153_z {ν4 : PM} {S : SS} {c1 : Nat} (hM : MH μ pa lw s un mk tp) (hP : PG μ ν4) (h2 : rI ν4 110000011 2 = nI 0) (hZ : MZ ν4 S c1) (hc : c1 ≤ 1001) (hF : FX ν4) (hS : SI S) : ∃ ν, LE μ ν ∧ MH ν S.1 S.2.1 (s00 S.1) [] (fun _ => none) [] ∧ ∀ Q, R (d + 35) 153 79 [some (.ref 110000011), none] [] ν4 Q = Q (some (.int (nI 0))) ν := by
  obtain ⟨m1, m2, m3, ⟨sd, k1, k2, k3, k4⟩, m5, m6, m7⟩ := hM
  obtain ⟨z1, z2, z3, z4, z5, z6⟩ := hZ
  obtain ⟨ν5, a1, a2, a3⟩ := m153_1 (d := d + 35) 94 0 ν4 (by omega) hF
  have hF5 := SJ_FX a1 hF
  obtain ⟨ν6, b1, b2, b3⟩ := m153_2 (d := d + 35) hc c1 0 ν5 (by omega) hF5 ((a1.1 _ _ (by omega)).trans z6)
  have hF6 := SJ_FX b1 hF5
  have pp : ∀ k, k < 94 → rI ν6 116018820 k = rI ν4 116018820 (94 + k) := fun k hk => (b1.1 _ _ (by omega)).trans (a2 k (by omega) hk)
  obtain ⟨ν7, c1', c2, c3, c4, c5⟩ := m154 (d := d + 34) hF6 (pa := S.1) ((pp 1 (by omega)).trans (z1 1 (by omega) (by omega))) hS.1.1.2.1
  have hF7 := SJ_FX c1' hF6
  obtain ⟨ν8, e1, e2, e3⟩ := m153_3 (d := d + 35) 4 0 ν7 (by omega) hF7
  have fr : ∀ a j, ¬ ((a = 116018820 ∧ j < 94) ∨ ((a = 117220020 ∨ a = 118220020) ∧ j < c1) ∨ (a = 124025020 ∧ j < 10) ∨ (a = 110000011 ∧ j = 24) ∨ a = 125000423) → rI ν8 a j = rI ν4 a j := fun a j q => by
    rw [e1.1 a j (by omega), c1'.1 a j (by omega), b1.1 a j (by omega), a1.1 a j (by omega)]
  have rl : ∀ a j, rL ν8 a j = rL ν4 a j := fun a j => (SJ_L e1 a j).trans ((SJ_L c1' a j).trans ((SJ_L b1 a j).trans (SJ_L a1 a j)))
  have rr : ∀ a j, rR ν8 a j = rR ν4 a j := fun a j => (SJ_R e1 a j).trans ((SJ_R c1' a j).trans ((SJ_R b1 a j).trans (SJ_R a1 a j)))
  have rs : aS ν8 = aS ν4 := (SJ_S e1).trans ((SJ_S c1').trans ((SJ_S b1).trans (SJ_S a1)))
  have p8 : ∀ k, k < 94 → rI ν8 116018820 k = rI ν4 116018820 (94 + k) := fun k hk => by
    rw [e1.1 _ _ (by omega), c1'.1 _ _ (by omega)]
    exact pp k hk
  have o8 : ∀ i, i < c1 → rI ν8 117220020 i = rI ν4 117220020 (1100 + i) ∧ rI ν8 118220020 i = rI ν4 118220020 (1100 + i) := fun i hi => by
    rw [e1.1 _ _ (by omega), c1'.1 _ _ (by omega), e1.1 _ _ (by omega), c1'.1 _ _ (by omega), (b2 i (by omega) hi).1, (b2 i (by omega) hi).2, a1.1 _ _ (by omega), a1.1 _ _ (by omega)]
    exact ⟨rfl, rfl⟩
  refine ⟨ν8, ⟨fun a j q => ⟨(fr a j (by omega)).trans (hP.1 a j (by omega)), (rl a j).trans (hP.2.1 a j (by omega)), (rr a j).trans (hP.2.2.1 a j)⟩, rs.trans hP.2.2.2⟩, ⟨SJ_FX e1 hF7, fun k q1 q2 => (p8 k q1).trans (z1 k q1 q2), fun k hk => ⟨fun q => ?_, fun l q => ?_⟩, ⟨fun j => if j = 0 then s00 S.1 else sd j, ⟨fun j k q1 q2 q3 => ?_, fun j q1 => ?_⟩, rfl, fun i hi => absurd hi (Nat.not_lt_zero i), fun m hm => ⟨fun _ => e2 m (by omega) hm, fun t q => (by cases q)⟩⟩, ?_, ⟨(fr _ _ (by omega)).trans h2, fun i hi => absurd hi (Nat.not_lt_zero i)⟩, ⟨fun k hk => (rl _ _).trans ((hP.2.1 _ _ (by omega)).trans (m7.1 k hk)), fun k hk => (fr _ _ (by omega)).trans ((hP.1 _ _ (by omega)).trans (m7.2 k hk))⟩⟩, fun Q => ?_⟩
  · rw [p8 _ (by omega), show 94 + (5 + k) = 99 + k by omega]
    exact (z2 k hk).1 q
  · obtain ⟨st, s1, s2, s3, s4⟩ := (z2 k hk).2 l q
    obtain ⟨g1, g2, -⟩ := (hS.2.2.2.2.2.2.2 k hk).2 l q
    refine ⟨g1, g2, st, ?_, fun i hi => ?_, ?_, by omega⟩
    · rw [p8 _ (by omega), show 94 + (5 + k) = 99 + k by omega]
      exact s1
    · rw [(o8 (st + i) (by omega)).1, (o8 (st + i) (by omega)).2, show 1100 + (st + i) = 1100 + st + i by omega]
      exact s3 i hi
    · rw [(o8 (st + l.length) (by omega)).1, show 1100 + (st + l.length) = 1100 + st + l.length by omega]
      exact s4
  · show rI ν8 124025020 (10 * j + k) = nI ((if j = 0 then s00 S.1 else sd j) k)
    by_cases ej : j = 0
    · subst ej
      rw [if_pos rfl, e1.1 _ _ (by omega), show 10 * 0 + k = k by omega]
      exact c2 k q2 q3
    · rw [if_neg ej, fr _ _ (by omega), hP.1 _ _ (by omega)]
      exact k1.1 j k q1 q2 q3
  · show rI ν8 124025020 (10 * j + 8) = fI ((if j = 0 then s00 S.1 else sd j) 8)
    by_cases ej : j = 0
    · subst ej
      rw [if_pos rfl, e1.1 _ _ (by omega)]
      exact c3
    · rw [if_neg ej, fr _ _ (by omega), hP.1 _ _ (by omega)]
      exact k1.2 j q1
  · rw [e1.1 _ _ (by omega)]
    exact c4
  · have s1 : R (d + 35) 153 79 [some (.ref 110000011), none] [] ν4 Q = R (d + 35) 153 81 [some (.ref 110000011), some (.int (nI 0))] [] ν4 Q := by
      simp (disch := first | assumption | omega) only [r153_79, r153_80, rI_wI, rL_wL, rR_wR, rI_wL, rI_wR, rL_wI, rL_wR, rR_wI, rR_wL, va_rf_some, va_rf_none, Option.toList_some, Option.toList_none, List.nil_append, List.cons_append, true_and, and_true, false_and, and_false, and_self, if_true, if_false, not_true_eq_false, not_false_eq_true, or_false, false_or, or_true, true_or, or_self, ite_true, ite_false, Option.some.injEq, reduceCtorEq, Nat.reduceMod, Nat.reduceDiv, Nat.reduceLeDiff, Nat.reduceEqDiff, Nat.reduceAdd, Nat.reduceMul, Nat.reduceSub, Nat.reduceLT, sw_nil, sw_int, sw_long, sw_ref, li, lo, nI_m1, ng_eq, nn_eq, en_eq, ng_le, ng_lt, Int32.neg_neg, nI_add, pk_mul, nI_clampO, nI_ltO, nI_leO, nI_eqO, nI_subO, nle_t, nle_f, nlt_t, nlt_f, neq_f]
    have s2 : R (d + 35) 153 108 [some (.ref 110000011), some (.int (nI 94))] [] ν5 Q = R (d + 35) 153 110 [some (.ref 110000011), some (.int (nI 0))] [] ν5 Q := by
      simp (disch := first | assumption | omega) only [r153_108, r153_109, rI_wI, rL_wL, rR_wR, rI_wL, rI_wR, rL_wI, rL_wR, rR_wI, rR_wL, va_rf_some, va_rf_none, Option.toList_some, Option.toList_none, List.nil_append, List.cons_append, true_and, and_true, false_and, and_false, and_self, if_true, if_false, not_true_eq_false, not_false_eq_true, or_false, false_or, or_true, true_or, or_self, ite_true, ite_false, Option.some.injEq, reduceCtorEq, Nat.reduceMod, Nat.reduceDiv, Nat.reduceLeDiff, Nat.reduceEqDiff, Nat.reduceAdd, Nat.reduceMul, Nat.reduceSub, Nat.reduceLT, sw_nil, sw_int, sw_long, sw_ref, li, lo, nI_m1, ng_eq, nn_eq, en_eq, ng_le, ng_lt, Int32.neg_neg, nI_add, pk_mul, nI_clampO, nI_ltO, nI_leO, nI_eqO, nI_subO, nle_t, nle_f, nlt_t, nlt_f, neq_f]
    have s3 : R (d + 35) 153 156 [some (.ref 110000011), some (.int (nI c1))] [] ν6 Q = R (d + 35) 153 162 [some (.ref 110000011), some (.int (nI 0))] [] ν7 Q := by
      simp (disch := first | assumption | omega) only [r153_156, r153_157, r153_160, r153_161, rI_wI, rL_wL, rR_wR, rI_wL, rI_wR, rL_wI, rL_wR, rR_wI, rR_wL, va_rf_some, va_rf_none, Option.toList_some, Option.toList_none, List.nil_append, List.cons_append, true_and, and_true, false_and, and_false, and_self, if_true, if_false, not_true_eq_false, not_false_eq_true, or_false, false_or, or_true, true_or, or_self, ite_true, ite_false, Option.some.injEq, reduceCtorEq, Nat.reduceMod, Nat.reduceDiv, Nat.reduceLeDiff, Nat.reduceEqDiff, Nat.reduceAdd, Nat.reduceMul, Nat.reduceSub, Nat.reduceLT, sw_nil, sw_int, sw_long, sw_ref, li, lo, nI_m1, ng_eq, nn_eq, en_eq, ng_le, ng_lt, Int32.neg_neg, nI_add, pk_mul, nI_clampO, nI_ltO, nI_leO, nI_eqO, nI_subO, nle_t, nle_f, nlt_t, nlt_f, neq_f, c5]
    rw [s1, a3 Q, s2, b3 Q, s3, e3 Q]
theorem c153 (hM : MH μ pa lw s un mk tp) (hK : OKA pa s un mk tp) (hI : isT tp 0 T) (hl : T.length ≤ 1001) : ∃ ν x, LE μ ν ∧ (∀ f, lnZ 1001 SZ T = .error f → x = nI f ∧ MH ν pa lw s un mk []) ∧ (∀ S', lnZ 1001 SZ T = .ok S' → SI S' → x = nI 0 ∧ MH ν S'.1 S'.2.1 (s00 S'.1) [] (fun _ => none) []) ∧ ∀ S', lnZ 1001 SZ T = .error S' ∨ (∃ S', lnZ 1001 SZ T = .ok S' ∧ SI S') → ∀ Q, R (d + 35) 153 0 [some (.ref 110000011), none] [] μ Q = Q (some (.int x)) ν := by
  obtain ⟨ν3, a1, a2, a3, a4, a5⟩ := m153_0 (d := d) hM hK.2.2.2.2.2.1 hK.2.2.2.2.2.2 hI hl
  obtain ⟨ν4, b1, b2, b3⟩ := m153_l (d := d) 1001 T SZ 0 ν3 hl a3 a4 SI_Z (by omega)
  have hP : PG μ ν4 := ⟨fun a j q => (b1.1 a j (by omega)).trans (a1.1 a j q), fun a j q => (b1.2.1 a j (by omega)).trans (a1.2.1 a j q), fun a j => (b1.2.2.1 a j).trans (a1.2.2.1 a j), b1.2.2.2.trans a1.2.2.2⟩
  have h2 : rI ν4 110000011 2 = nI 0 := (b1.1 _ _ (by omega)).trans a2
  cases hL : lnZ 1001 SZ T with
  | error f =>
    obtain ⟨f1, f2, f3⟩ := b2 f hL
    exact ⟨ν4, nI f, PG_LE hP, fun f' q => by cases q; exact ⟨rfl, PG_MH hP h2 hM⟩, fun S' q => (by cases q), fun _ _ Q => (a5 Q).trans (f3 Q)⟩
  | ok S =>
    obtain ⟨c1, g1, g2, g3, g4, g5⟩ := b3 S hL
    by_cases hS : SI S
    · obtain ⟨ν, v1, v2, v3⟩ := m153_z (d := d) hM hP h2 g2 g1 g3 hS
      exact ⟨ν, nI 0, v1, fun f q => (by cases q), fun S' q _ => by cases q; exact ⟨rfl, v2⟩, fun _ _ Q => (a5 Q).trans ((g5 Q).trans (v3 Q))⟩
    · exact ⟨ν4, nI 0, PG_LE hP, fun f q => (by cases q), fun S' q z => by cases q; exact absurd z hS, fun _ q => by
        rcases q with q | ⟨S', q, z⟩
        · cases q
        · cases q; exact absurd z hS⟩
end T1
