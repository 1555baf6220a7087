/-! FEED; WHAT STAYS GOOD; BOTH SIDES TOGETHER -/
section T1
variable {d : Nat} {μ : PM} {Q : Option Value → PM → Prop} {pa : Nat → Nat} {lw : LW} {s s' : Nat → Nat} {un : List (Nat → Nat)} {mk : Nat → Option (Nat → Nat)} {tp : List Nat}
theorem OKA_new (h : OKA pa s un mk tp) (hO : SO pa s') : OKA pa s' ((s :: un).take 20) mk tp := by
  obtain ⟨h1, h2, h3, h4, h5, h6, h7⟩ := h
  refine ⟨h1, hO, fun t ht => ?_, ?_, h5, h6, h7⟩
  · have := List.mem_of_mem_take ht
    rcases List.mem_cons.mp this with e | e
    · rw [e]; exact h2
    · exact h3 t e
  · rw [tk_len]; split <;> omega
theorem OKA_undo {t : Nat → Nat} (h : OKA pa s (t :: un) mk tp) : OKA pa t un mk tp := by
  obtain ⟨h1, h2, h3, h4, h5, h6, h7⟩ := h
  rw [List.length_cons] at h4
  exact ⟨h1, h3 t (List.mem_cons_self ..), fun q hq => h3 q (List.mem_cons_of_mem _ hq), by omega, h5, h6, h7⟩
theorem OKA_mark (h : OKA pa s un mk tp) (m : Nat) : OKA pa s un (mkS mk m s) tp := by
  obtain ⟨h1, h2, h3, h4, h5, h6, h7⟩ := h
  refine ⟨h1, h2, h3, h4, fun j t hj ht => ?_, h6, h7⟩
  unfold mkS at ht
  by_cases e : j = m
  · rw [if_pos e] at ht
    have : s = t := by simpa using ht
    rw [← this]; exact h2
  · rw [if_neg e] at ht; exact h5 j t hj ht
theorem OKA_back {t : Nat → Nat} {m : Nat} (h : OKA pa s un mk tp) (hm : m < 4) (ht : mk m = some t) : OKA pa t [] mk tp := by
  obtain ⟨h1, h2, h3, h4, h5, h6, h7⟩ := h
  exact ⟨h1, h5 m t hm ht, fun q hq => absurd hq (by simp), by simp, h5, h6, h7⟩
theorem OKA_tp {t : List Nat} (h : OKA pa s un mk tp) (ht : t.length ≤ 1000 ∧ ∀ q, q ∈ t → q < 127) : OKA pa s un mk t := by
  obtain ⟨h1, h2, h3, h4, h5, h6, h7⟩ := h
  exact ⟨h1, h2, h3, h4, h5, ht.1, ht.2⟩
def fdA (a b c : Int64) (t : List Nat) : List Nat := adB c (adB b (adB a t))
theorem fdA_ok {a b c : Int64} {t : List Nat} (h : t.length ≤ 1000 ∧ ∀ q, q ∈ t → q < 127) : (fdA a b c t).length ≤ 1000 ∧ ∀ q, q ∈ fdA a b c t → q < 127 := adR_ok 7 (adR_ok 7 (adR_ok 7 h))
theorem EX_CHt {ν : PM} {t : List Nat} (h : EX [4100022, 3000009] μ ν) (hC : CH μ pa lw s un mk tp) (hT : CTp ν t) : CH ν pa lw s un mk t := by
  obtain ⟨h1, h2, h3, h4, h5, h6, h7, h8⟩ := hC
  have hm : ∀ a, a ∈ [4100022, 3000009] → a = 4100022 ∨ a = 3000009 := by intro a ha; simpa using ha
  refine ⟨EX_FX h h1, EX_CPt h (fun a q => ?_) h2, EX_CSg h (fun q => ?_) (fun q => ?_) h3, EX_CPs h (fun a q => ?_) h4, EX_CMk h (EX_I h (fun q => ?_)) (fun a q => ?_) h5, EX_CLn h (fun q => ?_) (fun q => ?_) h6, hT, ?_⟩
  all_goals try (have := hm _ q; omega)
  have e : ∀ j, rI ν 85000004 j = rI μ 85000004 j := fun j => EX_I h (fun q => by have := hm _ q; omega)
  unfold CO OCk at h8 ⊢
  simpa only [e, EX_L h] using h8
theorem c90 (hC : CH μ pa lw s un mk tp) (hK : OKA pa s un mk tp) (a b c : Int64) : ∃ ν, HE μ ν ∧ CH ν pa lw s un mk (fdA a b c tp) ∧ ∀ Q, R (d + 2) 90 0 [some (.ref 2000010), some (.long a), none, some (.long b), none, some (.long c), none] [] μ Q = Q (some (.int (nI (fdA a b c tp).length))) ν := by
  have hl : tp.length ≤ 1000 ∧ ∀ q, q ∈ tp → q < 127 := ⟨hK.2.2.2.2.2.1, hK.2.2.2.2.2.2⟩
  obtain ⟨ν1, x1, x2, x3⟩ := c87 (d := d) (v := a) (v2 := none) hC.1 hC.2.2.2.2.2.2.1 hl
  have hC1 := EX_CHt x1 hC x2
  obtain ⟨ν2, z1, z2, z3⟩ := c87 (d := d) (v := b) (v2 := none) hC1.1 x2 (adR_ok 7 hl)
  have hC2 := EX_CHt z1 hC1 z2
  obtain ⟨ν3, w1, w2, w3⟩ := c87 (d := d) (v := c) (v2 := none) hC2.1 z2 (adR_ok 7 (adR_ok 7 hl))
  have hC3 := EX_CHt w1 hC2 w2
  have hX := EX_tr (EX_tr x1 z1) w1
  refine ⟨ν3, HE_EX hX (by intro a ha; simp only [List.mem_append, List.mem_cons, List.not_mem_nil, or_false] at ha; omega), hC3, fun Q => ?_⟩
  have f0 := hC.1
  have f1 := hC1.1
  have f2 := hC2.1
  have f3 := hC3.1
  simp (disch := first | assumption | omega) only [r90_0, r90_1, r90_4, r90_5, r90_8, r90_9, r90_12, r90_13, r90_16, r90_17, r90_20, r90_22, r90_25, r90_26, r90_29, r90_32, rI_wI, rL_wL, rR_wR, rI_wL, rI_wR, rL_wI, rL_wR, rR_wI, rR_wL, va_rf_some, va_rf_none, Option.toList_some, Option.toList_none, List.nil_append, List.cons_append, true_and, and_true, false_and, and_false, and_self, if_true, if_false, not_true_eq_false, not_false_eq_true, or_false, false_or, or_true, true_or, or_self, ite_true, ite_false, Option.some.injEq, reduceCtorEq, Nat.reduceMod, Nat.reduceDiv, Nat.reduceLeDiff, Nat.reduceEqDiff, Nat.reduceAdd, Nat.reduceMul, Nat.reduceSub, Nat.reduceLT, sw_nil, sw_int, sw_long, sw_ref, li, lo, nI_m1, ng_eq, nn_eq, en_eq, ng_le, ng_lt, Int32.neg_neg, nI_add, pk_mul, nI_clampO, nI_ltO, nI_leO, nI_eqO, nI_subO, nle_t, nle_f, nlt_t, nlt_f, neq_f, fx_2000010_0, fx_2000010_1, fx_2000010_4, fx_2000010_5, fx_2000010_6, fx_2000010_8, fx_2000010_10, fx_2000010_11, fx_2000010_12, fx_2000010_13, fx_2000010_14, fx_2000010_15, fx_2000010_16, fx_2000010_17, fx_2000010_18, fx_3000009_0, fx_5000007_0, fx_5000007_1, fx_5000007_2, fx_5000007_3, fx_7000001_0, fx_11000005_1, fx_11000005_2, fx_11000005_3, fx_11000005_4, fx_11000005_5, fx_11000005_6, fx_11000005_10, fx_11000005_11, fx_11000005_12, fx_20000002_0, fx_20000002_2, fx_20000002_3, fx_20000002_4, fx_25000005_1, fx_25000005_2, fx_25000005_3, fx_25000005_4, fx_25000005_5, fx_25000005_6, fx_25000005_10, fx_25000005_11, fx_25000005_12, fx_34000002_0, fx_34000002_2, fx_34000002_3, fx_34000002_4, fx_39000008_0, fx_41000006_0, fx_42002024_0, fx_42002024_1, fx_42002024_2, fx_42002024_3, fx_42002024_4, fx_42002024_5, fx_42002024_6, fx_42002024_7, fx_42002024_8, fx_42002024_9, fx_42002024_10, fx_42002024_11, fx_42002024_12, fx_42002024_13, fx_42002024_14, fx_42002024_15, fx_42002024_16, fx_42002024_17, fx_42002024_18, fx_42002024_19, fx_43000008_0, fx_45000008_0, fx_47000008_0, fx_49000008_0, fx_51000008_0, fx_53000008_0, fx_55000008_0, fx_57000008_0, fx_59000008_0, fx_61000008_0, fx_63000008_0, fx_65000008_0, fx_67000008_0, fx_69000008_0, fx_71000008_0, fx_73000008_0, fx_75000008_0, fx_77000008_0, fx_79000008_0, fx_81000008_0, fx_83000424_0, fx_83000424_1, fx_83000424_2, fx_83000424_3, fx_85000004_0, fx_85000004_1, fx_85000004_2, fx_85000004_3, fx_85000004_4, fx_85000004_5, fx_85000004_6, fx_85000004_10, fx_102000008_0, fx_104000008_0, fx_106000008_0, fx_108000008_0, fx_110000011_1, fx_110000011_4, fx_110000011_5, fx_110000011_6, fx_110000011_9, fx_110000011_10, fx_110000011_11, fx_110000011_12, fx_110000011_14, fx_110000011_15, fx_110000011_20, fx_110000011_21, fx_110000011_22, fx_110000011_23, fx_110000011_25, fx_110000011_26, fx_110000011_31, fx_110000011_32, fx_110000011_37, fx_110000011_38, fx_110000011_39, fx_110000011_40, x3, z3, w3, w2.1, fdA]
theorem MH_MU (h : MH μ pa lw s un mk tp) : MU μ pa lw s un mk := ⟨h.1, h.2.1, h.2.2.1, h.2.2.2.1, h.2.2.2.2.1, h.2.2.2.2.2.2⟩
theorem c132 (hM : MH μ pa lw s un mk tp) (hK : OKA pa s un mk tp) (a b c : Int64) : ∃ ν, LE μ ν ∧ MH ν pa lw s un mk (fdA a b c tp) ∧ ∀ Q, R (d + 2) 132 0 [some (.ref 110000011), some (.long a), none, some (.long b), none, some (.long c), none] [] μ Q = Q (some (.int (nI (fdA a b c tp).length))) ν := by
  have hl : tp.length ≤ 1000 ∧ ∀ q, q ∈ tp → q < 127 := ⟨hK.2.2.2.2.2.1, hK.2.2.2.2.2.2⟩
  have hM1 := MSc_MH (th_MSc μ) hM
  obtain ⟨ν1, x0, x1, x2, x3⟩ := c133 (d := d + 1) (v := a) (v2 := none) (MH_MU hM1) hM1.2.2.2.2.2.1 hl
  obtain ⟨ν2, z0, z1, z2, z3⟩ := c133 (d := d + 1) (v := b) (v2 := none) x1 x2 (adR_ok 7 hl)
  obtain ⟨ν3, w0, w1, w2, w3⟩ := c133 (d := d + 1) (v := c) (v2 := none) z1 z2 (adR_ok 7 (adR_ok 7 hl))
  refine ⟨ν3, LE_tr (MSc_LE (th_MSc μ)) (LE_tr x0 (LE_tr z0 w0)), ⟨w1.1, w1.2.1, w1.2.2.1, w1.2.2.2.1, w1.2.2.2.2.1, w2, w1.2.2.2.2.2⟩, fun Q => ?_⟩
  simp (disch := first | assumption | omega) only [r132_0, r132_1, r132_2, r132_5, r132_6, r132_7, r132_10, r132_11, r132_12, r132_15, r132_16, r132_18, r132_21, r132_22, r132_25, rI_wI, rL_wL, rR_wR, rI_wL, rI_wR, rL_wI, rL_wR, rR_wI, rR_wL, va_rf_some, va_rf_none, Option.toList_some, Option.toList_none, List.nil_append, List.cons_append, true_and, and_true, false_and, and_false, and_self, if_true, if_false, not_true_eq_false, not_false_eq_true, or_false, false_or, or_true, true_or, or_self, ite_true, ite_false, Option.some.injEq, reduceCtorEq, Nat.reduceMod, Nat.reduceDiv, Nat.reduceLeDiff, Nat.reduceEqDiff, Nat.reduceAdd, Nat.reduceMul, Nat.reduceSub, Nat.reduceLT, sw_nil, sw_int, sw_long, sw_ref, li, lo, nI_m1, ng_eq, nn_eq, en_eq, ng_le, ng_lt, Int32.neg_neg, nI_add, pk_mul, nI_clampO, nI_ltO, nI_leO, nI_eqO, nI_subO, nle_t, nle_f, nlt_t, nlt_f, neq_f, x3, z3, w3, w2.1, fdA]
/-- the other side's cells stay: the reference's view over a step of the class, and back -/
theorem HE_MH {ν : PM} (h : HE μ ν) (hF : FX ν) (hM : MH μ pa lw s un mk tp) : MH ν pa lw s un mk tp := by
  obtain ⟨h1, h2, h3, ⟨sd, k1, k2, k3, k4⟩, h5, h6, h7⟩ := hM
  have e : ∀ a j, 110000000 ≤ a → rI ν a j = rI μ a j := fun a j q => (h.1 a j (Or.inl q)).1
  have eL : ∀ a j, 110000000 ≤ a → rL ν a j = rL μ a j := fun a j q => (h.1 a j (Or.inl q)).2.1
  refine ⟨hF, fun k q1 q2 => (e _ _ (by omega)).trans (h2 k q1 q2), ?_, ⟨sd, ?_, k2, k3, fun m hm => ?_⟩, (e _ _ (by omega)).trans h5, ⟨(e _ _ (by omega)).trans h6.1, fun i hi => (e _ _ (by omega)).trans (h6.2 i hi)⟩, ⟨fun k hk => (eL _ _ (by omega)).trans (h7.1 k hk), fun i hi => (e _ _ (by omega)).trans (h7.2 i hi)⟩⟩
  · unfold ML cdM at h3 ⊢
    simpa (disch := omega) only [e] using h3
  · unfold MS at k1 ⊢
    simpa (disch := omega) only [e] using k1
  · rw [e _ _ (by omega)]; exact k4 m hm
theorem LE_CH {ν : PM} (h : LE μ ν) (hF : FX ν) (hC : CH μ pa lw s un mk tp) : CH ν pa lw s un mk tp := by
  obtain ⟨h1, h2, h3, h4, h5, h6, h7, h8⟩ := hC
  have e : ∀ a j, a < 110000000 → rI ν a j = rI μ a j := fun a j q => (h.1 a j q).1
  have eL : ∀ a j, a < 110000000 → rL ν a j = rL μ a j := fun a j q => (h.1 a j q).2.1
  have eR : ∀ a j, a < 110000000 → rR ν a j = rR μ a j := fun a j q => (h.1 a j q).2.2
  have eS : ∀ (a o n : Nat) (s : Nat → Nat), a < 110000000 → o < 110000000 → CSg μ a o n s → CSg ν a o n s := fun a o n s q1 q2 q => by
    unfold CSg at q ⊢
    simpa (disch := omega) only [e] using q
  refine ⟨hF, ?_, eS _ _ _ _ (by omega) (by omega) h3, ?_, ?_, ?_, ?_, ?_⟩
  · unfold CPt CPa CPb CLa CLb cdCa cdCb at h2 ⊢
    simpa (disch := omega) only [e, eR] using h2
  · obtain ⟨q1, nx, q2, q3, q4⟩ := h4
    refine ⟨(e _ _ (by omega)).trans q1, nx, q2, (e _ _ (by omega)).trans q3, fun i hi => eS _ _ _ _ ?_ ?_ (q4 i hi)⟩
    · unfold pstA; omega
    · unfold pstO; omega
  · obtain ⟨b, q1, q2, q3⟩ := h5
    refine ⟨b, q1, (e _ _ (by omega)).trans q2, fun m hm => ⟨(q3 m hm).1, fun t ht => ⟨((q3 m hm).2 t ht).1, eS _ _ _ _ ?_ ?_ ((q3 m hm).2 t ht).2⟩⟩⟩
    · unfold mrkA; omega
    · unfold mrkO; omega
  · unfold CLn at h6 ⊢
    simpa (disch := omega) only [e] using h6
  · unfold CTp at h7 ⊢
    simpa (disch := omega) only [e] using h7
  · unfold CO OCk at h8 ⊢
    simpa (disch := omega) only [e, eL] using h8
end T1
