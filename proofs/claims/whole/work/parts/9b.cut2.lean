/-! THE REFERENCE CUTS THE TAPE: ALL TOKENS -/
def CFr (μ ν : PM) : Prop := (∀ a j, ¬ (a = 112100220 ∨ a = 113100220 ∨ (a = 110000011 ∧ (j = 2 ∨ j = 3 ∨ j = 7 ∨ j = 8))) → rI ν a j = rI μ a j) ∧ (∀ a j, a ≠ 114100221 → rL ν a j = rL μ a j) ∧ (∀ a j, rR ν a j = rR μ a j) ∧ aS ν = aS μ
theorem CFr_rf (μ : PM) : CFr μ μ := ⟨fun _ _ _ => rfl, fun _ _ _ => rfl, fun _ _ => rfl, rfl⟩
theorem CFr_tr {μ ν ρ : PM} (h : CFr μ ν) (k : CFr ν ρ) : CFr μ ρ := ⟨fun a j q => (k.1 a j q).trans (h.1 a j q), fun a j q => (k.2.1 a j q).trans (h.2.1 a j q), fun a j => (k.2.2.1 a j).trans (h.2.2.1 a j), k.2.2.2.trans h.2.2.2⟩
theorem CFr_wI (μ : PM) {a j : Nat} (x : Int32) (h : a = 112100220 ∨ a = 113100220 ∨ (a = 110000011 ∧ (j = 2 ∨ j = 3 ∨ j = 7 ∨ j = 8))) : CFr μ (wI μ a j x) := ⟨fun b k q => by rw [rI_wI, if_neg (fun e => q (by rw [← e.1, ← e.2]; exact h))], fun _ _ _ => rfl, fun _ _ => rfl, rfl⟩
theorem CFr_wL (μ : PM) (j : Nat) (x : Int64) : CFr μ (wL μ 114100221 j x) := ⟨fun _ _ _ => rfl, fun b k q => by rw [rL_wL, if_neg (fun e => q e.1.symm)], fun _ _ => rfl, rfl⟩
/-- a token laid -/
def ly (μ : PM) (n pl so : Nat) (v : Int64) : PM := wL (wI (wI μ 113100220 n (nI pl)) 112100220 n (nI so)) 114100221 n v
theorem ly_CF (μ : PM) (n pl so : Nat) (v : Int64) : CFr μ (ly μ n pl so v) := CFr_tr (CFr_tr (CFr_wI μ _ (by omega)) (CFr_wI _ _ (by omega))) (CFr_wL _ _ _)
theorem ly_v (μ : PM) (n pl so : Nat) (v : Int64) : rI (ly μ n pl so v) 112100220 n = nI so ∧ rI (ly μ n pl so v) 113100220 n = nI pl ∧ rL (ly μ n pl so v) 114100221 n = v := by
  unfold ly
  refine ⟨?_, ?_, ?_⟩
  · show rI (wI (wI μ 113100220 n (nI pl)) 112100220 n (nI so)) 112100220 n = _
    rw [rI_wI, if_pos ⟨rfl, rfl⟩]
  · show rI (wI (wI μ 113100220 n (nI pl)) 112100220 n (nI so)) 113100220 n = _
    rw [rI_wI, if_neg (by omega), rI_wI, if_pos ⟨rfl, rfl⟩]
  · rw [rL_wL, if_pos ⟨rfl, rfl⟩]
theorem ly_o (μ : PM) (n pl so : Nat) (v : Int64) {j : Nat} (h : j ≠ n) : rI (ly μ n pl so v) 112100220 j = rI μ 112100220 j ∧ rI (ly μ n pl so v) 113100220 j = rI μ 113100220 j ∧ rL (ly μ n pl so v) 114100221 j = rL μ 114100221 j := by
  unfold ly
  refine ⟨?_, ?_, ?_⟩
  · show rI (wI (wI μ 113100220 n (nI pl)) 112100220 n (nI so)) 112100220 j = _
    rw [rI_wI, if_neg (by omega), rI_wI, if_neg (by omega)]
  · show rI (wI (wI μ 113100220 n (nI pl)) 112100220 n (nI so)) 113100220 j = _
    rw [rI_wI, if_neg (by omega), rI_wI, if_neg (by omega)]
  · rw [rL_wL, if_neg (by omega)]
    rfl
def SM (μ ν : PM) (n : Nat) : Prop := ∀ j, j < n → rI ν 112100220 j = rI μ 112100220 j ∧ rI ν 113100220 j = rI μ 113100220 j ∧ rL ν 114100221 j = rL μ 114100221 j
theorem rq1_c {μ ν : PM} {t : Tok} {n : Nat} (h1 : rI ν 112100220 n = rI μ 112100220 n) (h2 : rI ν 113100220 n = rI μ 113100220 n) (h3 : rL ν 114100221 n = rL μ 114100221 n) (h : rq1 μ t n) : rq1 ν t n := ⟨h1.trans h.1, h2.trans h.2.1, fun q => h3.trans (h.2.2.1 q), fun q => h3.trans (h.2.2.2.1 q), fun q => h3.trans (h.2.2.2.2 q)⟩
theorem TA_CF {μ ν : PM} {tp : List Nat} (h : TA μ tp) (h3 : rI ν 110000011 3 = rI μ 110000011 3) (k : CFr μ ν) : TA ν tp := ⟨h3.trans h.1, fun i hi => (k.1 _ _ (by omega)).trans (h.2 i hi)⟩
section T1
variable {d : Nat} {μ : PM} {tp : List Nat}
/-- one token -/
theorem c139_t (hn : tp.length ≤ 1000) (hc : ∀ c, c ∈ tp → c < 127) (hF : FX μ) (hT : TA μ tp) {k n : Nat} (hk : k < tp.length) (hn2 : n < 1002) (v4 v5 v6 : Option Value) : ∃ ν, ∃ w3 w4 w5 w6 : Option Value, CFr μ ν ∧ (∀ j, rI ν 110000011 j = rI μ 110000011 j) ∧ SM μ ν n ∧ rq1 ν (tokA tp k) n ∧ ∀ Q, R (d + 2) 139 50 [some (.ref 110000011), some (.int (nI n)), some (.int (nI k)), some (.int (nI (tp.getD k 0))), v4, v5, v6] [] μ Q = R (d + 2) 139 17 [some (.ref 110000011), some (.int (nI (n + 1))), some (.int (nI (tokA tp k).2.2.2)), w3, w4, w5, w6] [] ν Q := by
  have hb := hc _ (gD_mem hk)
  have hF1 : FX (wI μ 113100220 n (nI k)) := hF
  have hCF1 : CFr μ (wI μ 113100220 n (nI k)) := CFr_wI μ _ (by omega)
  have hT1 : TA (wI μ 113100220 n (nI k)) tp := TA_CF hT (by rw [rI_wI, if_neg (by omega)]) hCF1
  have cl := fun Q => c135 (d := d + 1) (μ := wI μ 113100220 n (nI k)) (Q := Q) hb
  have cd := fun Q => c136 (d := d + 1) (μ := wI μ 113100220 n (nI k)) (Q := Q) hb
  have cs := fun Q => c138 (d := d + 1) (μ := wI μ 113100220 n (nI k)) (Q := Q) hb
  have sm : ∀ so v, SM μ (ly μ n k so v) n := fun so v j hj => ly_o μ n k so v (by omega)
  have h33 : ∀ so v j, rI (ly μ n k so v) 110000011 j = rI μ 110000011 j := fun so v j => by
    unfold ly
    show rI (wI (wI μ 113100220 n (nI k)) 112100220 n (nI so)) 110000011 j = _
    rw [rI_wI, if_neg (by omega), rI_wI, if_neg (by omega)]
  unfold tokA
  rw [if_neg (show ¬ tp.length ≤ k by omega)]
  by_cases y : isL (tp.getD k 0) = true
  · rw [if_pos y] at cl
    rw [if_pos y]
    have lp := c139_l (d := d) hn hc hF1 hT1 (k0 := k) (v1 := some (.int (nI n))) (v3 := some (.int (nI (tp.getD k 0)))) (tp.length - k) 0 (by omega)
    simp only [Nat.add_zero] at lp
    rw [show h37 (slc tp 96 k (min 0 8)) = 0 from rfl] at lp
    obtain ⟨e1, e2⟩ := en_le isL tp (show k ≤ tp.length by omega)
    have hkl := kwS_le (b256 (slc tp 96 k (en isL tp k - k))) 28 0 (by omega)
    by_cases q : en isL tp k - k ≤ 8
    · rw [if_pos q]
      rw [show min (en isL tp k - k) 8 = en isL tp k - k by omega] at lp
      obtain ⟨v1, v2, v3⟩ := ly_v μ n k 1 (lN (h37 (slc tp 96 k (en isL tp k - k))))
      refine ⟨ly μ n k 1 (lN (h37 (slc tp 96 k (en isL tp k - k)))), some (.int (nI (tp.getD k 0))), some (.int (nI k)), some (.long (lN (h37 (slc tp 96 k (en isL tp k - k))))), none, ly_CF _ _ _ _ _, h33 _ _, sm _ _, ⟨by rw [v1]; unfold srt; rw [if_pos hkl], v2, fun _ => v3, fun z => by simp only at z; omega, fun z => by simp only at z; omega⟩, fun Q => ?_⟩
      have ej : (if nI (en isL tp k - k) ≤ nI 8 then nI 1 else nI 4) = nI 1 := if_pos ((nI_leI (by omega) (by omega)).mpr q)
      simp (disch := first | assumption | omega) only [r139_50, r139_51, r139_53, r139_54, r139_56, r139_57, r139_60, r139_61, r139_62, r139_63, r139_64, r139_67, r139_129, r139_130, r139_133, r139_134, r139_135, r139_137, r139_138, j139_140, r139_148, r139_149, r139_265, r139_266, r139_269, r139_270, r139_272, r139_273, r139_276, rI_wI, rL_wL, rR_wR, rI_wL, rI_wR, rL_wI, rL_wR, rR_wI, rR_wL, va_rf_some, va_rf_none, Option.toList_some, Option.toList_none, List.nil_append, List.cons_append, true_and, and_true, false_and, and_false, and_self, if_true, if_false, not_true_eq_false, not_false_eq_true, or_false, false_or, or_true, true_or, or_self, ite_true, ite_false, Option.some.injEq, reduceCtorEq, Nat.reduceMod, Nat.reduceDiv, Nat.reduceLeDiff, Nat.reduceEqDiff, Nat.reduceAdd, Nat.reduceMul, Nat.reduceSub, Nat.reduceLT, sw_nil, sw_int, sw_long, sw_ref, li, lo, ll, nI_subO, nI_add, nI_clampO, nI_ltO, nI_leO, nle_t, nle_f, nlt_t, nlt_f, fx_2000010_0, fx_2000010_1, fx_2000010_4, fx_2000010_5, fx_2000010_6, fx_2000010_8, fx_2000010_10, fx_2000010_11, fx_2000010_12, fx_2000010_13, fx_2000010_14, fx_2000010_15, fx_2000010_16, fx_2000010_17, fx_2000010_18, fx_3000009_0, fx_5000007_0, fx_5000007_1, fx_5000007_2, fx_5000007_3, fx_7000001_0, fx_11000005_1, fx_11000005_2, fx_11000005_3, fx_11000005_4, fx_11000005_5, fx_11000005_6, fx_11000005_10, fx_11000005_11, fx_11000005_12, fx_20000002_0, fx_20000002_2, fx_20000002_3, fx_20000002_4, fx_25000005_1, fx_25000005_2, fx_25000005_3, fx_25000005_4, fx_25000005_5, fx_25000005_6, fx_25000005_10, fx_25000005_11, fx_25000005_12, fx_34000002_0, fx_34000002_2, fx_34000002_3, fx_34000002_4, fx_39000008_0, fx_41000006_0, fx_42002024_0, fx_42002024_1, fx_42002024_2, fx_42002024_3, fx_42002024_4, fx_42002024_5, fx_42002024_6, fx_42002024_7, fx_42002024_8, fx_42002024_9, fx_42002024_10, fx_42002024_11, fx_42002024_12, fx_42002024_13, fx_42002024_14, fx_42002024_15, fx_42002024_16, fx_42002024_17, fx_42002024_18, fx_42002024_19, fx_43000008_0, fx_45000008_0, fx_47000008_0, fx_49000008_0, fx_51000008_0, fx_53000008_0, fx_55000008_0, fx_57000008_0, fx_59000008_0, fx_61000008_0, fx_63000008_0, fx_65000008_0, fx_67000008_0, fx_69000008_0, fx_71000008_0, fx_73000008_0, fx_75000008_0, fx_77000008_0, fx_79000008_0, fx_81000008_0, fx_83000424_0, fx_83000424_1, fx_83000424_2, fx_83000424_3, fx_85000004_0, fx_85000004_1, fx_85000004_2, fx_85000004_3, fx_85000004_4, fx_85000004_5, fx_85000004_6, fx_85000004_10, fx_102000008_0, fx_104000008_0, fx_106000008_0, fx_108000008_0, fx_110000011_1, fx_110000011_4, fx_110000011_5, fx_110000011_6, fx_110000011_9, fx_110000011_10, fx_110000011_11, fx_110000011_12, fx_110000011_14, fx_110000011_15, fx_110000011_20, fx_110000011_21, fx_110000011_22, fx_110000011_23, fx_110000011_25, fx_110000011_26, fx_110000011_31, fx_110000011_32, fx_110000011_37, fx_110000011_38, fx_110000011_39, fx_110000011_40, cl, lp, ej]
      rfl
    · rw [if_neg q]
      obtain ⟨v1, v2, v3⟩ := ly_v μ n k 4 (lN (h37 (slc tp 96 k 8)))
      rw [show min (en isL tp k - k) 8 = 8 by omega] at lp
      refine ⟨ly μ n k 4 (lN (h37 (slc tp 96 k 8))), some (.int (nI (tp.getD k 0))), some (.int (nI k)), some (.long (lN (h37 (slc tp 96 k 8)))), none, ly_CF _ _ _ _ _, h33 _ _, sm _ _, ⟨v1, v2, fun z => by simp at z, fun z => by simp at z, fun z => by simp at z⟩, fun Q => ?_⟩
      have ej : (if nI (en isL tp k - k) ≤ nI 8 then nI 1 else nI 4) = nI 4 := if_neg (fun z => q ((nI_leI (by omega) (by omega)).mp z))
      simp (disch := first | assumption | omega) only [r139_50, r139_51, r139_53, r139_54, r139_56, r139_57, r139_60, r139_61, r139_62, r139_63, r139_64, r139_67, r139_129, r139_130, r139_133, r139_134, r139_135, r139_137, r139_138, j139_140, r139_148, r139_149, r139_265, r139_266, r139_269, r139_270, r139_272, r139_273, r139_276, rI_wI, rL_wL, rR_wR, rI_wL, rI_wR, rL_wI, rL_wR, rR_wI, rR_wL, va_rf_some, va_rf_none, Option.toList_some, Option.toList_none, List.nil_append, List.cons_append, true_and, and_true, false_and, and_false, and_self, if_true, if_false, not_true_eq_false, not_false_eq_true, or_false, false_or, or_true, true_or, or_self, ite_true, ite_false, Option.some.injEq, reduceCtorEq, Nat.reduceMod, Nat.reduceDiv, Nat.reduceLeDiff, Nat.reduceEqDiff, Nat.reduceAdd, Nat.reduceMul, Nat.reduceSub, Nat.reduceLT, sw_nil, sw_int, sw_long, sw_ref, li, lo, ll, nI_subO, nI_add, nI_clampO, nI_ltO, nI_leO, nle_t, nle_f, nlt_t, nlt_f, fx_2000010_0, fx_2000010_1, fx_2000010_4, fx_2000010_5, fx_2000010_6, fx_2000010_8, fx_2000010_10, fx_2000010_11, fx_2000010_12, fx_2000010_13, fx_2000010_14, fx_2000010_15, fx_2000010_16, fx_2000010_17, fx_2000010_18, fx_3000009_0, fx_5000007_0, fx_5000007_1, fx_5000007_2, fx_5000007_3, fx_7000001_0, fx_11000005_1, fx_11000005_2, fx_11000005_3, fx_11000005_4, fx_11000005_5, fx_11000005_6, fx_11000005_10, fx_11000005_11, fx_11000005_12, fx_20000002_0, fx_20000002_2, fx_20000002_3, fx_20000002_4, fx_25000005_1, fx_25000005_2, fx_25000005_3, fx_25000005_4, fx_25000005_5, fx_25000005_6, fx_25000005_10, fx_25000005_11, fx_25000005_12, fx_34000002_0, fx_34000002_2, fx_34000002_3, fx_34000002_4, fx_39000008_0, fx_41000006_0, fx_42002024_0, fx_42002024_1, fx_42002024_2, fx_42002024_3, fx_42002024_4, fx_42002024_5, fx_42002024_6, fx_42002024_7, fx_42002024_8, fx_42002024_9, fx_42002024_10, fx_42002024_11, fx_42002024_12, fx_42002024_13, fx_42002024_14, fx_42002024_15, fx_42002024_16, fx_42002024_17, fx_42002024_18, fx_42002024_19, fx_43000008_0, fx_45000008_0, fx_47000008_0, fx_49000008_0, fx_51000008_0, fx_53000008_0, fx_55000008_0, fx_57000008_0, fx_59000008_0, fx_61000008_0, fx_63000008_0, fx_65000008_0, fx_67000008_0, fx_69000008_0, fx_71000008_0, fx_73000008_0, fx_75000008_0, fx_77000008_0, fx_79000008_0, fx_81000008_0, fx_83000424_0, fx_83000424_1, fx_83000424_2, fx_83000424_3, fx_85000004_0, fx_85000004_1, fx_85000004_2, fx_85000004_3, fx_85000004_4, fx_85000004_5, fx_85000004_6, fx_85000004_10, fx_102000008_0, fx_104000008_0, fx_106000008_0, fx_108000008_0, fx_110000011_1, fx_110000011_4, fx_110000011_5, fx_110000011_6, fx_110000011_9, fx_110000011_10, fx_110000011_11, fx_110000011_12, fx_110000011_14, fx_110000011_15, fx_110000011_20, fx_110000011_21, fx_110000011_22, fx_110000011_23, fx_110000011_25, fx_110000011_26, fx_110000011_31, fx_110000011_32, fx_110000011_37, fx_110000011_38, fx_110000011_39, fx_110000011_40, cl, lp, ej]
      rfl
  · rw [if_neg y] at cl
    rw [if_neg y]
    by_cases x : isD (tp.getD k 0) = true
    · rw [if_pos x] at cd
      rw [if_pos x]
      have lp := c139_d (d := d) hn hc hF1 hT1 (k0 := k) (v1 := some (.int (nI n))) (v3 := some (.int (nI (tp.getD k 0)))) (tp.length - k) 0 (by omega)
      simp only [Nat.add_zero] at lp
      rw [show n10 (slc tp 48 k (min 0 4)) = 0 from rfl] at lp
      obtain ⟨e1, e2⟩ := en_le isD tp (show k ≤ tp.length by omega)
      by_cases q : en isD tp k - k ≤ 4
      · rw [if_pos q]
        rw [show min (en isD tp k - k) 4 = en isD tp k - k by omega] at lp
        obtain ⟨v1, v2, v3⟩ := ly_v μ n k 2 (lN (n10 (slc tp 48 k (en isD tp k - k))))
        refine ⟨ly μ n k 2 (lN (n10 (slc tp 48 k (en isD tp k - k)))), some (.int (nI (tp.getD k 0))), some (.int (nI k)), some (.long (lN (n10 (slc tp 48 k (en isD tp k - k))))), none, ly_CF _ _ _ _ _, h33 _ _, sm _ _, ⟨v1, v2, fun z => by simp at z, fun _ => v3, fun z => by simp at z⟩, fun Q => ?_⟩
        have ej : (if nI (en isD tp k - k) ≤ nI 4 then nI 2 else nI 4) = nI 2 := if_pos ((nI_leI (by omega) (by omega)).mpr q)
        simp (disch := first | assumption | omega) only [r139_50, r139_51, r139_53, r139_54, r139_56, r139_57, r139_60, r139_61, r139_62, r139_63, r139_64, r139_67, r139_152, r139_153, r139_156, r139_218, r139_219, r139_222, r139_223, r139_224, r139_226, r139_227, j139_228, r139_236, r139_237, r139_265, r139_266, r139_269, r139_270, r139_272, r139_273, r139_276, rI_wI, rL_wL, rR_wR, rI_wL, rI_wR, rL_wI, rL_wR, rR_wI, rR_wL, va_rf_some, va_rf_none, Option.toList_some, Option.toList_none, List.nil_append, List.cons_append, true_and, and_true, false_and, and_false, and_self, if_true, if_false, not_true_eq_false, not_false_eq_true, or_false, false_or, or_true, true_or, or_self, ite_true, ite_false, Option.some.injEq, reduceCtorEq, Nat.reduceMod, Nat.reduceDiv, Nat.reduceLeDiff, Nat.reduceEqDiff, Nat.reduceAdd, Nat.reduceMul, Nat.reduceSub, Nat.reduceLT, sw_nil, sw_int, sw_long, sw_ref, li, lo, ll, nI_subO, nI_add, nI_clampO, nI_ltO, nI_leO, nle_t, nle_f, nlt_t, nlt_f, fx_2000010_0, fx_2000010_1, fx_2000010_4, fx_2000010_5, fx_2000010_6, fx_2000010_8, fx_2000010_10, fx_2000010_11, fx_2000010_12, fx_2000010_13, fx_2000010_14, fx_2000010_15, fx_2000010_16, fx_2000010_17, fx_2000010_18, fx_3000009_0, fx_5000007_0, fx_5000007_1, fx_5000007_2, fx_5000007_3, fx_7000001_0, fx_11000005_1, fx_11000005_2, fx_11000005_3, fx_11000005_4, fx_11000005_5, fx_11000005_6, fx_11000005_10, fx_11000005_11, fx_11000005_12, fx_20000002_0, fx_20000002_2, fx_20000002_3, fx_20000002_4, fx_25000005_1, fx_25000005_2, fx_25000005_3, fx_25000005_4, fx_25000005_5, fx_25000005_6, fx_25000005_10, fx_25000005_11, fx_25000005_12, fx_34000002_0, fx_34000002_2, fx_34000002_3, fx_34000002_4, fx_39000008_0, fx_41000006_0, fx_42002024_0, fx_42002024_1, fx_42002024_2, fx_42002024_3, fx_42002024_4, fx_42002024_5, fx_42002024_6, fx_42002024_7, fx_42002024_8, fx_42002024_9, fx_42002024_10, fx_42002024_11, fx_42002024_12, fx_42002024_13, fx_42002024_14, fx_42002024_15, fx_42002024_16, fx_42002024_17, fx_42002024_18, fx_42002024_19, fx_43000008_0, fx_45000008_0, fx_47000008_0, fx_49000008_0, fx_51000008_0, fx_53000008_0, fx_55000008_0, fx_57000008_0, fx_59000008_0, fx_61000008_0, fx_63000008_0, fx_65000008_0, fx_67000008_0, fx_69000008_0, fx_71000008_0, fx_73000008_0, fx_75000008_0, fx_77000008_0, fx_79000008_0, fx_81000008_0, fx_83000424_0, fx_83000424_1, fx_83000424_2, fx_83000424_3, fx_85000004_0, fx_85000004_1, fx_85000004_2, fx_85000004_3, fx_85000004_4, fx_85000004_5, fx_85000004_6, fx_85000004_10, fx_102000008_0, fx_104000008_0, fx_106000008_0, fx_108000008_0, fx_110000011_1, fx_110000011_4, fx_110000011_5, fx_110000011_6, fx_110000011_9, fx_110000011_10, fx_110000011_11, fx_110000011_12, fx_110000011_14, fx_110000011_15, fx_110000011_20, fx_110000011_21, fx_110000011_22, fx_110000011_23, fx_110000011_25, fx_110000011_26, fx_110000011_31, fx_110000011_32, fx_110000011_37, fx_110000011_38, fx_110000011_39, fx_110000011_40, cl, cd, lp, ej]
        rfl
      · rw [if_neg q]
        rw [show min (en isD tp k - k) 4 = 4 by omega] at lp
        obtain ⟨v1, v2, v3⟩ := ly_v μ n k 4 (lN (n10 (slc tp 48 k 4)))
        refine ⟨ly μ n k 4 (lN (n10 (slc tp 48 k 4))), some (.int (nI (tp.getD k 0))), some (.int (nI k)), some (.long (lN (n10 (slc tp 48 k 4)))), none, ly_CF _ _ _ _ _, h33 _ _, sm _ _, ⟨v1, v2, fun z => by simp at z, fun z => by simp at z, fun z => by simp at z⟩, fun Q => ?_⟩
        have ej : (if nI (en isD tp k - k) ≤ nI 4 then nI 2 else nI 4) = nI 4 := if_neg (fun z => q ((nI_leI (by omega) (by omega)).mp z))
        simp (disch := first | assumption | omega) only [r139_50, r139_51, r139_53, r139_54, r139_56, r139_57, r139_60, r139_61, r139_62, r139_63, r139_64, r139_67, r139_152, r139_153, r139_156, r139_218, r139_219, r139_222, r139_223, r139_224, r139_226, r139_227, j139_228, r139_236, r139_237, r139_265, r139_266, r139_269, r139_270, r139_272, r139_273, r139_276, rI_wI, rL_wL, rR_wR, rI_wL, rI_wR, rL_wI, rL_wR, rR_wI, rR_wL, va_rf_some, va_rf_none, Option.toList_some, Option.toList_none, List.nil_append, List.cons_append, true_and, and_true, false_and, and_false, and_self, if_true, if_false, not_true_eq_false, not_false_eq_true, or_false, false_or, or_true, true_or, or_self, ite_true, ite_false, Option.some.injEq, reduceCtorEq, Nat.reduceMod, Nat.reduceDiv, Nat.reduceLeDiff, Nat.reduceEqDiff, Nat.reduceAdd, Nat.reduceMul, Nat.reduceSub, Nat.reduceLT, sw_nil, sw_int, sw_long, sw_ref, li, lo, ll, nI_subO, nI_add, nI_clampO, nI_ltO, nI_leO, nle_t, nle_f, nlt_t, nlt_f, fx_2000010_0, fx_2000010_1, fx_2000010_4, fx_2000010_5, fx_2000010_6, fx_2000010_8, fx_2000010_10, fx_2000010_11, fx_2000010_12, fx_2000010_13, fx_2000010_14, fx_2000010_15, fx_2000010_16, fx_2000010_17, fx_2000010_18, fx_3000009_0, fx_5000007_0, fx_5000007_1, fx_5000007_2, fx_5000007_3, fx_7000001_0, fx_11000005_1, fx_11000005_2, fx_11000005_3, fx_11000005_4, fx_11000005_5, fx_11000005_6, fx_11000005_10, fx_11000005_11, fx_11000005_12, fx_20000002_0, fx_20000002_2, fx_20000002_3, fx_20000002_4, fx_25000005_1, fx_25000005_2, fx_25000005_3, fx_25000005_4, fx_25000005_5, fx_25000005_6, fx_25000005_10, fx_25000005_11, fx_25000005_12, fx_34000002_0, fx_34000002_2, fx_34000002_3, fx_34000002_4, fx_39000008_0, fx_41000006_0, fx_42002024_0, fx_42002024_1, fx_42002024_2, fx_42002024_3, fx_42002024_4, fx_42002024_5, fx_42002024_6, fx_42002024_7, fx_42002024_8, fx_42002024_9, fx_42002024_10, fx_42002024_11, fx_42002024_12, fx_42002024_13, fx_42002024_14, fx_42002024_15, fx_42002024_16, fx_42002024_17, fx_42002024_18, fx_42002024_19, fx_43000008_0, fx_45000008_0, fx_47000008_0, fx_49000008_0, fx_51000008_0, fx_53000008_0, fx_55000008_0, fx_57000008_0, fx_59000008_0, fx_61000008_0, fx_63000008_0, fx_65000008_0, fx_67000008_0, fx_69000008_0, fx_71000008_0, fx_73000008_0, fx_75000008_0, fx_77000008_0, fx_79000008_0, fx_81000008_0, fx_83000424_0, fx_83000424_1, fx_83000424_2, fx_83000424_3, fx_85000004_0, fx_85000004_1, fx_85000004_2, fx_85000004_3, fx_85000004_4, fx_85000004_5, fx_85000004_6, fx_85000004_10, fx_102000008_0, fx_104000008_0, fx_106000008_0, fx_108000008_0, fx_110000011_1, fx_110000011_4, fx_110000011_5, fx_110000011_6, fx_110000011_9, fx_110000011_10, fx_110000011_11, fx_110000011_12, fx_110000011_14, fx_110000011_15, fx_110000011_20, fx_110000011_21, fx_110000011_22, fx_110000011_23, fx_110000011_25, fx_110000011_26, fx_110000011_31, fx_110000011_32, fx_110000011_37, fx_110000011_38, fx_110000011_39, fx_110000011_40, cl, cd, lp, ej]
        rfl
    · rw [if_neg x] at cd
      rw [if_neg x]
      by_cases w : isM (tp.getD k 0) = true
      · rw [if_pos w] at cs
        rw [if_pos w]
        have hw := of_decide_eq_true w
        obtain ⟨v1, v2, v3⟩ := ly_v μ n k 3 (lN (tp.getD k 0))
        refine ⟨ly μ n k 3 (lN (tp.getD k 0)), some (.int (nI (tp.getD k 0))), some (.int (nI k)), some (.long (lN (tp.getD k 0))), none, ly_CF _ _ _ _ _, h33 _ _, sm _ _, ⟨?_, v2, fun z => by simp only at z; omega, fun z => by simp only at z; omega, fun _ => v3⟩, fun Q => ?_⟩
        · rw [v1]
          show nI 3 = nI (srt (tp.getD k 0))
          unfold srt
          rw [if_neg (by omega), if_neg (by omega), if_neg (by omega), if_neg (by omega)]
        · simp (disch := first | assumption | omega) only [r139_50, r139_51, r139_53, r139_54, r139_56, r139_57, r139_60, r139_61, r139_62, r139_63, r139_64, r139_67, r139_152, r139_153, r139_156, r139_240, r139_241, r139_242, r139_244, r139_245, r139_248, r139_249, r139_250, j139_253, r139_261, r139_262, r139_265, r139_266, r139_269, r139_270, r139_272, r139_273, r139_276, rI_wI, rL_wL, rR_wR, rI_wL, rI_wR, rL_wI, rL_wR, rR_wI, rR_wL, va_rf_some, va_rf_none, Option.toList_some, Option.toList_none, List.nil_append, List.cons_append, true_and, and_true, false_and, and_false, and_self, if_true, if_false, not_true_eq_false, not_false_eq_true, or_false, false_or, or_true, true_or, or_self, ite_true, ite_false, Option.some.injEq, reduceCtorEq, Nat.reduceMod, Nat.reduceDiv, Nat.reduceLeDiff, Nat.reduceEqDiff, Nat.reduceAdd, Nat.reduceMul, Nat.reduceSub, Nat.reduceLT, sw_nil, sw_int, sw_long, sw_ref, li, lo, nI_m1, ng_eq, nn_eq, en_eq, ng_le, ng_lt, Int32.neg_neg, nI_add, pk_mul, nI_clampO, nI_ltO, nI_leO, nI_eqO, nI_subO, nle_t, nle_f, nlt_t, nlt_f, neq_f, ll, nI_l, fx_2000010_0, fx_2000010_1, fx_2000010_4, fx_2000010_5, fx_2000010_6, fx_2000010_8, fx_2000010_10, fx_2000010_11, fx_2000010_12, fx_2000010_13, fx_2000010_14, fx_2000010_15, fx_2000010_16, fx_2000010_17, fx_2000010_18, fx_3000009_0, fx_5000007_0, fx_5000007_1, fx_5000007_2, fx_5000007_3, fx_7000001_0, fx_11000005_1, fx_11000005_2, fx_11000005_3, fx_11000005_4, fx_11000005_5, fx_11000005_6, fx_11000005_10, fx_11000005_11, fx_11000005_12, fx_20000002_0, fx_20000002_2, fx_20000002_3, fx_20000002_4, fx_25000005_1, fx_25000005_2, fx_25000005_3, fx_25000005_4, fx_25000005_5, fx_25000005_6, fx_25000005_10, fx_25000005_11, fx_25000005_12, fx_34000002_0, fx_34000002_2, fx_34000002_3, fx_34000002_4, fx_39000008_0, fx_41000006_0, fx_42002024_0, fx_42002024_1, fx_42002024_2, fx_42002024_3, fx_42002024_4, fx_42002024_5, fx_42002024_6, fx_42002024_7, fx_42002024_8, fx_42002024_9, fx_42002024_10, fx_42002024_11, fx_42002024_12, fx_42002024_13, fx_42002024_14, fx_42002024_15, fx_42002024_16, fx_42002024_17, fx_42002024_18, fx_42002024_19, fx_43000008_0, fx_45000008_0, fx_47000008_0, fx_49000008_0, fx_51000008_0, fx_53000008_0, fx_55000008_0, fx_57000008_0, fx_59000008_0, fx_61000008_0, fx_63000008_0, fx_65000008_0, fx_67000008_0, fx_69000008_0, fx_71000008_0, fx_73000008_0, fx_75000008_0, fx_77000008_0, fx_79000008_0, fx_81000008_0, fx_83000424_0, fx_83000424_1, fx_83000424_2, fx_83000424_3, fx_85000004_0, fx_85000004_1, fx_85000004_2, fx_85000004_3, fx_85000004_4, fx_85000004_5, fx_85000004_6, fx_85000004_10, fx_102000008_0, fx_104000008_0, fx_106000008_0, fx_108000008_0, fx_110000011_1, fx_110000011_4, fx_110000011_5, fx_110000011_6, fx_110000011_9, fx_110000011_10, fx_110000011_11, fx_110000011_12, fx_110000011_14, fx_110000011_15, fx_110000011_20, fx_110000011_21, fx_110000011_22, fx_110000011_23, fx_110000011_25, fx_110000011_26, fx_110000011_31, fx_110000011_32, fx_110000011_37, fx_110000011_38, fx_110000011_39, fx_110000011_40, cl, cd, cs]
          rfl
      · rw [if_neg w] at cs
        rw [if_neg w]
        obtain ⟨v1, v2, v3⟩ := ly_v μ n k 4 (lN (tp.getD k 0))
        refine ⟨ly μ n k 4 (lN (tp.getD k 0)), some (.int (nI (tp.getD k 0))), some (.int (nI k)), some (.long (lN (tp.getD k 0))), none, ly_CF _ _ _ _ _, h33 _ _, sm _ _, ⟨v1, v2, fun z => by simp at z, fun z => by simp at z, fun z => by simp at z⟩, fun Q => ?_⟩
        simp (disch := first | assumption | omega) only [r139_50, r139_51, r139_53, r139_54, r139_56, r139_57, r139_60, r139_61, r139_62, r139_63, r139_64, r139_67, r139_152, r139_153, r139_156, r139_240, r139_241, r139_242, r139_244, r139_245, r139_248, r139_249, r139_250, j139_253, r139_261, r139_262, r139_265, r139_266, r139_269, r139_270, r139_272, r139_273, r139_276, rI_wI, rL_wL, rR_wR, rI_wL, rI_wR, rL_wI, rL_wR, rR_wI, rR_wL, va_rf_some, va_rf_none, Option.toList_some, Option.toList_none, List.nil_append, List.cons_append, true_and, and_true, false_and, and_false, and_self, if_true, if_false, not_true_eq_false, not_false_eq_true, or_false, false_or, or_true, true_or, or_self, ite_true, ite_false, Option.some.injEq, reduceCtorEq, Nat.reduceMod, Nat.reduceDiv, Nat.reduceLeDiff, Nat.reduceEqDiff, Nat.reduceAdd, Nat.reduceMul, Nat.reduceSub, Nat.reduceLT, sw_nil, sw_int, sw_long, sw_ref, li, lo, nI_m1, ng_eq, nn_eq, en_eq, ng_le, ng_lt, Int32.neg_neg, nI_add, pk_mul, nI_clampO, nI_ltO, nI_leO, nI_eqO, nI_subO, nle_t, nle_f, nlt_t, nlt_f, neq_f, ll, nI_l, fx_2000010_0, fx_2000010_1, fx_2000010_4, fx_2000010_5, fx_2000010_6, fx_2000010_8, fx_2000010_10, fx_2000010_11, fx_2000010_12, fx_2000010_13, fx_2000010_14, fx_2000010_15, fx_2000010_16, fx_2000010_17, fx_2000010_18, fx_3000009_0, fx_5000007_0, fx_5000007_1, fx_5000007_2, fx_5000007_3, fx_7000001_0, fx_11000005_1, fx_11000005_2, fx_11000005_3, fx_11000005_4, fx_11000005_5, fx_11000005_6, fx_11000005_10, fx_11000005_11, fx_11000005_12, fx_20000002_0, fx_20000002_2, fx_20000002_3, fx_20000002_4, fx_25000005_1, fx_25000005_2, fx_25000005_3, fx_25000005_4, fx_25000005_5, fx_25000005_6, fx_25000005_10, fx_25000005_11, fx_25000005_12, fx_34000002_0, fx_34000002_2, fx_34000002_3, fx_34000002_4, fx_39000008_0, fx_41000006_0, fx_42002024_0, fx_42002024_1, fx_42002024_2, fx_42002024_3, fx_42002024_4, fx_42002024_5, fx_42002024_6, fx_42002024_7, fx_42002024_8, fx_42002024_9, fx_42002024_10, fx_42002024_11, fx_42002024_12, fx_42002024_13, fx_42002024_14, fx_42002024_15, fx_42002024_16, fx_42002024_17, fx_42002024_18, fx_42002024_19, fx_43000008_0, fx_45000008_0, fx_47000008_0, fx_49000008_0, fx_51000008_0, fx_53000008_0, fx_55000008_0, fx_57000008_0, fx_59000008_0, fx_61000008_0, fx_63000008_0, fx_65000008_0, fx_67000008_0, fx_69000008_0, fx_71000008_0, fx_73000008_0, fx_75000008_0, fx_77000008_0, fx_79000008_0, fx_81000008_0, fx_83000424_0, fx_83000424_1, fx_83000424_2, fx_83000424_3, fx_85000004_0, fx_85000004_1, fx_85000004_2, fx_85000004_3, fx_85000004_4, fx_85000004_5, fx_85000004_6, fx_85000004_10, fx_102000008_0, fx_104000008_0, fx_106000008_0, fx_108000008_0, fx_110000011_1, fx_110000011_4, fx_110000011_5, fx_110000011_6, fx_110000011_9, fx_110000011_10, fx_110000011_11, fx_110000011_12, fx_110000011_14, fx_110000011_15, fx_110000011_20, fx_110000011_21, fx_110000011_22, fx_110000011_23, fx_110000011_25, fx_110000011_26, fx_110000011_31, fx_110000011_32, fx_110000011_37, fx_110000011_38, fx_110000011_39, fx_110000011_40, cl, cd, cs]
        rfl
theorem c139_m (hn : tp.length ≤ 1000) (hc : ∀ c, c ∈ tp → c < 127) : ∀ (T : List Tok) (k n : Nat) (μ : PM) (v3 v4 v5 v6 : Option Value), isT tp k T → k ≤ tp.length → n + T.length ≤ 1002 → FX μ → TA μ tp → ∃ ν, CFr μ ν ∧ SM μ ν n ∧ RQ ν T n ∧ rI ν 110000011 2 = rI μ 110000011 2 ∧ rI ν 110000011 7 = nI 0 ∧ rI ν 110000011 8 = nI 0 ∧ ∀ Q, R (d + 2) 139 17 [some (.ref 110000011), some (.int (nI n)), some (.int (nI k)), v3, v4, v5, v6] [] μ Q = Q none ν := by
  intro T
  induction T with
  | nil => intro k n μ v3 v4 v5 v6 h; exact h.elim
  | cons t rest ih =>
    intro k n μ v3 v4 v5 v6 h hk hn2 hF hT
    obtain ⟨ht, hrest⟩ := h
    obtain ⟨e1, e2⟩ := en_le isW tp hk
    obtain ⟨w1, w2⟩ := c139_w (d := d + 2) hn hc hF hT (v1 := some (.int (nI n))) (v4 := v4) (v5 := v5) (v6 := v6) (tp.length - k) k v3 (by omega)
    have hlen : n + (rest.length + 1) ≤ 1002 := hn2
    by_cases z : en isW tp k < tp.length
    · obtain ⟨t1, t2, t3, t4⟩ := tokA_n z
      have htk : t = tokA tp (en isW tp k) := ht
      rw [if_neg (by rw [htk]; exact t1)] at hrest
      obtain ⟨ν1, x3, x4, x5, x6, n1, n2, n3, n4, n5⟩ := c139_t (d := d) hn hc hF hT (k := en isW tp k) (n := n) z (by omega) v4 v5 v6
      obtain ⟨ν, k1, k2, k3, k4, k5, k6, k7⟩ := ih t.2.2.2 (n + 1) ν1 x3 x4 x5 x6 hrest (by rw [htk]; exact t4) (by omega) (fun q hq => (n1.2.2.1 _ _).trans (hF q hq)) (TA_CF hT (n2 3) n1)
      refine ⟨ν, CFr_tr n1 k1, fun j hj => ?_, fun j hj => ?_, ?_, k5, k6, fun Q => ?_⟩
      · obtain ⟨a1, a2, a3⟩ := k2 j (by omega)
        obtain ⟨b1, b2, b3⟩ := n3 j hj
        exact ⟨a1.trans b1, a2.trans b2, a3.trans b3⟩
      · cases j with
        | zero =>
          obtain ⟨a1, a2, a3⟩ := k2 n (by omega)
          show rq1 ν t (n + 0)
          rw [htk]
          exact rq1_c a1 a2 a3 n4
        | succ j =>
          show rq1 ν (rest.getD j (0, 0, [], 0)) (n + (j + 1))
          rw [show n + (j + 1) = n + 1 + j by omega]
          exact k3 j (by simp at hj; omega)
      · rw [k4]
        exact n2 2
      · rw [w1 z, n5, ← htk]
        exact k7 Q
    · have hz : en isW tp k = tp.length := by omega
      obtain ⟨w3, k1⟩ := w2 hz
      have htk : t = (tp.length, 30, [], tp.length) := by
        rw [ht]
        unfold tok
        rw [hz, tokA_e (Nat.le_refl _)]
      rw [htk] at hrest
      rw [if_pos rfl] at hrest
      subst hrest
      have h3 := hT.1
      refine ⟨wI (wI (wI (wI μ 112100220 n (nI 0)) 113100220 n (nI tp.length)) 110000011 7 (nI 0)) 110000011 8 (nI 0), CFr_tr (CFr_tr (CFr_tr (CFr_wI μ _ (by omega)) (CFr_wI _ _ (by omega))) (CFr_wI _ _ (by omega))) (CFr_wI _ _ (by omega)), fun j hj => ⟨?_, ?_, rfl⟩, fun j hj => ?_, ?_, ?_, ?_, fun Q => ?_⟩
      · rw [rI_wI, if_neg (by omega), rI_wI, if_neg (by omega), rI_wI, if_neg (by omega), rI_wI, if_neg (by omega)]
      · rw [rI_wI, if_neg (by omega), rI_wI, if_neg (by omega), rI_wI, if_neg (by omega), rI_wI, if_neg (by omega)]
      · have hj0 : j = 0 := by simp at hj; omega
        subst hj0
        show rq1 _ t n
        rw [htk]
        refine ⟨?_, ?_, fun z => by simp at z, fun z => by simp at z, fun z => by simp at z⟩
        · rw [rI_wI, if_neg (by omega), rI_wI, if_neg (by omega), rI_wI, if_neg (by omega), rI_wI, if_pos ⟨rfl, rfl⟩]; rfl
        · rw [rI_wI, if_neg (by omega), rI_wI, if_neg (by omega), rI_wI, if_pos ⟨rfl, rfl⟩]
      · rw [rI_wI, if_neg (by omega), rI_wI, if_neg (by omega), rI_wI, if_neg (by omega), rI_wI, if_neg (by omega)]
      · rw [rI_wI, if_neg (by decide), rI_wI, if_pos ⟨rfl, rfl⟩]
      · rw [rI_wI, if_pos ⟨rfl, rfl⟩]
      · rw [k1]
        simp (disch := first | assumption | omega) only [r139_279, r139_280, r139_283, r139_284, r139_285, r139_286, r139_287, r139_290, r139_291, r139_292, r139_295, r139_296, r139_297, r139_298, r139_301, r139_302, r139_303, r139_306, rI_wI, rL_wL, rR_wR, rI_wL, rI_wR, rL_wI, rL_wR, rR_wI, rR_wL, va_rf_some, va_rf_none, Option.toList_some, Option.toList_none, List.nil_append, List.cons_append, true_and, and_true, false_and, and_false, and_self, if_true, if_false, not_true_eq_false, not_false_eq_true, or_false, false_or, or_true, true_or, or_self, ite_true, ite_false, Option.some.injEq, reduceCtorEq, Nat.reduceMod, Nat.reduceDiv, Nat.reduceLeDiff, Nat.reduceEqDiff, Nat.reduceAdd, Nat.reduceMul, Nat.reduceSub, Nat.reduceLT, sw_nil, sw_int, sw_long, sw_ref, li, lo, nI_m1, ng_eq, nn_eq, en_eq, ng_le, ng_lt, Int32.neg_neg, nI_add, pk_mul, nI_clampO, nI_ltO, nI_leO, nI_eqO, nI_subO, nle_t, nle_f, nlt_t, nlt_f, neq_f, fx_2000010_0, fx_2000010_1, fx_2000010_4, fx_2000010_5, fx_2000010_6, fx_2000010_8, fx_2000010_10, fx_2000010_11, fx_2000010_12, fx_2000010_13, fx_2000010_14, fx_2000010_15, fx_2000010_16, fx_2000010_17, fx_2000010_18, fx_3000009_0, fx_5000007_0, fx_5000007_1, fx_5000007_2, fx_5000007_3, fx_7000001_0, fx_11000005_1, fx_11000005_2, fx_11000005_3, fx_11000005_4, fx_11000005_5, fx_11000005_6, fx_11000005_10, fx_11000005_11, fx_11000005_12, fx_20000002_0, fx_20000002_2, fx_20000002_3, fx_20000002_4, fx_25000005_1, fx_25000005_2, fx_25000005_3, fx_25000005_4, fx_25000005_5, fx_25000005_6, fx_25000005_10, fx_25000005_11, fx_25000005_12, fx_34000002_0, fx_34000002_2, fx_34000002_3, fx_34000002_4, fx_39000008_0, fx_41000006_0, fx_42002024_0, fx_42002024_1, fx_42002024_2, fx_42002024_3, fx_42002024_4, fx_42002024_5, fx_42002024_6, fx_42002024_7, fx_42002024_8, fx_42002024_9, fx_42002024_10, fx_42002024_11, fx_42002024_12, fx_42002024_13, fx_42002024_14, fx_42002024_15, fx_42002024_16, fx_42002024_17, fx_42002024_18, fx_42002024_19, fx_43000008_0, fx_45000008_0, fx_47000008_0, fx_49000008_0, fx_51000008_0, fx_53000008_0, fx_55000008_0, fx_57000008_0, fx_59000008_0, fx_61000008_0, fx_63000008_0, fx_65000008_0, fx_67000008_0, fx_69000008_0, fx_71000008_0, fx_73000008_0, fx_75000008_0, fx_77000008_0, fx_79000008_0, fx_81000008_0, fx_83000424_0, fx_83000424_1, fx_83000424_2, fx_83000424_3, fx_85000004_0, fx_85000004_1, fx_85000004_2, fx_85000004_3, fx_85000004_4, fx_85000004_5, fx_85000004_6, fx_85000004_10, fx_102000008_0, fx_104000008_0, fx_106000008_0, fx_108000008_0, fx_110000011_1, fx_110000011_4, fx_110000011_5, fx_110000011_6, fx_110000011_9, fx_110000011_10, fx_110000011_11, fx_110000011_12, fx_110000011_14, fx_110000011_15, fx_110000011_20, fx_110000011_21, fx_110000011_22, fx_110000011_23, fx_110000011_25, fx_110000011_26, fx_110000011_31, fx_110000011_32, fx_110000011_37, fx_110000011_38, fx_110000011_39, fx_110000011_40, h3]
end T1
