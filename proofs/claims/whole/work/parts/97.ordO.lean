/-! ORDERS: THE REFERENCE, ALL -/
theorem uR_nd {pa : Nat → Nat} {ob : Nat} : ∀ {l : List Nat}, uR pa ob l → l.Nodup := by
  intro l
  induction l with
  | nil => intro _; exact List.nodup_nil
  | cons p t ih => intro h; exact List.nodup_cons.mpr ⟨h.2.2.2.1, ih h.1⟩
/-- the orders from a beginning on, p and who comes after it being tried -/
def orF (pa : Nat → Nat) (ob r : Nat) (pre : List Nat) (p : Nat) : List (List Nat) := ((List.range (pa 0)).drop p).flatMap fun p => if bt ob p = 0 ∧ p ∉ pre ∧ (pre = [] ∨ mbN pa (pre.headD 0) p = true) then orL pa ob r (p :: pre) else []
theorem orF_0 (pa : Nat → Nat) (ob r : Nat) (pre : List Nat) : orL pa ob (r + 1) pre = orF pa ob r pre 0 := by
  unfold orF
  rw [orL, List.drop_zero]
theorem orF_e (pa : Nat → Nat) (ob r : Nat) (pre : List Nat) : orF pa ob r pre (pa 0) = [] := by
  unfold orF
  rw [List.drop_of_length_le (by rw [List.length_range]; exact Nat.le_refl _)]
  rfl
theorem orF_s {pa : Nat → Nat} {p : Nat} (hp : p < pa 0) (ob r : Nat) (pre : List Nat) : orF pa ob r pre p = (if bt ob p = 0 ∧ p ∉ pre ∧ (pre = [] ∨ mbN pa (pre.headD 0) p = true) then orL pa ob r (p :: pre) else []) ++ orF pa ob r pre (p + 1) := by
  unfold orF
  have hd : (List.range (pa 0)).getD p 0 = p := by
    rw [List.getD_eq_getElem?_getD, List.getElem?_range hp]
    rfl
  rw [dropc (by rw [List.length_range]; exact hp), hd, List.flatMap_cons]
section T1
variable {d : Nat} {μ : PM} {pa : Nat → Nat} {lw : LW} {s : Nat → Nat} {un : List (Nat → Nat)} {mk : Nat → Option (Nat → Nat)} {tp : List Nat}
/-- what one call of it does -/
def TO (pa : Nat → Nat) (lw : LW) (s : Nat → Nat) (un : List (Nat → Nat)) (mk : Nat → Option (Nat → Nat)) (tp : List Nat) (d r : Nat) : Prop := ∀ (pre : List Nat) (μ : PM) (acc : Option (List Nat × Nat × Nat)) (cnt : Nat), pre.length + r = (ln pa s).length → uR pa (s 7) pre → MH μ pa lw s un mk tp → MLn μ (ln pa s) → rI μ 110000011 28 = fI (s 8) → WL μ 127000820 pre.reverse → LR μ (ln pa s).length acc → rI μ 110000011 33 = nI cnt →
  ∃ ν, MO μ ν ∧ (∀ i, i < pre.length → rI ν 127000820 i = rI μ 127000820 i) ∧ LR ν (ln pa s).length ((orL pa (s 7) r pre).foldl (lsF pa lw (s 8) (s 9)) acc) ∧ rI ν 110000011 33 = nI (cnt + (orL pa (s 7) r pre).length) ∧ ∀ Q, R (d + r + 6) 203 0 [some (.ref 110000011), some (.int (nI pre.length)), some (.int (nI (sR pre))), none] [] μ Q = Q none ν
theorem c203_l (hK : OKA pa s un mk tp) {r : Nat} (hT : TO pa lw s un mk tp d r) {pre : List Nat} (hpre : pre.length + (r + 1) = (ln pa s).length) (hu : uR pa (s 7) pre) : ∀ (q p : Nat) (μ : PM) (acc : Option (List Nat × Nat × Nat)) (cnt : Nat), p + q = pa 0 → MH μ pa lw s un mk tp → MLn μ (ln pa s) → rI μ 110000011 28 = fI (s 8) → WL μ 127000820 pre.reverse → LR μ (ln pa s).length acc → rI μ 110000011 33 = nI cnt →
    ∃ ν, MO μ ν ∧ (∀ i, i < pre.length → rI ν 127000820 i = rI μ 127000820 i) ∧ LR ν (ln pa s).length ((orF pa (s 7) r pre p).foldl (lsF pa lw (s 8) (s 9)) acc) ∧ rI ν 110000011 33 = nI (cnt + (orF pa (s 7) r pre p).length) ∧ ∀ Q, R (d + r + 7) 203 119 [some (.ref 110000011), some (.int (nI pre.length)), some (.int (nI (sR pre))), some (.int (nI p))] [] μ Q = Q none ν := by
  have hp0 := hK.1.1.1
  have hl := ln7 (s := s) hK.1
  have el := uR_el hp0 hu
  obtain ⟨sb1, sb2⟩ := sR_b (uR_nd hu) el
  have ho7 := SO7 hK.1 hK.2.1
  intro q
  induction q with
  | zero =>
    intro p μ acc cnt hp hM hL h28 hO hA hc
    obtain rfl : p = pa 0 := by omega
    have c4 := fun Q => c174 (d := d + r + 6) (Q := Q) hM.1 hM.2.1
    refine ⟨μ, MO_rf _, fun _ _ => rfl, ?_, ?_, fun Q => ?_⟩
    · rw [orF_e]; exact hA
    · rw [orF_e]; exact hc
    · rw [r203_119]
      simp (disch := first | assumption | omega) only [r203_120, r203_121, r203_124, r203_188, rI_wI, rL_wL, rR_wR, rI_wL, rI_wR, rL_wI, rL_wR, rR_wI, rR_wL, va_rf_some, va_rf_none, Option.toList_some, Option.toList_none, List.nil_append, List.cons_append, true_and, and_true, false_and, and_false, and_self, if_true, if_false, not_true_eq_false, not_false_eq_true, or_false, false_or, or_true, true_or, or_self, ite_true, ite_false, Option.some.injEq, reduceCtorEq, Nat.reduceMod, Nat.reduceDiv, Nat.reduceLeDiff, Nat.reduceEqDiff, Nat.reduceAdd, Nat.reduceMul, Nat.reduceSub, Nat.reduceLT, sw_nil, sw_int, sw_long, sw_ref, li, lo, nI_m1, ng_eq, nn_eq, en_eq, ng_le, ng_lt, Int32.neg_neg, nI_add, pk_mul, nI_clampO, nI_ltO, nI_leO, nI_eqO, nI_subO, nle_t, nle_f, nlt_t, nlt_f, neq_f, c4, Nat.le_refl]
  | succ q ih =>
    intro p μ acc cnt hp hM hL h28 hO hA hc
    have hF := hM.1
    have hp7 : p < 7 := by omega
    have c4 := fun Q => c174 (d := d + r + 6) (Q := Q) hM.1 hM.2.1
    obtain ⟨sd, z1, z2⟩ := MK_s hM.2.2.2.1
    have c6 := fun Q => c176 (d := d + r + 6) (Q := Q) hM.1 z1 (i := p) (by omega) (by rw [z2]; omega)
    rw [z2] at c6
    rw [orF_s (show p < pa 0 by omega)]
    have skip : ¬ (bt (s 7) p = 0 ∧ p ∉ pre ∧ (pre = [] ∨ mbN pa (pre.headD 0) p = true)) → (∀ Q, R (d + r + 7) 203 119 [some (.ref 110000011), some (.int (nI pre.length)), some (.int (nI (sR pre))), some (.int (nI p))] [] μ Q = R (d + r + 7) 203 119 [some (.ref 110000011), some (.int (nI pre.length)), some (.int (nI (sR pre))), some (.int (nI (p + 1)))] [] μ Q) → ∃ ν, MO μ ν ∧ (∀ i, i < pre.length → rI ν 127000820 i = rI μ 127000820 i) ∧ LR ν (ln pa s).length (((if bt (s 7) p = 0 ∧ p ∉ pre ∧ (pre = [] ∨ mbN pa (pre.headD 0) p = true) then orL pa (s 7) r (p :: pre) else []) ++ orF pa (s 7) r pre (p + 1)).foldl (lsF pa lw (s 8) (s 9)) acc) ∧ rI ν 110000011 33 = nI (cnt + ((if bt (s 7) p = 0 ∧ p ∉ pre ∧ (pre = [] ∨ mbN pa (pre.headD 0) p = true) then orL pa (s 7) r (p :: pre) else []) ++ orF pa (s 7) r pre (p + 1)).length) ∧ ∀ Q, R (d + r + 7) 203 119 [some (.ref 110000011), some (.int (nI pre.length)), some (.int (nI (sR pre))), some (.int (nI p))] [] μ Q = Q none ν := by
      intro hn hst
      rw [if_neg hn, List.nil_append]
      obtain ⟨ν, k1, k2, k3, k4, k5⟩ := ih (p + 1) μ acc cnt (by omega) hM hL h28 hO hA hc
      exact ⟨ν, k1, k2, k3, k4, fun Q => (hst Q).trans (k5 Q)⟩
    rcases bt_01 (s 7) p with e1 | e1
    · rcases bt_01 (sR pre) p with e2 | e2
      · have hnp : p ∉ pre := fun k => by have := (sb2 p hp7).mpr k; omega
        have go : (pre = [] ∨ mbN pa (pre.headD 0) p = true) → (∀ Q, R (d + r + 7) 203 119 [some (.ref 110000011), some (.int (nI pre.length)), some (.int (nI (sR pre))), some (.int (nI p))] [] μ Q = R (d + r + 7) 203 163 [some (.ref 110000011), some (.int (nI pre.length)), some (.int (nI (sR pre))), some (.int (nI p))] [] μ Q) → ∃ ν, MO μ ν ∧ (∀ i, i < pre.length → rI ν 127000820 i = rI μ 127000820 i) ∧ LR ν (ln pa s).length (((if bt (s 7) p = 0 ∧ p ∉ pre ∧ (pre = [] ∨ mbN pa (pre.headD 0) p = true) then orL pa (s 7) r (p :: pre) else []) ++ orF pa (s 7) r pre (p + 1)).foldl (lsF pa lw (s 8) (s 9)) acc) ∧ rI ν 110000011 33 = nI (cnt + ((if bt (s 7) p = 0 ∧ p ∉ pre ∧ (pre = [] ∨ mbN pa (pre.headD 0) p = true) then orL pa (s 7) r (p :: pre) else []) ++ orF pa (s 7) r pre (p + 1)).length) ∧ ∀ Q, R (d + r + 7) 203 119 [some (.ref 110000011), some (.int (nI pre.length)), some (.int (nI (sR pre))), some (.int (nI p))] [] μ Q = Q none ν := by
          intro hmb hst
          rw [if_pos ⟨e1, hnp, hmb⟩]
          have hu2 : uR pa (s 7) (p :: pre) := ⟨hu, by omega, e1, hnp, hmb⟩
          have hW := MO_wI μ (a := 127000820) (j := pre.length) (nI p) (by omega)
          have hO2 : WL (wI μ 127000820 pre.length (nI p)) 127000820 (p :: pre).reverse := fun i hi => by
            rw [List.reverse_cons] at hi ⊢
            have hi' : i < pre.length + 1 := by simpa using hi
            by_cases q : i = pre.length
            · subst q
              rw [rI_wI, if_pos ⟨rfl, rfl⟩]
              have e : (pre.reverse ++ [p]).getD pre.length 0 = p := by
                have := gD_app2 (a := pre.reverse) (p := p)
                rwa [List.length_reverse] at this
              rw [e]
            · have hi2 : i < pre.reverse.length := by rw [List.length_reverse]; omega
              rw [rI_wI, if_neg (fun k => q k.2.symm), gD_app1 hi2]
              exact hO i hi2
          have hA2 : LR (wI μ 127000820 pre.length (nI p)) (ln pa s).length acc := ⟨fun q => by rw [rI_wI, if_neg (by omega)]; exact hA.1 q, fun l a b q => by
            obtain ⟨y1, y2, y3, y4, y5⟩ := hA.2 l a b q
            exact ⟨by rw [rI_wI, if_neg (by omega)]; exact y1, y2, y3, fun i hi => by rw [rI_wI, if_neg (by omega)]; exact y4 i hi, y5⟩⟩
          obtain ⟨ν1, n1, n2, n3, n4, n5⟩ := hT (p :: pre) (wI μ 127000820 pre.length (nI p)) acc cnt (by simp only [List.length_cons]; omega) hu2 (MSc_MH (MO_MSc hW) hM) (MO_MLn hW hL) (by rw [rI_wI, if_neg (by omega)]; exact h28) hO2 hA2 (by rw [rI_wI, if_neg (by omega)]; exact hc)
          have hMO := MO_tr hW n1
          have hO3 : ∀ i, i < pre.length → rI ν1 127000820 i = rI μ 127000820 i := fun i hi => (n2 i (by simp only [List.length_cons]; omega)).trans (by rw [rI_wI, if_neg (by omega)])
          obtain ⟨ν, k1, k2, k3, k4, k5⟩ := ih (p + 1) ν1 _ _ (by omega) (MSc_MH (MO_MSc hMO) hM) (MO_MLn hMO hL) ((hMO.1 _ _ (by omega)).trans h28) (fun i hi => by
            have hi2 : i < pre.length := by rw [List.length_reverse] at hi; exact hi
            exact (hO3 i hi2).trans (hO i hi)) n3 n4
          refine ⟨ν, MO_tr hMO k1, fun i hi => (k2 i hi).trans (hO3 i hi), ?_, ?_, fun Q => ?_⟩
          · rw [List.foldl_append]; exact k3
          · rw [k4, List.length_append, Nat.add_assoc]
          · rw [hst]
            have es : sbN (sR pre) p = sR (p :: pre) := by
              show _ = sR pre + 2 ^ p
              unfold sbN
              rw [if_pos e2]
            have so := sbN_or (sR pre) sb1 p hp7
            rw [es] at so
            have n5' : ∀ Q, R (d + r + 6) 203 0 [some (.ref 110000011), some (.int (nI (pre.length + 1))), some (.int (nI (sR (p :: pre)))), none] [] (wI μ 127000820 pre.length (nI p)) Q = Q none ν1 := n5
            simp (disch := first | assumption | omega) only [r203_163, r203_164, r203_167, r203_168, r203_169, r203_170, r203_171, r203_172, r203_173, r203_174, r203_175, r203_176, r203_177, r203_178, r203_179, r203_182, r203_185, rI_wI, rL_wL, rR_wR, rI_wL, rI_wR, rL_wI, rL_wR, rR_wI, rR_wL, va_rf_some, va_rf_none, Option.toList_some, Option.toList_none, List.nil_append, List.cons_append, true_and, and_true, false_and, and_false, and_self, if_true, if_false, not_true_eq_false, not_false_eq_true, or_false, false_or, or_true, true_or, or_self, ite_true, ite_false, Option.some.injEq, reduceCtorEq, Nat.reduceMod, Nat.reduceDiv, Nat.reduceLeDiff, Nat.reduceEqDiff, Nat.reduceAdd, Nat.reduceMul, Nat.reduceSub, Nat.reduceLT, sw_nil, sw_int, sw_long, sw_ref, li, lo, nI_m1, ng_eq, nn_eq, en_eq, ng_le, ng_lt, Int32.neg_neg, nI_add, pk_mul, nI_clampO, nI_ltO, nI_leO, nI_eqO, nI_subO, nle_t, nle_f, nlt_t, nlt_f, neq_f, fx_2000010_0, fx_2000010_1, fx_2000010_4, fx_2000010_5, fx_2000010_6, fx_2000010_8, fx_2000010_10, fx_2000010_11, fx_2000010_12, fx_2000010_13, fx_2000010_14, fx_2000010_15, fx_2000010_16, fx_2000010_17, fx_2000010_18, fx_3000009_0, fx_5000007_0, fx_5000007_1, fx_5000007_2, fx_5000007_3, fx_7000001_0, fx_11000005_1, fx_11000005_2, fx_11000005_3, fx_11000005_4, fx_11000005_5, fx_11000005_6, fx_11000005_10, fx_11000005_11, fx_11000005_12, fx_20000002_0, fx_20000002_2, fx_20000002_3, fx_20000002_4, fx_25000005_1, fx_25000005_2, fx_25000005_3, fx_25000005_4, fx_25000005_5, fx_25000005_6, fx_25000005_10, fx_25000005_11, fx_25000005_12, fx_34000002_0, fx_34000002_2, fx_34000002_3, fx_34000002_4, fx_39000008_0, fx_41000006_0, fx_42002024_0, fx_42002024_1, fx_42002024_2, fx_42002024_3, fx_42002024_4, fx_42002024_5, fx_42002024_6, fx_42002024_7, fx_42002024_8, fx_42002024_9, fx_42002024_10, fx_42002024_11, fx_42002024_12, fx_42002024_13, fx_42002024_14, fx_42002024_15, fx_42002024_16, fx_42002024_17, fx_42002024_18, fx_42002024_19, fx_43000008_0, fx_45000008_0, fx_47000008_0, fx_49000008_0, fx_51000008_0, fx_53000008_0, fx_55000008_0, fx_57000008_0, fx_59000008_0, fx_61000008_0, fx_63000008_0, fx_65000008_0, fx_67000008_0, fx_69000008_0, fx_71000008_0, fx_73000008_0, fx_75000008_0, fx_77000008_0, fx_79000008_0, fx_81000008_0, fx_83000424_0, fx_83000424_1, fx_83000424_2, fx_83000424_3, fx_85000004_0, fx_85000004_1, fx_85000004_2, fx_85000004_3, fx_85000004_4, fx_85000004_5, fx_85000004_6, fx_85000004_10, fx_102000008_0, fx_104000008_0, fx_106000008_0, fx_108000008_0, fx_110000011_1, fx_110000011_4, fx_110000011_5, fx_110000011_6, fx_110000011_9, fx_110000011_10, fx_110000011_11, fx_110000011_12, fx_110000011_14, fx_110000011_15, fx_110000011_20, fx_110000011_21, fx_110000011_22, fx_110000011_23, fx_110000011_25, fx_110000011_26, fx_110000011_31, fx_110000011_32, fx_110000011_37, fx_110000011_38, fx_110000011_39, fx_110000011_40, so, n5', k5]
        cases hpn : pre with
        | nil =>
          subst hpn
          refine go (Or.inl rfl) (fun Q => ?_)
          rw [r203_119]
          simp (disch := first | assumption | omega) only [r203_120, r203_121, r203_124, r203_127, r203_128, r203_129, r203_132, r203_135, r203_136, r203_137, r203_138, r203_139, r203_140, r203_143, r203_144, rI_wI, rL_wL, rR_wR, rI_wL, rI_wR, rL_wI, rL_wR, rR_wI, rR_wL, va_rf_some, va_rf_none, Option.toList_some, Option.toList_none, List.nil_append, List.cons_append, true_and, and_true, false_and, and_false, and_self, if_true, if_false, not_true_eq_false, not_false_eq_true, or_false, false_or, or_true, true_or, or_self, ite_true, ite_false, Option.some.injEq, reduceCtorEq, Nat.reduceMod, Nat.reduceDiv, Nat.reduceLeDiff, Nat.reduceEqDiff, Nat.reduceAdd, Nat.reduceMul, Nat.reduceSub, Nat.reduceLT, sw_nil, sw_int, sw_long, sw_ref, li, lo, nI_m1, ng_eq, nn_eq, en_eq, ng_le, ng_lt, Int32.neg_neg, nI_add, pk_mul, nI_clampO, nI_ltO, nI_leO, nI_eqO, nI_subO, nle_t, nle_f, nlt_t, nlt_f, neq_f, c4, c6, shr_1, e1, e2, List.length_nil]
        | cons h t =>
          rw [← hpn]
          have hh7 : pre.headD 0 < 7 := el _ (by rw [hpn]; exact List.mem_cons_self)
          have hne : pre ≠ [] := by rw [hpn]; exact List.cons_ne_nil _ _
          have hlen : 1 ≤ pre.length := by rw [hpn]; simp
          have hlast : rI μ 127000820 (pre.length - 1) = nI (pre.headD 0) := by
            have := hO (pre.length - 1) (by rw [List.length_reverse]; omega)
            rw [this]
            congr 1
            rw [hpn, List.reverse_cons]
            have := gD_app2 (a := t.reverse) (p := h)
            rw [List.length_reverse] at this
            exact this
          have c1 := c201 (d := d + r + 5) hM.1 hM.2.1 hK.1 hh7 hp7
          by_cases hmb : mbN pa (pre.headD 0) p = true
          · rw [if_pos hmb] at c1
            refine go (Or.inr hmb) (fun Q => ?_)
            rw [r203_119]
            simp (disch := first | assumption | omega) only [r203_120, r203_121, r203_124, r203_127, r203_128, r203_129, r203_132, r203_135, r203_136, r203_137, r203_138, r203_139, r203_140, r203_143, r203_144, r203_147, r203_148, r203_149, r203_152, r203_153, r203_154, r203_155, r203_156, r203_157, r203_160, rI_wI, rL_wL, rR_wR, rI_wL, rI_wR, rL_wI, rL_wR, rR_wI, rR_wL, va_rf_some, va_rf_none, Option.toList_some, Option.toList_none, List.nil_append, List.cons_append, true_and, and_true, false_and, and_false, and_self, if_true, if_false, not_true_eq_false, not_false_eq_true, or_false, false_or, or_true, true_or, or_self, ite_true, ite_false, Option.some.injEq, reduceCtorEq, Nat.reduceMod, Nat.reduceDiv, Nat.reduceLeDiff, Nat.reduceEqDiff, Nat.reduceAdd, Nat.reduceMul, Nat.reduceSub, Nat.reduceLT, sw_nil, sw_int, sw_long, sw_ref, li, lo, nI_m1, ng_eq, nn_eq, en_eq, ng_le, ng_lt, Int32.neg_neg, nI_add, pk_mul, nI_clampO, nI_ltO, nI_leO, nI_eqO, nI_subO, nle_t, nle_f, nlt_t, nlt_f, neq_f, fx_2000010_0, fx_2000010_1, fx_2000010_4, fx_2000010_5, fx_2000010_6, fx_2000010_8, fx_2000010_10, fx_2000010_11, fx_2000010_12, fx_2000010_13, fx_2000010_14, fx_2000010_15, fx_2000010_16, fx_2000010_17, fx_2000010_18, fx_3000009_0, fx_5000007_0, fx_5000007_1, fx_5000007_2, fx_5000007_3, fx_7000001_0, fx_11000005_1, fx_11000005_2, fx_11000005_3, fx_11000005_4, fx_11000005_5, fx_11000005_6, fx_11000005_10, fx_11000005_11, fx_11000005_12, fx_20000002_0, fx_20000002_2, fx_20000002_3, fx_20000002_4, fx_25000005_1, fx_25000005_2, fx_25000005_3, fx_25000005_4, fx_25000005_5, fx_25000005_6, fx_25000005_10, fx_25000005_11, fx_25000005_12, fx_34000002_0, fx_34000002_2, fx_34000002_3, fx_34000002_4, fx_39000008_0, fx_41000006_0, fx_42002024_0, fx_42002024_1, fx_42002024_2, fx_42002024_3, fx_42002024_4, fx_42002024_5, fx_42002024_6, fx_42002024_7, fx_42002024_8, fx_42002024_9, fx_42002024_10, fx_42002024_11, fx_42002024_12, fx_42002024_13, fx_42002024_14, fx_42002024_15, fx_42002024_16, fx_42002024_17, fx_42002024_18, fx_42002024_19, fx_43000008_0, fx_45000008_0, fx_47000008_0, fx_49000008_0, fx_51000008_0, fx_53000008_0, fx_55000008_0, fx_57000008_0, fx_59000008_0, fx_61000008_0, fx_63000008_0, fx_65000008_0, fx_67000008_0, fx_69000008_0, fx_71000008_0, fx_73000008_0, fx_75000008_0, fx_77000008_0, fx_79000008_0, fx_81000008_0, fx_83000424_0, fx_83000424_1, fx_83000424_2, fx_83000424_3, fx_85000004_0, fx_85000004_1, fx_85000004_2, fx_85000004_3, fx_85000004_4, fx_85000004_5, fx_85000004_6, fx_85000004_10, fx_102000008_0, fx_104000008_0, fx_106000008_0, fx_108000008_0, fx_110000011_1, fx_110000011_4, fx_110000011_5, fx_110000011_6, fx_110000011_9, fx_110000011_10, fx_110000011_11, fx_110000011_12, fx_110000011_14, fx_110000011_15, fx_110000011_20, fx_110000011_21, fx_110000011_22, fx_110000011_23, fx_110000011_25, fx_110000011_26, fx_110000011_31, fx_110000011_32, fx_110000011_37, fx_110000011_38, fx_110000011_39, fx_110000011_40, c4, c6, shr_1, e1, e2, hlast, c1]
          · rw [if_neg hmb] at c1
            refine skip (fun k => by rcases k.2.2 with k' | k'; exact hne k'; exact hmb k') (fun Q => ?_)
            rw [r203_119]
            simp (disch := first | assumption | omega) only [r203_120, r203_121, r203_124, r203_127, r203_128, r203_129, r203_132, r203_135, r203_136, r203_137, r203_138, r203_139, r203_140, r203_143, r203_144, r203_147, r203_148, r203_149, r203_152, r203_153, r203_154, r203_155, r203_156, r203_157, r203_160, r203_182, r203_185, rI_wI, rL_wL, rR_wR, rI_wL, rI_wR, rL_wI, rL_wR, rR_wI, rR_wL, va_rf_some, va_rf_none, Option.toList_some, Option.toList_none, List.nil_append, List.cons_append, true_and, and_true, false_and, and_false, and_self, if_true, if_false, not_true_eq_false, not_false_eq_true, or_false, false_or, or_true, true_or, or_self, ite_true, ite_false, Option.some.injEq, reduceCtorEq, Nat.reduceMod, Nat.reduceDiv, Nat.reduceLeDiff, Nat.reduceEqDiff, Nat.reduceAdd, Nat.reduceMul, Nat.reduceSub, Nat.reduceLT, sw_nil, sw_int, sw_long, sw_ref, li, lo, nI_m1, ng_eq, nn_eq, en_eq, ng_le, ng_lt, Int32.neg_neg, nI_add, pk_mul, nI_clampO, nI_ltO, nI_leO, nI_eqO, nI_subO, nle_t, nle_f, nlt_t, nlt_f, neq_f, fx_2000010_0, fx_2000010_1, fx_2000010_4, fx_2000010_5, fx_2000010_6, fx_2000010_8, fx_2000010_10, fx_2000010_11, fx_2000010_12, fx_2000010_13, fx_2000010_14, fx_2000010_15, fx_2000010_16, fx_2000010_17, fx_2000010_18, fx_3000009_0, fx_5000007_0, fx_5000007_1, fx_5000007_2, fx_5000007_3, fx_7000001_0, fx_11000005_1, fx_11000005_2, fx_11000005_3, fx_11000005_4, fx_11000005_5, fx_11000005_6, fx_11000005_10, fx_11000005_11, fx_11000005_12, fx_20000002_0, fx_20000002_2, fx_20000002_3, fx_20000002_4, fx_25000005_1, fx_25000005_2, fx_25000005_3, fx_25000005_4, fx_25000005_5, fx_25000005_6, fx_25000005_10, fx_25000005_11, fx_25000005_12, fx_34000002_0, fx_34000002_2, fx_34000002_3, fx_34000002_4, fx_39000008_0, fx_41000006_0, fx_42002024_0, fx_42002024_1, fx_42002024_2, fx_42002024_3, fx_42002024_4, fx_42002024_5, fx_42002024_6, fx_42002024_7, fx_42002024_8, fx_42002024_9, fx_42002024_10, fx_42002024_11, fx_42002024_12, fx_42002024_13, fx_42002024_14, fx_42002024_15, fx_42002024_16, fx_42002024_17, fx_42002024_18, fx_42002024_19, fx_43000008_0, fx_45000008_0, fx_47000008_0, fx_49000008_0, fx_51000008_0, fx_53000008_0, fx_55000008_0, fx_57000008_0, fx_59000008_0, fx_61000008_0, fx_63000008_0, fx_65000008_0, fx_67000008_0, fx_69000008_0, fx_71000008_0, fx_73000008_0, fx_75000008_0, fx_77000008_0, fx_79000008_0, fx_81000008_0, fx_83000424_0, fx_83000424_1, fx_83000424_2, fx_83000424_3, fx_85000004_0, fx_85000004_1, fx_85000004_2, fx_85000004_3, fx_85000004_4, fx_85000004_5, fx_85000004_6, fx_85000004_10, fx_102000008_0, fx_104000008_0, fx_106000008_0, fx_108000008_0, fx_110000011_1, fx_110000011_4, fx_110000011_5, fx_110000011_6, fx_110000011_9, fx_110000011_10, fx_110000011_11, fx_110000011_12, fx_110000011_14, fx_110000011_15, fx_110000011_20, fx_110000011_21, fx_110000011_22, fx_110000011_23, fx_110000011_25, fx_110000011_26, fx_110000011_31, fx_110000011_32, fx_110000011_37, fx_110000011_38, fx_110000011_39, fx_110000011_40, c4, c6, shr_1, e1, e2, hlast, c1]
      · refine skip (fun k => k.2.1 ((sb2 p hp7).mp e2)) (fun Q => ?_)
        rw [r203_119]
        simp (disch := first | assumption | omega) only [r203_120, r203_121, r203_124, r203_127, r203_128, r203_129, r203_132, r203_135, r203_136, r203_137, r203_138, r203_139, r203_140, r203_182, r203_185, rI_wI, rL_wL, rR_wR, rI_wL, rI_wR, rL_wI, rL_wR, rR_wI, rR_wL, va_rf_some, va_rf_none, Option.toList_some, Option.toList_none, List.nil_append, List.cons_append, true_and, and_true, false_and, and_false, and_self, if_true, if_false, not_true_eq_false, not_false_eq_true, or_false, false_or, or_true, true_or, or_self, ite_true, ite_false, Option.some.injEq, reduceCtorEq, Nat.reduceMod, Nat.reduceDiv, Nat.reduceLeDiff, Nat.reduceEqDiff, Nat.reduceAdd, Nat.reduceMul, Nat.reduceSub, Nat.reduceLT, sw_nil, sw_int, sw_long, sw_ref, li, lo, nI_m1, ng_eq, nn_eq, en_eq, ng_le, ng_lt, Int32.neg_neg, nI_add, pk_mul, nI_clampO, nI_ltO, nI_leO, nI_eqO, nI_subO, nle_t, nle_f, nlt_t, nlt_f, neq_f, c4, c6, shr_1, e1, e2]
    · refine skip (fun k => by omega) (fun Q => ?_)
      rw [r203_119]
      simp (disch := first | assumption | omega) only [r203_120, r203_121, r203_124, r203_127, r203_128, r203_129, r203_132, r203_182, r203_185, rI_wI, rL_wL, rR_wR, rI_wL, rI_wR, rL_wI, rL_wR, rR_wI, rR_wL, va_rf_some, va_rf_none, Option.toList_some, Option.toList_none, List.nil_append, List.cons_append, true_and, and_true, false_and, and_false, and_self, if_true, if_false, not_true_eq_false, not_false_eq_true, or_false, false_or, or_true, true_or, or_self, ite_true, ite_false, Option.some.injEq, reduceCtorEq, Nat.reduceMod, Nat.reduceDiv, Nat.reduceLeDiff, Nat.reduceEqDiff, Nat.reduceAdd, Nat.reduceMul, Nat.reduceSub, Nat.reduceLT, sw_nil, sw_int, sw_long, sw_ref, li, lo, nI_m1, ng_eq, nn_eq, en_eq, ng_le, ng_lt, Int32.neg_neg, nI_add, pk_mul, nI_clampO, nI_ltO, nI_leO, nI_eqO, nI_subO, nle_t, nle_f, nlt_t, nlt_f, neq_f, c4, c6, e1]
theorem c203 (hK : OKA pa s un mk tp) : ∀ r, TO pa lw s un mk tp d r := by
  have hp0 := hK.1.1.1
  have hl := ln7 (s := s) hK.1
  intro r
  induction r with
  | zero =>
    intro pre μ acc cnt hpre hu hM hL h28 hO hA hc
    have hlen : pre.reverse.length = (ln pa s).length := by rw [List.length_reverse]; omega
    obtain ⟨ν, k1, k2, k3, k4, k5⟩ := c203_0 (d := d) hM hK hL h28 hlen (fun i hi => uR_el hp0 hu _ (List.mem_reverse.mp (gD_mem hi))) hO hA hc (v2 := some (.int (nI (sR pre))))
    rw [List.length_reverse] at k5
    refine ⟨ν, k1, fun i _ => k2 i, ?_, ?_, k5⟩
    · rw [orL]; exact k3
    · rw [orL]; exact k4
  | succ r ih =>
    intro pre μ acc cnt hpre hu hM hL h28 hO hA hc
    obtain ⟨ν, k1, k2, k3, k4, k5⟩ := c203_l hK ih hpre hu (pa 0) 0 μ acc cnt (by omega) hM hL h28 hO hA hc
    rw [← orF_0] at k3 k4
    have h27 := hL.1
    refine ⟨ν, k1, k2, k3, k4, fun Q => ?_⟩
    have hne : pre.length ≠ (ln pa s).length := by omega
    rw [show d + (r + 1) + 6 = d + r + 7 by omega]
    simp (disch := first | assumption | omega) only [r203_0, r203_1, r203_2, r203_5, r203_117, r203_118, rI_wI, rL_wL, rR_wR, rI_wL, rI_wR, rL_wI, rL_wR, rR_wI, rR_wL, va_rf_some, va_rf_none, Option.toList_some, Option.toList_none, List.nil_append, List.cons_append, true_and, and_true, false_and, and_false, and_self, if_true, if_false, not_true_eq_false, not_false_eq_true, or_false, false_or, or_true, true_or, or_self, ite_true, ite_false, Option.some.injEq, reduceCtorEq, Nat.reduceMod, Nat.reduceDiv, Nat.reduceLeDiff, Nat.reduceEqDiff, Nat.reduceAdd, Nat.reduceMul, Nat.reduceSub, Nat.reduceLT, sw_nil, sw_int, sw_long, sw_ref, li, lo, nI_m1, ng_eq, nn_eq, en_eq, ng_le, ng_lt, Int32.neg_neg, nI_add, pk_mul, nI_clampO, nI_ltO, nI_leO, nI_eqO, nI_subO, nle_t, nle_f, nlt_t, nlt_f, neq_f, h27, k5]
theorem c204 (hM : MH μ pa lw s un mk tp) (hK : OKA pa s un mk tp) : ∃ ν, MSc μ ν ∧ MLn ν (ln pa s) ∧ LR ν (ln pa s).length (lsA pa lw s) ∧ rI ν 110000011 33 = nI (orA pa s).length ∧ ∀ Q, R (d + 14) 204 0 [some (.ref 110000011)] [] μ Q = Q none ν := by
  have hl := ln7 (s := s) hK.1
  obtain ⟨ν, k1, k2, k3⟩ := fLn (d := d + 12) hM hK
  have hM1 := MSc_MH k1 hM
  have hF := hM1.1
  have h8 := MH_8 hM1
  let ν2 := wI (wI (wI ν 110000011 28 (fI (s 8))) 110000011 33 (nI 0)) 110000011 34 (nI 0)
  have hS : MSc ν ν2 := MSc_tr (fN_MSc ν (fI (s 8))) (MSc_tr (MSc_wI _ (nI 0) (mpn (by omega))) (MSc_wI _ (nI 0) (mpn (by omega))))
  have hL2 : MLn ν2 (ln pa s) := ⟨by show rI (wI (wI (wI ν 110000011 28 (fI (s 8))) 110000011 33 (nI 0)) 110000011 34 (nI 0)) _ _ = _; rw [rI_wI, if_neg (by decide), rI_wI, if_neg (by decide), rI_wI, if_neg (by decide)]; exact k2.1, fun i hi => by show rI (wI (wI (wI ν 110000011 28 (fI (s 8))) 110000011 33 (nI 0)) 110000011 34 (nI 0)) _ _ = _; rw [rI_wI, if_neg (by omega), rI_wI, if_neg (by omega), rI_wI, if_neg (by omega)]; exact k2.2 i hi⟩
  obtain ⟨ν3, n1, n2, n3, n4, n5⟩ := c203 (d := d + 7 - (ln pa s).length) (lw := lw) hK (ln pa s).length [] ν2 none 0 (by simp) trivial (MSc_MH hS hM1) hL2 (by show rI (wI (wI (wI ν 110000011 28 (fI (s 8))) 110000011 33 (nI 0)) 110000011 34 (nI 0)) _ _ = _; rw [rI_wI, if_neg (by decide), rI_wI, if_neg (by decide), rI_wI, if_pos ⟨rfl, rfl⟩]) (fun i hi => by simp at hi) ⟨fun _ => by show rI (wI (wI (wI ν 110000011 28 (fI (s 8))) 110000011 33 (nI 0)) 110000011 34 (nI 0)) _ _ = _; rw [rI_wI, if_pos ⟨rfl, rfl⟩], fun l a b q => by simp at q⟩ (by show rI (wI (wI (wI ν 110000011 28 (fI (s 8))) 110000011 33 (nI 0)) 110000011 34 (nI 0)) _ _ = _; rw [rI_wI, if_neg (by decide), rI_wI, if_pos ⟨rfl, rfl⟩])
  rw [Nat.zero_add] at n4
  refine ⟨ν3, MSc_tr k1 (MSc_tr hS (MO_MSc n1)), MO_MLn n1 hL2, n3, n4, fun Q => ?_⟩
  rw [show d + 7 - (ln pa s).length + (ln pa s).length + 6 = d + 13 by omega] at n5
  have n5' : ∀ Q, R (d + 13) 203 0 [some (.ref 110000011), some (.int (nI 0)), some (.int (nI 0)), none] [] (wI (wI (wI ν 110000011 28 (fI (s 8))) 110000011 33 (nI 0)) 110000011 34 (nI 0)) Q = Q none ν3 := n5
  simp (disch := first | assumption | omega) only [r204_0, r204_1, r204_4, r204_5, r204_6, r204_9, r204_11, r204_12, r204_15, r204_16, r204_17, r204_20, r204_21, r204_22, r204_25, r204_26, r204_27, r204_28, r204_31, rI_wI, rL_wL, rR_wR, rI_wL, rI_wR, rL_wI, rL_wR, rR_wI, rR_wL, va_rf_some, va_rf_none, Option.toList_some, Option.toList_none, List.nil_append, List.cons_append, true_and, and_true, false_and, and_false, and_self, if_true, if_false, not_true_eq_false, not_false_eq_true, or_false, false_or, or_true, true_or, or_self, ite_true, ite_false, Option.some.injEq, reduceCtorEq, Nat.reduceMod, Nat.reduceDiv, Nat.reduceLeDiff, Nat.reduceEqDiff, Nat.reduceAdd, Nat.reduceMul, Nat.reduceSub, Nat.reduceLT, sw_nil, sw_int, sw_long, sw_ref, li, lo, nI_m1, ng_eq, nn_eq, en_eq, ng_le, ng_lt, Int32.neg_neg, nI_add, pk_mul, nI_clampO, nI_ltO, nI_leO, nI_eqO, nI_subO, nle_t, nle_f, nlt_t, nlt_f, neq_f, fx_2000010_0, fx_2000010_1, fx_2000010_4, fx_2000010_5, fx_2000010_6, fx_2000010_8, fx_2000010_10, fx_2000010_11, fx_2000010_12, fx_2000010_13, fx_2000010_14, fx_2000010_15, fx_2000010_16, fx_2000010_17, fx_2000010_18, fx_3000009_0, fx_5000007_0, fx_5000007_1, fx_5000007_2, fx_5000007_3, fx_7000001_0, fx_11000005_1, fx_11000005_2, fx_11000005_3, fx_11000005_4, fx_11000005_5, fx_11000005_6, fx_11000005_10, fx_11000005_11, fx_11000005_12, fx_20000002_0, fx_20000002_2, fx_20000002_3, fx_20000002_4, fx_25000005_1, fx_25000005_2, fx_25000005_3, fx_25000005_4, fx_25000005_5, fx_25000005_6, fx_25000005_10, fx_25000005_11, fx_25000005_12, fx_34000002_0, fx_34000002_2, fx_34000002_3, fx_34000002_4, fx_39000008_0, fx_41000006_0, fx_42002024_0, fx_42002024_1, fx_42002024_2, fx_42002024_3, fx_42002024_4, fx_42002024_5, fx_42002024_6, fx_42002024_7, fx_42002024_8, fx_42002024_9, fx_42002024_10, fx_42002024_11, fx_42002024_12, fx_42002024_13, fx_42002024_14, fx_42002024_15, fx_42002024_16, fx_42002024_17, fx_42002024_18, fx_42002024_19, fx_43000008_0, fx_45000008_0, fx_47000008_0, fx_49000008_0, fx_51000008_0, fx_53000008_0, fx_55000008_0, fx_57000008_0, fx_59000008_0, fx_61000008_0, fx_63000008_0, fx_65000008_0, fx_67000008_0, fx_69000008_0, fx_71000008_0, fx_73000008_0, fx_75000008_0, fx_77000008_0, fx_79000008_0, fx_81000008_0, fx_83000424_0, fx_83000424_1, fx_83000424_2, fx_83000424_3, fx_85000004_0, fx_85000004_1, fx_85000004_2, fx_85000004_3, fx_85000004_4, fx_85000004_5, fx_85000004_6, fx_85000004_10, fx_102000008_0, fx_104000008_0, fx_106000008_0, fx_108000008_0, fx_110000011_1, fx_110000011_4, fx_110000011_5, fx_110000011_6, fx_110000011_9, fx_110000011_10, fx_110000011_11, fx_110000011_12, fx_110000011_14, fx_110000011_15, fx_110000011_20, fx_110000011_21, fx_110000011_22, fx_110000011_23, fx_110000011_25, fx_110000011_26, fx_110000011_31, fx_110000011_32, fx_110000011_37, fx_110000011_38, fx_110000011_39, fx_110000011_40, k3, h8, vnb0, n5']
theorem c206 (hM : MH μ pa lw s un mk tp) (hK : OKA pa s un mk tp) : ∃ ν, MSc μ ν ∧ ∀ Q, R (d + 15) 206 0 [some (.ref 110000011)] [] μ Q = Q (some (.int (nI (orA pa s).length))) ν := by
  obtain ⟨ν, k1, -, -, k4, k5⟩ := c204 (d := d) (MSc_MH (th_MSc μ) hM) hK
  refine ⟨ν, MSc_tr (th_MSc μ) k1, fun Q => ?_⟩
  simp (disch := first | assumption | omega) only [r206_0, r206_1, r206_2, r206_5, r206_6, r206_9, r206_10, r206_13, rI_wI, rL_wL, rR_wR, rI_wL, rI_wR, rL_wI, rL_wR, rR_wI, rR_wL, va_rf_some, va_rf_none, Option.toList_some, Option.toList_none, List.nil_append, List.cons_append, true_and, and_true, false_and, and_false, and_self, if_true, if_false, not_true_eq_false, not_false_eq_true, or_false, false_or, or_true, true_or, or_self, ite_true, ite_false, Option.some.injEq, reduceCtorEq, Nat.reduceMod, Nat.reduceDiv, Nat.reduceLeDiff, Nat.reduceEqDiff, Nat.reduceAdd, Nat.reduceMul, Nat.reduceSub, Nat.reduceLT, sw_nil, sw_int, sw_long, sw_ref, li, lo, nI_m1, ng_eq, nn_eq, en_eq, ng_le, ng_lt, Int32.neg_neg, nI_add, pk_mul, nI_clampO, nI_ltO, nI_leO, nI_eqO, nI_subO, nle_t, nle_f, nlt_t, nlt_f, neq_f, k5, k4]
theorem c205 (hM : MH μ pa lw s un mk tp) (hK : OKA pa s un mk tp) {w : Int32} : ∃ ν, MSc μ ν ∧ ∀ Q, R (d + 15) 205 0 [some (.ref 110000011), some (.int w)] [] μ Q = Q (some (.long (lsI pa lw s w))) ν := by
  have hl := ln7 (s := s) hK.1
  obtain ⟨ν, k1, k2, k3, k4, k5⟩ := c204 (d := d) (MSc_MH (th_MSc μ) hM) hK
  have hF := (MSc_MH k1 (MSc_MH (th_MSc μ) hM)).1
  have h27 := k2.1
  refine ⟨ν, MSc_tr (th_MSc μ) k1, fun Q => ?_⟩
  unfold lsI
  cases hls : lsA pa lw s with
  | none =>
    have h34 := k3.1 hls
    simp (disch := first | assumption | omega) only [r205_0, r205_1, r205_2, r205_5, r205_6, r205_9, r205_10, r205_13, r205_16, r205_17, r205_20, r205_21, r205_22, r205_23, r205_26, r205_27, r205_30, r205_33, r205_34, r205_35, r205_38, r205_39, r205_42, r205_45, r205_46, r205_47, r205_50, r205_51, r205_54, r205_57, r205_58, r205_61, r205_62, r205_63, r205_64, r205_65, r205_66, rI_wI, rL_wL, rR_wR, rI_wL, rI_wR, rL_wI, rL_wR, rR_wI, rR_wL, va_rf_some, va_rf_none, Option.toList_some, Option.toList_none, List.nil_append, List.cons_append, true_and, and_true, false_and, and_false, and_self, if_true, if_false, not_true_eq_false, not_false_eq_true, or_false, false_or, or_true, true_or, or_self, ite_true, ite_false, Option.some.injEq, reduceCtorEq, Nat.reduceMod, Nat.reduceDiv, Nat.reduceLeDiff, Nat.reduceEqDiff, Nat.reduceAdd, Nat.reduceMul, Nat.reduceSub, Nat.reduceLT, sw_nil, sw_int, sw_long, sw_ref, li, lo, nI_m1, ng_eq, nn_eq, en_eq, ng_le, ng_lt, Int32.neg_neg, nI_add, pk_mul, nI_clampO, nI_ltO, nI_leO, nI_eqO, nI_subO, nle_t, nle_f, nlt_t, nlt_f, neq_f, k5, h34, ll]
  | some lab =>
    obtain ⟨l, a, b⟩ := lab
    obtain ⟨f1, f2, f3, f4, -⟩ := k3.2 l a b hls
    obtain ⟨g1, g2, g3⟩ := ls_el hK hls
    rcases xcs w (2 + (ln pa s).length) (by omega) with z | z | ⟨j, z, rfl⟩
    · have e1 := xn_lt (k := 0) z (by omega)
      have e2 := xn_lt (k := 2) z (by omega)
      have e3 := xn_eq (k := 0) z (by omega)
      have e4 := xn_eq (k := 1) z (by omega)
      simp (disch := first | assumption | omega) only [r205_0, r205_1, r205_2, r205_5, r205_6, r205_9, r205_10, r205_13, r205_16, r205_17, r205_20, r205_21, r205_22, r205_23, r205_26, r205_27, r205_30, r205_33, r205_34, r205_35, r205_38, r205_39, r205_42, r205_45, r205_46, r205_47, r205_50, r205_51, r205_54, r205_57, r205_58, r205_61, r205_62, r205_63, r205_64, r205_65, r205_66, rI_wI, rL_wL, rR_wR, rI_wL, rI_wR, rL_wI, rL_wR, rR_wI, rR_wL, va_rf_some, va_rf_none, Option.toList_some, Option.toList_none, List.nil_append, List.cons_append, true_and, and_true, false_and, and_false, and_self, if_true, if_false, not_true_eq_false, not_false_eq_true, or_false, false_or, or_true, true_or, or_self, ite_true, ite_false, Option.some.injEq, reduceCtorEq, Nat.reduceMod, Nat.reduceDiv, Nat.reduceLeDiff, Nat.reduceEqDiff, Nat.reduceAdd, Nat.reduceMul, Nat.reduceSub, Nat.reduceLT, sw_nil, sw_int, sw_long, sw_ref, li, lo, nI_m1, ng_eq, nn_eq, en_eq, ng_le, ng_lt, Int32.neg_neg, nI_add, pk_mul, nI_clampO, nI_ltO, nI_leO, nI_eqO, nI_subO, nle_t, nle_f, nlt_t, nlt_f, neq_f, k5, f1, e1, e2, ll, rdI, ptI, e3, e4]
    · have e1 := xg_lt (k := 0) z (by omega) (by omega)
      have e2 := xg_lt (k := 2) z (by omega) (by omega)
      have e3 := xg_lt (k := 2 + (ln pa s).length) z (by omega) (Nat.le_refl _)
      simp (disch := first | assumption | omega) only [r205_0, r205_1, r205_2, r205_5, r205_6, r205_9, r205_10, r205_13, r205_16, r205_17, r205_20, r205_21, r205_22, r205_23, r205_26, r205_27, r205_30, r205_33, r205_34, r205_35, r205_38, r205_39, r205_42, r205_45, r205_46, r205_47, r205_50, r205_51, r205_54, r205_57, r205_58, r205_61, r205_62, r205_63, r205_64, r205_65, r205_66, rI_wI, rL_wL, rR_wR, rI_wL, rI_wR, rL_wI, rL_wR, rR_wI, rR_wL, va_rf_some, va_rf_none, Option.toList_some, Option.toList_none, List.nil_append, List.cons_append, true_and, and_true, false_and, and_false, and_self, if_true, if_false, not_true_eq_false, not_false_eq_true, or_false, false_or, or_true, true_or, or_self, ite_true, ite_false, Option.some.injEq, reduceCtorEq, Nat.reduceMod, Nat.reduceDiv, Nat.reduceLeDiff, Nat.reduceEqDiff, Nat.reduceAdd, Nat.reduceMul, Nat.reduceSub, Nat.reduceLT, sw_nil, sw_int, sw_long, sw_ref, li, lo, nI_m1, ng_eq, nn_eq, en_eq, ng_le, ng_lt, Int32.neg_neg, nI_add, pk_mul, nI_clampO, nI_ltO, nI_leO, nI_eqO, nI_subO, nle_t, nle_f, nlt_t, nlt_f, neq_f, k5, f1, e1, e2, e3, h27, ll]
    · rcases (show j = 0 ∨ j = 1 ∨ 2 ≤ j by omega) with e | e | e
      · subst e
        simp (disch := first | assumption | omega) only [r205_0, r205_1, r205_2, r205_5, r205_6, r205_9, r205_10, r205_13, r205_16, r205_17, r205_20, r205_21, r205_22, r205_23, r205_26, r205_27, r205_30, r205_33, r205_34, r205_35, r205_38, r205_39, r205_42, r205_45, r205_46, r205_47, r205_50, r205_51, r205_54, r205_57, r205_58, r205_61, r205_62, r205_63, r205_64, r205_65, r205_66, rI_wI, rL_wL, rR_wR, rI_wL, rI_wR, rL_wI, rL_wR, rR_wI, rR_wL, va_rf_some, va_rf_none, Option.toList_some, Option.toList_none, List.nil_append, List.cons_append, true_and, and_true, false_and, and_false, and_self, if_true, if_false, not_true_eq_false, not_false_eq_true, or_false, false_or, or_true, true_or, or_self, ite_true, ite_false, Option.some.injEq, reduceCtorEq, Nat.reduceMod, Nat.reduceDiv, Nat.reduceLeDiff, Nat.reduceEqDiff, Nat.reduceAdd, Nat.reduceMul, Nat.reduceSub, Nat.reduceLT, sw_nil, sw_int, sw_long, sw_ref, li, lo, nI_m1, ng_eq, nn_eq, en_eq, ng_le, ng_lt, Int32.neg_neg, nI_add, pk_mul, nI_clampO, nI_ltO, nI_leO, nI_eqO, nI_subO, nle_t, nle_f, nlt_t, nlt_f, neq_f, k5, f1, f2, f3, h27, ll, rdI, ptI]
      · subst e
        simp (disch := first | assumption | omega) only [r205_0, r205_1, r205_2, r205_5, r205_6, r205_9, r205_10, r205_13, r205_16, r205_17, r205_20, r205_21, r205_22, r205_23, r205_26, r205_27, r205_30, r205_33, r205_34, r205_35, r205_38, r205_39, r205_42, r205_45, r205_46, r205_47, r205_50, r205_51, r205_54, r205_57, r205_58, r205_61, r205_62, r205_63, r205_64, r205_65, r205_66, rI_wI, rL_wL, rR_wR, rI_wL, rI_wR, rL_wI, rL_wR, rR_wI, rR_wL, va_rf_some, va_rf_none, Option.toList_some, Option.toList_none, List.nil_append, List.cons_append, true_and, and_true, false_and, and_false, and_self, if_true, if_false, not_true_eq_false, not_false_eq_true, or_false, false_or, or_true, true_or, or_self, ite_true, ite_false, Option.some.injEq, reduceCtorEq, Nat.reduceMod, Nat.reduceDiv, Nat.reduceLeDiff, Nat.reduceEqDiff, Nat.reduceAdd, Nat.reduceMul, Nat.reduceSub, Nat.reduceLT, sw_nil, sw_int, sw_long, sw_ref, li, lo, nI_m1, ng_eq, nn_eq, en_eq, ng_le, ng_lt, Int32.neg_neg, nI_add, pk_mul, nI_clampO, nI_ltO, nI_leO, nI_eqO, nI_subO, nle_t, nle_f, nlt_t, nlt_f, neq_f, k5, f1, f2, f3, h27, ll, rdI, ptI]
      · have f5 := f4 (j - 2) (by omega)
        have hb : l.getD (j - 2) 0 < 7 := g2 _ (gD_mem (by omega))
        simp (disch := first | assumption | omega) only [r205_0, r205_1, r205_2, r205_5, r205_6, r205_9, r205_10, r205_13, r205_16, r205_17, r205_20, r205_21, r205_22, r205_23, r205_26, r205_27, r205_30, r205_33, r205_34, r205_35, r205_38, r205_39, r205_42, r205_45, r205_46, r205_47, r205_50, r205_51, r205_54, r205_57, r205_58, r205_61, r205_62, r205_63, r205_64, r205_65, r205_66, rI_wI, rL_wL, rR_wR, rI_wL, rI_wR, rL_wI, rL_wR, rR_wI, rR_wL, va_rf_some, va_rf_none, Option.toList_some, Option.toList_none, List.nil_append, List.cons_append, true_and, and_true, false_and, and_false, and_self, if_true, if_false, not_true_eq_false, not_false_eq_true, or_false, false_or, or_true, true_or, or_self, ite_true, ite_false, Option.some.injEq, reduceCtorEq, Nat.reduceMod, Nat.reduceDiv, Nat.reduceLeDiff, Nat.reduceEqDiff, Nat.reduceAdd, Nat.reduceMul, Nat.reduceSub, Nat.reduceLT, sw_nil, sw_int, sw_long, sw_ref, li, lo, nI_m1, ng_eq, nn_eq, en_eq, ng_le, ng_lt, Int32.neg_neg, nI_add, pk_mul, nI_clampO, nI_ltO, nI_leO, nI_eqO, nI_subO, nle_t, nle_f, nlt_t, nlt_f, neq_f, fx_2000010_0, fx_2000010_1, fx_2000010_4, fx_2000010_5, fx_2000010_6, fx_2000010_8, fx_2000010_10, fx_2000010_11, fx_2000010_12, fx_2000010_13, fx_2000010_14, fx_2000010_15, fx_2000010_16, fx_2000010_17, fx_2000010_18, fx_3000009_0, fx_5000007_0, fx_5000007_1, fx_5000007_2, fx_5000007_3, fx_7000001_0, fx_11000005_1, fx_11000005_2, fx_11000005_3, fx_11000005_4, fx_11000005_5, fx_11000005_6, fx_11000005_10, fx_11000005_11, fx_11000005_12, fx_20000002_0, fx_20000002_2, fx_20000002_3, fx_20000002_4, fx_25000005_1, fx_25000005_2, fx_25000005_3, fx_25000005_4, fx_25000005_5, fx_25000005_6, fx_25000005_10, fx_25000005_11, fx_25000005_12, fx_34000002_0, fx_34000002_2, fx_34000002_3, fx_34000002_4, fx_39000008_0, fx_41000006_0, fx_42002024_0, fx_42002024_1, fx_42002024_2, fx_42002024_3, fx_42002024_4, fx_42002024_5, fx_42002024_6, fx_42002024_7, fx_42002024_8, fx_42002024_9, fx_42002024_10, fx_42002024_11, fx_42002024_12, fx_42002024_13, fx_42002024_14, fx_42002024_15, fx_42002024_16, fx_42002024_17, fx_42002024_18, fx_42002024_19, fx_43000008_0, fx_45000008_0, fx_47000008_0, fx_49000008_0, fx_51000008_0, fx_53000008_0, fx_55000008_0, fx_57000008_0, fx_59000008_0, fx_61000008_0, fx_63000008_0, fx_65000008_0, fx_67000008_0, fx_69000008_0, fx_71000008_0, fx_73000008_0, fx_75000008_0, fx_77000008_0, fx_79000008_0, fx_81000008_0, fx_83000424_0, fx_83000424_1, fx_83000424_2, fx_83000424_3, fx_85000004_0, fx_85000004_1, fx_85000004_2, fx_85000004_3, fx_85000004_4, fx_85000004_5, fx_85000004_6, fx_85000004_10, fx_102000008_0, fx_104000008_0, fx_106000008_0, fx_108000008_0, fx_110000011_1, fx_110000011_4, fx_110000011_5, fx_110000011_6, fx_110000011_9, fx_110000011_10, fx_110000011_11, fx_110000011_12, fx_110000011_14, fx_110000011_15, fx_110000011_20, fx_110000011_21, fx_110000011_22, fx_110000011_23, fx_110000011_25, fx_110000011_26, fx_110000011_31, fx_110000011_32, fx_110000011_37, fx_110000011_38, fx_110000011_39, fx_110000011_40, k5, f1, f5, h27, nI_l]
end T1
