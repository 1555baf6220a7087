/-! WHEN TO HURRY -/
def hwW (c t w1 w2 w3 : Nat) : Nat := (c * t * w1 + c * (10 - t) * w2 + (10 - c) * t * w3) / (100 - (10 - c) * (10 - t))
def hwA (w v : Nat) (acc : Option (Nat × Nat)) : Option (Nat × Nat) := match acc with
  | none => some (w, v)
  | some (w', p) => if w' < w then some (w, v) else some (w', p)
def hwT (f : Nat → Nat) (t w1 w2 w3 : Nat) : Nat → Nat → Option (Nat × Nat) → Option (Nat × Nat)
  | 0, _, acc => acc
  | r + 1, v, acc => hwT f t w1 w2 w3 r (v + 1) (hwA (hwW (f v) t w1 w2 w3) v acc)
def hwI (acc : Option (Nat × Nat)) : Int32 := match acc with
  | none => -nI 1
  | some (w, _) => nI w
def hwP (acc : Option (Nat × Nat)) : Int32 := match acc with
  | none => -nI 1
  | some (_, p) => nI p
theorem hwI_n : hwI none = -nI 1 := rfl
theorem hwP_n : hwP none = -nI 1 := rfl
theorem hwI_s (w p : Nat) : hwI (some (w, p)) = nI w := rfl
theorem hwP_s (w p : Nat) : hwP (some (w, p)) = nI p := rfl
theorem hwA_n (w v : Nat) : hwA w v none = some (w, v) := rfl
def hwV (acc : Option (Nat × Nat)) : Nat := match acc with
  | none => 0
  | some (w, _) => w
def hwR (f : Nat → Nat) (t : Nat) (pv : Nat → Nat) : Nat → Nat
  | 0 => 0
  | b + 1 => hwV (hwT f t (pv b) (pv (b + 1)) (hwR f t pv b) 4 0 none)
def hwN (f : Nat → Nat → Nat) (t : Nat) : Nat → Nat → Nat
  | 0 => fun b => if b = 0 then 500000 else 1000000
  | a + 1 => hwR (f (a + 1)) t (hwN f t a)
def hwB (f : Nat → Nat → Nat) (t a b : Nat) : Option (Nat × Nat) := hwT (f (a + 1)) t (hwN f t a b) (hwN f t a (b + 1)) (hwN f t (a + 1) b) 4 0 none
theorem hwN_s (f : Nat → Nat → Nat) (t a b : Nat) : hwN f t (a + 1) (b + 1) = hwV (hwB f t a b) := rfl
theorem hwN_0 (f : Nat → Nat → Nat) (t a : Nat) : hwN f t (a + 1) 0 = 0 := rfl
def hwC (f : Nat → Nat → Nat) (t a b : Nat) : Int32 := match a, b with
  | 0, _ => -nI 1
  | _ + 1, 0 => -nI 1
  | a + 1, b + 1 => hwP (hwB f t a b)
theorem hw_id : ∀ c, c < 11 → ∀ t, t < 11 → c * t + c * (10 - t) + (10 - c) * t = 100 - (10 - c) * (10 - t) := by decide
theorem hw_d : ∀ c, c < 11 → ∀ t, t < 11 → 1 ≤ t → (10 - c) * (10 - t) ≤ 90 := by decide
theorem hw_n {c t w1 w2 w3 : Nat} (hc : c ≤ 10) (ht : t ≤ 10) (h1 : w1 ≤ 1000000) (h2 : w2 ≤ 1000000) (h3 : w3 ≤ 1000000) : c * t * w1 + c * (10 - t) * w2 + (10 - c) * t * w3 ≤ (100 - (10 - c) * (10 - t)) * 1000000 := by
  rw [← hw_id c (by omega) t (by omega), Nat.add_mul, Nat.add_mul]
  exact Nat.add_le_add (Nat.add_le_add (Nat.mul_le_mul_left _ h1) (Nat.mul_le_mul_left _ h2)) (Nat.mul_le_mul_left _ h3)
theorem hwW_le {c t w1 w2 w3 : Nat} (hc : c ≤ 10) (ht : t ≤ 10) (h1 : w1 ≤ 1000000) (h2 : w2 ≤ 1000000) (h3 : w3 ≤ 1000000) : hwW c t w1 w2 w3 ≤ 1000000 := Nat.div_le_of_le_mul (hw_n hc ht h1 h2 h3)
def hwOK (acc : Option (Nat × Nat)) : Prop := ∀ w p, acc = some (w, p) → w ≤ 1000000 ∧ p < 4
theorem hwA_ok {w v : Nat} {acc : Option (Nat × Nat)} (hw : w ≤ 1000000) (hv : v < 4) (h : hwOK acc) : hwOK (hwA w v acc) := by
  intro w' p e
  unfold hwA at e
  split at e
  · have e' : (w, v) = (w', p) := by simpa using e
    cases e'; exact ⟨hw, hv⟩
  · split at e
    · have e' : (w, v) = (w', p) := by simpa using e
      cases e'; exact ⟨hw, hv⟩
    · exact h w' p e
theorem hwA_so (w v : Nat) (acc : Option (Nat × Nat)) : ∃ w' p, hwA w v acc = some (w', p) := by
  match acc with
  | none => exact ⟨w, v, rfl⟩
  | some (w', p) =>
    unfold hwA
    by_cases h : w' < w
    · exact ⟨w, v, by show (if w' < w then _ else _) = _; rw [if_pos h]⟩
    · exact ⟨w', p, by show (if w' < w then _ else _) = _; rw [if_neg h]⟩
theorem hwT_ok {f : Nat → Nat} (hf : ∀ v, f v ≤ 10) {t w1 w2 w3 : Nat} (ht : t ≤ 10) (h1 : w1 ≤ 1000000) (h2 : w2 ≤ 1000000) (h3 : w3 ≤ 1000000) : ∀ (r v : Nat) (acc : Option (Nat × Nat)), v + r ≤ 4 → hwOK acc → hwOK (hwT f t w1 w2 w3 r v acc) ∧ (1 ≤ r → ∃ w p, hwT f t w1 w2 w3 r v acc = some (w, p)) := by
  intro r
  induction r with
  | zero => intro v acc _ h; exact ⟨h, fun q => by omega⟩
  | succ r ih =>
    intro v acc hv h
    rw [hwT]
    obtain ⟨k1, k2⟩ := ih (v + 1) (hwA (hwW (f v) t w1 w2 w3) v acc) (by omega) (hwA_ok (hwW_le (hf v) ht h1 h2 h3) (by omega) h)
    refine ⟨k1, fun _ => ?_⟩
    rcases Nat.eq_zero_or_pos r with e | e
    · subst e; rw [hwT]; exact hwA_so _ _ _
    · exact k2 e
theorem hwOK_n : hwOK none := fun _ _ e => by simp at e
theorem hwV_le {acc : Option (Nat × Nat)} (h : hwOK acc) : hwV acc ≤ 1000000 := by
  match acc, h with
  | none, _ => exact Nat.zero_le _
  | some (w, p), h => exact (h w p rfl).1
theorem hwN_le {f : Nat → Nat → Nat} (hf : ∀ a v, f a v ≤ 10) {t : Nat} (ht : t ≤ 10) : ∀ a b, hwN f t a b ≤ 1000000 := by
  intro a
  induction a with
  | zero => intro b; unfold hwN; split <;> omega
  | succ a ih =>
    intro b
    induction b with
    | zero => rw [hwN_0]; omega
    | succ b ihb =>
      rw [hwN_s]
      exact hwV_le (hwT_ok (hf (a + 1)) ht (ih b) (ih (b + 1)) ihb 4 0 none (by omega) hwOK_n).1
theorem hwB_so {f : Nat → Nat → Nat} (hf : ∀ a v, f a v ≤ 10) {t : Nat} (ht : t ≤ 10) (a b : Nat) : ∃ w p, hwB f t a b = some (w, p) ∧ w ≤ 1000000 ∧ p < 4 := by
  obtain ⟨k1, k2⟩ := hwT_ok (hf (a + 1)) ht (hwN_le hf ht a b) (hwN_le hf ht a (b + 1)) (hwN_le hf ht (a + 1) b) 4 0 none (by omega) hwOK_n
  obtain ⟨w, p, e⟩ := k2 (by omega)
  exact ⟨w, p, e, k1 w p e⟩
theorem hwI_V {f : Nat → Nat → Nat} (hf : ∀ a v, f a v ≤ 10) {t : Nat} (ht : t ≤ 10) (a b : Nat) : hwI (hwB f t a b) = nI (hwN f t (a + 1) (b + 1)) := by
  obtain ⟨w, p, e, -⟩ := hwB_so hf ht a b
  rw [hwN_s, e]
  rfl
theorem wIsame {μ : PM} {a j : Nat} {x y : Int32} : wI (wI μ a j x) a j y = wI μ a j y := by
  unfold wI
  refine Prod.ext ?_ rfl
  funext b k
  show (if a = b ∧ j = k then y else if a = b ∧ j = k then x else μ.1 b k) = if a = b ∧ j = k then y else μ.1 b k
  by_cases h : a = b ∧ j = k
  · rw [if_pos h, if_pos h]
  · rw [if_neg h, if_neg h, if_neg h]
section T1
variable {d : Nat} {μ : PM} {pa : Nat → Nat} {lw : LW} {s : Nat → Nat} {un : List (Nat → Nat)} {mk : Nat → Option (Nat → Nat)} {tp : List Nat}
/-- one pace -/
theorem c127_s (hF : FX μ) {f : Nat → Nat} (hf : ∀ v, f v ≤ 10) {a b t w1 w2 w3 : Nat} (ha : 1 ≤ a) (ha7 : a ≤ 6) (hb : 1 ≤ b) (hb9 : b ≤ 9) (ht : 1 ≤ t) (ht2 : t ≤ 10) (h1 : w1 ≤ 1000000) (h2 : w2 ≤ 1000000) (h3 : w3 ≤ 1000000)
    (e1 : rI μ 100007020 (a * 10 + b - 10 - 1) = nI w1) (e2 : rI μ 100007020 (a * 10 + b - 10) = nI w2) (e3 : rI μ 100007020 (a * 10 + b - 1) = nI w3) (ec : ∀ v, v < 4 → rI μ 96000720 v = nI (f v)) {v : Nat} {acc : Option (Nat × Nat)} (v8 v9 v10 v11 : Option Value) (hv : v < 4) (hok : hwOK acc) :
    ∃ w8 w9 w10 w11 : Option Value, ∀ Q, R d 127 66 [some (.ref 2000010), some (.int (nI a)), some (.int (nI b)), some (.int (nI t)), some (.int (nI (a * 10 + b))), some (.int (nI (a * 10 + b - 10))), some (.int (hwP acc)), some (.int (nI v)), v8, v9, v10, v11] [] (wI μ 100007020 (a * 10 + b) (hwI acc)) Q = R d 127 66 [some (.ref 2000010), some (.int (nI a)), some (.int (nI b)), some (.int (nI t)), some (.int (nI (a * 10 + b))), some (.int (nI (a * 10 + b - 10))), some (.int (hwP (hwA (hwW (f v) t w1 w2 w3) v acc))), some (.int (nI (v + 1))), w8, w9, w10, w11] [] (wI μ 100007020 (a * 10 + b) (hwI (hwA (hwW (f v) t w1 w2 w3) v acc))) Q := by
  have hv8 := hf v
  have n1 := hw_n hv8 ht2 h1 h2 h3
  have n2 := hw_d (f v) (by omega) t (by omega) ht
  have n3 := hwW_le hv8 ht2 h1 h2 h3
  have cv := ec v hv
  have hF1 : FX (wI μ 100007020 (a * 10 + b) (hwI acc)) := hF
  refine ⟨some (.int (nI (f v))), some (.int (nI (f v * t * w1 + f v * (10 - t) * w2 + (10 - f v) * t * w3))), some (.int (nI (100 - (10 - f v) * (10 - t)))), some (.int (nI (hwW (f v) t w1 w2 w3))), fun Q => ?_⟩
  have hd : nI (f v * t * w1 + f v * (10 - t) * w2 + (10 - f v) * t * w3) / nI (100 - (10 - f v) * (10 - t)) = nI (hwW (f v) t w1 w2 w3) := pk_div (by omega) (by omega) (by omega)
  generalize hw : hwW (f v) t w1 w2 w3 = w at *
  match acc, hok with
  | none, _ =>
    rw [r127_66, hwA_n, hwI_n, hwP_n, hwI_s, hwP_s]
    simp (disch := first | assumption | omega) only [r127_0, r127_1, r127_3, r127_4, r127_5, r127_6, r127_8, r127_9, r127_12, r127_13, r127_16, r127_17, r127_20, r127_22, r127_23, r127_26, r127_27, r127_30, r127_31, r127_34, r127_36, r127_39, r127_42, r127_43, r127_44, r127_45, r127_47, r127_49, r127_50, r127_52, r127_53, r127_55, r127_56, r127_59, r127_61, r127_62, r127_63, r127_64, r127_68, r127_69, r127_72, r127_73, r127_76, r127_78, r127_79, r127_81, r127_83, r127_84, r127_85, r127_86, r127_89, r127_91, r127_92, r127_93, r127_94, r127_95, r127_97, r127_99, r127_100, r127_101, r127_102, r127_103, r127_106, r127_108, r127_109, r127_110, r127_111, r127_113, r127_115, r127_116, r127_117, r127_118, r127_119, r127_122, r127_124, r127_125, r127_126, r127_127, r127_128, r127_129, r127_131, r127_133, r127_135, r127_137, r127_138, r127_140, r127_141, r127_142, r127_143, r127_144, r127_146, r127_148, r127_151, r127_153, r127_155, r127_156, r127_159, r127_160, r127_162, r127_164, r127_165, r127_168, r127_170, r127_171, r127_174, r127_175, r127_178, r127_180, r127_182, r127_183, r127_185, r127_187, r127_190, r127_193, r127_195, rI_wI, rL_wL, rR_wR, rI_wL, rI_wR, rL_wI, rL_wR, rR_wI, rR_wL, va_rf_some, va_rf_none, Option.toList_some, Option.toList_none, List.nil_append, List.cons_append, true_and, and_true, false_and, and_false, and_self, if_true, if_false, not_true_eq_false, not_false_eq_true, or_false, false_or, or_true, true_or, or_self, ite_true, ite_false, Option.some.injEq, reduceCtorEq, Nat.reduceMod, Nat.reduceDiv, Nat.reduceLeDiff, Nat.reduceEqDiff, Nat.reduceAdd, Nat.reduceMul, Nat.reduceSub, Nat.reduceLT, sw_nil, sw_int, sw_long, sw_ref, li, lo, nI_m1, ng_eq, nn_eq, en_eq, ng_le, ng_lt, Int32.neg_neg, nI_add, pk_mul, nI_clampO, nI_ltO, nI_leO, nI_eqO, nI_subO, nle_t, nle_f, nlt_t, nlt_f, neq_f, fx_2000010_0, fx_2000010_1, fx_2000010_4, fx_2000010_5, fx_2000010_6, fx_2000010_8, fx_2000010_10, fx_2000010_11, fx_2000010_12, fx_2000010_13, fx_2000010_14, fx_2000010_15, fx_2000010_16, fx_2000010_17, fx_2000010_18, fx_3000009_0, fx_5000007_0, fx_5000007_1, fx_5000007_2, fx_5000007_3, fx_7000001_0, fx_11000005_1, fx_11000005_2, fx_11000005_3, fx_11000005_4, fx_11000005_5, fx_11000005_6, fx_11000005_10, fx_11000005_11, fx_11000005_12, fx_20000002_0, fx_20000002_2, fx_20000002_3, fx_20000002_4, fx_25000005_1, fx_25000005_2, fx_25000005_3, fx_25000005_4, fx_25000005_5, fx_25000005_6, fx_25000005_10, fx_25000005_11, fx_25000005_12, fx_34000002_0, fx_34000002_2, fx_34000002_3, fx_34000002_4, fx_39000008_0, fx_41000006_0, fx_42002024_0, fx_42002024_1, fx_42002024_2, fx_42002024_3, fx_42002024_4, fx_42002024_5, fx_42002024_6, fx_42002024_7, fx_42002024_8, fx_42002024_9, fx_42002024_10, fx_42002024_11, fx_42002024_12, fx_42002024_13, fx_42002024_14, fx_42002024_15, fx_42002024_16, fx_42002024_17, fx_42002024_18, fx_42002024_19, fx_43000008_0, fx_45000008_0, fx_47000008_0, fx_49000008_0, fx_51000008_0, fx_53000008_0, fx_55000008_0, fx_57000008_0, fx_59000008_0, fx_61000008_0, fx_63000008_0, fx_65000008_0, fx_67000008_0, fx_69000008_0, fx_71000008_0, fx_73000008_0, fx_75000008_0, fx_77000008_0, fx_79000008_0, fx_81000008_0, fx_83000424_0, fx_83000424_1, fx_83000424_2, fx_83000424_3, fx_85000004_0, fx_85000004_1, fx_85000004_2, fx_85000004_3, fx_85000004_4, fx_85000004_5, fx_85000004_6, fx_85000004_10, fx_102000008_0, fx_104000008_0, fx_106000008_0, fx_108000008_0, fx_110000011_1, fx_110000011_4, fx_110000011_5, fx_110000011_6, fx_110000011_9, fx_110000011_10, fx_110000011_11, fx_110000011_12, fx_110000011_14, fx_110000011_15, fx_110000011_20, fx_110000011_21, fx_110000011_22, fx_110000011_23, fx_110000011_25, fx_110000011_26, fx_110000011_31, fx_110000011_32, fx_110000011_37, fx_110000011_38, fx_110000011_39, fx_110000011_40, cv, e1, e2, e3, hd, neq_f, wIsame]
  | some (w', p), hok =>
    obtain ⟨o1, o2⟩ := hok w' p rfl
    rw [r127_66]
    by_cases h : w' < w
    · have e : hwA w v (some (w', p)) = some (w, v) := by unfold hwA; show (if w' < w then _ else _) = _; rw [if_pos h]
      rw [e]
      simp only [hwI_s, hwP_s]
      simp (disch := first | assumption | omega) only [r127_0, r127_1, r127_3, r127_4, r127_5, r127_6, r127_8, r127_9, r127_12, r127_13, r127_16, r127_17, r127_20, r127_22, r127_23, r127_26, r127_27, r127_30, r127_31, r127_34, r127_36, r127_39, r127_42, r127_43, r127_44, r127_45, r127_47, r127_49, r127_50, r127_52, r127_53, r127_55, r127_56, r127_59, r127_61, r127_62, r127_63, r127_64, r127_68, r127_69, r127_72, r127_73, r127_76, r127_78, r127_79, r127_81, r127_83, r127_84, r127_85, r127_86, r127_89, r127_91, r127_92, r127_93, r127_94, r127_95, r127_97, r127_99, r127_100, r127_101, r127_102, r127_103, r127_106, r127_108, r127_109, r127_110, r127_111, r127_113, r127_115, r127_116, r127_117, r127_118, r127_119, r127_122, r127_124, r127_125, r127_126, r127_127, r127_128, r127_129, r127_131, r127_133, r127_135, r127_137, r127_138, r127_140, r127_141, r127_142, r127_143, r127_144, r127_146, r127_148, r127_151, r127_153, r127_155, r127_156, r127_159, r127_160, r127_162, r127_164, r127_165, r127_168, r127_170, r127_171, r127_174, r127_175, r127_178, r127_180, r127_182, r127_183, r127_185, r127_187, r127_190, r127_193, r127_195, rI_wI, rL_wL, rR_wR, rI_wL, rI_wR, rL_wI, rL_wR, rR_wI, rR_wL, va_rf_some, va_rf_none, Option.toList_some, Option.toList_none, List.nil_append, List.cons_append, true_and, and_true, false_and, and_false, and_self, if_true, if_false, not_true_eq_false, not_false_eq_true, or_false, false_or, or_true, true_or, or_self, ite_true, ite_false, Option.some.injEq, reduceCtorEq, Nat.reduceMod, Nat.reduceDiv, Nat.reduceLeDiff, Nat.reduceEqDiff, Nat.reduceAdd, Nat.reduceMul, Nat.reduceSub, Nat.reduceLT, sw_nil, sw_int, sw_long, sw_ref, li, lo, nI_m1, ng_eq, nn_eq, en_eq, ng_le, ng_lt, Int32.neg_neg, nI_add, pk_mul, nI_clampO, nI_ltO, nI_leO, nI_eqO, nI_subO, nle_t, nle_f, nlt_t, nlt_f, neq_f, fx_2000010_0, fx_2000010_1, fx_2000010_4, fx_2000010_5, fx_2000010_6, fx_2000010_8, fx_2000010_10, fx_2000010_11, fx_2000010_12, fx_2000010_13, fx_2000010_14, fx_2000010_15, fx_2000010_16, fx_2000010_17, fx_2000010_18, fx_3000009_0, fx_5000007_0, fx_5000007_1, fx_5000007_2, fx_5000007_3, fx_7000001_0, fx_11000005_1, fx_11000005_2, fx_11000005_3, fx_11000005_4, fx_11000005_5, fx_11000005_6, fx_11000005_10, fx_11000005_11, fx_11000005_12, fx_20000002_0, fx_20000002_2, fx_20000002_3, fx_20000002_4, fx_25000005_1, fx_25000005_2, fx_25000005_3, fx_25000005_4, fx_25000005_5, fx_25000005_6, fx_25000005_10, fx_25000005_11, fx_25000005_12, fx_34000002_0, fx_34000002_2, fx_34000002_3, fx_34000002_4, fx_39000008_0, fx_41000006_0, fx_42002024_0, fx_42002024_1, fx_42002024_2, fx_42002024_3, fx_42002024_4, fx_42002024_5, fx_42002024_6, fx_42002024_7, fx_42002024_8, fx_42002024_9, fx_42002024_10, fx_42002024_11, fx_42002024_12, fx_42002024_13, fx_42002024_14, fx_42002024_15, fx_42002024_16, fx_42002024_17, fx_42002024_18, fx_42002024_19, fx_43000008_0, fx_45000008_0, fx_47000008_0, fx_49000008_0, fx_51000008_0, fx_53000008_0, fx_55000008_0, fx_57000008_0, fx_59000008_0, fx_61000008_0, fx_63000008_0, fx_65000008_0, fx_67000008_0, fx_69000008_0, fx_71000008_0, fx_73000008_0, fx_75000008_0, fx_77000008_0, fx_79000008_0, fx_81000008_0, fx_83000424_0, fx_83000424_1, fx_83000424_2, fx_83000424_3, fx_85000004_0, fx_85000004_1, fx_85000004_2, fx_85000004_3, fx_85000004_4, fx_85000004_5, fx_85000004_6, fx_85000004_10, fx_102000008_0, fx_104000008_0, fx_106000008_0, fx_108000008_0, fx_110000011_1, fx_110000011_4, fx_110000011_5, fx_110000011_6, fx_110000011_9, fx_110000011_10, fx_110000011_11, fx_110000011_12, fx_110000011_14, fx_110000011_15, fx_110000011_20, fx_110000011_21, fx_110000011_22, fx_110000011_23, fx_110000011_25, fx_110000011_26, fx_110000011_31, fx_110000011_32, fx_110000011_37, fx_110000011_38, fx_110000011_39, fx_110000011_40, cv, e1, e2, e3, hd, neq_f, wIsame]
    · have e : hwA w v (some (w', p)) = some (w', p) := by unfold hwA; show (if w' < w then _ else _) = _; rw [if_neg h]
      rw [e]
      simp only [hwI_s, hwP_s]
      simp (disch := first | assumption | omega) only [r127_0, r127_1, r127_3, r127_4, r127_5, r127_6, r127_8, r127_9, r127_12, r127_13, r127_16, r127_17, r127_20, r127_22, r127_23, r127_26, r127_27, r127_30, r127_31, r127_34, r127_36, r127_39, r127_42, r127_43, r127_44, r127_45, r127_47, r127_49, r127_50, r127_52, r127_53, r127_55, r127_56, r127_59, r127_61, r127_62, r127_63, r127_64, r127_68, r127_69, r127_72, r127_73, r127_76, r127_78, r127_79, r127_81, r127_83, r127_84, r127_85, r127_86, r127_89, r127_91, r127_92, r127_93, r127_94, r127_95, r127_97, r127_99, r127_100, r127_101, r127_102, r127_103, r127_106, r127_108, r127_109, r127_110, r127_111, r127_113, r127_115, r127_116, r127_117, r127_118, r127_119, r127_122, r127_124, r127_125, r127_126, r127_127, r127_128, r127_129, r127_131, r127_133, r127_135, r127_137, r127_138, r127_140, r127_141, r127_142, r127_143, r127_144, r127_146, r127_148, r127_151, r127_153, r127_155, r127_156, r127_159, r127_160, r127_162, r127_164, r127_165, r127_168, r127_170, r127_171, r127_174, r127_175, r127_178, r127_180, r127_182, r127_183, r127_185, r127_187, r127_190, r127_193, r127_195, rI_wI, rL_wL, rR_wR, rI_wL, rI_wR, rL_wI, rL_wR, rR_wI, rR_wL, va_rf_some, va_rf_none, Option.toList_some, Option.toList_none, List.nil_append, List.cons_append, true_and, and_true, false_and, and_false, and_self, if_true, if_false, not_true_eq_false, not_false_eq_true, or_false, false_or, or_true, true_or, or_self, ite_true, ite_false, Option.some.injEq, reduceCtorEq, Nat.reduceMod, Nat.reduceDiv, Nat.reduceLeDiff, Nat.reduceEqDiff, Nat.reduceAdd, Nat.reduceMul, Nat.reduceSub, Nat.reduceLT, sw_nil, sw_int, sw_long, sw_ref, li, lo, nI_m1, ng_eq, nn_eq, en_eq, ng_le, ng_lt, Int32.neg_neg, nI_add, pk_mul, nI_clampO, nI_ltO, nI_leO, nI_eqO, nI_subO, nle_t, nle_f, nlt_t, nlt_f, neq_f, fx_2000010_0, fx_2000010_1, fx_2000010_4, fx_2000010_5, fx_2000010_6, fx_2000010_8, fx_2000010_10, fx_2000010_11, fx_2000010_12, fx_2000010_13, fx_2000010_14, fx_2000010_15, fx_2000010_16, fx_2000010_17, fx_2000010_18, fx_3000009_0, fx_5000007_0, fx_5000007_1, fx_5000007_2, fx_5000007_3, fx_7000001_0, fx_11000005_1, fx_11000005_2, fx_11000005_3, fx_11000005_4, fx_11000005_5, fx_11000005_6, fx_11000005_10, fx_11000005_11, fx_11000005_12, fx_20000002_0, fx_20000002_2, fx_20000002_3, fx_20000002_4, fx_25000005_1, fx_25000005_2, fx_25000005_3, fx_25000005_4, fx_25000005_5, fx_25000005_6, fx_25000005_10, fx_25000005_11, fx_25000005_12, fx_34000002_0, fx_34000002_2, fx_34000002_3, fx_34000002_4, fx_39000008_0, fx_41000006_0, fx_42002024_0, fx_42002024_1, fx_42002024_2, fx_42002024_3, fx_42002024_4, fx_42002024_5, fx_42002024_6, fx_42002024_7, fx_42002024_8, fx_42002024_9, fx_42002024_10, fx_42002024_11, fx_42002024_12, fx_42002024_13, fx_42002024_14, fx_42002024_15, fx_42002024_16, fx_42002024_17, fx_42002024_18, fx_42002024_19, fx_43000008_0, fx_45000008_0, fx_47000008_0, fx_49000008_0, fx_51000008_0, fx_53000008_0, fx_55000008_0, fx_57000008_0, fx_59000008_0, fx_61000008_0, fx_63000008_0, fx_65000008_0, fx_67000008_0, fx_69000008_0, fx_71000008_0, fx_73000008_0, fx_75000008_0, fx_77000008_0, fx_79000008_0, fx_81000008_0, fx_83000424_0, fx_83000424_1, fx_83000424_2, fx_83000424_3, fx_85000004_0, fx_85000004_1, fx_85000004_2, fx_85000004_3, fx_85000004_4, fx_85000004_5, fx_85000004_6, fx_85000004_10, fx_102000008_0, fx_104000008_0, fx_106000008_0, fx_108000008_0, fx_110000011_1, fx_110000011_4, fx_110000011_5, fx_110000011_6, fx_110000011_9, fx_110000011_10, fx_110000011_11, fx_110000011_12, fx_110000011_14, fx_110000011_15, fx_110000011_20, fx_110000011_21, fx_110000011_22, fx_110000011_23, fx_110000011_25, fx_110000011_26, fx_110000011_31, fx_110000011_32, fx_110000011_37, fx_110000011_38, fx_110000011_39, fx_110000011_40, cv, e1, e2, e3, hd, neq_f, wIsame]
theorem c127_l (hF : FX μ) {f : Nat → Nat} (hf : ∀ v, f v ≤ 10) {a b t w1 w2 w3 : Nat} (ha : 1 ≤ a) (ha7 : a ≤ 6) (hb : 1 ≤ b) (hb9 : b ≤ 9) (ht : 1 ≤ t) (ht2 : t ≤ 10) (h1 : w1 ≤ 1000000) (h2 : w2 ≤ 1000000) (h3 : w3 ≤ 1000000)
    (e1 : rI μ 100007020 (a * 10 + b - 10 - 1) = nI w1) (e2 : rI μ 100007020 (a * 10 + b - 10) = nI w2) (e3 : rI μ 100007020 (a * 10 + b - 1) = nI w3) (ec : ∀ v, v < 4 → rI μ 96000720 v = nI (f v)) : ∀ (r v : Nat) (acc : Option (Nat × Nat)) (v8 v9 v10 v11 : Option Value), v + r = 4 → hwOK acc →
    ∀ Q, R d 127 66 [some (.ref 2000010), some (.int (nI a)), some (.int (nI b)), some (.int (nI t)), some (.int (nI (a * 10 + b))), some (.int (nI (a * 10 + b - 10))), some (.int (hwP acc)), some (.int (nI v)), v8, v9, v10, v11] [] (wI μ 100007020 (a * 10 + b) (hwI acc)) Q = Q (some (.int (hwP (hwT f t w1 w2 w3 r v acc)))) (wI μ 100007020 (a * 10 + b) (hwI (hwT f t w1 w2 w3 r v acc))) := by
  intro r
  induction r with
  | zero =>
    intro v acc v8 v9 v10 v11 hv hok Q
    rw [r127_66, hwT]
    simp (disch := first | assumption | omega) only [r127_0, r127_1, r127_3, r127_4, r127_5, r127_6, r127_8, r127_9, r127_12, r127_13, r127_16, r127_17, r127_20, r127_22, r127_23, r127_26, r127_27, r127_30, r127_31, r127_34, r127_36, r127_39, r127_42, r127_43, r127_44, r127_45, r127_47, r127_49, r127_50, r127_52, r127_53, r127_55, r127_56, r127_59, r127_61, r127_62, r127_63, r127_64, r127_68, r127_69, r127_72, r127_73, r127_76, r127_78, r127_79, r127_81, r127_83, r127_84, r127_85, r127_86, r127_89, r127_91, r127_92, r127_93, r127_94, r127_95, r127_97, r127_99, r127_100, r127_101, r127_102, r127_103, r127_106, r127_108, r127_109, r127_110, r127_111, r127_113, r127_115, r127_116, r127_117, r127_118, r127_119, r127_122, r127_124, r127_125, r127_126, r127_127, r127_128, r127_129, r127_131, r127_133, r127_135, r127_137, r127_138, r127_140, r127_141, r127_142, r127_143, r127_144, r127_146, r127_148, r127_151, r127_153, r127_155, r127_156, r127_159, r127_160, r127_162, r127_164, r127_165, r127_168, r127_170, r127_171, r127_174, r127_175, r127_178, r127_180, r127_182, r127_183, r127_185, r127_187, r127_190, r127_193, r127_195, rI_wI, rL_wL, rR_wR, rI_wL, rI_wR, rL_wI, rL_wR, rR_wI, rR_wL, va_rf_some, va_rf_none, Option.toList_some, Option.toList_none, List.nil_append, List.cons_append, true_and, and_true, false_and, and_false, and_self, if_true, if_false, not_true_eq_false, not_false_eq_true, or_false, false_or, or_true, true_or, or_self, ite_true, ite_false, Option.some.injEq, reduceCtorEq, Nat.reduceMod, Nat.reduceDiv, Nat.reduceLeDiff, Nat.reduceEqDiff, Nat.reduceAdd, Nat.reduceMul, Nat.reduceSub, Nat.reduceLT, sw_nil, sw_int, sw_long, sw_ref, li, lo, nI_m1, ng_eq, nn_eq, en_eq, ng_le, ng_lt, Int32.neg_neg, nI_add, pk_mul, nI_clampO, nI_ltO, nI_leO, nI_eqO, nI_subO, nle_t, nle_f, nlt_t, nlt_f, neq_f]
  | succ r ih =>
    intro v acc v8 v9 v10 v11 hv hok Q
    obtain ⟨w8, w9, w10, w11, k⟩ := c127_s (d := d) hF hf ha ha7 hb hb9 ht ht2 h1 h2 h3 e1 e2 e3 ec v8 v9 v10 v11 (show v < 4 by omega) hok
    rw [k, hwT]
    exact ih _ _ _ _ _ _ (by omega) (hwA_ok (hwW_le (hf v) ht2 h1 h2 h3) (by omega) hok) Q
end T1
