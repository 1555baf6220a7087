/-! THE LAWS' CODES: how a run of codes is worked out, on both sides -/
def wA (μ : PM) (a : Nat) (f : Nat → Int32) : PM := (fun b k => if a = b then f k else μ.1 b k, μ.2)
theorem rI_wA {μ : PM} {a b k : Nat} {f : Nat → Int32} : rI (wA μ a f) b k = if a = b then f k else rI μ b k := rfl
theorem rL_wA {μ : PM} {a b k : Nat} {f : Nat → Int32} : rL (wA μ a f) b k = rL μ b k := rfl
theorem rR_wA {μ : PM} {a b k : Nat} {f : Nat → Int32} : rR (wA μ a f) b k = rR μ b k := rfl
theorem aS_wA {μ : PM} {a : Nat} {f : Nat → Int32} : aS (wA μ a f) = aS μ := rfl
theorem wA_eta (μ : PM) (a : Nat) : wA μ a (fun k => rI μ a k) = μ := by
  unfold wA rI
  congr 1
  funext b k
  by_cases h : a = b
  · rw [if_pos h, h]
  · rw [if_neg h]
theorem wI_wA {μ : PM} {a k : Nat} {f : Nat → Int32} {x : Int32} : wI (wA μ a f) a k x = wA μ a (upd f k x) := by
  unfold wI wA upd
  congr 1
  funext b j
  by_cases h : a = b
  · subst h
    by_cases h2 : k = j
    · simp [h2]
    · simp [h2, Ne.symm h2]
  · simp [h]
theorem upd_at (f : Nat → Int32) (k : Nat) (x : Int32) (j : Nat) : upd f k x j = if j = k then x else f j := rfl
def jn (o : Nat) (x y : Int32) : Int32 := match o with
  | 4 => x + y
  | 5 => x - y
  | 6 => x * y
  | 7 => if x < y then nI 1 else nI 0
  | 8 => if x = y then nI 1 else nI 0
  | 9 => if ¬ x = nI 0 ∧ ¬ y = nI 0 then nI 1 else nI 0
  | _ => if ¬ x = nI 0 ∨ ¬ y = nI 0 then nI 1 else nI 0
def ev1 (f : Nat → Int32) (s : (Nat → Int32) × Nat) (c : Nat × Nat) : (Nat → Int32) × Nat := match c.1 with
  | 1 => (upd s.1 s.2 (nI c.2), s.2 + 1)
  | 2 => (upd s.1 s.2 (f c.2), s.2 + 1)
  | 3 => (upd s.1 (s.2 - 1) (if s.1 (s.2 - 1) = nI 0 then nI 1 else nI 0), s.2)
  | o => (upd s.1 (s.2 - 2) (jn o (s.1 (s.2 - 2)) (s.1 (s.2 - 1))), s.2 - 1)
def evs (f : Nat → Int32) (l : List (Nat × Nat)) (s : (Nat → Int32) × Nat) : (Nat → Int32) × Nat := l.foldl (ev1 f) s
/-- the run's height stays between 1 and 64, and ends with 1; its ops and args are in range -/
def hok : List (Nat × Nat) → Nat → Prop
  | [], h => h = 1
  | (o, a) :: l, h => (o = 1 ∧ a < 10000 ∧ h < 64 ∧ hok l (h + 1)) ∨ (o = 2 ∧ a < 5 ∧ h < 64 ∧ hok l (h + 1)) ∨ (o = 3 ∧ 1 ≤ h ∧ hok l h) ∨ (4 ≤ o ∧ o ≤ 10 ∧ 2 ≤ h ∧ hok l (h - 1))
def vE (f : Nat → Int32) (l : List (Nat × Nat)) : Int32 := (evs f l (fun _ => nI 0, 0)).1 0
theorem ev1_eq {f : Nat → Int32} {s t : Nat → Int32} {h : Nat} {c : Nat × Nat} (hs : ∀ i, i < h → s i = t i) (hh : c.1 = 1 ∨ c.1 = 2 ∨ (c.1 = 3 ∧ 1 ≤ h) ∨ (4 ≤ c.1 ∧ 2 ≤ h)) : (ev1 f (s, h) c).2 = (ev1 f (t, h) c).2 ∧ ∀ i, i < (ev1 f (s, h) c).2 → (ev1 f (s, h) c).1 i = (ev1 f (t, h) c).1 i := by
  unfold ev1
  split
  · refine ⟨rfl, fun i hi => ?_⟩
    simp only [upd_at]
    split
    · rfl
    · exact hs i (by simp only at hi; omega)
  · refine ⟨rfl, fun i hi => ?_⟩
    simp only [upd_at]
    split
    · rfl
    · exact hs i (by simp only at hi; omega)
  · refine ⟨rfl, fun i hi => ?_⟩
    simp only [upd_at]
    simp only at hi
    simp only [hs (h - 1) (by omega)]
    split
    · rfl
    · exact hs i hi
  · refine ⟨rfl, fun i hi => ?_⟩
    simp only [upd_at]
    simp only at hi
    have h2 : 2 ≤ h := by omega
    simp only [hs (h - 1) (by omega), hs (h - 2) (by omega)]
    split
    · rfl
    · exact hs i (by omega)
theorem evs_eq (f : Nat → Int32) : ∀ (l : List (Nat × Nat)) (s t : Nat → Int32) (h : Nat), (∀ i, i < h → s i = t i) → hok l h → (evs f l (s, h)).1 0 = (evs f l (t, h)).1 0 := by
  intro l
  induction l with
  | nil => intro s t h hs hk; exact hs 0 (by unfold hok at hk; omega)
  | cons c l ih =>
    intro s t h hs hk
    obtain ⟨o, a⟩ := c
    have e : ∀ q : (Nat → Int32) × Nat, evs f ((o, a) :: l) q = evs f l (ev1 f q (o, a)) := fun q => rfl
    rw [e, e]
    have hh : o = 1 ∨ o = 2 ∨ (o = 3 ∧ 1 ≤ h) ∨ (4 ≤ o ∧ 2 ≤ h) := by
      unfold hok at hk
      omega
    obtain ⟨e1, e2⟩ := ev1_eq (f := f) (c := (o, a)) hs hh
    have e3 : ev1 f (t, h) (o, a) = ((ev1 f (t, h) (o, a)).1, (ev1 f (s, h) (o, a)).2) := by rw [e1]
    rw [e3]
    refine ih _ _ _ e2 ?_
    unfold hok at hk
    rcases hk with ⟨rfl, -, -, hk⟩ | ⟨rfl, -, -, hk⟩ | ⟨rfl, -, hk⟩ | ⟨h4, h10, -, hk⟩
    · exact hk
    · exact hk
    · exact hk
    · have : (ev1 f (s, h) (o, a)).2 = h - 1 := by
        unfold ev1
        split <;> first | rfl | (simp only at *; omega)
      show hok l (ev1 f (s, h) (o, a)).2
      rw [this]
      exact hk
theorem vE_any {f : Nat → Int32} {l : List (Nat × Nat)} (s : Nat → Int32) (hk : hok l 0) : (evs f l (s, 0)).1 0 = vE f l := evs_eq f l s _ 0 (fun i hi => absurd hi (Nat.not_lt_zero i)) hk
section T1
variable {d : Nat} {μ : PM} {Q : Option Value → PM → Prop}
theorem c171 {o : Nat} {x z : Int32} (h4 : 4 ≤ o) (h10 : o ≤ 10) : R d 171 0 [some (.int (nI o)), some (.int x), some (.int z)] [] μ Q = Q (some (.int (jn o x z))) μ := by
  obtain ⟨k, rfl⟩ := Nat.exists_eq_add_of_le h4
  have hk : k < 7 := by omega
  match k, hk with
  | 0, _ => simp (disch := omega) only [r171_0, r171_1, r171_40, r171_41, r171_42, r171_43, r171_44, r171_45, r171_46, r171_47, r171_48, r171_49, r171_50, r171_51, r171_52, r171_53, r171_54, r171_57, r171_58, r171_61, r171_62, r171_63, r171_64, r171_65, r171_68, r171_69, r171_72, r171_73, r171_74, r171_75, r171_78, r171_79, r171_82, r171_83, r171_86, r171_87, r171_88, r171_89, r171_92, r171_93, r171_96, r171_97, r171_100, r171_101, rI_wI, rL_wL, rR_wR, rI_wL, rI_wR, rL_wI, rL_wR, rR_wI, rR_wL, va_rf_some, va_rf_none, Option.toList_some, Option.toList_none, List.nil_append, List.cons_append, true_and, and_true, false_and, and_false, and_self, if_true, if_false, not_true_eq_false, not_false_eq_true, or_false, false_or, or_true, true_or, or_self, ite_true, ite_false, Option.some.injEq, reduceCtorEq, Nat.reduceMod, Nat.reduceDiv, Nat.reduceLeDiff, Nat.reduceEqDiff, Nat.reduceAdd, Nat.reduceMul, Nat.reduceSub, Nat.reduceLT, sw_nil, sw_int, sw_long, sw_ref, li, nI_m1, nI_add, pk_mul, nI_clampO, nI_ltO, nI_leO, nI_eqO, nI_subO, nle_t, nle_f, nlt_t, nlt_f, neq_f]; rfl
  | 1, _ => simp (disch := omega) only [r171_0, r171_1, r171_40, r171_41, r171_42, r171_43, r171_44, r171_45, r171_46, r171_47, r171_48, r171_49, r171_50, r171_51, r171_52, r171_53, r171_54, r171_57, r171_58, r171_61, r171_62, r171_63, r171_64, r171_65, r171_68, r171_69, r171_72, r171_73, r171_74, r171_75, r171_78, r171_79, r171_82, r171_83, r171_86, r171_87, r171_88, r171_89, r171_92, r171_93, r171_96, r171_97, r171_100, r171_101, rI_wI, rL_wL, rR_wR, rI_wL, rI_wR, rL_wI, rL_wR, rR_wI, rR_wL, va_rf_some, va_rf_none, Option.toList_some, Option.toList_none, List.nil_append, List.cons_append, true_and, and_true, false_and, and_false, and_self, if_true, if_false, not_true_eq_false, not_false_eq_true, or_false, false_or, or_true, true_or, or_self, ite_true, ite_false, Option.some.injEq, reduceCtorEq, Nat.reduceMod, Nat.reduceDiv, Nat.reduceLeDiff, Nat.reduceEqDiff, Nat.reduceAdd, Nat.reduceMul, Nat.reduceSub, Nat.reduceLT, sw_nil, sw_int, sw_long, sw_ref, li, nI_m1, nI_add, pk_mul, nI_clampO, nI_ltO, nI_leO, nI_eqO, nI_subO, nle_t, nle_f, nlt_t, nlt_f, neq_f]; rfl
  | 2, _ => simp (disch := omega) only [r171_0, r171_1, r171_40, r171_41, r171_42, r171_43, r171_44, r171_45, r171_46, r171_47, r171_48, r171_49, r171_50, r171_51, r171_52, r171_53, r171_54, r171_57, r171_58, r171_61, r171_62, r171_63, r171_64, r171_65, r171_68, r171_69, r171_72, r171_73, r171_74, r171_75, r171_78, r171_79, r171_82, r171_83, r171_86, r171_87, r171_88, r171_89, r171_92, r171_93, r171_96, r171_97, r171_100, r171_101, rI_wI, rL_wL, rR_wR, rI_wL, rI_wR, rL_wI, rL_wR, rR_wI, rR_wL, va_rf_some, va_rf_none, Option.toList_some, Option.toList_none, List.nil_append, List.cons_append, true_and, and_true, false_and, and_false, and_self, if_true, if_false, not_true_eq_false, not_false_eq_true, or_false, false_or, or_true, true_or, or_self, ite_true, ite_false, Option.some.injEq, reduceCtorEq, Nat.reduceMod, Nat.reduceDiv, Nat.reduceLeDiff, Nat.reduceEqDiff, Nat.reduceAdd, Nat.reduceMul, Nat.reduceSub, Nat.reduceLT, sw_nil, sw_int, sw_long, sw_ref, li, nI_m1, nI_add, pk_mul, nI_clampO, nI_ltO, nI_leO, nI_eqO, nI_subO, nle_t, nle_f, nlt_t, nlt_f, neq_f]; rfl
  | 3, _ =>
    simp (disch := omega) only [r171_0, r171_1, r171_40, r171_41, r171_42, r171_43, r171_44, r171_45, r171_46, r171_47, r171_48, r171_49, r171_50, r171_51, r171_52, r171_53, r171_54, r171_57, r171_58, r171_61, r171_62, r171_63, r171_64, r171_65, r171_68, r171_69, r171_72, r171_73, r171_74, r171_75, r171_78, r171_79, r171_82, r171_83, r171_86, r171_87, r171_88, r171_89, r171_92, r171_93, r171_96, r171_97, r171_100, r171_101, rI_wI, rL_wL, rR_wR, rI_wL, rI_wR, rL_wI, rL_wR, rR_wI, rR_wL, va_rf_some, va_rf_none, Option.toList_some, Option.toList_none, List.nil_append, List.cons_append, true_and, and_true, false_and, and_false, and_self, if_true, if_false, not_true_eq_false, not_false_eq_true, or_false, false_or, or_true, true_or, or_self, ite_true, ite_false, Option.some.injEq, reduceCtorEq, Nat.reduceMod, Nat.reduceDiv, Nat.reduceLeDiff, Nat.reduceEqDiff, Nat.reduceAdd, Nat.reduceMul, Nat.reduceSub, Nat.reduceLT, sw_nil, sw_int, sw_long, sw_ref, li, nI_m1, nI_add, pk_mul, nI_clampO, nI_ltO, nI_leO, nI_eqO, nI_subO, nle_t, nle_f, nlt_t, nlt_f, neq_f]
    by_cases h : x < z
    · have h2 : ¬ z ≤ x := Int32.not_le.mpr h
      simp [jn, h, h2]
    · have h2 : z ≤ x := Int32.not_lt.mp h
      simp [jn, h, h2]
  | 4, _ => simp (disch := omega) only [r171_0, r171_1, r171_40, r171_41, r171_42, r171_43, r171_44, r171_45, r171_46, r171_47, r171_48, r171_49, r171_50, r171_51, r171_52, r171_53, r171_54, r171_57, r171_58, r171_61, r171_62, r171_63, r171_64, r171_65, r171_68, r171_69, r171_72, r171_73, r171_74, r171_75, r171_78, r171_79, r171_82, r171_83, r171_86, r171_87, r171_88, r171_89, r171_92, r171_93, r171_96, r171_97, r171_100, r171_101, rI_wI, rL_wL, rR_wR, rI_wL, rI_wR, rL_wI, rL_wR, rR_wI, rR_wL, va_rf_some, va_rf_none, Option.toList_some, Option.toList_none, List.nil_append, List.cons_append, true_and, and_true, false_and, and_false, and_self, if_true, if_false, not_true_eq_false, not_false_eq_true, or_false, false_or, or_true, true_or, or_self, ite_true, ite_false, Option.some.injEq, reduceCtorEq, Nat.reduceMod, Nat.reduceDiv, Nat.reduceLeDiff, Nat.reduceEqDiff, Nat.reduceAdd, Nat.reduceMul, Nat.reduceSub, Nat.reduceLT, sw_nil, sw_int, sw_long, sw_ref, li, nI_m1, nI_add, pk_mul, nI_clampO, nI_ltO, nI_leO, nI_eqO, nI_subO, nle_t, nle_f, nlt_t, nlt_f, neq_f]; by_cases h : x = z <;> simp [jn, h]
  | 5, _ => simp (disch := omega) only [r171_0, r171_1, r171_40, r171_41, r171_42, r171_43, r171_44, r171_45, r171_46, r171_47, r171_48, r171_49, r171_50, r171_51, r171_52, r171_53, r171_54, r171_57, r171_58, r171_61, r171_62, r171_63, r171_64, r171_65, r171_68, r171_69, r171_72, r171_73, r171_74, r171_75, r171_78, r171_79, r171_82, r171_83, r171_86, r171_87, r171_88, r171_89, r171_92, r171_93, r171_96, r171_97, r171_100, r171_101, rI_wI, rL_wL, rR_wR, rI_wL, rI_wR, rL_wI, rL_wR, rR_wI, rR_wL, va_rf_some, va_rf_none, Option.toList_some, Option.toList_none, List.nil_append, List.cons_append, true_and, and_true, false_and, and_false, and_self, if_true, if_false, not_true_eq_false, not_false_eq_true, or_false, false_or, or_true, true_or, or_self, ite_true, ite_false, Option.some.injEq, reduceCtorEq, Nat.reduceMod, Nat.reduceDiv, Nat.reduceLeDiff, Nat.reduceEqDiff, Nat.reduceAdd, Nat.reduceMul, Nat.reduceSub, Nat.reduceLT, sw_nil, sw_int, sw_long, sw_ref, li, nI_m1, nI_add, pk_mul, nI_clampO, nI_ltO, nI_leO, nI_eqO, nI_subO, nle_t, nle_f, nlt_t, nlt_f, neq_f]; by_cases h : x = nI 0 <;> by_cases h2 : z = nI 0 <;> simp [jn, h, h2]
  | 6, _ => simp (disch := omega) only [r171_0, r171_1, r171_40, r171_41, r171_42, r171_43, r171_44, r171_45, r171_46, r171_47, r171_48, r171_49, r171_50, r171_51, r171_52, r171_53, r171_54, r171_57, r171_58, r171_61, r171_62, r171_63, r171_64, r171_65, r171_68, r171_69, r171_72, r171_73, r171_74, r171_75, r171_78, r171_79, r171_82, r171_83, r171_86, r171_87, r171_88, r171_89, r171_92, r171_93, r171_96, r171_97, r171_100, r171_101, rI_wI, rL_wL, rR_wR, rI_wL, rI_wR, rL_wI, rL_wR, rR_wI, rR_wL, va_rf_some, va_rf_none, Option.toList_some, Option.toList_none, List.nil_append, List.cons_append, true_and, and_true, false_and, and_false, and_self, if_true, if_false, not_true_eq_false, not_false_eq_true, or_false, false_or, or_true, true_or, or_self, ite_true, ite_false, Option.some.injEq, reduceCtorEq, Nat.reduceMod, Nat.reduceDiv, Nat.reduceLeDiff, Nat.reduceEqDiff, Nat.reduceAdd, Nat.reduceMul, Nat.reduceSub, Nat.reduceLT, sw_nil, sw_int, sw_long, sw_ref, li, nI_m1, nI_add, pk_mul, nI_clampO, nI_ltO, nI_leO, nI_eqO, nI_subO, nle_t, nle_f, nlt_t, nlt_f, neq_f]; by_cases h : x = nI 0 <;> by_cases h2 : z = nI 0 <;> simp [jn, h, h2]
  | k + 7, h => exact absurd h (by omega)
/-- the codes of a law, from place k on -/
def cdM (μ : PM) (l : List (Nat × Nat)) (k : Nat) : Prop := (∀ i, i < l.length → rI μ 117220020 (k + i) = nI (l.getD i (0, 0)).1 ∧ rI μ 118220020 (k + i) = nI (l.getD i (0, 0)).2) ∧ rI μ 117220020 (k + l.length) = nI 0 ∧ k + l.length < 1100
theorem cdM_cons {μ : PM} {c : Nat × Nat} {l : List (Nat × Nat)} {k : Nat} (h : cdM μ (c :: l) k) : rI μ 117220020 k = nI c.1 ∧ rI μ 118220020 k = nI c.2 ∧ cdM μ l (k + 1) := by
  obtain ⟨h1, h2, h3⟩ := h
  have h0 := h1 0 (by simp)
  simp at h0 h2 h3
  refine ⟨h0.1, h0.2, fun i hi => ?_, ?_, by omega⟩
  · have := h1 (i + 1) (by simp; omega)
    simpa [Nat.add_assoc, Nat.add_comm 1 i] using this
  · rw [show k + 1 + l.length = k + (l.length + 1) by omega]; exact h2
theorem cdM_wA {μ : PM} {l : List (Nat × Nat)} {k : Nat} {f : Nat → Int32} (h : cdM μ l k) : cdM (wA μ 123110020 f) l k := by
  unfold cdM at h ⊢
  simpa only [rI_wA, Nat.reduceEqDiff, if_false] using h
theorem c170_l {l4 : Option Value} (h10 : rR μ 110000011 11 = some 117220020) (h11 : rR μ 110000011 12 = some 118220020) (h12 : rR μ 110000011 21 = some 122000520) (h13 : rR μ 110000011 22 = some 123110020) {v1 : Option Value} :
    ∀ (l : List (Nat × Nat)) (k h : Nat) (s : Nat → Int32) (l4 : Option Value), cdM μ l k → hok l h → h ≤ 64 → R (d + 1) 170 4 [some (.ref 110000011), v1, some (.int (nI h)), some (.int (nI k)), l4] [] (wA μ 123110020 s) Q = Q (some (.int ((evs (fun j => rI μ 122000520 j) l (s, h)).1 0))) (wA μ 123110020 (evs (fun j => rI μ 122000520 j) l (s, h)).1) := by
  intro l
  induction l with
  | nil =>
    intro k h s l4 hc hk hh
    obtain ⟨-, c2, c3⟩ := hc
    simp at c2 c3
    rw [r170_4]
    simp (disch := omega) only [r170_0, r170_1, r170_2, r170_3, r170_5, r170_8, r170_9, r170_10, r170_13, r170_14, r170_17, r170_18, r170_19, r170_21, r170_23, r170_24, r170_27, r170_29, r170_30, r170_33, r170_34, r170_37, r170_38, r170_40, r170_41, r170_44, r170_45, r170_48, r170_49, r170_50, r170_53, r170_54, r170_57, r170_58, r170_61, r170_62, r170_63, r170_64, r170_65, r170_68, r170_71, r170_73, r170_74, r170_77, r170_78, r170_81, r170_82, r170_83, r170_84, r170_85, r170_88, r170_89, r170_90, r170_91, r170_92, r170_95, r170_96, r170_99, r170_100, r170_101, r170_104, r170_107, r170_108, r170_111, r170_112, r170_113, r170_114, r170_116, r170_117, r170_120, r170_121, r170_122, r170_123, r170_124, r170_125, r170_128, r170_129, r170_130, r170_133, r170_134, r170_137, r170_140, r170_141, r170_144, r170_145, r170_146, rI_wI, rL_wL, rR_wR, rI_wL, rI_wR, rL_wI, rL_wR, rR_wI, rR_wL, va_rf_some, va_rf_none, Option.toList_some, Option.toList_none, List.nil_append, List.cons_append, true_and, and_true, false_and, and_false, and_self, if_true, if_false, not_true_eq_false, not_false_eq_true, or_false, false_or, or_true, true_or, or_self, ite_true, ite_false, Option.some.injEq, reduceCtorEq, Nat.reduceMod, Nat.reduceDiv, Nat.reduceLeDiff, Nat.reduceEqDiff, Nat.reduceAdd, Nat.reduceMul, Nat.reduceSub, Nat.reduceLT, sw_nil, sw_int, sw_long, sw_ref, li, nI_m1, nI_add, pk_mul, nI_clampO, nI_ltO, nI_leO, nI_eqO, nI_subO, nle_t, nle_f, nlt_t, nlt_f, neq_f, rI_wA, rR_wA, h10, h11, h12, h13, c2]
    rfl
  | cons c l ih =>
    intro k h s l4 hc hk hh
    obtain ⟨o, a⟩ := c
    have hkk := hc.2.2
    simp at hkk
    obtain ⟨c1, c2, c3⟩ := cdM_cons hc
    simp only at c1 c2
    have e : ∀ q : (Nat → Int32) × Nat, evs (fun j => rI μ 122000520 j) ((o, a) :: l) q = evs (fun j => rI μ 122000520 j) l (ev1 (fun j => rI μ 122000520 j) q (o, a)) := fun q => rfl
    rw [e]
    unfold hok at hk
    rw [r170_4]
    rcases hk with ⟨rfl, ha, h6, hk⟩ | ⟨rfl, ha, h6, hk⟩ | ⟨rfl, h6, hk⟩ | ⟨h4, h1, h6, hk⟩
    · simp (disch := omega) only [r170_0, r170_1, r170_2, r170_3, r170_5, r170_8, r170_9, r170_10, r170_13, r170_14, r170_17, r170_18, r170_19, r170_21, r170_23, r170_24, r170_27, r170_29, r170_30, r170_33, r170_34, r170_37, r170_38, r170_40, r170_41, r170_44, r170_45, r170_48, r170_49, r170_50, r170_53, r170_54, r170_57, r170_58, r170_61, r170_62, r170_63, r170_64, r170_65, r170_68, r170_71, r170_73, r170_74, r170_77, r170_78, r170_81, r170_82, r170_83, r170_84, r170_85, r170_88, r170_89, r170_90, r170_91, r170_92, r170_95, r170_96, r170_99, r170_100, r170_101, r170_104, r170_107, r170_108, r170_111, r170_112, r170_113, r170_114, r170_116, r170_117, r170_120, r170_121, r170_122, r170_123, r170_124, r170_125, r170_128, r170_129, r170_130, r170_133, r170_134, r170_137, r170_140, r170_141, r170_144, r170_145, r170_146, rI_wI, rL_wL, rR_wR, rI_wL, rI_wR, rL_wI, rL_wR, rR_wI, rR_wL, va_rf_some, va_rf_none, Option.toList_some, Option.toList_none, List.nil_append, List.cons_append, true_and, and_true, false_and, and_false, and_self, if_true, if_false, not_true_eq_false, not_false_eq_true, or_false, false_or, or_true, true_or, or_self, ite_true, ite_false, Option.some.injEq, reduceCtorEq, Nat.reduceMod, Nat.reduceDiv, Nat.reduceLeDiff, Nat.reduceEqDiff, Nat.reduceAdd, Nat.reduceMul, Nat.reduceSub, Nat.reduceLT, sw_nil, sw_int, sw_long, sw_ref, li, nI_m1, nI_add, pk_mul, nI_clampO, nI_ltO, nI_leO, nI_eqO, nI_subO, nle_t, nle_f, nlt_t, nlt_f, neq_f, rI_wA, rR_wA, h10, h11, h12, h13, c1, c2, wI_wA]
      exact ih _ _ _ _ c3 hk (by omega)
    · simp (disch := omega) only [r170_0, r170_1, r170_2, r170_3, r170_5, r170_8, r170_9, r170_10, r170_13, r170_14, r170_17, r170_18, r170_19, r170_21, r170_23, r170_24, r170_27, r170_29, r170_30, r170_33, r170_34, r170_37, r170_38, r170_40, r170_41, r170_44, r170_45, r170_48, r170_49, r170_50, r170_53, r170_54, r170_57, r170_58, r170_61, r170_62, r170_63, r170_64, r170_65, r170_68, r170_71, r170_73, r170_74, r170_77, r170_78, r170_81, r170_82, r170_83, r170_84, r170_85, r170_88, r170_89, r170_90, r170_91, r170_92, r170_95, r170_96, r170_99, r170_100, r170_101, r170_104, r170_107, r170_108, r170_111, r170_112, r170_113, r170_114, r170_116, r170_117, r170_120, r170_121, r170_122, r170_123, r170_124, r170_125, r170_128, r170_129, r170_130, r170_133, r170_134, r170_137, r170_140, r170_141, r170_144, r170_145, r170_146, rI_wI, rL_wL, rR_wR, rI_wL, rI_wR, rL_wI, rL_wR, rR_wI, rR_wL, va_rf_some, va_rf_none, Option.toList_some, Option.toList_none, List.nil_append, List.cons_append, true_and, and_true, false_and, and_false, and_self, if_true, if_false, not_true_eq_false, not_false_eq_true, or_false, false_or, or_true, true_or, or_self, ite_true, ite_false, Option.some.injEq, reduceCtorEq, Nat.reduceMod, Nat.reduceDiv, Nat.reduceLeDiff, Nat.reduceEqDiff, Nat.reduceAdd, Nat.reduceMul, Nat.reduceSub, Nat.reduceLT, sw_nil, sw_int, sw_long, sw_ref, li, nI_m1, nI_add, pk_mul, nI_clampO, nI_ltO, nI_leO, nI_eqO, nI_subO, nle_t, nle_f, nlt_t, nlt_f, neq_f, rI_wA, rR_wA, h10, h11, h12, h13, c1, c2, wI_wA]
      exact ih _ _ _ _ c3 hk (by omega)
    · by_cases hz : s (h - 1) = nI 0
      · simp (disch := omega) only [r170_0, r170_1, r170_2, r170_3, r170_5, r170_8, r170_9, r170_10, r170_13, r170_14, r170_17, r170_18, r170_19, r170_21, r170_23, r170_24, r170_27, r170_29, r170_30, r170_33, r170_34, r170_37, r170_38, r170_40, r170_41, r170_44, r170_45, r170_48, r170_49, r170_50, r170_53, r170_54, r170_57, r170_58, r170_61, r170_62, r170_63, r170_64, r170_65, r170_68, r170_71, r170_73, r170_74, r170_77, r170_78, r170_81, r170_82, r170_83, r170_84, r170_85, r170_88, r170_89, r170_90, r170_91, r170_92, r170_95, r170_96, r170_99, r170_100, r170_101, r170_104, r170_107, r170_108, r170_111, r170_112, r170_113, r170_114, r170_116, r170_117, r170_120, r170_121, r170_122, r170_123, r170_124, r170_125, r170_128, r170_129, r170_130, r170_133, r170_134, r170_137, r170_140, r170_141, r170_144, r170_145, r170_146, rI_wI, rL_wL, rR_wR, rI_wL, rI_wR, rL_wI, rL_wR, rR_wI, rR_wL, va_rf_some, va_rf_none, Option.toList_some, Option.toList_none, List.nil_append, List.cons_append, true_and, and_true, false_and, and_false, and_self, if_true, if_false, not_true_eq_false, not_false_eq_true, or_false, false_or, or_true, true_or, or_self, ite_true, ite_false, Option.some.injEq, reduceCtorEq, Nat.reduceMod, Nat.reduceDiv, Nat.reduceLeDiff, Nat.reduceEqDiff, Nat.reduceAdd, Nat.reduceMul, Nat.reduceSub, Nat.reduceLT, sw_nil, sw_int, sw_long, sw_ref, li, nI_m1, nI_add, pk_mul, nI_clampO, nI_ltO, nI_leO, nI_eqO, nI_subO, nle_t, nle_f, nlt_t, nlt_f, neq_f, rI_wA, rR_wA, h10, h11, h12, h13, c1, c2, wI_wA, hz]
        rw [ih _ _ _ _ c3 hk hh]
        simp only [ev1, hz, if_true]
      · simp (disch := omega) only [r170_0, r170_1, r170_2, r170_3, r170_5, r170_8, r170_9, r170_10, r170_13, r170_14, r170_17, r170_18, r170_19, r170_21, r170_23, r170_24, r170_27, r170_29, r170_30, r170_33, r170_34, r170_37, r170_38, r170_40, r170_41, r170_44, r170_45, r170_48, r170_49, r170_50, r170_53, r170_54, r170_57, r170_58, r170_61, r170_62, r170_63, r170_64, r170_65, r170_68, r170_71, r170_73, r170_74, r170_77, r170_78, r170_81, r170_82, r170_83, r170_84, r170_85, r170_88, r170_89, r170_90, r170_91, r170_92, r170_95, r170_96, r170_99, r170_100, r170_101, r170_104, r170_107, r170_108, r170_111, r170_112, r170_113, r170_114, r170_116, r170_117, r170_120, r170_121, r170_122, r170_123, r170_124, r170_125, r170_128, r170_129, r170_130, r170_133, r170_134, r170_137, r170_140, r170_141, r170_144, r170_145, r170_146, rI_wI, rL_wL, rR_wR, rI_wL, rI_wR, rL_wI, rL_wR, rR_wI, rR_wL, va_rf_some, va_rf_none, Option.toList_some, Option.toList_none, List.nil_append, List.cons_append, true_and, and_true, false_and, and_false, and_self, if_true, if_false, not_true_eq_false, not_false_eq_true, or_false, false_or, or_true, true_or, or_self, ite_true, ite_false, Option.some.injEq, reduceCtorEq, Nat.reduceMod, Nat.reduceDiv, Nat.reduceLeDiff, Nat.reduceEqDiff, Nat.reduceAdd, Nat.reduceMul, Nat.reduceSub, Nat.reduceLT, sw_nil, sw_int, sw_long, sw_ref, li, nI_m1, nI_add, pk_mul, nI_clampO, nI_ltO, nI_leO, nI_eqO, nI_subO, nle_t, nle_f, nlt_t, nlt_f, neq_f, rI_wA, rR_wA, h10, h11, h12, h13, c1, c2, wI_wA, hz]
        rw [ih _ _ _ _ c3 hk hh]
        simp only [ev1, hz, if_false]
    · simp (disch := omega) only [r170_0, r170_1, r170_2, r170_3, r170_5, r170_8, r170_9, r170_10, r170_13, r170_14, r170_17, r170_18, r170_19, r170_21, r170_23, r170_24, r170_27, r170_29, r170_30, r170_33, r170_34, r170_37, r170_38, r170_40, r170_41, r170_44, r170_45, r170_48, r170_49, r170_50, r170_53, r170_54, r170_57, r170_58, r170_61, r170_62, r170_63, r170_64, r170_65, r170_68, r170_71, r170_73, r170_74, r170_77, r170_78, r170_81, r170_82, r170_83, r170_84, r170_85, r170_88, r170_89, r170_90, r170_91, r170_92, r170_95, r170_96, r170_99, r170_100, r170_101, r170_104, r170_107, r170_108, r170_111, r170_112, r170_113, r170_114, r170_116, r170_117, r170_120, r170_121, r170_122, r170_123, r170_124, r170_125, r170_128, r170_129, r170_130, r170_133, r170_134, r170_137, r170_140, r170_141, r170_144, r170_145, r170_146, rI_wI, rL_wL, rR_wR, rI_wL, rI_wR, rL_wI, rL_wR, rR_wI, rR_wL, va_rf_some, va_rf_none, Option.toList_some, Option.toList_none, List.nil_append, List.cons_append, true_and, and_true, false_and, and_false, and_self, if_true, if_false, not_true_eq_false, not_false_eq_true, or_false, false_or, or_true, true_or, or_self, ite_true, ite_false, Option.some.injEq, reduceCtorEq, Nat.reduceMod, Nat.reduceDiv, Nat.reduceLeDiff, Nat.reduceEqDiff, Nat.reduceAdd, Nat.reduceMul, Nat.reduceSub, Nat.reduceLT, sw_nil, sw_int, sw_long, sw_ref, li, nI_m1, nI_add, pk_mul, nI_clampO, nI_ltO, nI_leO, nI_eqO, nI_subO, nle_t, nle_f, nlt_t, nlt_f, neq_f, rI_wA, rR_wA, h10, h11, h12, h13, c1, c2, wI_wA, c171]
      rw [ih _ _ _ _ c3 hk (by omega)]
      have ee : ev1 (fun j => rI μ 122000520 j) (s, h) (o, a) = (upd s (h - 2) (jn o (s (h - 2)) (s (h - 1))), h - 1) := by
        unfold ev1
        split <;> first | rfl | (simp only at *; omega)
      rw [ee, show h - 1 - 1 = h - 2 by omega]
end T1
