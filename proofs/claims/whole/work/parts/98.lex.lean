/-! TOKENS, AND THE CLASS'S LEXER -/
def isL (c : Nat) : Bool := decide (97 ≤ c ∧ c ≤ 122)
def isD (c : Nat) : Bool := decide (48 ≤ c ∧ c ≤ 57)
def isW (c : Nat) : Bool := decide (c = 10 ∨ c = 32)
def isM (c : Nat) : Bool := decide (c = 40 ∨ c = 41 ∨ c = 42 ∨ c = 43 ∨ c = 45 ∨ c = 59 ∨ c = 60 ∨ c = 61)
/-- how far it goes on so -/
def spn (f : Nat → Bool) (tp : List Nat) : Nat → Nat → Nat
  | 0, k => k
  | r + 1, k => if f (tp.getD k 0) = true then spn f tp r (k + 1) else k
def en (f : Nat → Bool) (tp : List Nat) (k : Nat) : Nat := spn f tp (tp.length - k) k
theorem spn_le (f : Nat → Bool) (tp : List Nat) : ∀ r k, k ≤ spn f tp r k ∧ spn f tp r k ≤ k + r := by
  intro r
  induction r with
  | zero => intro k; exact ⟨Nat.le_refl k, Nat.le_refl k⟩
  | succ r ih =>
    intro k
    rw [spn]
    split
    · have := ih (k + 1); omega
    · omega
theorem en_le (f : Nat → Bool) (tp : List Nat) {k : Nat} (hk : k ≤ tp.length) : k ≤ en f tp k ∧ en f tp k ≤ tp.length := by
  have := spn_le f tp (tp.length - k) k
  unfold en
  omega
theorem en_y {f : Nat → Bool} {tp : List Nat} {k : Nat} (hk : k < tp.length) (h : f (tp.getD k 0) = true) : en f tp k = en f tp (k + 1) := by
  unfold en
  rw [show tp.length - k = (tp.length - (k + 1)) + 1 by omega, spn, if_pos h]
theorem en_n {f : Nat → Bool} {tp : List Nat} {k : Nat} (hk : k < tp.length) (h : ¬ f (tp.getD k 0) = true) : en f tp k = k := by
  unfold en
  rw [show tp.length - k = (tp.length - (k + 1)) + 1 by omega, spn, if_neg h]
theorem en_e {f : Nat → Bool} {tp : List Nat} {k : Nat} (hk : tp.length ≤ k) : en f tp k = k := by
  unfold en
  rw [show tp.length - k = 0 by omega, spn]
/-- so many signs from here, less what is taken off -/
def slc (tp : List Nat) (o k r : Nat) : List Nat := (List.range r).map (fun i => tp.getD (k + i) 0 - o)
theorem slc_s (tp : List Nat) (o k r : Nat) : slc tp o k (r + 1) = slc tp o k r ++ [tp.getD (k + r) 0 - o] := by
  unfold slc
  rw [List.range_succ, List.map_append]
  rfl
def h37 (u : List Nat) : Nat := u.foldl (fun x c => 37 * x + c) 0
def b256 (u : List Nat) : Nat := u.foldl (fun x c => 256 * x + (c + 96)) 0
def n10 (u : List Nat) : Nat := u.foldl (fun x c => 10 * x + c) 0
theorem fo_s {f : Nat → Nat → Nat} (u : List Nat) (c : Nat) : (u ++ [c]).foldl f 0 = f (u.foldl f 0) c := by rw [List.foldl_append]; rfl
def kwL : List Nat := [7168366, 512970547566, 1952541804, 1852138347, 440006961524, 1936292453, 1936484720, 1752132708, 1953066341, 465491552104, 1885432178, 31935733760681324, 1717660780, 440006569588, 499967685221, 1885954923, 500186639987, 482854660462, 422607680100, 123580728896627, 7563385, 126943922974835, 1668246628, 7237492, 6385252, 28530, 1937007984, 1885430629]
def kwS (v : Nat) : Nat → Nat → Nat
  | 0, _ => 28
  | r + 1, i => if kwL.getD i 0 = v then i else kwS v r (i + 1)
abbrev Tok : Type := Nat × Nat × List Nat × Nat
/-- place, token, what it says, where it ends -/
def tokA (tp : List Nat) (k : Nat) : Tok :=
  if tp.length ≤ k then (k, 30, [], k)
  else if isL (tp.getD k 0) = true then (k, (if en isL tp k - k ≤ 8 then kwS (b256 (slc tp 96 k (en isL tp k - k))) 28 0 else 31), slc tp 96 k (en isL tp k - k), en isL tp k)
  else if isD (tp.getD k 0) = true then (k, (if en isD tp k - k ≤ 4 then 29 else 31), slc tp 48 k (en isD tp k - k), en isD tp k)
  else (k, (if isM (tp.getD k 0) = true then tp.getD k 0 else 31), [], k + 1)
def tok (tp : List Nat) (k : Nat) : Tok := tokA tp (en isW tp k)
def KW (μ : PM) : Prop := ∀ i, i < 28 → rL μ 1002821 i = lN (kwL.getD i 0)
def LXr (μ : PM) (t : Tok) : Prop := rI μ 6000003 1 = nI t.2.2.2 ∧ rI μ 6000003 2 = nI t.2.1 ∧ rI μ 6000003 3 = nI t.1 ∧ (t.2.1 = 29 → rI μ 6000003 4 = nI (n10 t.2.2.1)) ∧ (t.2.1 ≤ 28 → rL μ 6000003 5 = lN (b256 t.2.2.1))
def LFr (μ ν : PM) : Prop := (∀ a j, a ≠ 6000003 → rI ν a j = rI μ a j) ∧ (∀ a j, a ≠ 6000003 → rL ν a j = rL μ a j) ∧ (∀ a j, rR ν a j = rR μ a j) ∧ aS ν = aS μ
theorem LFr_rf (μ : PM) : LFr μ μ := ⟨fun _ _ _ => rfl, fun _ _ _ => rfl, fun _ _ => rfl, rfl⟩
theorem LFr_tr {μ ν ρ : PM} (h : LFr μ ν) (k : LFr ν ρ) : LFr μ ρ := ⟨fun a j q => (k.1 a j q).trans (h.1 a j q), fun a j q => (k.2.1 a j q).trans (h.2.1 a j q), fun a j => (k.2.2.1 a j).trans (h.2.2.1 a j), k.2.2.2.trans h.2.2.2⟩
theorem LFr_wI (μ : PM) (j : Nat) (x : Int32) : LFr μ (wI μ 6000003 j x) := ⟨fun a k q => by rw [rI_wI, if_neg (fun e => q e.1.symm)], fun _ _ _ => rfl, fun _ _ => rfl, rfl⟩
theorem LFr_wL (μ : PM) (j : Nat) (x : Int64) : LFr μ (wL μ 6000003 j x) := ⟨fun _ _ _ => rfl, fun a k q => by rw [rL_wL, if_neg (fun e => q e.1.symm)], fun _ _ => rfl, rfl⟩
theorem LFr_CTp {μ ν : PM} {tp : List Nat} (h : LFr μ ν) (k : CTp μ tp) : CTp ν tp := ⟨(h.1 _ _ (by decide)).trans k.1, fun i hi => (h.1 _ _ (by decide)).trans (k.2 i hi)⟩
theorem LFr_KW {μ ν : PM} (h : LFr μ ν) (k : KW μ) : KW ν := fun i hi => (h.2.1 _ _ (by decide)).trans (k i hi)
theorem LFr_FX {μ ν : PM} (h : LFr μ ν) (hF : FX μ) : FX ν := fun q hq => (h.2.2.1 _ _).trans (hF q hq)
def sgI (tp : List Nat) (k : Nat) : Int32 := if k < tp.length then nI (tp.getD k 0) else -nI 1
theorem lor8 {x c : Nat} (hc : c < 256) : (lN x <<< ((nI 8).toInt64 &&& 63)) ||| lN c = lN (256 * x + c) := by
  apply Int64.toBitVec_inj.mp
  rw [Int64.toBitVec_or]
  apply BitVec.eq_of_toNat_eq
  rw [BitVec.toNat_or]
  have e : (lN x <<< ((nI 8).toInt64 &&& 63)).toBitVec.toNat = 256 * (x % 2 ^ 56) := by
    rw [Int64.toBitVec_shiftLeft]
    have hs : (((nI 8).toInt64 &&& 63).toBitVec.smod 64) = 8#64 := by decide
    rw [hs]
    show (BitVec.ofNat 64 x <<< (8 : Nat)).toNat = _
    rw [BitVec.toNat_shiftLeft, Nat.shiftLeft_eq, BitVec.toNat_ofNat]
    omega
  rw [e]
  show 256 * (x % 2 ^ 56) ||| c % 2 ^ 64 = (256 * x + c) % 2 ^ 64
  rw [Nat.mod_eq_of_lt (show c < 2 ^ 64 by omega)]
  have k := Nat.two_pow_add_eq_or_of_lt (i := 8) (b := c) (by omega) (x % 2 ^ 56)
  have k' : 256 * (x % 2 ^ 56) + c = 256 * (x % 2 ^ 56) ||| c := k
  rw [← k']
  omega
section T1
variable {d : Nat} {μ : PM} {tp : List Nat} {Q : Option Value → PM → Prop}
theorem r34_4s {x : Nat} {ls : List (Option Value)} {st : List Value} : R d 34 4 ls (.ref x :: st) μ Q = R d 34 7 ls st μ Q := by
  have h : R d 34 4 ls (va_rf (some x) :: st) μ Q = if some x = none then R d 34 41 ls st μ Q else R d 34 7 ls st μ Q := r34_4
  rw [if_neg (by simp)] at h
  exact h
theorem c34 (hF : FX μ) (hT : CTp μ tp) (hn : tp.length ≤ 1000) (hr : rR μ 6000003 0 = some 3000009) {k : Nat} (hk : k ≤ tp.length) : R d 34 0 [some (.ref 6000003), some (.int (nI k))] [] μ Q = Q (some (.int (sgI tp k))) μ := by
  have h1 := hT.1
  unfold sgI
  by_cases h : k < tp.length
  · have h2 := hT.2 k h
    rw [if_pos h]
    simp (disch := first | assumption | omega) only [r34_0, r34_1, r34_7, r34_8, r34_11, r34_12, r34_13, r34_16, r34_19, r34_22, r34_23, r34_26, r34_29, r34_30, r34_33, r34_36, r34_37, r34_38, r34_41, r34_42, r34_4s, rI_wI, rL_wL, rR_wR, rI_wL, rI_wR, rL_wI, rL_wR, rR_wI, rR_wL, va_rf_some, va_rf_none, Option.toList_some, Option.toList_none, List.nil_append, List.cons_append, true_and, and_true, false_and, and_false, and_self, if_true, if_false, not_true_eq_false, not_false_eq_true, or_false, false_or, or_true, true_or, or_self, ite_true, ite_false, Option.some.injEq, reduceCtorEq, Nat.reduceMod, Nat.reduceDiv, Nat.reduceLeDiff, Nat.reduceEqDiff, Nat.reduceAdd, Nat.reduceMul, Nat.reduceSub, Nat.reduceLT, sw_nil, sw_int, sw_long, sw_ref, li, lo, nI_m1, ng_eq, nn_eq, en_eq, ng_le, ng_lt, Int32.neg_neg, nI_add, pk_mul, nI_clampO, nI_ltO, nI_leO, nI_eqO, nI_subO, nle_t, nle_f, nlt_t, nlt_f, neq_f, fx_2000010_0, fx_2000010_1, fx_2000010_4, fx_2000010_5, fx_2000010_6, fx_2000010_8, fx_2000010_10, fx_2000010_11, fx_2000010_12, fx_2000010_13, fx_2000010_14, fx_2000010_15, fx_2000010_16, fx_2000010_17, fx_2000010_18, fx_3000009_0, fx_5000007_0, fx_5000007_1, fx_5000007_2, fx_5000007_3, fx_7000001_0, fx_11000005_1, fx_11000005_2, fx_11000005_3, fx_11000005_4, fx_11000005_5, fx_11000005_6, fx_11000005_10, fx_11000005_11, fx_11000005_12, fx_20000002_0, fx_20000002_2, fx_20000002_3, fx_20000002_4, fx_25000005_1, fx_25000005_2, fx_25000005_3, fx_25000005_4, fx_25000005_5, fx_25000005_6, fx_25000005_10, fx_25000005_11, fx_25000005_12, fx_34000002_0, fx_34000002_2, fx_34000002_3, fx_34000002_4, fx_39000008_0, fx_41000006_0, fx_42002024_0, fx_42002024_1, fx_42002024_2, fx_42002024_3, fx_42002024_4, fx_42002024_5, fx_42002024_6, fx_42002024_7, fx_42002024_8, fx_42002024_9, fx_42002024_10, fx_42002024_11, fx_42002024_12, fx_42002024_13, fx_42002024_14, fx_42002024_15, fx_42002024_16, fx_42002024_17, fx_42002024_18, fx_42002024_19, fx_43000008_0, fx_45000008_0, fx_47000008_0, fx_49000008_0, fx_51000008_0, fx_53000008_0, fx_55000008_0, fx_57000008_0, fx_59000008_0, fx_61000008_0, fx_63000008_0, fx_65000008_0, fx_67000008_0, fx_69000008_0, fx_71000008_0, fx_73000008_0, fx_75000008_0, fx_77000008_0, fx_79000008_0, fx_81000008_0, fx_83000424_0, fx_83000424_1, fx_83000424_2, fx_83000424_3, fx_85000004_0, fx_85000004_1, fx_85000004_2, fx_85000004_3, fx_85000004_4, fx_85000004_5, fx_85000004_6, fx_85000004_10, fx_102000008_0, fx_104000008_0, fx_106000008_0, fx_108000008_0, fx_110000011_1, fx_110000011_4, fx_110000011_5, fx_110000011_6, fx_110000011_9, fx_110000011_10, fx_110000011_11, fx_110000011_12, fx_110000011_14, fx_110000011_15, fx_110000011_20, fx_110000011_21, fx_110000011_22, fx_110000011_23, fx_110000011_25, fx_110000011_26, fx_110000011_31, fx_110000011_32, fx_110000011_37, fx_110000011_38, fx_110000011_39, fx_110000011_40, hr, h1, h2]
  · rw [if_neg h]
    simp (disch := first | assumption | omega) only [r34_0, r34_1, r34_7, r34_8, r34_11, r34_12, r34_13, r34_16, r34_19, r34_22, r34_23, r34_26, r34_29, r34_30, r34_33, r34_36, r34_37, r34_38, r34_41, r34_42, r34_4s, rI_wI, rL_wL, rR_wR, rI_wL, rI_wR, rL_wI, rL_wR, rR_wI, rR_wL, va_rf_some, va_rf_none, Option.toList_some, Option.toList_none, List.nil_append, List.cons_append, true_and, and_true, false_and, and_false, and_self, if_true, if_false, not_true_eq_false, not_false_eq_true, or_false, false_or, or_true, true_or, or_self, ite_true, ite_false, Option.some.injEq, reduceCtorEq, Nat.reduceMod, Nat.reduceDiv, Nat.reduceLeDiff, Nat.reduceEqDiff, Nat.reduceAdd, Nat.reduceMul, Nat.reduceSub, Nat.reduceLT, sw_nil, sw_int, sw_long, sw_ref, li, lo, nI_m1, ng_eq, nn_eq, en_eq, ng_le, ng_lt, Int32.neg_neg, nI_add, pk_mul, nI_clampO, nI_ltO, nI_leO, nI_eqO, nI_subO, nle_t, nle_f, nlt_t, nlt_f, neq_f, fx_2000010_0, fx_2000010_1, fx_2000010_4, fx_2000010_5, fx_2000010_6, fx_2000010_8, fx_2000010_10, fx_2000010_11, fx_2000010_12, fx_2000010_13, fx_2000010_14, fx_2000010_15, fx_2000010_16, fx_2000010_17, fx_2000010_18, fx_3000009_0, fx_5000007_0, fx_5000007_1, fx_5000007_2, fx_5000007_3, fx_7000001_0, fx_11000005_1, fx_11000005_2, fx_11000005_3, fx_11000005_4, fx_11000005_5, fx_11000005_6, fx_11000005_10, fx_11000005_11, fx_11000005_12, fx_20000002_0, fx_20000002_2, fx_20000002_3, fx_20000002_4, fx_25000005_1, fx_25000005_2, fx_25000005_3, fx_25000005_4, fx_25000005_5, fx_25000005_6, fx_25000005_10, fx_25000005_11, fx_25000005_12, fx_34000002_0, fx_34000002_2, fx_34000002_3, fx_34000002_4, fx_39000008_0, fx_41000006_0, fx_42002024_0, fx_42002024_1, fx_42002024_2, fx_42002024_3, fx_42002024_4, fx_42002024_5, fx_42002024_6, fx_42002024_7, fx_42002024_8, fx_42002024_9, fx_42002024_10, fx_42002024_11, fx_42002024_12, fx_42002024_13, fx_42002024_14, fx_42002024_15, fx_42002024_16, fx_42002024_17, fx_42002024_18, fx_42002024_19, fx_43000008_0, fx_45000008_0, fx_47000008_0, fx_49000008_0, fx_51000008_0, fx_53000008_0, fx_55000008_0, fx_57000008_0, fx_59000008_0, fx_61000008_0, fx_63000008_0, fx_65000008_0, fx_67000008_0, fx_69000008_0, fx_71000008_0, fx_73000008_0, fx_75000008_0, fx_77000008_0, fx_79000008_0, fx_81000008_0, fx_83000424_0, fx_83000424_1, fx_83000424_2, fx_83000424_3, fx_85000004_0, fx_85000004_1, fx_85000004_2, fx_85000004_3, fx_85000004_4, fx_85000004_5, fx_85000004_6, fx_85000004_10, fx_102000008_0, fx_104000008_0, fx_106000008_0, fx_108000008_0, fx_110000011_1, fx_110000011_4, fx_110000011_5, fx_110000011_6, fx_110000011_9, fx_110000011_10, fx_110000011_11, fx_110000011_12, fx_110000011_14, fx_110000011_15, fx_110000011_20, fx_110000011_21, fx_110000011_22, fx_110000011_23, fx_110000011_25, fx_110000011_26, fx_110000011_31, fx_110000011_32, fx_110000011_37, fx_110000011_38, fx_110000011_39, fx_110000011_40, hr, h1]
theorem c35 {c : Nat} (hc : c < 127) : R d 35 0 [some (.int (nI c))] [] μ Q = Q (some (.int (nI (if isL c = true then 1 else 0)))) μ := by
  unfold isL
  by_cases h : 97 ≤ c ∧ c ≤ 122
  · rw [if_pos (decide_eq_true h)]
    obtain ⟨h1, h2⟩ := h
    simp (disch := first | assumption | omega) only [r35_0, r35_1, r35_3, r35_6, r35_7, j35_9, r35_12, r35_13, r35_16, r35_17, rI_wI, rL_wL, rR_wR, rI_wL, rI_wR, rL_wI, rL_wR, rR_wI, rR_wL, va_rf_some, va_rf_none, Option.toList_some, Option.toList_none, List.nil_append, List.cons_append, true_and, and_true, false_and, and_false, and_self, if_true, if_false, not_true_eq_false, not_false_eq_true, or_false, false_or, or_true, true_or, or_self, ite_true, ite_false, Option.some.injEq, reduceCtorEq, Nat.reduceMod, Nat.reduceDiv, Nat.reduceLeDiff, Nat.reduceEqDiff, Nat.reduceAdd, Nat.reduceMul, Nat.reduceSub, Nat.reduceLT, sw_nil, sw_int, sw_long, sw_ref, li, lo, nI_m1, ng_eq, nn_eq, en_eq, ng_le, ng_lt, Int32.neg_neg, nI_add, pk_mul, nI_clampO, nI_ltO, nI_leO, nI_eqO, nI_subO, nle_t, nle_f, nlt_t, nlt_f, neq_f]
  · rw [if_neg (fun q => h (of_decide_eq_true q))]
    by_cases h1 : 97 ≤ c
    · simp (disch := first | assumption | omega) only [r35_0, r35_1, r35_3, r35_6, r35_7, j35_9, r35_12, r35_13, r35_16, r35_17, rI_wI, rL_wL, rR_wR, rI_wL, rI_wR, rL_wI, rL_wR, rR_wI, rR_wL, va_rf_some, va_rf_none, Option.toList_some, Option.toList_none, List.nil_append, List.cons_append, true_and, and_true, false_and, and_false, and_self, if_true, if_false, not_true_eq_false, not_false_eq_true, or_false, false_or, or_true, true_or, or_self, ite_true, ite_false, Option.some.injEq, reduceCtorEq, Nat.reduceMod, Nat.reduceDiv, Nat.reduceLeDiff, Nat.reduceEqDiff, Nat.reduceAdd, Nat.reduceMul, Nat.reduceSub, Nat.reduceLT, sw_nil, sw_int, sw_long, sw_ref, li, lo, nI_m1, ng_eq, nn_eq, en_eq, ng_le, ng_lt, Int32.neg_neg, nI_add, pk_mul, nI_clampO, nI_ltO, nI_leO, nI_eqO, nI_subO, nle_t, nle_f, nlt_t, nlt_f, neq_f]
    · simp (disch := first | assumption | omega) only [r35_0, r35_1, r35_3, r35_6, r35_7, j35_9, r35_12, r35_13, r35_16, r35_17, rI_wI, rL_wL, rR_wR, rI_wL, rI_wR, rL_wI, rL_wR, rR_wI, rR_wL, va_rf_some, va_rf_none, Option.toList_some, Option.toList_none, List.nil_append, List.cons_append, true_and, and_true, false_and, and_false, and_self, if_true, if_false, not_true_eq_false, not_false_eq_true, or_false, false_or, or_true, true_or, or_self, ite_true, ite_false, Option.some.injEq, reduceCtorEq, Nat.reduceMod, Nat.reduceDiv, Nat.reduceLeDiff, Nat.reduceEqDiff, Nat.reduceAdd, Nat.reduceMul, Nat.reduceSub, Nat.reduceLT, sw_nil, sw_int, sw_long, sw_ref, li, lo, nI_m1, ng_eq, nn_eq, en_eq, ng_le, ng_lt, Int32.neg_neg, nI_add, pk_mul, nI_clampO, nI_ltO, nI_leO, nI_eqO, nI_subO, nle_t, nle_f, nlt_t, nlt_f, neq_f]
theorem c35m : R d 35 0 [some (.int (-nI 1))] [] μ Q = Q (some (.int (nI 0))) μ := by
  simp (disch := first | assumption | omega) only [r35_0, r35_1, r35_3, r35_6, r35_7, j35_9, r35_12, r35_13, r35_16, r35_17, rI_wI, rL_wL, rR_wR, rI_wL, rI_wR, rL_wI, rL_wR, rR_wI, rR_wL, va_rf_some, va_rf_none, Option.toList_some, Option.toList_none, List.nil_append, List.cons_append, true_and, and_true, false_and, and_false, and_self, if_true, if_false, not_true_eq_false, not_false_eq_true, or_false, false_or, or_true, true_or, or_self, ite_true, ite_false, Option.some.injEq, reduceCtorEq, Nat.reduceMod, Nat.reduceDiv, Nat.reduceLeDiff, Nat.reduceEqDiff, Nat.reduceAdd, Nat.reduceMul, Nat.reduceSub, Nat.reduceLT, sw_nil, sw_int, sw_long, sw_ref, li, lo, nI_m1, ng_eq, nn_eq, en_eq, ng_le, ng_lt, Int32.neg_neg, nI_add, pk_mul, nI_clampO, nI_ltO, nI_leO, nI_eqO, nI_subO, nle_t, nle_f, nlt_t, nlt_f, neq_f]
theorem c36 {c : Nat} (hc : c < 127) : R d 36 0 [some (.int (nI c))] [] μ Q = Q (some (.int (nI (if isD c = true then 1 else 0)))) μ := by
  unfold isD
  by_cases h : 48 ≤ c ∧ c ≤ 57
  · rw [if_pos (decide_eq_true h)]
    obtain ⟨h1, h2⟩ := h
    simp (disch := first | assumption | omega) only [r36_0, r36_1, r36_3, r36_6, r36_7, j36_9, r36_12, r36_13, r36_16, r36_17, rI_wI, rL_wL, rR_wR, rI_wL, rI_wR, rL_wI, rL_wR, rR_wI, rR_wL, va_rf_some, va_rf_none, Option.toList_some, Option.toList_none, List.nil_append, List.cons_append, true_and, and_true, false_and, and_false, and_self, if_true, if_false, not_true_eq_false, not_false_eq_true, or_false, false_or, or_true, true_or, or_self, ite_true, ite_false, Option.some.injEq, reduceCtorEq, Nat.reduceMod, Nat.reduceDiv, Nat.reduceLeDiff, Nat.reduceEqDiff, Nat.reduceAdd, Nat.reduceMul, Nat.reduceSub, Nat.reduceLT, sw_nil, sw_int, sw_long, sw_ref, li, lo, nI_m1, ng_eq, nn_eq, en_eq, ng_le, ng_lt, Int32.neg_neg, nI_add, pk_mul, nI_clampO, nI_ltO, nI_leO, nI_eqO, nI_subO, nle_t, nle_f, nlt_t, nlt_f, neq_f]
  · rw [if_neg (fun q => h (of_decide_eq_true q))]
    by_cases h1 : 48 ≤ c
    · simp (disch := first | assumption | omega) only [r36_0, r36_1, r36_3, r36_6, r36_7, j36_9, r36_12, r36_13, r36_16, r36_17, rI_wI, rL_wL, rR_wR, rI_wL, rI_wR, rL_wI, rL_wR, rR_wI, rR_wL, va_rf_some, va_rf_none, Option.toList_some, Option.toList_none, List.nil_append, List.cons_append, true_and, and_true, false_and, and_false, and_self, if_true, if_false, not_true_eq_false, not_false_eq_true, or_false, false_or, or_true, true_or, or_self, ite_true, ite_false, Option.some.injEq, reduceCtorEq, Nat.reduceMod, Nat.reduceDiv, Nat.reduceLeDiff, Nat.reduceEqDiff, Nat.reduceAdd, Nat.reduceMul, Nat.reduceSub, Nat.reduceLT, sw_nil, sw_int, sw_long, sw_ref, li, lo, nI_m1, ng_eq, nn_eq, en_eq, ng_le, ng_lt, Int32.neg_neg, nI_add, pk_mul, nI_clampO, nI_ltO, nI_leO, nI_eqO, nI_subO, nle_t, nle_f, nlt_t, nlt_f, neq_f]
    · simp (disch := first | assumption | omega) only [r36_0, r36_1, r36_3, r36_6, r36_7, j36_9, r36_12, r36_13, r36_16, r36_17, rI_wI, rL_wL, rR_wR, rI_wL, rI_wR, rL_wI, rL_wR, rR_wI, rR_wL, va_rf_some, va_rf_none, Option.toList_some, Option.toList_none, List.nil_append, List.cons_append, true_and, and_true, false_and, and_false, and_self, if_true, if_false, not_true_eq_false, not_false_eq_true, or_false, false_or, or_true, true_or, or_self, ite_true, ite_false, Option.some.injEq, reduceCtorEq, Nat.reduceMod, Nat.reduceDiv, Nat.reduceLeDiff, Nat.reduceEqDiff, Nat.reduceAdd, Nat.reduceMul, Nat.reduceSub, Nat.reduceLT, sw_nil, sw_int, sw_long, sw_ref, li, lo, nI_m1, ng_eq, nn_eq, en_eq, ng_le, ng_lt, Int32.neg_neg, nI_add, pk_mul, nI_clampO, nI_ltO, nI_leO, nI_eqO, nI_subO, nle_t, nle_f, nlt_t, nlt_f, neq_f]
theorem c36m : R d 36 0 [some (.int (-nI 1))] [] μ Q = Q (some (.int (nI 0))) μ := by
  simp (disch := first | assumption | omega) only [r36_0, r36_1, r36_3, r36_6, r36_7, j36_9, r36_12, r36_13, r36_16, r36_17, rI_wI, rL_wL, rR_wR, rI_wL, rI_wR, rL_wI, rL_wR, rR_wI, rR_wL, va_rf_some, va_rf_none, Option.toList_some, Option.toList_none, List.nil_append, List.cons_append, true_and, and_true, false_and, and_false, and_self, if_true, if_false, not_true_eq_false, not_false_eq_true, or_false, false_or, or_true, true_or, or_self, ite_true, ite_false, Option.some.injEq, reduceCtorEq, Nat.reduceMod, Nat.reduceDiv, Nat.reduceLeDiff, Nat.reduceEqDiff, Nat.reduceAdd, Nat.reduceMul, Nat.reduceSub, Nat.reduceLT, sw_nil, sw_int, sw_long, sw_ref, li, lo, nI_m1, ng_eq, nn_eq, en_eq, ng_le, ng_lt, Int32.neg_neg, nI_add, pk_mul, nI_clampO, nI_ltO, nI_leO, nI_eqO, nI_subO, nle_t, nle_f, nlt_t, nlt_f, neq_f]
theorem c37 {c : Nat} (hc : c < 127) : R d 37 0 [some (.int (nI c))] [] μ Q = Q (some (.int (nI (if isM c = true then 1 else 0)))) μ := by
  unfold isM
  by_cases h : c = 40 ∨ c = 41 ∨ c = 42 ∨ c = 43 ∨ c = 45 ∨ c = 59 ∨ c = 60 ∨ c = 61
  · rw [if_pos (decide_eq_true h)]
    rcases h with rfl | rfl | rfl | rfl | rfl | rfl | rfl | rfl <;> simp (disch := first | assumption | omega) only [r37_0, r37_1, r37_3, r37_6, r37_7, r37_9, r37_12, r37_13, r37_15, r37_18, r37_19, r37_21, r37_24, r37_25, r37_27, r37_30, r37_31, r37_33, r37_36, r37_37, r37_39, r37_42, r37_43, j37_45, r37_48, r37_49, r37_52, r37_53, rI_wI, rL_wL, rR_wR, rI_wL, rI_wR, rL_wI, rL_wR, rR_wI, rR_wL, va_rf_some, va_rf_none, Option.toList_some, Option.toList_none, List.nil_append, List.cons_append, true_and, and_true, false_and, and_false, and_self, if_true, if_false, not_true_eq_false, not_false_eq_true, or_false, false_or, or_true, true_or, or_self, ite_true, ite_false, Option.some.injEq, reduceCtorEq, Nat.reduceMod, Nat.reduceDiv, Nat.reduceLeDiff, Nat.reduceEqDiff, Nat.reduceAdd, Nat.reduceMul, Nat.reduceSub, Nat.reduceLT, sw_nil, sw_int, sw_long, sw_ref, li, lo, nI_m1, ng_eq, nn_eq, en_eq, ng_le, ng_lt, Int32.neg_neg, nI_add, pk_mul, nI_clampO, nI_ltO, nI_leO, nI_eqO, nI_subO, nle_t, nle_f, nlt_t, nlt_f, neq_f]
  · rw [if_neg (fun q => h (of_decide_eq_true q))]
    simp (disch := first | assumption | omega) only [r37_0, r37_1, r37_3, r37_6, r37_7, r37_9, r37_12, r37_13, r37_15, r37_18, r37_19, r37_21, r37_24, r37_25, r37_27, r37_30, r37_31, r37_33, r37_36, r37_37, r37_39, r37_42, r37_43, j37_45, r37_48, r37_49, r37_52, r37_53, rI_wI, rL_wL, rR_wR, rI_wL, rI_wR, rL_wI, rL_wR, rR_wI, rR_wL, va_rf_some, va_rf_none, Option.toList_some, Option.toList_none, List.nil_append, List.cons_append, true_and, and_true, false_and, and_false, and_self, if_true, if_false, not_true_eq_false, not_false_eq_true, or_false, false_or, or_true, true_or, or_self, ite_true, ite_false, Option.some.injEq, reduceCtorEq, Nat.reduceMod, Nat.reduceDiv, Nat.reduceLeDiff, Nat.reduceEqDiff, Nat.reduceAdd, Nat.reduceMul, Nat.reduceSub, Nat.reduceLT, sw_nil, sw_int, sw_long, sw_ref, li, lo, nI_m1, ng_eq, nn_eq, en_eq, ng_le, ng_lt, Int32.neg_neg, nI_add, pk_mul, nI_clampO, nI_ltO, nI_leO, nI_eqO, nI_subO, nle_t, nle_f, nlt_t, nlt_f, neq_f]
/-- digits -/
theorem c33_l (hn : tp.length ≤ 1000) (hc : ∀ c, c ∈ tp → c < 127) {k0 : Nat} : ∀ (r i : Nat) (μ : PM), k0 + i + r = tp.length → FX μ → CTp μ tp → rR μ 6000003 0 = some 3000009 → rI μ 6000003 1 = nI (k0 + i) → rI μ 6000003 4 = nI (n10 (slc tp 48 k0 i)) → i ≤ 1000 →
    ∃ ν w1, LFr μ ν ∧ rI ν 6000003 1 = nI (en isD tp (k0 + i)) ∧ rI ν 6000003 3 = rI μ 6000003 3 ∧ rI ν 6000003 4 = nI (n10 (slc tp 48 k0 (en isD tp (k0 + i) - k0))) ∧ ∀ Q, R (d + 1) 33 7 [some (.ref 6000003), some (.int (nI i))] [] μ Q = R (d + 1) 33 67 [some (.ref 6000003), w1] [] ν Q := by
  intro r
  induction r with
  | zero =>
    intro i μ hi hF hT hr h1 h4 hi2
    rw [en_e (show tp.length ≤ k0 + i by omega), show k0 + i - k0 = i by omega]
    refine ⟨μ, some (.int (nI i)), LFr_rf μ, h1, rfl, h4, fun Q => ?_⟩
    have s1 := fun Q => c34 (d := d) (Q := Q) hF hT hn hr (k := k0 + i) (by omega)
    have e : sgI tp (k0 + i) = -nI 1 := if_neg (by omega)
    rw [e] at s1
    have c6 := fun Q => c36m (d := d) (μ := μ) (Q := Q)
    rw [r33_7]
    by_cases hh : i < 1000
    · simp (disch := first | assumption | omega) only [r33_8, r33_11, r33_14, r33_15, r33_16, r33_19, r33_22, r33_25, rI_wI, rL_wL, rR_wR, rI_wL, rI_wR, rL_wI, rL_wR, rR_wI, rR_wL, va_rf_some, va_rf_none, Option.toList_some, Option.toList_none, List.nil_append, List.cons_append, true_and, and_true, false_and, and_false, and_self, if_true, if_false, not_true_eq_false, not_false_eq_true, or_false, false_or, or_true, true_or, or_self, ite_true, ite_false, Option.some.injEq, reduceCtorEq, Nat.reduceMod, Nat.reduceDiv, Nat.reduceLeDiff, Nat.reduceEqDiff, Nat.reduceAdd, Nat.reduceMul, Nat.reduceSub, Nat.reduceLT, sw_nil, sw_int, sw_long, sw_ref, li, lo, nI_m1, ng_eq, nn_eq, en_eq, ng_le, ng_lt, Int32.neg_neg, nI_add, pk_mul, nI_clampO, nI_ltO, nI_leO, nI_eqO, nI_subO, nle_t, nle_f, nlt_t, nlt_f, neq_f, h1, s1, c6]
    · simp (disch := first | assumption | omega) only [r33_8, r33_11, rI_wI, rL_wL, rR_wR, rI_wL, rI_wR, rL_wI, rL_wR, rR_wI, rR_wL, va_rf_some, va_rf_none, Option.toList_some, Option.toList_none, List.nil_append, List.cons_append, true_and, and_true, false_and, and_false, and_self, if_true, if_false, not_true_eq_false, not_false_eq_true, or_false, false_or, or_true, true_or, or_self, ite_true, ite_false, Option.some.injEq, reduceCtorEq, Nat.reduceMod, Nat.reduceDiv, Nat.reduceLeDiff, Nat.reduceEqDiff, Nat.reduceAdd, Nat.reduceMul, Nat.reduceSub, Nat.reduceLT, sw_nil, sw_int, sw_long, sw_ref, li, lo, nI_m1, ng_eq, nn_eq, en_eq, ng_le, ng_lt, Int32.neg_neg, nI_add, pk_mul, nI_clampO, nI_ltO, nI_leO, nI_eqO, nI_subO, nle_t, nle_f, nlt_t, nlt_f, neq_f]
  | succ r ih =>
    intro i μ hi hF hT hr h1 h4 hi2
    have s1 := fun Q => c34 (d := d) (Q := Q) hF hT hn hr (k := k0 + i) (by omega)
    have e : sgI tp (k0 + i) = nI (tp.getD (k0 + i) 0) := if_pos (by omega)
    rw [e] at s1
    have hm : tp.getD (k0 + i) 0 ∈ tp := gD_mem (by omega)
    have hb := hc _ hm
    have c6 := fun Q => c36 (d := d) (μ := μ) (Q := Q) hb
    by_cases hd : isD (tp.getD (k0 + i) 0) = true
    · rw [if_pos hd] at c6
      have hd2 : 48 ≤ tp.getD (k0 + i) 0 := (of_decide_eq_true hd).1
      have hv : n10 (slc tp 48 k0 (i + 1)) = n10 (slc tp 48 k0 i) * 10 + tp.getD (k0 + i) 0 - 48 := by
        rw [slc_s]
        have : n10 (slc tp 48 k0 i ++ [tp.getD (k0 + i) 0 - 48]) = 10 * n10 (slc tp 48 k0 i) + (tp.getD (k0 + i) 0 - 48) := fo_s _ _
        rw [this]
        omega
      have hL : LFr μ (wI (wI μ 6000003 4 (nI (n10 (slc tp 48 k0 i) * 10 + tp.getD (k0 + i) 0 - 48))) 6000003 1 (nI (k0 + i + 1))) := LFr_tr (LFr_wI _ _ _) (LFr_wI _ _ _)
      obtain ⟨ν, w1, k1, k2, k3, k4, k5⟩ := ih (i + 1) (wI (wI μ 6000003 4 (nI (n10 (slc tp 48 k0 i) * 10 + tp.getD (k0 + i) 0 - 48))) 6000003 1 (nI (k0 + i + 1))) (by omega) hF (LFr_CTp hL hT) hr (by rw [rI_wI, if_pos ⟨rfl, rfl⟩]; rfl) (by rw [rI_wI, if_neg (by decide), rI_wI, if_pos ⟨rfl, rfl⟩, hv]) (by omega)
      rw [← show k0 + i + 1 = k0 + (i + 1) by omega, ← en_y (show k0 + i < tp.length by omega) hd] at k2 k4
      refine ⟨ν, w1, LFr_tr hL k1, k2, k3.trans (by rw [rI_wI, if_neg (by decide), rI_wI, if_neg (by decide)]), k4, fun Q => ?_⟩
      rw [r33_7]
      simp (disch := first | assumption | omega) only [r33_0, r33_1, r33_2, r33_5, r33_6, r33_8, r33_11, r33_14, r33_15, r33_16, r33_19, r33_22, r33_25, r33_28, r33_29, r33_30, r33_33, r33_35, r33_36, r33_37, r33_38, r33_41, r33_44, r33_45, r33_47, r33_48, r33_51, r33_52, r33_52i, r33_53, r33_56, r33_57, r33_58, r33_61, r33_64, r33_68, r33_69, r33_72, r33_73, r33_76, r33_77, j33_78, r33_81, r33_83, r33_86, r33_88, r33_91, rI_wI, rL_wL, rR_wR, rI_wL, rI_wR, rL_wI, rL_wR, rR_wI, rR_wL, va_rf_some, va_rf_none, Option.toList_some, Option.toList_none, List.nil_append, List.cons_append, true_and, and_true, false_and, and_false, and_self, if_true, if_false, not_true_eq_false, not_false_eq_true, or_false, false_or, or_true, true_or, or_self, ite_true, ite_false, Option.some.injEq, reduceCtorEq, Nat.reduceMod, Nat.reduceDiv, Nat.reduceLeDiff, Nat.reduceEqDiff, Nat.reduceAdd, Nat.reduceMul, Nat.reduceSub, Nat.reduceLT, sw_nil, sw_int, sw_long, sw_ref, li, lo, nI_m1, ng_eq, nn_eq, en_eq, ng_le, ng_lt, Int32.neg_neg, nI_add, pk_mul, nI_clampO, nI_ltO, nI_leO, nI_eqO, nI_subO, nle_t, nle_f, nlt_t, nlt_f, neq_f, h1, h4, s1, c6, k5]
    · rw [if_neg hd] at c6
      rw [en_n (show k0 + i < tp.length by omega) hd, show k0 + i - k0 = i by omega]
      refine ⟨μ, some (.int (nI i)), LFr_rf μ, h1, rfl, h4, fun Q => ?_⟩
      rw [r33_7]
      by_cases hh : i < 1000
      · simp (disch := first | assumption | omega) only [r33_8, r33_11, r33_14, r33_15, r33_16, r33_19, r33_22, r33_25, rI_wI, rL_wL, rR_wR, rI_wL, rI_wR, rL_wI, rL_wR, rR_wI, rR_wL, va_rf_some, va_rf_none, Option.toList_some, Option.toList_none, List.nil_append, List.cons_append, true_and, and_true, false_and, and_false, and_self, if_true, if_false, not_true_eq_false, not_false_eq_true, or_false, false_or, or_true, true_or, or_self, ite_true, ite_false, Option.some.injEq, reduceCtorEq, Nat.reduceMod, Nat.reduceDiv, Nat.reduceLeDiff, Nat.reduceEqDiff, Nat.reduceAdd, Nat.reduceMul, Nat.reduceSub, Nat.reduceLT, sw_nil, sw_int, sw_long, sw_ref, li, lo, nI_m1, ng_eq, nn_eq, en_eq, ng_le, ng_lt, Int32.neg_neg, nI_add, pk_mul, nI_clampO, nI_ltO, nI_leO, nI_eqO, nI_subO, nle_t, nle_f, nlt_t, nlt_f, neq_f, h1, s1, c6]
      · simp (disch := first | assumption | omega) only [r33_8, r33_11, rI_wI, rL_wL, rR_wR, rI_wL, rI_wR, rL_wI, rL_wR, rR_wI, rR_wL, va_rf_some, va_rf_none, Option.toList_some, Option.toList_none, List.nil_append, List.cons_append, true_and, and_true, false_and, and_false, and_self, if_true, if_false, not_true_eq_false, not_false_eq_true, or_false, false_or, or_true, true_or, or_self, ite_true, ite_false, Option.some.injEq, reduceCtorEq, Nat.reduceMod, Nat.reduceDiv, Nat.reduceLeDiff, Nat.reduceEqDiff, Nat.reduceAdd, Nat.reduceMul, Nat.reduceSub, Nat.reduceLT, sw_nil, sw_int, sw_long, sw_ref, li, lo, nI_m1, ng_eq, nn_eq, en_eq, ng_le, ng_lt, Int32.neg_neg, nI_add, pk_mul, nI_clampO, nI_ltO, nI_leO, nI_eqO, nI_subO, nle_t, nle_f, nlt_t, nlt_f, neq_f]
end T1
