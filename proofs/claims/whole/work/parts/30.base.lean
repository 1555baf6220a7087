/-! small rows for the runs of methods -/
theorem va_rf_some (a : Nat) : va_rf (some a) = .ref a := rfl
theorem va_rf_none : va_rf none = .null := rfl
theorem sw_nil : sw [] = 0 := rfl
theorem sw_int (x : Int32) (st : List Value) : sw (.int x :: st) = 1 + sw st := by simp [sw, Value.category]
theorem sw_long (x : Int64) (st : List Value) : sw (.long x :: st) = 2 + sw st := by simp [sw, Value.category]
theorem sw_ref (x : Nat) (st : List Value) : sw (.ref x :: st) = 1 + sw st := by simp [sw, Value.category]
theorem li (n : Nat) : (OfNat.ofNat n : Int32) = nI n := by
  unfold nI
  rfl
theorem lo (n : Nat) : Int32.ofNat n = nI n := rfl
theorem li_0 : (0 : Int32) = nI 0 := rfl
theorem li_1 : (1 : Int32) = nI 1 := rfl
theorem nI_clampO {n : Nat} (h : n < 2147483648) : (nI n).toNatClampNeg = n := nI_clamp h
theorem ix_ok {k n : Nat} (h : k < n) (hn : k < 2147483648) : (nI k < 0 ∨ n ≤ (nI k).toNatClampNeg) = False := by
  rw [eq_iff_iff, iff_false]
  intro q
  rcases q with q | q
  · exact nI_pos hn q
  · rw [nI_clamp hn] at q; omega
theorem ix_okw {k n : Nat} (h : k < n) (hn : k < 2147483648) : (nI k < nI 0 ∨ n ≤ (nI k).toNatClampNeg) = False := ix_ok h hn
theorem nI_ltO {a b : Nat} (ha : a < 2147483648) (hb : b < 2147483648) : (nI a < nI b) = (a < b) := propext (nI_ltI ha hb)
theorem nI_leO {a b : Nat} (ha : a < 2147483648) (hb : b < 2147483648) : (nI a ≤ nI b) = (a ≤ b) := propext (nI_leI ha hb)
theorem nI_eqO {a b : Nat} (ha : a < 2147483648) (hb : b < 2147483648) : (nI a = nI b) = (a = b) := propext (nI_eq ha hb)
theorem nI_subO {a b : Nat} (h : b ≤ a) : nI a - nI b = nI (a - b) := pk_sub h
theorem b01 {c : Prop} [Decidable c] : ((if c then nI 1 else nI 0) = nI 0) = ¬ c := by
  by_cases h : c <;> simp [h, nI_eqO]
theorem b10 {c : Prop} [Decidable c] : ((if c then nI 0 else nI 1) = nI 0) = c := by
  by_cases h : c <;> simp [h, nI_eqO]
theorem nle_t {a b : Nat} (h : a ≤ b) : (a ≤ b) = True := eq_true h
theorem nle_f {a b : Nat} (h : b < a) : (a ≤ b) = False := eq_false (Nat.not_le.mpr h)
theorem nlt_t {a b : Nat} (h : a < b) : (a < b) = True := eq_true h
theorem nlt_f {a b : Nat} (h : b ≤ a) : (a < b) = False := eq_false (Nat.not_lt.mpr h)
theorem neq_f {a b : Nat} (h : a ≠ b) : (a = b) = False := eq_false h
theorem nI_m1 {a : Nat} (h : 1 ≤ a) : nI a + -nI 1 = nI (a - 1) := by
  obtain ⟨b, rfl⟩ := Nat.exists_eq_add_of_le h
  rw [Nat.add_comm, Nat.add_sub_cancel, ← pk_m1 b]
  rfl
theorem nI_neg {b : Nat} (h : b < 1073741824) : (-nI b).toInt = -(b : Int) := by
  have h2 := pk_sub_toInt (a := 0) (b := b) (by decide) h
  rw [Int32.sub_eq_add_neg, nI_0, Int32.zero_add] at h2
  omega
theorem ng_eq {a b : Nat} (ha : a < 1073741824) (hb : b < 1073741824) : (-nI a = -nI b) = (a = b) := by
  apply propext
  constructor
  · intro h
    have h2 := congrArg Int32.toInt h
    rw [nI_neg ha, nI_neg hb] at h2
    omega
  · rintro rfl; rfl
theorem nn_eq {a b : Nat} (ha : a < 2147483648) (hb : b < 1073741824) (h1 : 1 ≤ b) : (nI a = -nI b) = False := by
  apply eq_false
  intro h
  have h2 := congrArg Int32.toInt h
  rw [nI_neg hb, nI_toInt ha] at h2
  omega
theorem en_eq {a b : Nat} (ha : a < 2147483648) (hb : b < 1073741824) (h1 : 1 ≤ b) : (-nI b = nI a) = False := by
  rw [← nn_eq ha hb h1]
  exact propext eq_comm
theorem ng_le {a b : Nat} (ha : a < 2147483648) (hb : b < 1073741824) (h1 : 1 ≤ b) : (nI a ≤ -nI b) = False := by
  apply eq_false
  intro h
  rw [Int32.le_iff_toInt_le, nI_neg hb, nI_toInt ha] at h
  omega
theorem ng_lt {a b : Nat} (ha : a < 2147483648) (hb : b < 1073741824) (h1 : 1 ≤ b) : (-nI b < nI a) = True := by
  apply eq_true
  rw [Int32.lt_iff_toInt_lt, nI_neg hb, nI_toInt ha]
  omega
