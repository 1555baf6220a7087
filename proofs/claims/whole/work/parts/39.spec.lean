/-! CHANCES AND SECONDS ARE SMALL; ORDERS, THE LEAST ONE -/
theorem clp_N (v : Int32) {l h : Nat} (hlh : l ≤ h) (hh : h < 1000) : ∃ n, l ≤ n ∧ n ≤ h ∧ clp v (nI l) (nI h) = nI n := by
  unfold clp
  by_cases h1 : v < nI l
  · exact ⟨l, Nat.le_refl l, hlh, if_pos h1⟩
  · rw [if_neg h1]
    by_cases h2 : nI h < v
    · exact ⟨h, hlh, Nat.le_refl h, if_pos h2⟩
    · rw [if_neg h2]
      rw [Int32.lt_iff_toInt_lt, nI_toInt (by omega)] at h1 h2
      have h0 : ¬ v < 0 := by
        rw [Int32.lt_iff_toInt_lt]
        have : (0 : Int32).toInt = 0 := by decide
        omega
      obtain ⟨j, hj, rfl⟩ := nI_of h0
      rw [nI_toInt hj] at h1 h2
      exact ⟨j, by omega, by omega, rfl⟩
def chN (pa : Nat → Nat) (lw : LW) (fz a b pc : Nat) : Nat := (chI pa lw fz a b pc).toNatClampNeg
def scN (pa : Nat → Nat) (lw : LW) (fz a b pc : Nat) : Nat := (scI pa lw fz a b pc).toNatClampNeg
theorem chI_ex (pa : Nat → Nat) (lw : LW) (fz a b pc : Nat) : chI pa lw fz a b pc = nI (chN pa lw fz a b pc) ∧ chN pa lw fz a b pc ≤ 10 := by
  have h : ∃ n, n ≤ 10 ∧ chI pa lw fz a b pc = nI n := by
    unfold chI
    by_cases h1 : kd pa a = 3 ∧ kd pa b = 3
    · rw [if_pos h1]; exact ⟨0, by omega, rfl⟩
    · rw [if_neg h1]
      obtain ⟨n, -, h2, h3⟩ := clp_N (clp (lvS (lw 0) (nI 8 - nI pc) (fc (nI (if kd pa a = 4 ∨ kd pa b = 4 then 0 else dfN (tl pa a) (tl pa b))) (nI (nk pa b)) (nI (szN pa fz)) (nI (slN pa fz)) (nI pc))) (nI 0) (nI 10) + (if kd pa a = 1 ∨ kd pa b = 1 then nI 2 else nI 0) - (if kd pa a = 2 ∨ kd pa b = 2 then nI 2 else nI 0) - (if kd pa a = 3 ∨ kd pa b = 3 then nI 1 else nI 0) - (if kd pa b = 5 then nI 1 else nI 0)) (l := 0) (h := 10) (by omega) (by omega)
      exact ⟨n, h2, h3⟩
  obtain ⟨n, hn, e⟩ := h
  unfold chN
  rw [e, nI_clampO (by omega)]
  exact ⟨rfl, hn⟩
theorem chI_N (pa : Nat → Nat) (lw : LW) (fz a b pc : Nat) : chI pa lw fz a b pc = nI (chN pa lw fz a b pc) := (chI_ex pa lw fz a b pc).1
theorem chN_le (pa : Nat → Nat) (lw : LW) (fz a b pc : Nat) : chN pa lw fz a b pc ≤ 10 := (chI_ex pa lw fz a b pc).2
theorem scI_ex (pa : Nat → Nat) (lw : LW) (fz a b pc : Nat) : scI pa lw fz a b pc = nI (scN pa lw fz a b pc) ∧ 1 ≤ scN pa lw fz a b pc ∧ scN pa lw fz a b pc ≤ 198 := by
  have h : ∃ n, 1 ≤ n ∧ n ≤ 198 ∧ scI pa lw fz a b pc = nI n := by
    unfold scI
    obtain ⟨n, h1, h2, h3⟩ := clp_N (lvS (lw 1) (nI 9 - nI pc * nI 2) (fc (nI (dfN (tl pa a) (tl pa b))) (nI (nk pa b)) (nI (szN pa fz)) (nI (slN pa fz)) (nI pc))) (l := 1) (h := 99) (by omega) (by omega)
    simp only [h3]
    by_cases h4 : kd pa a = 1 ∧ kd pa b = 1
    · rw [if_pos h4, pk_mul]; exact ⟨2 * n, by omega, by omega, rfl⟩
    · rw [if_neg h4]; exact ⟨n, h1, by omega, rfl⟩
  obtain ⟨n, h1, hn, e⟩ := h
  unfold scN
  rw [e, nI_clampO (by omega)]
  exact ⟨rfl, h1, hn⟩
theorem scI_N (pa : Nat → Nat) (lw : LW) (fz a b pc : Nat) : scI pa lw fz a b pc = nI (scN pa lw fz a b pc) := (scI_ex pa lw fz a b pc).1
theorem scN_le (pa : Nat → Nat) (lw : LW) (fz a b pc : Nat) : scN pa lw fz a b pc ≤ 198 := (scI_ex pa lw fz a b pc).2.2
/-- ten times what a try costs -/
def coN (pa : Nat → Nat) (lw : LW) (fz a b pc : Nat) : Nat := 10 * scN pa lw fz a b pc + (10 - chN pa lw fz a b pc) * pa 2
/-- above and below of the mean, not reduced: what came before, who is last, who comes -/
def mnS (pa : Nat → Nat) (lw : LW) (fz pc : Nat) : Nat × Nat → Nat → List Nat → Option (Nat × Nat)
  | ab, _, [] => some ab
  | ab, p, q :: r => if chN pa lw fz p q pc = 0 then none else mnS pa lw fz pc (ab.1 * (if pa 3 = 1 then 10 else chN pa lw fz p q pc) + coN pa lw fz p q pc * ab.2, ab.2 * chN pa lw fz p q pc) q r
def mnN (pa : Nat → Nat) (lw : LW) (fz pc : Nat) (l : List Nat) : Option (Nat × Nat) := match l with
  | [] => some (0, 1)
  | p :: r => mnS pa lw fz pc (0, 1) p r
/-- b may stand behind a, as far as the two go -/
def mbN (pa : Nat → Nat) (a b : Nat) : Bool := decide (tw pa a b ≠ 2) && (decide (pa 4 = 0) || decide (wmn pa a ≠ wmn pa b))
/-- pairs stand together -/
def prN (pa : Nat → Nat) (l : List Nat) : Bool := (List.range l.length).all fun k => (List.range l.length).all fun e => !decide (k + 2 ≤ e) || decide (tw pa (l.getD k 0) (l.getD e 0) ≠ 1)
/-- all orders from a beginning (the last one first) on, so many being left; in their order -/
def orL (pa : Nat → Nat) (ob : Nat) : Nat → List Nat → List (List Nat)
  | 0, pre => if prN pa pre.reverse then [pre.reverse] else []
  | r + 1, pre => (List.range (pa 0)).flatMap fun p => if bt ob p = 0 ∧ p ∉ pre ∧ (pre = [] ∨ mbN pa (pre.headD 0) p = true) then orL pa ob r (p :: pre) else []
def orA (pa s : Nat → Nat) : List (List Nat) := orL pa (s 7) (ln pa s).length []
def lsF (pa : Nat → Nat) (lw : LW) (fz pc : Nat) (acc : Option (List Nat × Nat × Nat)) (l : List Nat) : Option (List Nat × Nat × Nat) := match mnN pa lw fz pc l with
  | none => acc
  | some ab => match acc with
    | none => some (l, ab)
    | some (l', ab') => if ab.1 * ab'.2 < ab'.1 * ab.2 then some (l, ab) else some (l', ab')
def lsA (pa : Nat → Nat) (lw : LW) (s : Nat → Nat) : Option (List Nat × Nat × Nat) := (orA pa s).foldl (lsF pa lw (s 8) (s 9)) none
def rwN (l : List Nat) : Nat := l.foldl (fun x p => 8 * x + p) 0
/-- what the class knows of orders -/
def OCk (μ : PM) (pa : Nat → Nat) (lw : LW) (s : Nat → Nat) : Prop := rI μ 85000004 7 = nI 1 ∧ rI μ 85000004 8 = nI (orA pa s).length ∧ (lsA pa lw s = none → rI μ 85000004 9 = nI 0) ∧ ∀ l a b, lsA pa lw s = some (l, a, b) → rI μ 85000004 9 = nI 1 ∧ rL μ 93000000 0 = lN (a / Nat.gcd a b) ∧ rL μ 93000000 1 = lN (b / Nat.gcd a b) ∧ rI μ 85000004 11 = nI (rwN l)
def CO (μ : PM) (pa : Nat → Nat) (lw : LW) (s : Nat → Nat) : Prop := rI μ 85000004 7 = nI 0 ∨ OCk μ pa lw s
/-- how the class's memory tells what stands -/
def CH (μ : PM) (pa : Nat → Nat) (lw : LW) (s : Nat → Nat) (un : List (Nat → Nat)) (mk : Nat → Option (Nat → Nat)) (tp : List Nat) : Prop :=
  FX μ ∧ CPt μ pa lw ∧ CSt μ (pa 0) s ∧ CPs μ (pa 0) un ∧ CMk μ (pa 0) mk ∧ CLn μ (ln pa s) ∧ CTp μ tp ∧ CO μ pa lw s
def OKA (pa : Nat → Nat) (s : Nat → Nat) (un : List (Nat → Nat)) (mk : Nat → Option (Nat → Nat)) (tp : List Nat) : Prop :=
  PK pa ∧ SO pa s ∧ (∀ t, t ∈ un → SO pa t) ∧ un.length ≤ 20 ∧ (∀ m t, m < 4 → mk m = some t → SO pa t) ∧ tp.length ≤ 1000 ∧ ∀ c, c ∈ tp → c < 127
/-- the reference's cells, and the script and the words stay -/
def HE (μ ν : PM) : Prop := (∀ a j, 110000000 ≤ a ∨ a < 2000000 → rI ν a j = rI μ a j ∧ rL ν a j = rL μ a j ∧ rR ν a j = rR μ a j) ∧ aS ν = aS μ
theorem HE_tr {μ ν ρ : PM} (h : HE μ ν) (k : HE ν ρ) : HE μ ρ := ⟨fun a j ha => ⟨(k.1 a j ha).1.trans (h.1 a j ha).1, (k.1 a j ha).2.1.trans (h.1 a j ha).2.1, (k.1 a j ha).2.2.trans (h.1 a j ha).2.2⟩, k.2.trans h.2⟩
theorem HE_EX {l : List Nat} {μ ν : PM} (h : EX l μ ν) (hl : ∀ a, a ∈ l → 2000000 ≤ a ∧ a < 110000000) : HE μ ν := ⟨fun a j ha => ⟨h.1 a j (fun q => by have := hl a q; omega), EX_L h, EX_R h⟩, EX_S h⟩
/-- the class's cells, the script and the words stay -/
def LE (μ ν : PM) : Prop := (∀ a j, a < 110000000 → rI ν a j = rI μ a j ∧ rL ν a j = rL μ a j ∧ rR ν a j = rR μ a j) ∧ aS ν = aS μ
theorem LE_tr {μ ν ρ : PM} (h : LE μ ν) (k : LE ν ρ) : LE μ ρ := ⟨fun a j ha => ⟨(k.1 a j ha).1.trans (h.1 a j ha).1, (k.1 a j ha).2.1.trans (h.1 a j ha).2.1, (k.1 a j ha).2.2.trans (h.1 a j ha).2.2⟩, k.2.trans h.2⟩
theorem LE_EX {l : List Nat} {μ ν : PM} (h : EX l μ ν) (hl : ∀ a, a ∈ l → 110000000 ≤ a) : LE μ ν := ⟨fun a j ha => ⟨h.1 a j (fun q => by have := hl a q; omega), EX_L h, EX_R h⟩, EX_S h⟩
/-! any int: below 0, too great, or a place -/
theorem xn_le {x : Int32} {k : Nat} (h : x < nI 0) (hk : k < 2147483648) : (nI k ≤ x) = False := by
  apply eq_false
  rw [Int32.lt_iff_toInt_lt, nI_toInt (by omega)] at h
  rw [Int32.le_iff_toInt_le, nI_toInt hk]
  omega
theorem xn_lt {x : Int32} {k : Nat} (h : x < nI 0) (hk : k < 2147483648) : (x < nI k) = True := by
  apply eq_true
  rw [Int32.lt_iff_toInt_lt, nI_toInt (by omega)] at h
  rw [Int32.lt_iff_toInt_lt, nI_toInt hk]
  omega
theorem xn_eq {x : Int32} {k : Nat} (h : x < nI 0) (hk : k < 2147483648) : (x = nI k) = False := by
  apply eq_false
  rintro rfl
  rw [Int32.lt_iff_toInt_lt, nI_toInt hk, nI_toInt (by omega)] at h
  omega
theorem xn_qe {x : Int32} {k : Nat} (h : x < nI 0) (hk : k < 2147483648) : (nI k = x) = False := by
  rw [← xn_eq h hk]
  exact propext eq_comm
theorem xg_le {x : Int32} {n k : Nat} (h : nI n ≤ x) (hn : n < 2147483648) (hk : k ≤ n) : (nI k ≤ x) = True := by
  apply eq_true
  rw [Int32.le_iff_toInt_le, nI_toInt (by omega)] at h ⊢
  omega
theorem xg_lt {x : Int32} {n k : Nat} (h : nI n ≤ x) (hn : n < 2147483648) (hk : k ≤ n) : (x < nI k) = False := by
  apply eq_false
  rw [Int32.le_iff_toInt_le, nI_toInt (by omega)] at h
  rw [Int32.lt_iff_toInt_lt, nI_toInt (by omega)]
  omega
theorem xg_eq {x : Int32} {n k : Nat} (h : nI n ≤ x) (hn : n < 2147483648) (hk : k < n) : (x = nI k) = False := by
  apply eq_false
  rintro rfl
  rw [Int32.le_iff_toInt_le, nI_toInt (by omega), nI_toInt (by omega)] at h
  omega
theorem xg_qe {x : Int32} {n k : Nat} (h : nI n ≤ x) (hn : n < 2147483648) (hk : k < n) : (nI k = x) = False := by
  rw [← xg_eq h hn hk]
  exact propext eq_comm
theorem xcs (x : Int32) (n : Nat) (hn : n < 2147483648) : x < nI 0 ∨ nI n ≤ x ∨ ∃ j, j < n ∧ x = nI j := pk_ix x hn
