/-! WHO LAUGHS: A STRETCH OF THE ROW -/
def LK (lw : LW) : Prop := ∀ l, lw 2 = some l → ∀ c, c ∈ l → c.1 = 2 → c.2 < 2
/-- b laughs where a does, being next to it -/
def laN (pa : Nat → Nat) (lw : LW) (a b : Nat) : Nat := if kd pa b = 3 then 0 else if lvS (lw 2) (nI 1) (fc (nI (dfN (tl pa a) (tl pa b))) (nI (nk pa b)) (nI 0) (nI 0) (nI 0)) = nI 0 then 0 else 1
theorem laN_01 (pa : Nat → Nat) (lw : LW) (a b : Nat) : laN pa lw a b = 0 ∨ laN pa lw a b = 1 := by
  unfold laN
  split
  · exact Or.inl rfl
  · split
    · exact Or.inl rfl
    · exact Or.inr rfl
theorem ev1_c {f g : Nat → Int32} {c : Nat × Nat} (h : c.1 = 2 → f c.2 = g c.2) (s : (Nat → Int32) × Nat) : ev1 f s c = ev1 g s c := by
  obtain ⟨o, a⟩ := c
  by_cases e : o = 2
  · subst e
    unfold ev1
    show (upd s.1 s.2 (f a), s.2 + 1) = (upd s.1 s.2 (g a), s.2 + 1)
    rw [h rfl]
  · unfold ev1
    split
    · rfl
    · rename_i q; exact absurd q e
    · rfl
    · rfl
theorem vE_2 {f g : Nat → Int32} {l : List (Nat × Nat)} (hl : ∀ c, c ∈ l → c.1 = 2 → c.2 < 2) (h : ∀ j, j < 2 → f j = g j) : vE f l = vE g l := by
  unfold vE
  have : ∀ (l : List (Nat × Nat)) (s : (Nat → Int32) × Nat), (∀ c, c ∈ l → c.1 = 2 → c.2 < 2) → evs f l s = evs g l s := by
    intro l
    induction l with
    | nil => intro s _; rfl
    | cons c l ih =>
      intro s hl
      show evs f l (ev1 f s c) = evs g l (ev1 g s c)
      rw [ev1_c (fun q => h _ (hl c (List.mem_cons_self) q))]
      exact ih _ (fun c' q => hl c' (List.mem_cons_of_mem _ q))
  rw [this l _ hl]
def sbN (o p : Nat) : Nat := if bt o p = 0 then o + 2 ^ p else o
theorem sbN_b : ∀ o, o < 128 → ∀ p, p < 7 → sbN o p < 128 ∧ ∀ q, q < 7 → (bt (sbN o p) q = 1 ↔ bt o q = 1 ∨ q = p) := by decide +kernel
theorem sbN_or : ∀ o, o < 128 → ∀ p, p < 7 → nI o ||| (nI 1 <<< (nI p &&& nI 31)) = nI (sbN o p) := by decide +kernel
theorem sbN_id {o p : Nat} (h : bt o p = 1) : sbN o p = o := by unfold sbN; rw [if_neg (by omega)]
theorem bt_sm : ∀ o, o < 128 → o = bt o 0 + 2 * bt o 1 + 4 * bt o 2 + 8 * bt o 3 + 16 * bt o 4 + 32 * bt o 5 + 64 * bt o 6 := by decide +kernel
theorem bt_ex {o o' : Nat} (h : o < 128) (h' : o' < 128) (e : ∀ p, p < 7 → (bt o p = 1 ↔ bt o' p = 1)) : o = o' := by
  have k : ∀ p, p < 7 → bt o p = bt o' p := fun p hp => by
    have := e p hp
    rcases bt_01 o p with a | a <;> rcases bt_01 o' p with b | b <;> omega
  rw [bt_sm o h, bt_sm o' h', k 0 (by omega), k 1 (by omega), k 2 (by omega), k 3 (by omega), k 4 (by omega), k 5 (by omega), k 6 (by omega)]
theorem bt_p : ∀ p, p < 7 → 2 ^ p < 128 ∧ ∀ q, q < 7 → (bt (2 ^ p) q = 1 ↔ q = p) := by decide +kernel
/-- the set is the stretch from a to b -/
def IV (l : List Nat) (o a b : Nat) : Prop := o < 128 ∧ ∀ p, p < 7 → (bt o p = 1 ↔ ∃ j, a ≤ j ∧ j ≤ b ∧ j < l.length ∧ l.getD j 0 = p)
def L7 (l : List Nat) : Prop := l.Nodup ∧ (∀ j, j < l.length → l.getD j 0 < 7)
theorem nd_inj {l : List Nat} (h : L7 l) {i j : Nat} (hi : i < l.length) (hj : j < l.length) (e : l.getD i 0 = l.getD j 0) : i = j := by
  rw [List.getD_eq_getElem?_getD, List.getD_eq_getElem?_getD, List.getElem?_eq_getElem hi, List.getElem?_eq_getElem hj] at e
  have hp := List.pairwise_iff_getElem.mp h.1
  have e' : l[i] = l[j] := e
  rcases Nat.lt_trichotomy i j with q | q | q
  · exact absurd e' (hp i j hi hj q)
  · exact q
  · exact absurd e'.symm (hp j i hj hi q)
theorem IV_m {l : List Nat} (h : L7 l) {o a b j : Nat} (hI : IV l o a b) (hj : j < l.length) : bt o (l.getD j 0) = 1 ↔ a ≤ j ∧ j ≤ b := by
  rw [hI.2 _ (h.2 j hj)]
  constructor
  · rintro ⟨j', h1, h2, h3, h4⟩
    have := nd_inj h h3 hj h4
    subst this
    exact ⟨h1, h2⟩
  · exact fun q => ⟨j, q.1, q.2, hj, rfl⟩
theorem IV_u {l : List Nat} {o o' a b : Nat} (h : IV l o a b) (h' : IV l o' a b) : o = o' := bt_ex h.1 h'.1 (fun p hp => (h.2 p hp).trans (h'.2 p hp).symm)
theorem IV_1 {l : List Nat} (h : L7 l) {i : Nat} (hi : i < l.length) : IV l (2 ^ l.getD i 0) i i := by
  obtain ⟨h1, h2⟩ := bt_p _ (h.2 i hi)
  refine ⟨h1, fun p hp => ?_⟩
  rw [h2 p hp]
  constructor
  · rintro rfl; exact ⟨i, Nat.le_refl i, Nat.le_refl i, hi, rfl⟩
  · rintro ⟨j, q1, q2, q3, q4⟩
    have : j = i := by omega
    subst this
    exact q4.symm
theorem IV_up {l : List Nat} (h : L7 l) {o a b : Nat} (hI : IV l o a b) (hab : a ≤ b + 1) (hb : b + 1 < l.length) : IV l (sbN o (l.getD (b + 1) 0)) a (b + 1) := by
  obtain ⟨h1, h2⟩ := sbN_b o hI.1 _ (h.2 _ hb)
  refine ⟨h1, fun p hp => ?_⟩
  rw [h2 p hp, hI.2 p hp]
  constructor
  · rintro (⟨j, q1, q2, q3, q4⟩ | rfl)
    · exact ⟨j, q1, by omega, q3, q4⟩
    · exact ⟨b + 1, hab, Nat.le_refl _, hb, rfl⟩
  · rintro ⟨j, q1, q2, q3, q4⟩
    by_cases e : j = b + 1
    · subst e; exact Or.inr q4.symm
    · exact Or.inl ⟨j, q1, by omega, q3, q4⟩
theorem IV_dn {l : List Nat} (h : L7 l) {o a b : Nat} (hI : IV l o (a + 1) b) (hab : a ≤ b) (ha : a < l.length) : IV l (sbN o (l.getD a 0)) a b := by
  obtain ⟨h1, h2⟩ := sbN_b o hI.1 _ (h.2 _ ha)
  refine ⟨h1, fun p hp => ?_⟩
  rw [h2 p hp, hI.2 p hp]
  constructor
  · rintro (⟨j, q1, q2, q3, q4⟩ | rfl)
    · exact ⟨j, by omega, q2, q3, q4⟩
    · exact ⟨a, Nat.le_refl _, hab, ha, rfl⟩
  · rintro ⟨j, q1, q2, q3, q4⟩
    by_cases e : j = a
    · subst e; exact Or.inr q4.symm
    · exact Or.inl ⟨j, by omega, q2, q3, q4⟩
/-- forwards, backwards -/
def laF (g : Nat → Nat → Nat) (l : List Nat) : Nat → Nat → Nat → Nat
  | 0, _, o => o
  | r + 1, k, o => if g (l.getD (k - 1) 0) (l.getD k 0) = 1 then laF g l r (k + 1) (sbN o (l.getD k 0)) else o
def laB (g : Nat → Nat → Nat) (l : List Nat) : Nat → Nat → Nat
  | 0, o => o
  | k + 1, o => if g (l.getD (k + 1) 0) (l.getD k 0) = 1 then laB g l k (sbN o (l.getD k 0)) else o
def laS (g : Nat → Nat → Nat) (l : List Nat) (i : Nat) : Nat := laB g l i (laF g l (l.length - 1 - i) (i + 1) (2 ^ l.getD i 0))
theorem laF_iv (g : Nat → Nat → Nat) {l : List Nat} (h : L7 l) {a : Nat} : ∀ (r k o : Nat), k + 1 + r = l.length → a ≤ k → IV l o a k → ∃ hi, k ≤ hi ∧ hi < l.length ∧ IV l (laF g l r (k + 1) o) a hi ∧ (∀ j, k ≤ j → j < hi → g (l.getD j 0) (l.getD (j + 1) 0) = 1) ∧ (hi + 1 < l.length → ¬ g (l.getD hi 0) (l.getD (hi + 1) 0) = 1) := by
  intro r
  induction r with
  | zero => intro k o hk ha hI; exact ⟨k, Nat.le_refl k, by omega, hI, fun j q1 q2 => by omega, fun q => by omega⟩
  | succ r ih =>
    intro k o hk ha hI
    rw [laF, Nat.add_sub_cancel]
    by_cases hg : g (l.getD k 0) (l.getD (k + 1) 0) = 1
    · rw [if_pos hg]
      obtain ⟨hi, h1, h2, h3, h4, h5⟩ := ih (k + 1) _ (by omega) (by omega) (IV_up h hI (by omega) (by omega))
      refine ⟨hi, by omega, h2, h3, fun j q1 q2 => ?_, h5⟩
      by_cases e : j = k
      · subst e; exact hg
      · exact h4 j (by omega) q2
    · rw [if_neg hg]
      exact ⟨k, Nat.le_refl k, by omega, hI, fun j q1 q2 => by omega, fun _ => hg⟩
theorem laB_iv (g : Nat → Nat → Nat) {l : List Nat} (h : L7 l) {b : Nat} : ∀ (k o : Nat), k < l.length → k ≤ b → IV l o k b → ∃ lo, lo ≤ k ∧ IV l (laB g l k o) lo b ∧ (∀ j, lo < j → j ≤ k → g (l.getD j 0) (l.getD (j - 1) 0) = 1) ∧ (0 < lo → ¬ g (l.getD lo 0) (l.getD (lo - 1) 0) = 1) := by
  intro k
  induction k with
  | zero => intro o _ _ hI; exact ⟨0, Nat.le_refl 0, hI, fun j q1 q2 => by omega, fun q => by omega⟩
  | succ k ih =>
    intro o hk hb hI
    rw [laB]
    by_cases hg : g (l.getD (k + 1) 0) (l.getD k 0) = 1
    · rw [if_pos hg]
      obtain ⟨lo, h1, h3, h4, h5⟩ := ih _ (by omega) (by omega) (IV_dn h hI (by omega) (by omega))
      refine ⟨lo, by omega, h3, fun j q1 q2 => ?_, h5⟩
      by_cases e : j = k + 1
      · subst e; exact hg
      · exact h4 j q1 (by omega)
    · rw [if_neg hg]
      exact ⟨k + 1, Nat.le_refl _, hI, fun j q1 q2 => by omega, fun _ => hg⟩
/-- what the reference does with two neighbours -/
def nb1 (g : Nat → Nat → Nat) (q p o : Nat) : Nat := if bt o q = 1 ∧ g q p = 1 then sbN o p else o
theorem nb1_y {g : Nat → Nat → Nat} {q p o : Nat} (h : bt o q = 1) (k : g q p = 1) : nb1 g q p o = sbN o p := if_pos ⟨h, k⟩
theorem nb1_n {g : Nat → Nat → Nat} {q p o : Nat} (h : ¬ bt o q = 1) : nb1 g q p o = o := if_neg (fun q => h q.1)
theorem nb1_m {g : Nat → Nat → Nat} {q p o : Nat} (h : ¬ g q p = 1) : nb1 g q p o = o := if_neg (fun q => h q.2)
theorem nb1_i {g : Nat → Nat → Nat} {q p o : Nat} (h : bt o p = 1) : nb1 g q p o = o := by
  unfold nb1
  split
  · exact sbN_id h
  · rfl
def nb2 (g : Nat → Nat → Nat) (q p o : Nat) : Nat := nb1 g p q (nb1 g q p o)
def swP (g : Nat → Nat → Nat) : Nat → Option Nat → List Nat → Nat
  | o, _, [] => o
  | o, none, p :: r => swP g o (some p) r
  | o, some q, p :: r => swP g (nb2 g q p o) (some p) r
def rdS (g : Nat → Nat → Nat) (l : List Nat) : Nat → Nat → Nat
  | 0, o => o
  | r + 1, o => rdS g l r (swP g o none l)
theorem nb2_iv (g : Nat → Nat → Nat) {l : List Nat} (h : L7 l) {o a b k : Nat} (hI : IV l o a b) (hab : a ≤ b) (hk1 : 1 ≤ k) (hk : k < l.length) (hb : b < l.length) :
    (k = b + 1 ∧ g (l.getD b 0) (l.getD (b + 1) 0) = 1 ∧ IV l (nb2 g (l.getD (k - 1) 0) (l.getD k 0) o) a (b + 1)) ∨ (k = a ∧ g (l.getD a 0) (l.getD (a - 1) 0) = 1 ∧ IV l (nb2 g (l.getD (k - 1) 0) (l.getD k 0) o) (a - 1) b) ∨ ((k = b + 1 → ¬ g (l.getD b 0) (l.getD (b + 1) 0) = 1) ∧ (k = a → ¬ g (l.getD a 0) (l.getD (a - 1) 0) = 1) ∧ nb2 g (l.getD (k - 1) 0) (l.getD k 0) o = o) := by
  have m1 := IV_m h hI (show k - 1 < l.length by omega)
  have m2 := IV_m h hI hk
  unfold nb2
  by_cases e1 : k = b + 1
  · subst e1
    rw [Nat.add_sub_cancel] at m1 ⊢
    have q1 : bt o (l.getD b 0) = 1 := m1.mpr ⟨hab, Nat.le_refl b⟩
    have q2 : ¬ bt o (l.getD (b + 1) 0) = 1 := fun q => by have := m2.mp q; omega
    by_cases hg : g (l.getD b 0) (l.getD (b + 1) 0) = 1
    · left
      have hI2 := IV_up h hI (by omega) hk
      have q3 : bt (sbN o (l.getD (b + 1) 0)) (l.getD b 0) = 1 := (IV_m h hI2 (by omega)).mpr ⟨hab, by omega⟩
      rw [nb1_y q1 hg, nb1_i q3]
      exact ⟨rfl, hg, hI2⟩
    · right; right
      rw [nb1_m hg, nb1_n q2]
      exact ⟨fun _ => hg, fun q => by omega, rfl⟩
  · by_cases e2 : k = a
    · subst e2
      have q1 : ¬ bt o (l.getD (k - 1) 0) = 1 := fun q => by have := m1.mp q; omega
      have q2 : bt o (l.getD k 0) = 1 := m2.mpr ⟨Nat.le_refl k, hab⟩
      right
      rw [nb1_n q1]
      by_cases hg : g (l.getD k 0) (l.getD (k - 1) 0) = 1
      · left
        rw [nb1_y q2 hg]
        refine ⟨rfl, hg, ?_⟩
        have hI' : IV l o (k - 1 + 1) b := by rw [Nat.sub_add_cancel hk1]; exact hI
        exact IV_dn h hI' (by omega) (by omega)
      · right
        rw [nb1_m hg]
        exact ⟨fun q => absurd q e1, fun _ => hg, rfl⟩
    · right; right
      refine ⟨fun q => absurd q e1, fun q => absurd q e2, ?_⟩
      by_cases i1 : bt o (l.getD (k - 1) 0) = 1
      · have i2 : bt o (l.getD k 0) = 1 := m2.mpr (by have := m1.mp i1; omega)
        rw [nb1_i i2, nb1_i i1]
      · have i2 : ¬ bt o (l.getD k 0) = 1 := fun q => i1 (m1.mpr (by have := m2.mp q; omega))
        rw [nb1_n i1, nb1_n i2]
theorem swP_iv (g : Nat → Nat → Nat) {l : List Nat} (h : L7 l) {i lo hi : Nat} (hlo : lo ≤ i) (hhi : i ≤ hi) (hn : hi < l.length) (f1 : ∀ j, i ≤ j → j < hi → g (l.getD j 0) (l.getD (j + 1) 0) = 1) (f2 : hi + 1 < l.length → ¬ g (l.getD hi 0) (l.getD (hi + 1) 0) = 1) (b1 : ∀ j, lo < j → j ≤ i → g (l.getD j 0) (l.getD (j - 1) 0) = 1) (b2 : 0 < lo → ¬ g (l.getD lo 0) (l.getD (lo - 1) 0) = 1) :
    ∀ (r k o a b : Nat), k + r = l.length → 1 ≤ k → IV l o a b → lo ≤ a → a ≤ i → i ≤ b → b ≤ hi → (k ≤ b + 1 ∨ b = hi) → ∃ a', IV l (swP g o (some (l.getD (k - 1) 0)) (l.drop k)) a' hi ∧ lo ≤ a' ∧ a' ≤ a ∧ (k ≤ a → lo < a → a' + 1 ≤ a) := by
  intro r
  induction r with
  | zero =>
    intro k o a b hk hk1 hI h1 h2 h3 h4 h5
    rw [List.drop_of_length_le (by omega), swP]
    have : b = hi := by omega
    subst this
    exact ⟨a, hI, h1, Nat.le_refl a, fun q => by omega⟩
  | succ r ih =>
    intro k o a b hk hk1 hI h1 h2 h3 h4 h5
    rw [dropc (show k < l.length by omega), swP]
    have ih' := ih (k + 1)
    rw [Nat.add_sub_cancel] at ih'
    rcases nb2_iv g h hI (by omega) hk1 (by omega) (by omega) with ⟨e1, e2, e3⟩ | ⟨e1, e2, e3⟩ | ⟨e1, e2, e3⟩
    · have hbh : b < hi := by
        rcases Nat.lt_or_ge b hi with q | q
        · exact q
        · have : b = hi := by omega
          subst this
          exact absurd e2 (f2 (by omega))
      obtain ⟨a', k1, k2, k3, k4⟩ := ih' _ a (b + 1) (by omega) (by omega) e3 h1 h2 (by omega) (by omega) (by omega)
      exact ⟨a', k1, k2, k3, fun q => by omega⟩
    · have hal : lo < a := by
        rcases Nat.lt_or_ge lo a with q | q
        · exact q
        · have : a = lo := by omega
          subst this
          exact absurd e2 (b2 (by omega))
      obtain ⟨a', k1, k2, k3, k4⟩ := ih' _ (a - 1) b (by omega) (by omega) e3 (by omega) (by omega) h3 h4 (by omega)
      exact ⟨a', k1, k2, by omega, fun _ _ => by omega⟩
    · rw [e3]
      have hkb : k + 1 ≤ b + 1 ∨ b = hi := by
        rcases Nat.lt_or_ge b k with q | q
        · right
          rcases h5 with h5 | h5
          · have hk' : k = b + 1 := by omega
            rcases Nat.lt_or_ge b hi with q2 | q2
            · exact absurd (f1 b h3 q2) (e1 hk')
            · omega
          · exact h5
        · left; omega
      obtain ⟨a', k1, k2, k3, k4⟩ := ih' o a b (by omega) (by omega) hI h1 h2 h3 h4 hkb
      refine ⟨a', k1, k2, k3, fun q1 q2 => ?_⟩
      by_cases e : k = a
      · exact absurd (b1 a q2 h2) (e2 e)
      · exact k4 (by omega) q2
theorem rdS_iv (g : Nat → Nat → Nat) {l : List Nat} (h : L7 l) {i lo hi : Nat} (hlo : lo ≤ i) (hhi : i ≤ hi) (hn : hi < l.length) (f1 : ∀ j, i ≤ j → j < hi → g (l.getD j 0) (l.getD (j + 1) 0) = 1) (f2 : hi + 1 < l.length → ¬ g (l.getD hi 0) (l.getD (hi + 1) 0) = 1) (b1 : ∀ j, lo < j → j ≤ i → g (l.getD j 0) (l.getD (j - 1) 0) = 1) (b2 : 0 < lo → ¬ g (l.getD lo 0) (l.getD (lo - 1) 0) = 1) :
    ∀ (r o a b : Nat), IV l o a b → lo ≤ a → a ≤ i → i ≤ b → b ≤ hi → 1 ≤ r → a ≤ lo + r → IV l (rdS g l r o) lo hi := by
  have sw : ∀ (o a b : Nat), IV l o a b → lo ≤ a → a ≤ i → i ≤ b → b ≤ hi → ∃ a', IV l (swP g o none l) a' hi ∧ lo ≤ a' ∧ a' ≤ a ∧ (lo < a → a' + 1 ≤ a) := by
    intro o a b hI h1 h2 h3 h4
    cases hl : l with
    | nil => rw [hl] at hn; simp at hn
    | cons p t =>
      rw [swP, ← hl]
      have e1 : l.getD 0 0 = p := by rw [hl]; rfl
      have e2 : l.drop 1 = t := by rw [hl]; rfl
      obtain ⟨a', k1, k2, k3, k4⟩ := swP_iv g h hlo hhi hn f1 f2 b1 b2 (l.length - 1) 1 o a b (by omega) (by omega) hI h1 h2 h3 h4 (by omega)
      rw [show 1 - 1 = 0 from rfl, e1, e2] at k1
      exact ⟨a', k1, k2, k3, fun q => k4 (by omega) q⟩
  intro r
  induction r with
  | zero => intro o a b _ _ _ _ _ q; omega
  | succ r ih =>
    intro o a b hI h1 h2 h3 h4 _ hr
    rw [rdS]
    obtain ⟨a', k1, k2, k3, k4⟩ := sw o a b hI h1 h2 h3 h4
    rcases Nat.eq_zero_or_pos r with e | e
    · subst e
      rw [rdS]
      have : a' = lo := by
        rcases Nat.lt_or_ge lo a with q | q
        · have := k4 q; omega
        · omega
      subst this
      exact k1
    · refine ih _ a' hi k1 k2 (by omega) hhi (Nat.le_refl hi) e ?_
      rcases Nat.lt_or_ge lo a with q | q
      · have := k4 q; omega
      · omega
theorem la_eq (g : Nat → Nat → Nat) {l : List Nat} (h : L7 l) (hl : l.length ≤ 7) {i : Nat} (hi : i < l.length) : rdS g l 7 (2 ^ l.getD i 0) = laS g l i := by
  obtain ⟨hi', p1, p2, p3, p4, p5⟩ := laF_iv g h (l.length - 1 - i) i (2 ^ l.getD i 0) (by omega) (Nat.le_refl i) (IV_1 h hi)
  obtain ⟨lo, q1, q2, q3, q4⟩ := laB_iv g h i _ hi p1 p3
  exact IV_u (rdS_iv g h q1 p1 p2 p4 p5 q3 q4 7 _ i i (IV_1 h hi) q1 (Nat.le_refl i) (Nat.le_refl i) p1 (by omega) (by omega)) q2
theorem laS_b (g : Nat → Nat → Nat) {l : List Nat} (h : L7 l) {i : Nat} (hi : i < l.length) : laS g l i < 128 := by
  obtain ⟨hi', p1, p2, p3, p4, p5⟩ := laF_iv g h (l.length - 1 - i) i (2 ^ l.getD i 0) (by omega) (Nat.le_refl i) (IV_1 h hi)
  obtain ⟨lo, q1, q2, q3, q4⟩ := laB_iv g h i _ hi p1 p3
  exact q2.1
