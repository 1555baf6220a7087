/-! WHAT A LINE DOES -/
abbrev SS : Type := (Nat → Nat) × LW × Nms × Nat
def adP (pa : Nat → Nat) (wm k a b : Nat) : Nat → Nat := fun i => if i = 0 then pa 0 + 1 else if i = 8 + 4 * pa 0 then k else if i = 8 + 4 * pa 0 + 1 then wm else if i = 8 + 4 * pa 0 + 2 then a else if i = 8 + 4 * pa 0 + 3 then b else pa i
def adF (pa : Nat → Nat) (a b : Nat) : Nat → Nat := fun i => if i = 1 then pa 1 + 1 else if i = 36 + 2 * pa 1 then a else if i = 36 + 2 * pa 1 + 1 then b else pa i
def adT (pa : Nat → Nat) (i j q : Nat) : Nat → Nat := fun x => if x = 44 + 7 * i + j ∨ x = 44 + 7 * j + i then q else pa x
def adL (lw : LW) (k : Nat) (l : List Cod) : LW := fun j => if j = k then some l else lw j
noncomputable def lnP (S : SS) (wm : Nat) (T : List Tok) : Except Nat (SS × List Tok) := bnd (tkU S.2.2.1 T) fun p1 => bnd (tkK p1.2) fun p2 => bnd (tkW 2 p2.2) fun T4 => bnd (tkN 99 T4) fun p5 => bnd (tkW 3 p5.2) fun T6 => bnd (tkN 9 T6) fun p7 => .ok ((adP S.1 wm p2.1 p5.1 p7.1, S.2.1, S.2.2.1 ++ [(p1.1, S.1 0)], S.2.2.2), p7.2)
noncomputable def lnF (S : SS) (T : List Tok) : Except Nat (SS × List Tok) := bnd (tkU S.2.2.1 T) fun p1 => bnd (tkW 5 p1.2) fun T4 => bnd (tkN 9 T4) fun p5 => bnd (tkW 6 p5.2) fun T6 => bnd (tkN 9 T6) fun p7 => .ok ((adF S.1 p5.1 p7.1, S.2.1, S.2.2.1 ++ [(p1.1, 100)], S.2.2.2), p7.2)
noncomputable def ln2 (S : SS) (q : Nat) (T : List Tok) : Except Nat (SS × List Tok) := bnd (fdP S.2.2.1 T) fun i => bnd (fdP S.2.2.1 T.tail) fun j => if i = j ∨ tw S.1 i j ≠ 0 then .error (flT 3 T.tail) else .ok ((adT S.1 i j q, S.2.1, S.2.2.1, S.2.2.2), T.tail.tail)
def ln12 (S : SS) (T : List Tok) : Except Nat (SS × List Tok) := if (hdT T).2.1 = 13 then .ok ((up S.1 3 1, S.2), T.tail) else if (hdT T).2.1 = 14 then .ok ((up S.1 3 0, S.2), T.tail) else .error (flT 1 T)
noncomputable def ln1 (S : SS) (t : Nat) (T : List Tok) : Except Nat (SS × List Tok) := if t = 12 then ln12 S T else if t = 15 then bnd (tkN 99 T) (fun p => .ok ((up S.1 2 p.1, S.2), p.2)) else if t = 16 then .ok ((up S.1 4 1, S.2), T) else bnd (mac (t - 7) T [] true []) fun p => .ok ((S.1, adL S.2.1 (t - 7) p.1, S.2.2), p.2)
def isO (t : Nat) : Prop := t = 7 ∨ t = 8 ∨ t = 9 ∨ t = 12 ∨ t = 15 ∨ t = 16
noncomputable def lnA (S : SS) (T : List Tok) : Except Nat (SS × List Tok) :=
  if (hdT T).2.1 = 0 ∨ (hdT T).2.1 = 1 then (if 7 ≤ S.1 0 then .error (flT 5 T) else lnP S (hdT T).2.1 T.tail)
  else if (hdT T).2.1 = 4 then (if 4 ≤ S.1 1 then .error (flT 5 T) else lnF S T.tail)
  else if (hdT T).2.1 = 10 ∨ (hdT T).2.1 = 11 then ln2 S ((hdT T).2.1 - 9) T.tail
  else if pN (isO (hdT T).2.1) = 1 then (if bt S.2.2.2 (hdT T).2.1 = 1 then .error (flT 3 T) else ln1 (S.1, S.2.1, S.2.2.1, S.2.2.2 ||| 2 ^ (hdT T).2.1) (hdT T).2.1 T.tail)
  else .error (flT 1 T)
noncomputable def lnB (S : SS) (T : List Tok) : Except Nat (SS × List Tok) := bnd (lnA S T) fun p => bnd (tkW 59 p.2) fun T' => .ok (p.1, T')
noncomputable def lnZ : Nat → SS → List Tok → Except Nat SS
  | 0, _, _ => .error 0
  | n + 1, S, T => if (hdT T).2.1 = 30 then .ok S else bnd (lnB S T) fun p => lnZ n p.1 p.2
/-- what is sure of what is told so far -/
def SI (S : SS) : Prop := PK S.1 ∧ TZ S.1 ∧ NG S.2.2.1 ∧ S.2.2.1.length = S.1 0 + S.1 1 ∧ (∀ p, p ∈ S.2.2.1 → p.2 < S.1 0 ∨ p.2 = 100) ∧ S.2.2.2 < 131072 ∧ S.1 4 = bt S.2.2.2 16 ∧ ∀ k, k < 3 → (S.2.1 k = none ↔ bt S.2.2.2 (7 + k) = 0) ∧ ∀ l, S.2.1 k = some l → l ≠ [] ∧ hok l 0 ∧ ∀ c, c ∈ l → lko k c
theorem bnd_ok {α β : Type} {r : Except Nat α} {g : α → Except Nat β} {b : β} (h : bnd r g = .ok b) : ∃ a, r = .ok a ∧ g a = .ok b := by
  cases r with
  | error f => cases h
  | ok a => exact ⟨a, rfl, h⟩
theorem tkW_ok {w : Nat} {T T' : List Tok} (h : tkW w T = .ok T') : (hdT T).2.1 = w ∧ T' = T.tail := by
  unfold tkW at h
  by_cases e : (hdT T).2.1 = w
  · rw [if_pos e] at h; cases h; exact ⟨e, rfl⟩
  · rw [if_neg e] at h; cases h
theorem tkN_ok {m : Nat} {T : List Tok} {p : Nat × List Tok} (h : tkN m T = .ok p) : (hdT T).2.1 = 29 ∧ p.1 ≤ m ∧ p.1 = n10 (hdT T).2.2.1 ∧ p.2 = T.tail := by
  unfold tkN at h
  by_cases e : (hdT T).2.1 = 29
  · rw [if_pos e] at h
    by_cases g : n10 (hdT T).2.2.1 ≤ m
    · rw [if_pos g] at h; cases h; exact ⟨e, g, rfl, rfl⟩
    · rw [if_neg g] at h; cases h
  · rw [if_neg e] at h; cases h
theorem tkK_ok {T : List Tok} {p : Nat × List Tok} (h : tkK T = .ok p) : 17 ≤ (hdT T).2.1 ∧ (hdT T).2.1 ≤ 22 ∧ p.1 = (hdT T).2.1 - 17 ∧ p.2 = T.tail := by
  unfold tkK at h
  by_cases e : 17 ≤ (hdT T).2.1 ∧ (hdT T).2.1 ≤ 22
  · rw [if_pos e] at h; cases h; exact ⟨e.1, e.2, rfl, rfl⟩
  · rw [if_neg e] at h; cases h
theorem tkU_ok {nm : Nms} {T : List Tok} {p : List Nat × List Tok} (h : tkU nm T = .ok p) : isNm (hdT T).2.1 ∧ fnm nm (hdT T).2.2.1 = none ∧ p.1 = (hdT T).2.2.1 ∧ p.2 = T.tail := by
  unfold tkU at h
  rcases Classical.em (isNm (hdT T).2.1) with e | e
  · rw [pN_t e, if_pos rfl] at h
    by_cases g : fnm nm (hdT T).2.2.1 = none
    · rw [if_pos g] at h; cases h; exact ⟨e, g, rfl, rfl⟩
    · rw [if_neg g] at h; cases h
  · rw [pN_f e, if_neg (by omega)] at h; cases h
theorem fdP_ok {nm : Nms} {T : List Tok} {w : Nat} (h : fdP nm T = .ok w) : isNm (hdT T).2.1 ∧ fnm nm (hdT T).2.2.1 = some w ∧ w < 7 := by
  unfold fdP at h
  rcases Classical.em (isNm (hdT T).2.1) with e | e
  · rw [pN_t e, if_pos rfl] at h
    cases g : fnm nm (hdT T).2.2.1 with
    | none => rw [g] at h; cases h
    | some v =>
      rw [g] at h
      by_cases hv : v < 7
      · simp only [if_pos hv] at h; cases h; exact ⟨e, rfl, hv⟩
      · simp only [if_neg hv] at h; cases h
  · rw [pN_f e, if_neg (by omega)] at h; cases h
theorem tl_len {T : List Tok} (h : GT T) : T.tail.length + 1 = T.length := by
  cases T with
  | nil => exact h.1.elim
  | cons t T => rfl
theorem GT_tl {T : List Tok} (h : GT T) (h30 : (hdT T).2.1 ≠ 30) : GT T.tail := by
  cases T with
  | nil => exact h.1.elim
  | cons t T => exact GT_t h h30
theorem bt_or (x t j : Nat) : bt (x ||| 2 ^ t) j = if j = t then 1 else bt x j := by
  have h : bt (x ||| 2 ^ t) j = 1 ↔ bt x j = 1 ∨ j = t := by
    rw [bt_tb, bt_tb, Nat.testBit_or, Bool.or_eq_true, Nat.testBit_two_pow, decide_eq_true_eq]
    constructor
    · rintro (a | a)
      · exact Or.inl a
      · exact Or.inr a.symm
    · rintro (a | a)
      · exact Or.inl a
      · exact Or.inr a.symm
  have h1 := bt_01 (x ||| 2 ^ t) j
  have h2 := bt_01 x j
  by_cases e : j = t
  · rw [if_pos e]; exact h.mpr (Or.inr e)
  · rw [if_neg e]
    rcases h2 with q | q
    · rw [q]
      rcases h1 with z | z
      · exact z
      · rcases h.mp z with y | y
        · omega
        · exact absurd y e
    · rw [q]; exact h.mpr (Or.inl q)
theorem or_lt {x t : Nat} (hx : x < 131072) (ht : t ≤ 16) : x ||| 2 ^ t < 131072 := Nat.or_lt_two_pow (n := 17) hx (Nat.pow_lt_pow_right (by omega) (by omega))
theorem PK_P {pa : Nat → Nat} {wm k a b : Nat} (h : PK pa) (h0 : pa 0 < 7) (h1 : wm ≤ 1) (h2 : k ≤ 5) (h3 : a ≤ 99) (h4 : b ≤ 9) : PK (adP pa wm k a b) := by
  obtain ⟨p1, p2, p3, p4, p5⟩ := h
  unfold PK adP
  refine ⟨⟨by simp; omega, ?_, ?_, ?_, ?_⟩, fun i hi => ⟨?_, ?_, ?_, ?_⟩, fun f hf => ⟨?_, ?_⟩, fun x y hx hy => ?_, fun x hx => ?_⟩
  · rw [if_neg (by omega), if_neg (by omega), if_neg (by omega), if_neg (by omega), if_neg (by omega)]; exact p1.2.1
  · rw [if_neg (by omega), if_neg (by omega), if_neg (by omega), if_neg (by omega), if_neg (by omega)]; exact p1.2.2.1
  · rw [if_neg (by omega), if_neg (by omega), if_neg (by omega), if_neg (by omega), if_neg (by omega)]; exact p1.2.2.2.1
  · rw [if_neg (by omega), if_neg (by omega), if_neg (by omega), if_neg (by omega), if_neg (by omega)]; exact p1.2.2.2.2
  · rw [if_neg (by omega)]
    by_cases e : i = pa 0
    · rw [if_pos (by omega)]; exact h2
    · rw [if_neg (by omega), if_neg (by omega), if_neg (by omega), if_neg (by omega)]; exact (p2 i hi).1
  · rw [if_neg (by omega), if_neg (by omega)]
    by_cases e : i = pa 0
    · rw [if_pos (by omega)]; exact h1
    · rw [if_neg (by omega), if_neg (by omega), if_neg (by omega)]; exact (p2 i hi).2.1
  · rw [if_neg (by omega), if_neg (by omega), if_neg (by omega)]
    by_cases e : i = pa 0
    · rw [if_pos (by omega)]; exact h3
    · rw [if_neg (by omega), if_neg (by omega)]; exact (p2 i hi).2.2.1
  · rw [if_neg (by omega), if_neg (by omega), if_neg (by omega), if_neg (by omega)]
    by_cases e : i = pa 0
    · rw [if_pos (by omega)]; exact h4
    · rw [if_neg (by omega)]; exact (p2 i hi).2.2.2
  · rw [if_neg (by omega), if_neg (by omega), if_neg (by omega), if_neg (by omega), if_neg (by omega)]; exact (p3 f hf).1
  · rw [if_neg (by omega), if_neg (by omega), if_neg (by omega), if_neg (by omega), if_neg (by omega)]; exact (p3 f hf).2
  · rw [if_neg (by omega), if_neg (by omega), if_neg (by omega), if_neg (by omega), if_neg (by omega), if_neg (by omega), if_neg (by omega), if_neg (by omega), if_neg (by omega), if_neg (by omega)]; exact p4 x y hx hy
  · rw [if_neg (by omega), if_neg (by omega), if_neg (by omega), if_neg (by omega), if_neg (by omega)]; exact p5 x hx
theorem PK_F {pa : Nat → Nat} {a b : Nat} (h : PK pa) (h0 : pa 1 < 4) (h3 : a ≤ 9) (h4 : b ≤ 9) : PK (adF pa a b) := by
  obtain ⟨p1, p2, p3, p4, p5⟩ := h
  unfold PK adF
  refine ⟨⟨?_, by simp; omega, ?_, ?_, ?_⟩, fun i hi => ⟨?_, ?_, ?_, ?_⟩, fun f hf => ⟨?_, ?_⟩, fun x y hx hy => ?_, fun x hx => ?_⟩
  · rw [if_neg (by omega), if_neg (by omega), if_neg (by omega)]; exact p1.1
  · rw [if_neg (by omega), if_neg (by omega), if_neg (by omega)]; exact p1.2.2.1
  · rw [if_neg (by omega), if_neg (by omega), if_neg (by omega)]; exact p1.2.2.2.1
  · rw [if_neg (by omega), if_neg (by omega), if_neg (by omega)]; exact p1.2.2.2.2
  · rw [if_neg (by omega), if_neg (by omega), if_neg (by omega)]; exact (p2 i hi).1
  · rw [if_neg (by omega), if_neg (by omega), if_neg (by omega)]; exact (p2 i hi).2.1
  · rw [if_neg (by omega), if_neg (by omega), if_neg (by omega)]; exact (p2 i hi).2.2.1
  · rw [if_neg (by omega), if_neg (by omega), if_neg (by omega)]; exact (p2 i hi).2.2.2
  · rw [if_neg (by omega)]
    by_cases e : f = pa 1
    · rw [if_pos (by omega)]; exact h3
    · rw [if_neg (by omega), if_neg (by omega)]; exact (p3 f hf).1
  · rw [if_neg (by omega), if_neg (by omega)]
    by_cases e : f = pa 1
    · rw [if_pos (by omega)]; exact h4
    · rw [if_neg (by omega)]; exact (p3 f hf).2
  · rw [if_neg (by omega), if_neg (by omega), if_neg (by omega), if_neg (by omega), if_neg (by omega), if_neg (by omega)]; exact p4 x y hx hy
  · rw [if_neg (by omega), if_neg (by omega), if_neg (by omega)]; exact p5 x hx
theorem adT_o {pa : Nat → Nat} {i j q x : Nat} (h : x < 44) : adT pa i j q x = pa x := by
  unfold adT
  rw [if_neg (by omega)]
theorem adT_t {pa : Nat → Nat} {i j q a b : Nat} (hi : i < 7) (hj : j < 7) (ha : a < 7) (hb : b < 7) : tw (adT pa i j q) a b = if (a = i ∧ b = j) ∨ (a = j ∧ b = i) then q else tw pa a b := by
  unfold tw adT
  by_cases e : (a = i ∧ b = j) ∨ (a = j ∧ b = i)
  · rw [if_pos e, if_pos (by omega)]
  · rw [if_neg e, if_neg (by omega)]
theorem PK_T {pa : Nat → Nat} {i j q : Nat} (h : PK pa) (hi : i < 7) (hj : j < 7) (hij : i ≠ j) (hq : q ≤ 2) : PK (adT pa i j q) := by
  obtain ⟨p1, p2, p3, p4, p5⟩ := h
  refine ⟨⟨?_, ?_, ?_, ?_, ?_⟩, fun x hx => ?_, fun f hf => ?_, fun x y hx hy => ?_, fun x hx => ?_⟩
  · rw [adT_o (by omega)]; exact p1.1
  · rw [adT_o (by omega)]; exact p1.2.1
  · rw [adT_o (by omega)]; exact p1.2.2.1
  · rw [adT_o (by omega)]; exact p1.2.2.2.1
  · rw [adT_o (by omega)]; exact p1.2.2.2.2
  · rw [adT_o (by omega), adT_o (by omega), adT_o (by omega), adT_o (by omega)]; exact p2 x hx
  · rw [adT_o (by omega), adT_o (by omega)]; exact p3 f hf
  · show tw (adT pa i j q) x y ≤ 2 ∧ tw (adT pa i j q) x y = tw (adT pa i j q) y x
    rw [adT_t hi hj hx hy, adT_t hi hj hy hx]
    by_cases e : (x = i ∧ y = j) ∨ (x = j ∧ y = i)
    · rw [if_pos e, if_pos (by omega)]; exact ⟨hq, rfl⟩
    · rw [if_neg e, if_neg (by omega)]; exact p4 x y hx hy
  · show tw (adT pa i j q) x x = 0
    rw [adT_t hi hj hx hx, if_neg (by omega)]
    exact p5 x hx
theorem PK_u {pa : Nat → Nat} {k v : Nat} (h : PK pa) (hk : (k = 2 ∧ v ≤ 99) ∨ ((k = 3 ∨ k = 4) ∧ v ≤ 1)) : PK (up pa k v) := by
  obtain ⟨p1, p2, p3, p4, p5⟩ := h
  have e : ∀ x, x ≠ k → up pa k v x = pa x := fun x hx => by unfold up; rw [if_neg hx]
  have e2 : up pa k v k = v := by unfold up; rw [if_pos rfl]
  refine ⟨⟨?_, ?_, ?_, ?_, ?_⟩, fun x hx => ?_, fun f hf => ?_, fun x y hx hy => ?_, fun x hx => ?_⟩
  · rw [e _ (by omega)]; exact p1.1
  · rw [e _ (by omega)]; exact p1.2.1
  · rcases hk with ⟨rfl, hv⟩ | ⟨hk, hv⟩
    · rw [e2]; exact hv
    · rw [e _ (by omega)]; exact p1.2.2.1
  · rcases hk with ⟨rfl, hv⟩ | ⟨hk | hk, hv⟩
    · rw [e _ (by omega)]; exact p1.2.2.2.1
    · subst hk; rw [e2]; exact hv
    · rw [e _ (by omega)]; exact p1.2.2.2.1
  · rcases hk with ⟨rfl, hv⟩ | ⟨hk | hk, hv⟩
    · rw [e _ (by omega)]; exact p1.2.2.2.2
    · rw [e _ (by omega)]; exact p1.2.2.2.2
    · subst hk; rw [e2]; exact hv
  · rw [e _ (by omega), e _ (by omega), e _ (by omega), e _ (by omega)]; exact p2 x hx
  · rw [e _ (by omega), e _ (by omega)]; exact p3 f hf
  · rw [e _ (by omega), e _ (by omega)]; exact p4 x y hx hy
  · rw [e _ (by omega)]; exact p5 x hx
