/-! ORDERS: WHAT MAY STAND, AND THE LEAST OF MANY -/
/-- an order, the last one first, that may stand -/
def vR (pa : Nat → Nat) (ob : Nat) : List Nat → Prop
  | [] => True
  | p :: t => vR pa ob t ∧ p < pa 0 ∧ bt ob p = 0 ∧ p ∉ t ∧ (t = [] ∨ mbN pa (t.headD 0) p = true) ∧ ∀ q, q ∈ t.tail → ¬ tw pa q p = 1
def mR (pa : Nat → Nat) (lw : LW) (fz pc : Nat) : List Nat → Option (Nat × Nat)
  | [] => some (0, 1)
  | [_] => some (0, 1)
  | p :: q :: t => match mR pa lw fz pc (q :: t) with
    | none => none
    | some ab => if chN pa lw fz q p pc = 0 then none else some (ab.1 * (if pa 3 = 1 then 10 else chN pa lw fz q p pc) + coN pa lw fz q p pc * ab.2, ab.2 * chN pa lw fz q p pc)
def rR' : List Nat → Nat
  | [] => 0
  | p :: t => 8 * rR' t + p
def sR : List Nat → Nat
  | [] => 0
  | p :: t => sR t + 2 ^ p
/-- three numbers: row, above, below; x is before y -/
def b3 (x y : Nat × Nat × Nat) : Prop := x.2.1 * y.2.2 < y.2.1 * x.2.2 ∨ (x.2.1 * y.2.2 = y.2.1 * x.2.2 ∧ x.1 < y.1)
def e3 (x y : Nat × Nat × Nat) : Prop := x.2.1 * y.2.2 < y.2.1 * x.2.2 ∨ (x.2.1 * y.2.2 = y.2.1 * x.2.2 ∧ x.1 ≤ y.1)
theorem e3_rf (x : Nat × Nat × Nat) : e3 x x := Or.inr ⟨rfl, Nat.le_refl _⟩
theorem b3_e {x y : Nat × Nat × Nat} (h : b3 x y) : e3 x y := by
  rcases h with h | ⟨h1, h2⟩
  · exact Or.inl h
  · exact Or.inr ⟨h1, Nat.le_of_lt h2⟩
theorem nb3_e {x y : Nat × Nat × Nat} (h : ¬ b3 x y) : e3 y x := by
  unfold b3 at h
  unfold e3
  rcases Nat.lt_trichotomy (x.2.1 * y.2.2) (y.2.1 * x.2.2) with q | q | q
  · exact absurd (Or.inl q) h
  · refine Or.inr ⟨q.symm, ?_⟩
    rcases Nat.lt_or_ge x.1 y.1 with k | k
    · exact absurd (Or.inr ⟨q, k⟩) h
    · exact k
  · exact Or.inl q
theorem fr1 {a b a' b' a'' b'' : Nat} (hb : 0 < b) (hb' : 0 < b') (hb'' : 0 < b'') (h1 : a * b' ≤ a' * b) (h2 : a' * b'' ≤ a'' * b') : a * b'' ≤ a'' * b := by
  have k1 : a * b' * b'' ≤ a' * b * b'' := Nat.mul_le_mul_right b'' h1
  have k2 : a' * b'' * b ≤ a'' * b' * b := Nat.mul_le_mul_right b h2
  have k3 : a' * b * b'' = a' * b'' * b := by ac_rfl
  have k4 : a * b'' * b' ≤ a'' * b * b' := by
    have e1 : a * b'' * b' = a * b' * b'' := by ac_rfl
    have e2 : a'' * b * b' = a'' * b' * b := by ac_rfl
    rw [e1, e2]
    exact Nat.le_trans k1 (k3 ▸ k2)
  exact Nat.le_of_mul_le_mul_right k4 hb'
theorem fr2 {a b a' b' a'' b'' : Nat} (hb : 0 < b) (hb' : 0 < b') (hb'' : 0 < b'') (h1 : a * b' < a' * b) (h2 : a' * b'' ≤ a'' * b') : a * b'' < a'' * b := by
  rcases Nat.lt_or_ge (a * b'') (a'' * b) with q | q
  · exact q
  · have := fr1 (a := a') (b := b') (a' := a'') (b' := b'') (a'' := a) (b'' := b) hb' hb'' hb h2 q
    omega
theorem fr3 {a b a' b' a'' b'' : Nat} (hb : 0 < b) (hb' : 0 < b') (hb'' : 0 < b'') (h1 : a * b' ≤ a' * b) (h2 : a' * b'' < a'' * b') : a * b'' < a'' * b := by
  rcases Nat.lt_or_ge (a * b'') (a'' * b) with q | q
  · exact q
  · have := fr1 (a := a'') (b := b'') (a' := a) (b' := b) (a'' := a') (b'' := b') hb'' hb hb' q h1
    omega
theorem e3_tr {x y z : Nat × Nat × Nat} (hx : 0 < x.2.2) (hy : 0 < y.2.2) (hz : 0 < z.2.2) (h : e3 x y) (k : e3 y z) : e3 x z := by
  rcases h with h | ⟨h1, h2⟩
  · rcases k with k | ⟨k1, k2⟩
    · exact Or.inl (fr2 hx hy hz h (Nat.le_of_lt k))
    · exact Or.inl (fr2 hx hy hz h (Nat.le_of_eq k1))
  · rcases k with k | ⟨k1, k2⟩
    · exact Or.inl (fr3 hx hy hz (Nat.le_of_eq h1) k)
    · have q1 := fr1 hx hy hz (Nat.le_of_eq h1) (Nat.le_of_eq k1)
      have q2 := fr1 hz hy hx (Nat.le_of_eq k1.symm) (Nat.le_of_eq h1.symm)
      exact Or.inr ⟨Nat.le_antisymm q1 q2, Nat.le_trans h2 k2⟩
/-- the least of many orders -/
def BR (m : List Nat → Option (Nat × Nat)) (X : List (List Nat)) (o : Option (Nat × Nat × Nat)) : Prop := match o with
  | none => ∀ l, l ∈ X → m l = none
  | some x => (∃ l, l ∈ X ∧ rR' l = x.1 ∧ m l = some x.2) ∧ ∀ l ab, l ∈ X → m l = some ab → e3 x (rR' l, ab)
noncomputable def mg (o o' : Option (Nat × Nat × Nat)) : Option (Nat × Nat × Nat) := match o, o' with
  | none, o' => o'
  | some x, none => some x
  | some x, some y => if pN (b3 y x) = 1 then some y else some x
theorem mg_n (o : Option (Nat × Nat × Nat)) : mg none o = o := by
  unfold mg
  cases o <;> rfl
theorem mg_z (o : Option (Nat × Nat × Nat)) : mg o none = o := by
  unfold mg
  cases o <;> rfl
theorem mg_y {x y : Nat × Nat × Nat} (h : b3 y x) : mg (some x) (some y) = some y := if_pos (pN_t h)
theorem mg_m {x y : Nat × Nat × Nat} (h : ¬ b3 y x) : mg (some x) (some y) = some x := if_neg (by rw [pN_f h]; omega)
def MB (m : List Nat → Option (Nat × Nat)) (X : List (List Nat)) : Prop := ∀ l ab, l ∈ X → m l = some ab → 0 < ab.2
theorem BR_app {m : List Nat → Option (Nat × Nat)} {X Y : List (List Nat)} {o o' : Option (Nat × Nat × Nat)} (hX : MB m X) (hY : MB m Y) (h : BR m X o) (k : BR m Y o') : BR m (X ++ Y) (mg o o') := by
  match o, o', h, k with
  | none, none, h, k =>
    rw [mg_n]
    intro l hl
    rcases List.mem_append.mp hl with q | q
    · exact h l q
    · exact k l q
  | none, some y, h, k =>
    rw [mg_n]
    obtain ⟨⟨l, k1, k2, k3⟩, k4⟩ := k
    refine ⟨⟨l, List.mem_append_right _ k1, k2, k3⟩, fun l' ab q1 q2 => ?_⟩
    rcases List.mem_append.mp q1 with q | q
    · rw [h l' q] at q2; simp at q2
    · exact k4 l' ab q q2
  | some x, none, h, k =>
    rw [mg_z]
    obtain ⟨⟨l, h1, h2, h3⟩, h4⟩ := h
    refine ⟨⟨l, List.mem_append_left _ h1, h2, h3⟩, fun l' ab q1 q2 => ?_⟩
    rcases List.mem_append.mp q1 with q | q
    · exact h4 l' ab q q2
    · rw [k l' q] at q2; simp at q2
  | some x, some y, h, k =>
    obtain ⟨⟨l, h1, h2, h3⟩, h4⟩ := h
    obtain ⟨⟨l', k1, k2, k3⟩, k4⟩ := k
    have px := hX l _ h1 h3
    have py := hY l' _ k1 k3
    rcases Classical.em (b3 y x) with q | q
    · rw [mg_y q]
      refine ⟨⟨l', List.mem_append_right _ k1, k2, k3⟩, fun l'' ab q1 q2 => ?_⟩
      rcases List.mem_append.mp q1 with q3 | q3
      · exact e3_tr py px (hX l'' ab q3 q2) (b3_e q) (h4 l'' ab q3 q2)
      · exact k4 l'' ab q3 q2
    · rw [mg_m q]
      refine ⟨⟨l, List.mem_append_left _ h1, h2, h3⟩, fun l'' ab q1 q2 => ?_⟩
      rcases List.mem_append.mp q1 with q3 | q3
      · exact h4 l'' ab q3 q2
      · exact e3_tr px py (hY l'' ab q3 q2) (nb3_e q) (k4 l'' ab q3 q2)
/-- one more behind -/
def exO (pa : Nat → Nat) (lw : LW) (fz pc q p : Nat) (o : Option (Nat × Nat × Nat)) : Option (Nat × Nat × Nat) := match o with
  | none => none
  | some x => if chN pa lw fz q p pc = 0 then none else some (8 * x.1 + p, x.2.1 * (if pa 3 = 1 then 10 else chN pa lw fz q p pc) + coN pa lw fz q p pc * x.2.2, x.2.2 * chN pa lw fz q p pc)
theorem mR_c (pa : Nat → Nat) (lw : LW) (fz pc p q : Nat) (t : List Nat) : mR pa lw fz pc (p :: q :: t) = match mR pa lw fz pc (q :: t) with
    | none => none
    | some ab => if chN pa lw fz q p pc = 0 then none else some (ab.1 * (if pa 3 = 1 then 10 else chN pa lw fz q p pc) + coN pa lw fz q p pc * ab.2, ab.2 * chN pa lw fz q p pc) := by
  rw [mR]
theorem ex_lt {a b a' b' f c k : Nat} : (a * f + k * b) * (b' * c) = a * b' * (f * c) + k * b * b' * c ∧ (a' * f + k * b') * (b * c) = a' * b * (f * c) + k * b * b' * c := by
  constructor
  · rw [Nat.add_mul]
    congr 1 <;> ac_rfl
  · rw [Nat.add_mul]
    congr 1 <;> ac_rfl
theorem BR_map {pa : Nat → Nat} {lw : LW} {fz pc q p : Nat} {Y : List (List Nat)} {o : Option (Nat × Nat × Nat)} (hq : ∀ l, l ∈ Y → ∃ t, l = q :: t) (h : BR (mR pa lw fz pc) Y o) : BR (mR pa lw fz pc) (Y.map (fun l => p :: l)) (exO pa lw fz pc q p o) := by
  match o, h with
  | none, h =>
    intro l hl
    obtain ⟨l', h1, rfl⟩ := List.mem_map.mp hl
    obtain ⟨t, rfl⟩ := hq l' h1
    rw [mR_c, h _ h1]
  | some x, h =>
    unfold exO
    by_cases hc : chN pa lw fz q p pc = 0
    · show BR _ _ (if chN pa lw fz q p pc = 0 then _ else _)
      rw [if_pos hc]
      intro l hl
      obtain ⟨l', h1, rfl⟩ := List.mem_map.mp hl
      obtain ⟨t, rfl⟩ := hq l' h1
      rw [mR_c]
      cases mR pa lw fz pc (q :: t) with
      | none => rfl
      | some ab => show (if chN pa lw fz q p pc = 0 then _ else _) = _; rw [if_pos hc]
    · show BR _ _ (if chN pa lw fz q p pc = 0 then _ else _)
      rw [if_neg hc]
      obtain ⟨⟨l, h1, h2, h3⟩, h4⟩ := h
      refine ⟨⟨p :: l, List.mem_map.mpr ⟨l, h1, rfl⟩, ?_, ?_⟩, fun l' ab k1 k2 => ?_⟩
      · show 8 * rR' l + p = _; rw [h2]
      · obtain ⟨t, rfl⟩ := hq l h1
        rw [mR_c, h3]
        show (if chN pa lw fz q p pc = 0 then _ else _) = _
        rw [if_neg hc]
      · obtain ⟨l'', k3, rfl⟩ := List.mem_map.mp k1
        obtain ⟨t, rfl⟩ := hq l'' k3
        rw [mR_c] at k2
        cases hm : mR pa lw fz pc (q :: t) with
        | none => rw [hm] at k2; simp at k2
        | some ab' =>
          rw [hm] at k2
          have k2' : (if chN pa lw fz q p pc = 0 then none else some (ab'.1 * (if pa 3 = 1 then 10 else chN pa lw fz q p pc) + coN pa lw fz q p pc * ab'.2, ab'.2 * chN pa lw fz q p pc)) = some ab := k2
          rw [if_neg hc] at k2'
          have k5 := Option.some.inj k2'
          subst k5
          have k6 := h4 _ ab' k3 hm
          obtain ⟨r, a, b⟩ := x
          obtain ⟨a', b'⟩ := ab'
          have hf : 0 < (if pa 3 = 1 then 10 else chN pa lw fz q p pc) := by split <;> omega
          have hfc : 0 < (if pa 3 = 1 then 10 else chN pa lw fz q p pc) * chN pa lw fz q p pc := Nat.mul_pos hf (by omega)
          obtain ⟨z1, z2⟩ := ex_lt (a := a) (b := b) (a' := a') (b' := b') (f := if pa 3 = 1 then 10 else chN pa lw fz q p pc) (c := chN pa lw fz q p pc) (k := coN pa lw fz q p pc)
          unfold e3 at k6 ⊢
          show _ < _ ∨ (_ ∧ _)
          simp only at k6 ⊢
          rw [z1, z2]
          rcases k6 with k6 | ⟨k6, k7⟩
          · left
            have := Nat.mul_lt_mul_of_pos_right k6 hfc
            omega
          · right
            rw [k6]
            refine ⟨rfl, ?_⟩
            show 8 * r + p ≤ 8 * rR' (q :: t) + p
            omega
