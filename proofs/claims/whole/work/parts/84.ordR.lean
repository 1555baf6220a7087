/-! ORDERS: NUMBERS THAT FIT, AND ONE OFFER -/
def laD (h : Nat) : List Nat → Nat
  | [] => h
  | x :: r => laD x r
theorem laD_s (h p : Nat) : ∀ r : List Nat, laD h (r ++ [p]) = p := by
  intro r
  induction r generalizing h with
  | nil => rfl
  | cons x r ih => exact ih x
def stp (pa : Nat → Nat) (lw : LW) (fz pc q p : Nat) (o : Option (Nat × Nat)) : Option (Nat × Nat) := match o with
  | none => none
  | some ab => if chN pa lw fz q p pc = 0 then none else some (ab.1 * (if pa 3 = 1 then 10 else chN pa lw fz q p pc) + coN pa lw fz q p pc * ab.2, ab.2 * chN pa lw fz q p pc)
theorem mnS_sn (pa : Nat → Nat) (lw : LW) (fz pc p : Nat) : ∀ (r : List Nat) (ab : Nat × Nat) (h : Nat), mnS pa lw fz pc ab h (r ++ [p]) = stp pa lw fz pc (laD h r) p (mnS pa lw fz pc ab h r) := by
  intro r
  induction r with
  | nil =>
    intro ab h
    show mnS pa lw fz pc ab h [p] = stp pa lw fz pc h p (some ab)
    rw [mnS]
    unfold stp
    by_cases hc : chN pa lw fz h p pc = 0
    · show _ = (if chN pa lw fz h p pc = 0 then _ else _)
      rw [if_pos hc, if_pos hc]
    · show _ = (if chN pa lw fz h p pc = 0 then _ else _)
      rw [if_neg hc, if_neg hc, mnS]
  | cons x r ih =>
    intro ab h
    show mnS pa lw fz pc ab h (x :: (r ++ [p])) = stp pa lw fz pc (laD x r) p (mnS pa lw fz pc ab h (x :: r))
    rw [mnS, mnS]
    by_cases hc : chN pa lw fz h x pc = 0
    · rw [if_pos hc, if_pos hc]; rfl
    · rw [if_neg hc, if_neg hc]; exact ih _ x
theorem mR_mn (pa : Nat → Nat) (lw : LW) (fz pc : Nat) : ∀ l : List Nat, mR pa lw fz pc l = mnN pa lw fz pc l.reverse
  | [] => rfl
  | [p] => rfl
  | p :: q :: t => by
    have ih := mR_mn pa lw fz pc (q :: t)
    have e1 : mR pa lw fz pc (p :: q :: t) = stp pa lw fz pc q p (mR pa lw fz pc (q :: t)) := mR_c pa lw fz pc p q t
    rw [e1, ih, List.reverse_cons (a := p), List.reverse_cons]
    cases h : t.reverse with
    | nil =>
      show _ = mnS pa lw fz pc (0, 1) q ([] ++ [p])
      rw [mnS_sn]
      rfl
    | cons x r =>
      show stp pa lw fz pc q p (mnS pa lw fz pc (0, 1) x (r ++ [q])) = mnS pa lw fz pc (0, 1) x (r ++ [q] ++ [p])
      rw [mnS_sn (p := p), laD_s]
theorem rR_rw : ∀ l : List Nat, rR' l = rwN l.reverse := by
  intro l
  unfold rwN
  rw [List.foldl_reverse]
  induction l with
  | nil => rfl
  | cons p t ih =>
    show 8 * rR' t + p = _
    rw [ih]
    rfl
theorem rR_b : ∀ {l : List Nat}, (∀ p, p ∈ l → p < 8) → rR' l < 8 ^ l.length := by
  intro l
  induction l with
  | nil => intro _; decide
  | cons p t ih =>
    intro h
    have h1 := h p (List.mem_cons_self)
    have h2 := ih (fun q hq => h q (List.mem_cons_of_mem _ hq))
    show 8 * rR' t + p < 8 ^ (t.length + 1)
    rw [Nat.pow_succ]
    omega
def kR : List Nat → Nat
  | [] => 0
  | p :: t => 9 * kR t + (p + 1)
theorem kR_inj : ∀ {l l' : List Nat}, (∀ p, p ∈ l → p < 8) → (∀ p, p ∈ l' → p < 8) → kR l = kR l' → l = l' := by
  intro l
  induction l with
  | nil =>
    intro l' _ _ e
    cases l' with
    | nil => rfl
    | cons p t => have : 0 = 9 * kR t + (p + 1) := e; omega
  | cons p t ih =>
    intro l' h h' e
    cases l' with
    | nil => have : 9 * kR t + (p + 1) = 0 := e; omega
    | cons p' t' =>
      have h1 := h p (List.mem_cons_self)
      have h2 := h' p' (List.mem_cons_self)
      have e' : 9 * kR t + (p + 1) = 9 * kR t' + (p' + 1) := e
      have e1 : p = p' := by omega
      have e2 : kR t = kR t' := by omega
      rw [e1, ih (fun q hq => h q (List.mem_cons_of_mem _ hq)) (fun q hq => h' q (List.mem_cons_of_mem _ hq)) e2]
theorem kR_b : ∀ {l : List Nat}, (∀ p, p ∈ l → p < 8) → kR l < 9 ^ l.length := by
  intro l
  induction l with
  | nil => intro _; decide
  | cons p t ih =>
    intro h
    have h1 := h p (List.mem_cons_self)
    have h2 := ih (fun q hq => h q (List.mem_cons_of_mem _ hq))
    show 9 * kR t + (p + 1) < 9 ^ (t.length + 1)
    rw [Nat.pow_succ]
    omega
theorem vR_len {pa : Nat → Nat} {ob : Nat} (hp : pa 0 ≤ 7) {l : List Nat} (h : vR pa ob l) : l.length ≤ 7 ∧ ∀ p, p ∈ l → p < 7 := by
  obtain ⟨nd, el⟩ := vR_el h
  have h7 : ∀ p, p ∈ l → p < 7 := fun p hp' => by have := (el p hp').1; omega
  have := nd_len l (List.range 7) nd (fun x hx => List.mem_range.mpr (h7 x hx))
  rw [List.length_range] at this
  exact ⟨this, h7⟩
theorem nd_cnt {pa : Nat → Nat} {ob : Nat} (hp : pa 0 ≤ 7) {X : List (List Nat)} (hn : X.Nodup) (hv : ∀ l, l ∈ X → vR pa ob l) : X.length ≤ 4782969 := by
  have hb : ∀ l, l ∈ X → (∀ p, p ∈ l → p < 8) ∧ kR l < 4782969 := fun l hl => by
    obtain ⟨h1, h2⟩ := vR_len hp (hv l hl)
    have h8 : ∀ p, p ∈ l → p < 8 := fun p hp' => by have := h2 p hp'; omega
    exact ⟨h8, Nat.lt_of_lt_of_le (kR_b h8) (Nat.pow_le_pow_right (n := 9) (by omega) h1)⟩
  have hm : (X.map kR).Nodup := by
    have : ∀ (Y : List (List Nat)), Y.Nodup → (∀ l, l ∈ Y → l ∈ X) → (Y.map kR).Nodup := by
      intro Y
      induction Y with
      | nil => intro _ _; exact List.nodup_nil
      | cons y Y ih =>
        intro h1 h2
        obtain ⟨k1, k2⟩ := List.nodup_cons.mp h1
        refine List.nodup_cons.mpr ⟨fun q => ?_, ih k2 (fun l hl => h2 l (List.mem_cons_of_mem _ hl))⟩
        obtain ⟨y', q1, q2⟩ := List.mem_map.mp q
        have := kR_inj (hb y' (h2 y' (List.mem_cons_of_mem _ q1))).1 (hb y (h2 y (List.mem_cons_self))).1 q2
        subst this
        exact k1 q1
    exact this X hn (fun l hl => hl)
  have := nd_len (X.map kR) (List.range 4782969) hm (fun x hx => by
    obtain ⟨l, h1, rfl⟩ := List.mem_map.mp hx
    exact List.mem_range.mpr (hb l h1).2)
  rw [List.length_map, List.length_range] at this
  exact this
theorem vR_mb {pa : Nat → Nat} {ob : Nat} (hP : PK pa) (lw : LW) (fz pc : Nat) {l : List Nat} (h : vR pa ob l) {ab : Nat × Nat} (hm : mR pa lw fz pc l = some ab) : ab.1 ≤ 17820000000 ∧ 1 ≤ ab.2 ∧ ab.2 ≤ 1000000 ∧ rR' l < 2097152 := by
  obtain ⟨h1, h2⟩ := vR_len hP.1.1 h
  rw [mR_mn] at hm
  obtain ⟨a, b⟩ := ab
  obtain ⟨k1, k2, k3⟩ := mnN_b hP lw fz pc (l := l.reverse) (by rw [List.length_reverse]; exact h1) hm
  have k4 := rR_b (l := l) (fun p hp => by have := h2 p hp; omega)
  exact ⟨k1, k2, k3, Nat.lt_of_lt_of_le k4 (Nat.pow_le_pow_right (n := 8) (by omega) h1)⟩
/-- what the best of a state's orders says in memory -/
def RB (m : List Nat → Option (Nat × Nat)) (μ : PM) (i : Nat) (X : List (List Nat)) : Prop := ∃ o, BR m X o ∧ (o = none → rL μ 88089621 i = lN 0) ∧ ∀ r a b, o = some (r, a, b) → rL μ 87089621 i = lN a ∧ rL μ 88089621 i = lN b ∧ rI μ 89089620 i = nI r
theorem or_nI (x y : Nat) : nI x ||| nI y = nI (x ||| y) := by
  apply Int32.toBitVec_inj.mp
  rw [Int32.toBitVec_or]
  apply BitVec.eq_of_toNat_eq
  rw [BitVec.toNat_or]
  show x % 2 ^ 32 ||| y % 2 ^ 32 = (x ||| y) % 2 ^ 32
  rw [Nat.or_mod_two_pow]
theorem rw8 {r p : Nat} (hr : r < 2097152) (hp : p < 8) : (nI r <<< (nI 3 &&& nI 31)) ||| nI p = nI (8 * r + p) := by
  rw [pk_shlN (nI 3 &&& nI 31) 3 (by decide) (by omega), or_nI]
  congr 1
  rw [Nat.mul_comm r (2 ^ 3)]
  exact (Nat.two_pow_add_eq_or_of_lt (i := 3) (b := p) (by omega) r).symm
theorem i_rem {q p : Nat} (hq : q < 7) (hp : p < 7) : nI (q * 7 + p) - nI (q * 7 + p) / nI 7 * nI 7 = nI p := by
  rw [pk_rem (by omega) (by omega) (by omega)]
  congr 1
  omega
/-- what an offer leaves -/
def OF (t : Nat) (μ ν : PM) : Prop := (∀ a j, ¬ (a = 89089620 ∧ j = t) → rI ν a j = rI μ a j) ∧ (∀ a j, ¬ ((a = 87089621 ∨ a = 88089621) ∧ j = t) → a ≠ 92000000 → rL ν a j = rL μ a j) ∧ (∀ a j, rR ν a j = rR μ a j) ∧ aS ν = aS μ
theorem OF_rf (t : Nat) (μ : PM) : OF t μ μ := ⟨fun _ _ _ => rfl, fun _ _ _ _ => rfl, fun _ _ => rfl, rfl⟩
theorem OF_CSc {t : Nat} {μ ν : PM} (h : OF t μ ν) : CSc μ ν := ⟨fun a j q => h.1 a j (fun e => q (Or.inr (Or.inr (Or.inr (by omega))))), fun a j q => h.2.1 a j (fun e => q (by omega)) (fun e => q (by omega)), h.2.2.1, h.2.2.2⟩
def lg2 (μ : PM) (a b : Nat) : PM := wL (wL μ 92000000 0 (lN a)) 92000000 1 (lN b)
theorem lg2_lg2 {μ : PM} {a b a' b' : Nat} : wL (wL (lg2 μ a b) 92000000 0 (lN a')) 92000000 1 (lN b') = lg2 μ a' b' := by
  unfold lg2 wL
  refine Prod.ext rfl (Prod.ext ?_ rfl)
  funext c k
  simp only
  by_cases h1 : 92000000 = c ∧ 1 = k
  · simp [h1]
  · by_cases h0 : 92000000 = c ∧ 0 = k
    · simp [h0, h1]
    · simp [h0, h1]
