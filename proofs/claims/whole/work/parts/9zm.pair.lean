/-! THE SAME CALL ON BOTH SIDES -/
/-- the script stays, nothing is made -/
def BK (μ ν : PM) : Prop := (∀ a j, a < 2000000 → rI ν a j = rI μ a j) ∧ aS ν = aS μ
/-- what holds before and behind every call -/
def IVA (μ : PM) : Prop := KW μ ∧ ∃ pa lw s un mk tp, CH μ pa lw s un mk tp ∧ MH μ pa lw s un mk tp ∧ OKA pa s un mk tp ∧ LK lw ∧ TZ pa
/-- the class's call, then the reference's: one answer -/
def PQA {α : Type} (c : α → Value) (μ : PM) (F G : PM → (Option Value → PM → Prop) → Prop) : Prop := ∃ ν ρ x, BK μ ν ∧ BK μ ρ ∧ IVA ρ ∧ (∀ Q, F μ Q = Q (some (c x)) ν) ∧ ∀ Q, G ν Q = Q (some (c x)) ρ
theorem pq {α : Type} {c : α → Value} {μ : PM} {F G : PM → (Option Value → PM → Prop) → Prop} {x : α} {pa pa' : Nat → Nat} {lw lw' : LW} {s s' : Nat → Nat} {un un' : List (Nat → Nat)} {mk mk' : Nat → Option (Nat → Nat)} {tp tp' : List Nat} (hW : KW μ) (hM : MH μ pa lw s un mk tp) (hK : OKA pa' s' un' mk' tp') (hL : LK lw') (hZ : TZ pa') (hF : ∃ ν, HE μ ν ∧ CH ν pa' lw' s' un' mk' tp' ∧ ∀ Q, F μ Q = Q (some (c x)) ν) (hG : ∀ ν, MH ν pa lw s un mk tp → ∃ ρ, LE ν ρ ∧ MH ρ pa' lw' s' un' mk' tp' ∧ ∀ Q, G ν Q = Q (some (c x)) ρ) : PQA c μ F G := by
  obtain ⟨ν, h1, h2, h3⟩ := hF
  obtain ⟨ρ, k1, k2, k3⟩ := hG ν (HE_MH h1 h2.1 hM)
  exact ⟨ν, ρ, x, ⟨fun a j q => (h1.1 a j (Or.inr q)).1, h1.2⟩, ⟨fun a j q => (k1.1 a j (by omega)).1.trans (h1.1 a j (Or.inr q)).1, k1.2.trans h1.2⟩, ⟨fun i hi => ((k1.1 _ _ (by omega)).2.1.trans (h1.1 _ _ (Or.inr (by omega))).2.1).trans (hW i hi), pa', lw', s', un', mk', tp', LE_CH k1 k2.1 h2, k2, hK, hL, hZ⟩, h3, k3⟩
section T1
variable {μ : PM} {pa : Nat → Nat} {lw : LW} {s : Nat → Nat} {un : List (Nat → Nat)} {mk : Nat → Option (Nat → Nat)} {tp : List Nat} {F : PM → (Option Value → PM → Prop) → Prop} {v : Option Value}
theorem HE_r0 (μ : PM) : HE μ μ := ⟨fun _ _ _ => ⟨rfl, rfl, rfl⟩, rfl⟩
theorem cq0 (hC : CH μ pa lw s un mk tp) (h : ∀ Q, F μ Q = Q v μ) : ∃ ν, HE μ ν ∧ CH ν pa lw s un mk tp ∧ ∀ Q, F μ Q = Q v ν := ⟨μ, HE_r0 μ, hC, h⟩
theorem cqS (hC : CH μ pa lw s un mk tp) (h : ∃ ν, CSc μ ν ∧ ∀ Q, F μ Q = Q v ν) : ∃ ν, HE μ ν ∧ CH ν pa lw s un mk tp ∧ ∀ Q, F μ Q = Q v ν := by
  obtain ⟨ν, h1, h2⟩ := h
  exact ⟨ν, CSc_HE h1, CSc_CH h1 hC, h2⟩
theorem mq0 (hM : MH μ pa lw s un mk tp) (h : ∀ Q, F μ Q = Q v (wI μ 110000011 0 (nI 0))) : ∃ ν, LE μ ν ∧ MH ν pa lw s un mk tp ∧ ∀ Q, F μ Q = Q v ν := ⟨_, MSc_LE (th_MSc μ), MSc_MH (th_MSc μ) hM, h⟩
theorem mqS (hM : MH μ pa lw s un mk tp) (h : ∃ ν, MSc μ ν ∧ ∀ Q, F μ Q = Q v ν) : ∃ ν, LE μ ν ∧ MH ν pa lw s un mk tp ∧ ∀ Q, F μ Q = Q v ν := by
  obtain ⟨ν, h1, h2⟩ := h
  exact ⟨ν, MSc_LE h1, MSc_MH h1 hM, h2⟩
theorem SO_fr {i : Nat} (hp7 : pa 0 ≤ 7) (h : SO pa s) (hi : i < pa 1) : SO pa (up s 8 (i + 1)) := by
  obtain ⟨h1, h2, h3, h4', h5', h6, h7⟩ := h
  have e : ∀ k, k ≠ 8 → up s 8 (i + 1) k = s k := fun k hk => by unfold up; rw [if_neg hk]
  have e8 : up s 8 (i + 1) 8 = i + 1 := by unfold up; rw [if_pos rfl]
  exact ⟨fun k hk => by rw [e k (by omega)]; exact h1 k hk, fun i j hi hj q => h2 i j hi hj (by rwa [e i (by omega), e j (by omega)] at q), fun k q1 q2 => by rw [e k (by omega)]; exact h3 k q1 q2, by rw [e 7 (by omega)]; exact h4', by rw [e8]; omega, by rw [e8]; omega, by rw [e 9 (by omega)]; exact h7⟩
theorem SO_pc {i : Nat} (hp7 : pa 0 ≤ 7) (h : SO pa s) (hi : i < 4) : SO pa (up s 9 i) := by
  obtain ⟨h1, h2, h3, h4', h5', h6, h7⟩ := h
  have e : ∀ k, k ≠ 9 → up s 9 i k = s k := fun k hk => by unfold up; rw [if_neg hk]
  have e9 : up s 9 i 9 = i := by unfold up; rw [if_pos rfl]
  exact ⟨fun k hk => by rw [e k (by omega)]; exact h1 k hk, fun i j hi hj q => h2 i j hi hj (by rwa [e i (by omega), e j (by omega)] at q), fun k q1 q2 => by rw [e k (by omega)]; exact h3 k q1 q2, by rw [e 7 (by omega)]; exact h4', by rw [e 8 (by omega)]; exact h5', by rw [e 8 (by omega)]; exact h6, by rw [e9]; omega⟩
end T1
