/-! HOW A LAW IS READ: ONE MACHINE -/
def rk (t : Nat) : Nat := if t = 24 ∨ t = 25 then 1 else if t = 60 ∨ t = 61 then 2 else if t = 43 ∨ t = 45 then 3 else if t = 42 then 4 else 0
def opc (t : Nat) : Nat := if t = 43 then 4 else if t = 45 then 5 else if t = 42 then 6 else if t = 60 then 7 else if t = 61 then 8 else if t = 24 then 9 else 10
def fci (t : Nat) : Nat := if t = 26 then 0 else if t = 3 then 1 else if t = 5 then 2 else if t = 6 then 3 else if t = 27 then 4 else 9
/-- the fact may stand in this law -/
def fal (k t : Nat) : Prop := fci t < (if k = 2 then 2 else 5)
abbrev Cod : Type := Nat × Nat
def joi (r : Nat) : List Nat → List Cod × List Nat
  | [] => ([], [])
  | x :: σ => if r ≤ rk x then ((opc x, 0) :: (joi r σ).1, (joi r σ).2) else ([], x :: σ)
def nots : List Nat → List Cod × List Nat
  | [] => ([], [])
  | x :: σ => if x = 23 then ((3, 0) :: (nots σ).1, (nots σ).2) else ([], x :: σ)
def nst : List Nat → Nat
  | [] => 0
  | x :: σ => (if x = 23 ∨ x = 40 then 1 else 0) + nst σ
def ops : List Nat → Nat
  | [] => 0
  | x :: σ => (if x = 23 ∨ x = 40 then 0 else 1) + ops σ
def ftk (k : Nat) (t : Tok) : Nat := k + 16 * t.1
noncomputable def mac (k : Nat) : List Tok → List Nat → Bool → List Cod → Except Nat (List Cod × List Tok)
  | [], _, _, _ => .error 0
  | t :: T, σ, true, κ =>
    if t.2.1 = 23 ∨ t.2.1 = 40 then (if 5 ≤ nst σ then .error (ftk 5 t) else mac k T (t.2.1 :: σ) true κ)
    else if t.2.1 = 29 then (if 5 ≤ nst σ then .error (ftk 5 t) else mac k T (nots σ).2 false (κ ++ (1, n10 t.2.2.1) :: (nots σ).1))
    else if pN (fal k t.2.1) = 1 then (if 5 ≤ nst σ then .error (ftk 5 t) else mac k T (nots σ).2 false (κ ++ (2, fci t.2.1) :: (nots σ).1))
    else .error (ftk 1 t)
  | t :: T, σ, false, κ =>
    if t.2.1 = 59 ∧ nst σ = 0 then .ok (κ ++ (joi 1 σ).1, t :: T)
    else if t.2.1 = 41 ∧ 0 < nst σ then mac k T (nots (joi 1 σ).2.tail).2 false (κ ++ (joi 1 σ).1 ++ (nots (joi 1 σ).2.tail).1)
    else if rk t.2.1 = 0 then .error (ftk 1 t)
    else if rk t.2.1 = 2 then (if rk ((joi 3 σ).2.headD 30) = 2 then .error (ftk 1 t) else mac k T (t.2.1 :: (joi 3 σ).2) true (κ ++ (joi 3 σ).1))
    else mac k T (t.2.1 :: (joi (rk t.2.1) σ).2) true (κ ++ (joi (rk t.2.1) σ).1)
/-- the waiting ones stand as they may: not and ( , or a greater rank on a lesser -/
def wfs : List Nat → Prop
  | [] => True
  | x :: σ => wfs σ ∧ ((x = 23 ∨ x = 40) ∨ (1 ≤ rk x ∧ rk (σ.headD 30) < rk x ∧ σ.headD 30 ≠ 23))
theorem rk_le (t : Nat) : rk t ≤ 4 := by unfold rk; split <;> (try omega); split <;> (try omega); split <;> (try omega); split <;> omega
theorem rk_c {x : Nat} (h : x = 23 ∨ x = 40) : rk x = 0 := by rcases h with rfl | rfl <;> rfl
theorem rk_30 : rk 30 = 0 := rfl
theorem ops_b : ∀ {σ : List Nat}, wfs σ → ops σ ≤ 4 * nst σ + rk (σ.headD 30) := by
  intro σ
  induction σ with
  | nil => intro _; exact Nat.zero_le _
  | cons x σ ih =>
    intro h
    have k := ih h.1
    show (if x = 23 ∨ x = 40 then 0 else 1) + ops σ ≤ 4 * ((if x = 23 ∨ x = 40 then 1 else 0) + nst σ) + rk x
    have := rk_le (σ.headD 30)
    rcases h.2 with h2 | ⟨h2, h3, -⟩
    · rw [if_pos h2, if_pos h2]; omega
    · have hn : ¬ (x = 23 ∨ x = 40) := fun q => by rw [rk_c q] at h2; omega
      rw [if_neg hn, if_neg hn]; omega
theorem len_on (σ : List Nat) : σ.length = ops σ + nst σ := by
  induction σ with
  | nil => rfl
  | cons x σ ih =>
    show σ.length + 1 = ((if x = 23 ∨ x = 40 then 0 else 1) + ops σ) + ((if x = 23 ∨ x = 40 then 1 else 0) + nst σ)
    split <;> omega
theorem wfs_len {σ : List Nat} (h : wfs σ) (hn : nst σ ≤ 5) : σ.length ≤ 29 ∧ ops σ ≤ 24 := by
  have h1 := ops_b h
  have h2 := len_on σ
  have := rk_le (σ.headD 30)
  omega
theorem joi_wf (r : Nat) : ∀ {σ : List Nat}, wfs σ → 1 ≤ r → wfs (joi r σ).2 ∧ nst (joi r σ).2 = nst σ ∧ rk ((joi r σ).2.headD 30) < r ∧ (joi r σ).1.length + (joi r σ).2.length = σ.length := by
  intro σ
  induction σ with
  | nil => intro _ hr; exact ⟨trivial, rfl, by show rk 30 < r; rw [rk_30]; omega, rfl⟩
  | cons x σ ih =>
    intro h hr
    rw [joi]
    by_cases q : r ≤ rk x
    · rw [if_pos q]
      obtain ⟨k1, k2, k3, k4⟩ := ih h.1 hr
      have hn : ¬ (x = 23 ∨ x = 40) := fun z => by rw [rk_c z] at q; omega
      refine ⟨k1, ?_, k3, ?_⟩
      · show nst (joi r σ).2 = (if x = 23 ∨ x = 40 then 1 else 0) + nst σ
        rw [if_neg hn, k2]; omega
      · show (joi r σ).1.length + 1 + (joi r σ).2.length = σ.length + 1
        omega
    · rw [if_neg q]
      exact ⟨h, rfl, by show rk x < r; omega, by simp⟩
theorem nots_wf : ∀ {σ : List Nat}, wfs σ → wfs (nots σ).2 ∧ nst (nots σ).2 + (nots σ).1.length = nst σ ∧ (nots σ).1.length + (nots σ).2.length = σ.length ∧ (nots σ).2.headD 30 ≠ 23 := by
  intro σ
  induction σ with
  | nil => intro _; exact ⟨trivial, rfl, rfl, by decide⟩
  | cons x σ ih =>
    intro h
    rw [nots]
    by_cases q : x = 23
    · rw [if_pos q]
      obtain ⟨k1, k2, k3, k4⟩ := ih h.1
      refine ⟨k1, ?_, ?_, k4⟩
      · show nst (nots σ).2 + ((nots σ).1.length + 1) = (if x = 23 ∨ x = 40 then 1 else 0) + nst σ
        rw [if_pos (Or.inl q)]; omega
      · show (nots σ).1.length + 1 + (nots σ).2.length = σ.length + 1
        omega
    · rw [if_neg q]
      exact ⟨h, rfl, by simp, q⟩
/-- the top where no op waits and something is open -/
theorem top_p {σ : List Nat} (h : wfs σ) (hr : rk (σ.headD 30) = 0) (hn : 0 < nst σ) (h23 : ¬ σ.headD 30 = 23) : ∃ τ, σ = 40 :: τ := by
  cases σ with
  | nil => exact absurd hn (by decide)
  | cons x σ =>
    rcases h.2 with (h2 | h2) | h2
    · exact absurd h2 h23
    · exact ⟨σ, by rw [h2]⟩
    · have : rk x = 0 := hr
      omega
theorem joi_23 (r : Nat) : ∀ {σ : List Nat}, wfs σ → 1 ≤ r → σ.headD 30 ≠ 23 → (joi r σ).2.headD 30 ≠ 23 := by
  intro σ
  induction σ with
  | nil => intro _ _ _; show (30 : Nat) ≠ 23; decide
  | cons x σ ih =>
    intro h hr h2
    rw [joi]
    by_cases q : r ≤ rk x
    · rw [if_pos q]
      rcases h.2 with h3 | ⟨-, -, h3⟩
      · rw [rk_c h3] at q; omega
      · exact ih h.1 hr h3
    · rw [if_neg q]; exact h2
theorem nots_tl {σ : List Nat} (h : wfs (40 :: σ)) : wfs σ := h.1
