/-! WHAT A LAW'S CODES ARE -/
def lko (k : Nat) (c : Cod) : Prop := k = 2 → c.1 = 2 → c.2 < 2
theorem opc_b (x : Nat) : 4 ≤ opc x ∧ opc x ≤ 10 := by
  unfold opc
  split
  · omega
  · split
    · omega
    · split
      · omega
      · split
        · omega
        · split
          · omega
          · split <;> omega
theorem joi_hok (r : Nat) (hr : 1 ≤ r) : ∀ {σ : List Nat} {κ : List Cod}, hok κ (ops (joi r σ).2 + 1) → hok ((joi r σ).1 ++ κ) (ops σ + 1) := by
  intro σ
  induction σ with
  | nil => intro κ h; exact h
  | cons x σ ih =>
    intro κ h
    rw [joi] at h ⊢
    by_cases q : r ≤ rk x
    · rw [if_pos q] at h ⊢
      have hn : ¬ (x = 23 ∨ x = 40) := fun z => by rw [rk_c z] at q; omega
      have ho : ops (x :: σ) = 1 + ops σ := by show (if x = 23 ∨ x = 40 then 0 else 1) + ops σ = _; rw [if_neg hn]
      obtain ⟨b1, b2⟩ := opc_b x
      show hok ((opc x, 0) :: ((joi r σ).1 ++ κ)) (ops (x :: σ) + 1)
      rw [hok]
      refine Or.inr (Or.inr (Or.inr ⟨b1, b2, by omega, ?_⟩))
      rw [show ops (x :: σ) + 1 - 1 = ops σ + 1 by omega]
      exact ih h
    · rw [if_neg q] at h ⊢
      exact h
theorem nots_hok : ∀ {σ : List Nat} {κ : List Cod} {h : Nat}, 1 ≤ h → hok κ h → hok ((nots σ).1 ++ κ) h := by
  intro σ
  induction σ with
  | nil => intro κ h _ k; exact k
  | cons x σ ih =>
    intro κ h h1 k
    rw [nots]
    by_cases q : x = 23
    · rw [if_pos q]
      show hok ((3, 0) :: ((nots σ).1 ++ κ)) h
      rw [hok]
      exact Or.inr (Or.inr (Or.inl ⟨rfl, h1, ih h1 k⟩))
    · rw [if_neg q]; exact k
theorem nots_ops : ∀ (σ : List Nat), ops (nots σ).2 = ops σ := by
  intro σ
  induction σ with
  | nil => rfl
  | cons x σ ih =>
    rw [nots]
    by_cases q : x = 23
    · rw [if_pos q]
      show ops (nots σ).2 = (if x = 23 ∨ x = 40 then 0 else 1) + ops σ
      rw [if_pos (Or.inl q), ih]; omega
    · rw [if_neg q]
theorem joi_lk {k r : Nat} : ∀ {σ : List Nat} {c : Cod}, c ∈ (joi r σ).1 → lko k c := by
  intro σ
  induction σ with
  | nil => intro c h; cases h
  | cons x σ ih =>
    intro c h
    rw [joi] at h
    by_cases q : r ≤ rk x
    · rw [if_pos q] at h
      rcases List.mem_cons.mp h with e | e
      · rw [e]
        intro _ h2
        have := (opc_b x).1
        have h2' : opc x = 2 := h2
        omega
      · exact ih e
    · rw [if_neg q] at h; cases h
theorem nots_lk {k : Nat} : ∀ {σ : List Nat} {c : Cod}, c ∈ (nots σ).1 → lko k c := by
  intro σ
  induction σ with
  | nil => intro c h; cases h
  | cons x σ ih =>
    intro c h
    rw [nots] at h
    by_cases q : x = 23
    · rw [if_pos q] at h
      rcases List.mem_cons.mp h with e | e
      · rw [e]
        intro _ h2
        exact absurd h2 (by show ¬ (3 : Nat) = 2; decide)
      · exact ih e
    · rw [if_neg q] at h; cases h
def dh (du : Bool) : Nat := if du = true then 0 else 1
theorem mac_ok {k : Nat} : ∀ (T : List Tok) (σ : List Nat) (du : Bool) (κ κ' : List Cod) (T' : List Tok), (∀ t, t ∈ T → okK t) → wfs σ → nst σ ≤ 5 → (du = false → σ.headD 30 ≠ 23) → mac k T σ du κ = .ok (κ', T') →
    (hdT T').2.1 = 59 ∧ T'.length ≤ T.length ∧ κ'.length + T'.length ≤ κ.length + σ.length + T.length ∧ ∃ κ2, κ' = κ ++ κ2 ∧ hok κ2 (ops σ + dh du) ∧ ∀ c, c ∈ κ2 → lko k c := by
  intro T
  induction T with
  | nil => intro σ du κ κ' T' _ _ _ _ h; rw [mac] at h; cases h
  | cons t T ih =>
    intro σ du κ κ' T' hT hw hn h23 h
    have hT' : ∀ t, t ∈ T → okK t := fun t q => hT t (List.mem_cons_of_mem _ q)
    have ht := hT t List.mem_cons_self
    obtain ⟨wl1, wl2⟩ := wfs_len hw hn
    obtain ⟨nw1, nw2, nw3, nw4⟩ := nots_wf hw
    -- what comes on
    have go : ∀ (τ : List Nat) (du' : Bool) (δ : List Cod), wfs τ → nst τ ≤ 5 → (du' = false → τ.headD 30 ≠ 23) → δ.length + τ.length ≤ σ.length + 1 → mac k T τ du' (κ ++ δ) = .ok (κ', T') → (∀ κ2, hok κ2 (ops τ + dh du') → hok (δ ++ κ2) (ops σ + dh du)) → (∀ c, c ∈ δ → lko k c) →
        (hdT T').2.1 = 59 ∧ T'.length ≤ (t :: T).length ∧ κ'.length + T'.length ≤ κ.length + σ.length + (t :: T).length ∧ ∃ κ2, κ' = κ ++ κ2 ∧ hok κ2 (ops σ + dh du) ∧ ∀ c, c ∈ κ2 → lko k c := by
      intro τ du' δ a1 a2 a3 a4 a5 a6 a7
      obtain ⟨k1, k2, k3, κ2, k4, k5, k6⟩ := ih τ du' (κ ++ δ) κ' T' hT' a1 a2 a3 a5
      rw [List.length_append] at k3
      refine ⟨k1, by rw [List.length_cons]; omega, by rw [List.length_cons]; omega, δ ++ κ2, by rw [k4, List.append_assoc], a6 κ2 k5, fun c hc => ?_⟩
      rcases List.mem_append.mp hc with e | e
      · exact a7 c e
      · exact k6 c e
    cases du with
    | true =>
      rw [mac_t] at h
      by_cases ho : t.2.1 = 23 ∨ t.2.1 = 40
      · rw [if_pos ho] at h
        by_cases h5 : 5 ≤ nst σ
        · rw [if_pos h5] at h; cases h
        · rw [if_neg h5] at h
          have hns' : nst (t.2.1 :: σ) = 1 + nst σ := by show (if t.2.1 = 23 ∨ t.2.1 = 40 then 1 else 0) + nst σ = _; rw [if_pos ho]
          have hos : ops (t.2.1 :: σ) = ops σ := by show (if t.2.1 = 23 ∨ t.2.1 = 40 then 0 else 1) + ops σ = _; rw [if_pos ho]; omega
          exact go (t.2.1 :: σ) true [] ⟨hw, Or.inl ho⟩ (by omega) (fun q => by simp at q) (by simp) (by rw [List.append_nil]; exact h) (fun κ2 q => by rw [hos] at q; exact q) (fun c hc => by cases hc)
      · rw [if_neg ho] at h
        by_cases h29 : t.2.1 = 29
        · rw [if_pos h29] at h
          by_cases h5 : 5 ≤ nst σ
          · rw [if_pos h5] at h; cases h
          · rw [if_neg h5] at h
            refine go (nots σ).2 false _ nw1 (by omega) (fun _ => nw4) (by simp only [List.length_cons]; omega) h (fun κ2 q => ?_) (fun c hc => ?_)
            · rw [nots_ops] at q
              show hok ((1, n10 t.2.2.1) :: ((nots σ).1 ++ κ2)) (ops σ + 0)
              rw [hok]
              exact Or.inl ⟨rfl, ht.2.2.2 h29, by omega, nots_hok (by omega) q⟩
            · rcases List.mem_cons.mp hc with e | e
              · rw [e]; intro _ h2; exact absurd h2 (by show ¬ (1 : Nat) = 2; decide)
              · exact nots_lk e
        · rw [if_neg h29] at h
          rcases Classical.em (fal k t.2.1) with hfa | hfa
          · rw [pN_t hfa, if_pos rfl] at h
            by_cases h5 : 5 ≤ nst σ
            · rw [if_pos h5] at h; cases h
            · rw [if_neg h5] at h
              refine go (nots σ).2 false _ nw1 (by omega) (fun _ => nw4) (by simp only [List.length_cons]; omega) h (fun κ2 q => ?_) (fun c hc => ?_)
              · rw [nots_ops] at q
                show hok ((2, fci t.2.1) :: ((nots σ).1 ++ κ2)) (ops σ + 0)
                rw [hok]
                exact Or.inr (Or.inl ⟨rfl, fci_5 hfa, by omega, nots_hok (by omega) q⟩)
              · rcases List.mem_cons.mp hc with e | e
                · rw [e]; intro hk2 _
                  have : fci t.2.1 < (if k = 2 then 2 else 5) := hfa
                  rw [if_pos hk2] at this
                  exact this
                · exact nots_lk e
          · rw [pN_f hfa, if_neg (by omega)] at h; cases h
    | false =>
      have hh := h23 rfl
      rw [mac] at h
      by_cases he : t.2.1 = 59 ∧ nst σ = 0
      · rw [if_pos he] at h
        cases h
        obtain ⟨j1, j2, j3, j4⟩ := joi_wf 1 hw (by omega)
        have hz : ops (joi 1 σ).2 = 0 := by
          have := ops_b j1
          omega
        refine ⟨he.1, Nat.le_refl _, by rw [List.length_append]; omega, (joi 1 σ).1, rfl, ?_, fun c hc => joi_lk hc⟩
        have := joi_hok 1 (by omega) (σ := σ) (κ := []) (by rw [hz, hok])
        rw [List.append_nil] at this
        exact this
      · rw [if_neg he] at h
        by_cases hp : t.2.1 = 41 ∧ 0 < nst σ
        · rw [if_pos hp] at h
          obtain ⟨j1, j2, j3, j4⟩ := joi_wf 1 hw (by omega)
          obtain ⟨τ, hτ⟩ := top_p j1 (by omega) (by omega) (joi_23 1 hw (by omega) hh)
          rw [hτ, List.tail_cons] at h
          have hj1 := j1
          rw [hτ] at j1 j2 j4
          obtain ⟨w1, w2, w3, w4⟩ := nots_wf j1.1
          have hns2 : nst (40 :: τ) = 1 + nst τ := rfl
          have jl : (joi 1 σ).1.length + (τ.length + 1) = σ.length := by simpa using j4
          rw [List.append_assoc] at h
          refine go (nots τ).2 false _ w1 (by omega) (fun _ => w4) (by rw [List.length_append]; omega) h (fun κ2 q => ?_) (fun c hc => ?_)
          · rw [nots_ops] at q
            rw [List.append_assoc]
            refine joi_hok 1 (by omega) ?_
            rw [hτ]
            have ho : ops (40 :: τ) = ops τ := by show (if (40 : Nat) = 23 ∨ (40 : Nat) = 40 then 0 else 1) + ops τ = _; rw [if_pos (Or.inr rfl)]; omega
            rw [ho]
            exact nots_hok (by omega) q
          · rcases List.mem_append.mp hc with e | e
            · exact joi_lk e
            · exact nots_lk e
        · rw [if_neg hp] at h
          by_cases hr0 : rk t.2.1 = 0
          · rw [if_pos hr0] at h; cases h
          · rw [if_neg hr0] at h
            have htn : ¬ (t.2.1 = 23 ∨ t.2.1 = 40) := fun q => by rw [rk_c q] at hr0; omega
            have hnn : ∀ τ, nst (t.2.1 :: τ) = nst τ := fun τ => by show (if t.2.1 = 23 ∨ t.2.1 = 40 then 1 else 0) + nst τ = _; rw [if_neg htn]; omega
            have hoo : ∀ τ, ops (t.2.1 :: τ) = 1 + ops τ := fun τ => by show (if t.2.1 = 23 ∨ t.2.1 = 40 then 0 else 1) + ops τ = _; rw [if_neg htn]
            have fin2 : ∀ r, 1 ≤ r → rk ((joi r σ).2.headD 30) < rk t.2.1 → mac k T (t.2.1 :: (joi r σ).2) true (κ ++ (joi r σ).1) = .ok (κ', T') → (hdT T').2.1 = 59 ∧ T'.length ≤ (t :: T).length ∧ κ'.length + T'.length ≤ κ.length + σ.length + (t :: T).length ∧ ∃ κ2, κ' = κ ++ κ2 ∧ hok κ2 (ops σ + dh false) ∧ ∀ c, c ∈ κ2 → lko k c := by
              intro r hr hlt hm
              obtain ⟨j1, j2, j3, j4⟩ := joi_wf r hw hr
              refine go (t.2.1 :: (joi r σ).2) true _ ⟨j1, Or.inr ⟨by omega, hlt, joi_23 r hw hr hh⟩⟩ (by rw [hnn]; omega) (fun q => by simp at q) (by simp only [List.length_cons]; omega) hm (fun κ2 q => ?_) (fun c hc => joi_lk hc)
              rw [hoo] at q
              refine joi_hok r hr ?_
              rw [show ops (joi r σ).2 + 1 = 1 + ops (joi r σ).2 + dh true by unfold dh; simp; omega]
              exact q
            by_cases hr2 : rk t.2.1 = 2
            · rw [if_pos hr2] at h
              by_cases hz : rk ((joi 3 σ).2.headD 30) = 2
              · rw [if_pos hz] at h; cases h
              · rw [if_neg hz] at h
                obtain ⟨j1, j2, j3, j4⟩ := joi_wf 3 hw (by omega)
                exact fin2 3 (by omega) (by omega) h
            · rw [if_neg hr2] at h
              obtain ⟨j1, j2, j3, j4⟩ := joi_wf (rk t.2.1) hw (by omega)
              exact fin2 (rk t.2.1) (by omega) j3 h
theorem mac_0 {k : Nat} {T T' : List Tok} {κ' : List Cod} (hT : ∀ t, t ∈ T → okK t) (h : mac k T [] true [] = .ok (κ', T')) : (hdT T').2.1 = 59 ∧ T'.length ≤ T.length ∧ κ'.length + T'.length ≤ T.length ∧ κ' ≠ [] ∧ hok κ' 0 ∧ ∀ c, c ∈ κ' → lko k c := by
  obtain ⟨h1, h2, h3, κ2, h4, h5, h6⟩ := mac_ok T [] true [] κ' T' hT trivial (Nat.zero_le _) (fun q => by simp at q) h
  have e : κ' = κ2 := h4
  subst e
  have h5' : hok κ' 0 := h5
  refine ⟨h1, h2, by simpa using h3, fun e => ?_, h5', h6⟩
  rw [e, hok] at h5'
  omega
