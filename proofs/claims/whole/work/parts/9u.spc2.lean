/-! WHAT IS SURE STAYS SURE FROM LINE TO LINE -/
theorem TZ_P {pa : Nat → Nat} {wm k a b : Nat} (h : TZ pa) (h0 : pa 0 < 7) : TZ (adP pa wm k a b) := by
  intro x y hx hy hp
  have e0 : adP pa wm k a b 0 = pa 0 + 1 := rfl
  rw [e0] at hp
  have := h x y hx hy (by omega)
  unfold tw adP at *
  rw [if_neg (by omega), if_neg (by omega), if_neg (by omega), if_neg (by omega), if_neg (by omega)]
  exact this
theorem TZ_F {pa : Nat → Nat} {a b : Nat} (h : TZ pa) (h0 : pa 1 < 4) : TZ (adF pa a b) := by
  intro x y hx hy hp
  have e0 : adF pa a b 0 = pa 0 := by unfold adF; rw [if_neg (by omega), if_neg (by omega), if_neg (by omega)]
  rw [e0] at hp
  have := h x y hx hy hp
  unfold tw adF at *
  rw [if_neg (by omega), if_neg (by omega), if_neg (by omega)]
  exact this
theorem TZ_T {pa : Nat → Nat} {i j q : Nat} (h : TZ pa) (hi : i < pa 0) (hj : j < pa 0) (h0 : pa 0 ≤ 7) : TZ (adT pa i j q) := by
  intro x y hx hy hp
  rw [adT_o (by omega)] at hp
  rw [adT_t (by omega) (by omega) hx hy, if_neg (by omega)]
  exact h x y hx hy hp
theorem TZ_u {pa : Nat → Nat} {k v : Nat} (h : TZ pa) (hk : 2 ≤ k ∧ k ≤ 4) : TZ (up pa k v) := by
  intro x y hx hy hp
  have e : ∀ x, x ≠ k → up pa k v x = pa x := fun x hx => by unfold up; rw [if_neg hx]
  rw [e _ (by omega)] at hp
  unfold tw
  rw [e _ (by omega)]
  exact h x y hx hy hp
section T1
variable {S : SS} {T : List Tok} {p : SS × List Tok}
theorem lnP_SI (hS : SI S) (h0 : S.1 0 < 7) {wm : Nat} (hw : wm ≤ 1) (hT : GT T) (h : lnP S wm T = .ok p) : SI p.1 ∧ p.2.length < T.length ∧ GT p.2 := by
  obtain ⟨s1, s2, s3, s4, s5, s6, s7, s8⟩ := hS
  unfold lnP at h
  obtain ⟨p1, a1, h⟩ := bnd_ok h
  obtain ⟨p2, a2, h⟩ := bnd_ok h
  obtain ⟨T4, a3, h⟩ := bnd_ok h
  obtain ⟨p5, a4, h⟩ := bnd_ok h
  obtain ⟨T6, a5, h⟩ := bnd_ok h
  obtain ⟨p7, a6, h⟩ := bnd_ok h
  obtain ⟨b1, b2, b3, b4⟩ := tkU_ok a1
  obtain ⟨c1, c2, c3, c4⟩ := tkK_ok a2
  obtain ⟨d1, d2⟩ := tkW_ok a3
  obtain ⟨e1, e2, e3, e4⟩ := tkN_ok a4
  obtain ⟨f1, f2⟩ := tkW_ok a5
  obtain ⟨g1, g2, g3, g4⟩ := tkN_ok a6
  have q1 := GT_tl hT (by have := b1.2; omega)
  rw [← b4] at q1
  have q2 := GT_tl q1 (by omega)
  rw [← c4] at q2
  have q3 := GT_tl q2 (by omega)
  rw [← d2] at q3
  have q4 := GT_tl q3 (by omega)
  rw [← e4] at q4
  have q5 := GT_tl q4 (by omega)
  rw [← f2] at q5
  have q6 := GT_tl q5 (by omega)
  rw [← g4] at q6
  have l1 := tl_len hT
  have l2 := tl_len q1
  have l3 := tl_len q2
  have l4 := tl_len q3
  have l5 := tl_len q4
  have l6 := tl_len q5
  rw [← b4] at l1
  rw [← c4] at l2
  rw [← d2] at l3
  rw [← e4] at l4
  rw [← f2] at l5
  rw [← g4] at l6
  cases h
  obtain ⟨o1, o2, -⟩ := (GT_h hT).2.2.1 b1.2
  refine ⟨⟨PK_P s1 h0 hw (by omega) e2 g2, TZ_P s2 h0, ?_, ?_, ?_, s6, ?_, s8⟩, by show p7.2.length < _; omega, q6⟩
  · show NG (S.2.2.1 ++ [(p1.1, S.1 0)])
    rw [b3]
    exact NG_app s3 b2 o1 o2
  · show (S.2.2.1 ++ [(p1.1, S.1 0)]).length = adP S.1 wm p2.1 p5.1 p7.1 0 + adP S.1 wm p2.1 p5.1 p7.1 1
    have x0 : adP S.1 wm p2.1 p5.1 p7.1 0 = S.1 0 + 1 := rfl
    have x1 : adP S.1 wm p2.1 p5.1 p7.1 1 = S.1 1 := by unfold adP; rw [if_neg (by omega), if_neg (by omega), if_neg (by omega), if_neg (by omega), if_neg (by omega)]
    rw [x0, x1, List.length_append, s4]
    simp only [List.length_cons, List.length_nil]
    omega
  · intro z hz
    show z.2 < S.1 0 + 1 ∨ z.2 = 100
    rcases List.mem_append.mp hz with y | y
    · have := s5 z y; omega
    · rw [List.mem_singleton] at y
      left
      rw [y]
      show S.1 0 < S.1 0 + 1
      omega
  · show adP S.1 wm p2.1 p5.1 p7.1 4 = bt S.2.2.2 16
    unfold adP
    rw [if_neg (by omega), if_neg (by omega), if_neg (by omega), if_neg (by omega), if_neg (by omega)]
    exact s7
theorem lnF_SI (hS : SI S) (h0 : S.1 1 < 4) (hT : GT T) (h : lnF S T = .ok p) : SI p.1 ∧ p.2.length < T.length ∧ GT p.2 := by
  obtain ⟨s1, s2, s3, s4, s5, s6, s7, s8⟩ := hS
  unfold lnF at h
  obtain ⟨p1, a1, h⟩ := bnd_ok h
  obtain ⟨T4, a3, h⟩ := bnd_ok h
  obtain ⟨p5, a4, h⟩ := bnd_ok h
  obtain ⟨T6, a5, h⟩ := bnd_ok h
  obtain ⟨p7, a6, h⟩ := bnd_ok h
  obtain ⟨b1, b2, b3, b4⟩ := tkU_ok a1
  obtain ⟨d1, d2⟩ := tkW_ok a3
  obtain ⟨e1, e2, e3, e4⟩ := tkN_ok a4
  obtain ⟨f1, f2⟩ := tkW_ok a5
  obtain ⟨g1, g2, g3, g4⟩ := tkN_ok a6
  have q1 := GT_tl hT (by have := b1.2; omega)
  rw [← b4] at q1
  have q3 := GT_tl q1 (by omega)
  rw [← d2] at q3
  have q4 := GT_tl q3 (by omega)
  rw [← e4] at q4
  have q5 := GT_tl q4 (by omega)
  rw [← f2] at q5
  have q6 := GT_tl q5 (by omega)
  rw [← g4] at q6
  have l1 := tl_len hT
  have l3 := tl_len q1
  have l4 := tl_len q3
  have l5 := tl_len q4
  have l6 := tl_len q5
  rw [← b4] at l1
  rw [← d2] at l3
  rw [← e4] at l4
  rw [← f2] at l5
  rw [← g4] at l6
  cases h
  obtain ⟨o1, o2, -⟩ := (GT_h hT).2.2.1 b1.2
  have x0 : adF S.1 p5.1 p7.1 0 = S.1 0 := by unfold adF; rw [if_neg (by omega), if_neg (by omega), if_neg (by omega)]
  refine ⟨⟨PK_F s1 h0 e2 g2, TZ_F s2 h0, ?_, ?_, ?_, s6, ?_, s8⟩, by show p7.2.length < _; omega, q6⟩
  · show NG (S.2.2.1 ++ [(p1.1, 100)])
    rw [b3]
    exact NG_app s3 b2 o1 o2
  · show (S.2.2.1 ++ [(p1.1, 100)]).length = adF S.1 p5.1 p7.1 0 + adF S.1 p5.1 p7.1 1
    have x1 : adF S.1 p5.1 p7.1 1 = S.1 1 + 1 := by unfold adF; rw [if_pos rfl]
    rw [x0, x1, List.length_append, s4]
    simp only [List.length_cons, List.length_nil]
    omega
  · intro z hz
    show z.2 < adF S.1 p5.1 p7.1 0 ∨ z.2 = 100
    rw [x0]
    rcases List.mem_append.mp hz with y | y
    · exact s5 z y
    · rw [List.mem_singleton] at y
      right
      rw [y]
  · show adF S.1 p5.1 p7.1 4 = bt S.2.2.2 16
    unfold adF
    rw [if_neg (by omega), if_neg (by omega), if_neg (by omega)]
    exact s7
theorem fdP_lt (hS : SI S) {w : Nat} (h : fdP S.2.2.1 T = .ok w) : w < S.1 0 := by
  obtain ⟨-, h2, h3⟩ := fdP_ok h
  have h4 := hS.2.2.2.2.1 _ (fnm_mem h2)
  have h4' : w < S.1 0 ∨ w = 100 := h4
  omega
theorem ln2_SI (hS : SI S) {q : Nat} (hq : q ≤ 2) (hT : GT T) (h : ln2 S q T = .ok p) : SI p.1 ∧ p.2.length < T.length ∧ GT p.2 := by
  have hS' := hS
  obtain ⟨s1, s2, s3, s4, s5, s6, s7, s8⟩ := hS
  have h7 := s1.1.1
  unfold ln2 at h
  obtain ⟨i, a1, h⟩ := bnd_ok h
  obtain ⟨j, a2, h⟩ := bnd_ok h
  have i1 := fdP_lt hS' a1
  have j1 := fdP_lt hS' a2
  obtain ⟨b1, -, -⟩ := fdP_ok a1
  obtain ⟨c1, -, -⟩ := fdP_ok a2
  have q1 := GT_tl hT (by have := b1.2; omega)
  have q2 := GT_tl q1 (by have := c1.2; omega)
  have l1 := tl_len hT
  have l2 := tl_len q1
  by_cases e : i = j ∨ tw S.1 i j ≠ 0
  · rw [if_pos e] at h; cases h
  · rw [if_neg e] at h
    cases h
    refine ⟨⟨PK_T s1 (by omega) (by omega) (fun z => e (Or.inl z)) hq, TZ_T s2 i1 j1 h7, s3, ?_, ?_, s6, ?_, s8⟩, by show T.tail.tail.length < _; omega, q2⟩
    · show S.2.2.1.length = adT S.1 i j q 0 + adT S.1 i j q 1
      rw [adT_o (by omega), adT_o (by omega)]
      exact s4
    · intro z hz
      show z.2 < adT S.1 i j q 0 ∨ z.2 = 100
      rw [adT_o (by omega)]
      exact s5 z hz
    · show adT S.1 i j q 4 = bt S.2.2.2 16
      rw [adT_o (by omega)]
      exact s7
theorem ln1_SI (hS : SI S) {t : Nat} (ht : isO t) (hb : bt S.2.2.2 t = 0) (hT : GT T) (h : ln1 (S.1, S.2.1, S.2.2.1, S.2.2.2 ||| 2 ^ t) t T = .ok p) : SI p.1 ∧ p.2.length ≤ T.length ∧ (GT p.2 ∨ ∃ k κ, mac k T [] true [] = .ok (κ, p.2)) := by
  obtain ⟨s1, s2, s3, s4, s5, s6, s7, s8⟩ := hS
  have hb17 := or_lt (x := S.2.2.2) (t := t) s6 (by unfold isO at ht; omega)
  have l1 := tl_len hT
  have e : ∀ k v x, x ≠ k → up S.1 k v x = S.1 x := fun k v x hx => by unfold up; rw [if_neg hx]
  have e2 : ∀ k v, up S.1 k v k = v := fun k v => by unfold up; rw [if_pos rfl]
  -- with another number told
  have k3 : ∀ k, k < 3 → t ≠ 7 + k → (S.2.1 k = none ↔ bt (S.2.2.2 ||| 2 ^ t) (7 + k) = 0) := fun k hk hne => by
    rw [bt_or, if_neg (fun z => hne z.symm)]; exact (s8 k hk).1
  have u : ∀ k v, ((k = 2 ∧ v ≤ 99) ∨ ((k = 3 ∨ k = 4) ∧ v ≤ 1)) → (t = 12 ∨ t = 15 ∨ t = 16) → up S.1 k v 4 = bt (S.2.2.2 ||| 2 ^ t) 16 → SI (up S.1 k v, S.2.1, S.2.2.1, S.2.2.2 ||| 2 ^ t) := fun k v hk hto h4 => by
    refine ⟨PK_u s1 hk, TZ_u s2 (by omega), s3, ?_, ?_, hb17, h4, fun j hj => ⟨k3 j hj (by omega), (s8 j hj).2⟩⟩
    · show S.2.2.1.length = up S.1 k v 0 + up S.1 k v 1
      rw [e _ _ _ (by omega), e _ _ _ (by omega)]
      exact s4
    · intro z hz
      show z.2 < up S.1 k v 0 ∨ z.2 = 100
      rw [e _ _ _ (by omega)]
      exact s5 z hz
  unfold ln1 at h
  by_cases t12 : t = 12
  · rw [if_pos t12] at h
    have v : ∀ x, x ≤ 1 → SI (up S.1 3 x, S.2.1, S.2.2.1, S.2.2.2 ||| 2 ^ t) := fun x hx => u 3 x (by omega) (by omega) (by rw [e _ _ _ (by omega), bt_or, if_neg (by omega)]; exact s7)
    unfold ln12 at h
    by_cases z : (hdT T).2.1 = 13
    · rw [if_pos z] at h
      cases h
      exact ⟨v 1 (by omega), by show T.tail.length ≤ _; omega, Or.inl (GT_tl hT (by omega))⟩
    · rw [if_neg z] at h
      by_cases y : (hdT T).2.1 = 14
      · rw [if_pos y] at h
        cases h
        exact ⟨v 0 (by omega), by show T.tail.length ≤ _; omega, Or.inl (GT_tl hT (by omega))⟩
      · rw [if_neg y] at h; cases h
  · rw [if_neg t12] at h
    by_cases t15 : t = 15
    · rw [if_pos t15] at h
      obtain ⟨p1, a1, h⟩ := bnd_ok h
      obtain ⟨b1, b2, b3, b4⟩ := tkN_ok a1
      cases h
      refine ⟨u 2 p1.1 (by omega) (by omega) (by rw [e _ _ _ (by omega), bt_or, if_neg (by omega)]; exact s7), ?_, Or.inl ?_⟩
      · show p1.2.length ≤ _
        rw [b4]; omega
      · show GT p1.2
        rw [b4]; exact GT_tl hT (by omega)
    · rw [if_neg t15] at h
      by_cases t16 : t = 16
      · rw [if_pos t16] at h
        cases h
        exact ⟨u 4 1 (by omega) (by omega) (by rw [e2, bt_or, if_pos t16.symm]), Nat.le_refl _, Or.inl hT⟩
      · rw [if_neg t16] at h
        obtain ⟨p1, a1, h⟩ := bnd_ok h
        obtain ⟨b1, b2, b3, b4, b5, b6⟩ := mac_0 hT.2 a1
        cases h
        have ht' : t = 7 ∨ t = 8 ∨ t = 9 := by unfold isO at ht; omega
        refine ⟨⟨s1, s2, s3, s4, s5, hb17, ?_, fun k hk => ?_⟩, b2, Or.inr ⟨_, _, a1⟩⟩
        · show S.1 4 = bt (S.2.2.2 ||| 2 ^ t) 16
          rw [bt_or, if_neg (by omega)]
          exact s7
        · show (adL S.2.1 (t - 7) p1.1 k = none ↔ bt (S.2.2.2 ||| 2 ^ t) (7 + k) = 0) ∧ ∀ l, adL S.2.1 (t - 7) p1.1 k = some l → l ≠ [] ∧ hok l 0 ∧ ∀ c, c ∈ l → lko k c
          unfold adL
          by_cases ek : k = t - 7
          · rw [if_pos ek, bt_or, if_pos (by omega)]
            refine ⟨by simp, fun l hl => ?_⟩
            cases hl
            rw [ek]
            exact ⟨b4, b5, b6⟩
          · rw [if_neg ek]
            exact ⟨k3 k hk (by omega), (s8 k hk).2⟩
theorem lnA_SI (hS : SI S) (hT : GT T) (h : lnA S T = .ok p) : SI p.1 ∧ p.2.length < T.length := by
  unfold lnA at h
  have l1 := tl_len hT
  by_cases c1 : (hdT T).2.1 = 0 ∨ (hdT T).2.1 = 1
  · rw [if_pos c1] at h
    by_cases c2 : 7 ≤ S.1 0
    · rw [if_pos c2] at h; cases h
    · rw [if_neg c2] at h
      obtain ⟨k1, k2, -⟩ := lnP_SI hS (by omega) (by omega) (GT_tl hT (by omega)) h
      exact ⟨k1, by omega⟩
  · rw [if_neg c1] at h
    by_cases c3 : (hdT T).2.1 = 4
    · rw [if_pos c3] at h
      by_cases c2 : 4 ≤ S.1 1
      · rw [if_pos c2] at h; cases h
      · rw [if_neg c2] at h
        obtain ⟨k1, k2, -⟩ := lnF_SI hS (by omega) (GT_tl hT (by omega)) h
        exact ⟨k1, by omega⟩
    · rw [if_neg c3] at h
      by_cases c4 : (hdT T).2.1 = 10 ∨ (hdT T).2.1 = 11
      · rw [if_pos c4] at h
        obtain ⟨k1, k2, -⟩ := ln2_SI hS (by omega) (GT_tl hT (by omega)) h
        exact ⟨k1, by omega⟩
      · rw [if_neg c4] at h
        rcases Classical.em (isO (hdT T).2.1) with c5 | c5
        · rw [pN_t c5, if_pos rfl] at h
          by_cases c6 : bt S.2.2.2 (hdT T).2.1 = 1
          · rw [if_pos c6] at h; cases h
          · rw [if_neg c6] at h
            obtain ⟨k1, k2, -⟩ := ln1_SI hS c5 (by have := bt_01 S.2.2.2 (hdT T).2.1; omega) (GT_tl hT (by unfold isO at c5; omega)) h
            exact ⟨k1, by omega⟩
        · rw [pN_f c5, if_neg (by omega)] at h; cases h
end T1
