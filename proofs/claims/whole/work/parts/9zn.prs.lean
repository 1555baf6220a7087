/-! THE SAME CALL ON BOTH SIDES, METHOD BY METHOD -/
section T1
variable {μ : PM}
theorem pr0 (h : IVA μ) (a b c : Int64) : PQA Value.int μ (fun μ Q => R 59 90 0 [some (.ref 2000010), some (.long a), none, some (.long b), none, some (.long c), none] [] μ Q) (fun μ Q => R 59 132 0 [some (.ref 110000011), some (.long a), none, some (.long b), none, some (.long c), none] [] μ Q) := by
  obtain ⟨hW, pa, lw, s, un, mk, tp, hC, hM, hK, hL, hZ⟩ := h
  exact pq hW hM (OKA_tp hK (fdA_ok ⟨hK.2.2.2.2.2.1, hK.2.2.2.2.2.2⟩)) hL hZ (c90 (d := 57) hC hK a b c) (fun ν hN => c132 (d := 57) hN hK a b c)
theorem pr1 (h : IVA μ) : PQA Value.int μ (fun μ Q => R 59 91 0 [some (.ref 2000010), none, none] [] μ Q) (fun μ Q => R 59 153 0 [some (.ref 110000011), none] [] μ Q) := by
  obtain ⟨hW, pa, lw, s, un, mk, tp, hC, hM, hK, hL, hZ⟩ := h
  obtain ⟨T, hI, hl⟩ := isT_ex tp tp.length 0 (Nat.zero_add _)
  have hl' : T.length ≤ 1001 := by have := hK.2.2.2.2.2.1; omega
  obtain ⟨ν, x, a1, a2, a3, a4⟩ := c91 (d := 52) hC hK hW hI hl'
  cases hT : lnZ 1001 SZ T with
  | error f =>
    obtain ⟨ex, hC'⟩ := a2 f hT
    subst ex
    refine pq hW hM (OKA_tp hK ⟨Nat.zero_le _, fun q hq => absurd hq List.not_mem_nil⟩) hL hZ ⟨ν, a1, hC', a4⟩ (fun ν' hN => ?_)
    obtain ⟨ρ, y, b1, b2, b3, b4⟩ := c153 (d := 24) hN hK hI hl'
    obtain ⟨ey, hM'⟩ := b2 f hT
    subst ey
    exact ⟨ρ, b1, hM', b4 f (Or.inl hT)⟩
  | ok S' =>
    obtain ⟨ex, hS, hC'⟩ := a3 S' hT
    subst ex
    have hLK : LK S'.2.1 := fun l q c hc e => (((hS.2.2.2.2.2.2.2 2 (by omega)).2 l q).2.2 c hc) rfl e
    refine pq hW hM ⟨hS.1, s00_SO S'.1 hS.1.1.1, fun t ht => absurd ht List.not_mem_nil, Nat.zero_le _, fun m t _ q => (by cases q), Nat.zero_le _, fun q hq => absurd hq List.not_mem_nil⟩ hLK hS.2.1 ⟨ν, a1, hC', a4⟩ (fun ν' hN => ?_)
    obtain ⟨ρ, y, b1, b2, b3, b4⟩ := c153 (d := 24) hN hK hI hl'
    obtain ⟨ey, hM'⟩ := b3 S' hT hS
    subst ey
    exact ⟨ρ, b1, hM', b4 0 (Or.inr ⟨S', hT, hS⟩)⟩
theorem pr2 (h : IVA μ) (x w : Int32) : PQA Value.int μ (fun μ Q => R 59 92 0 [some (.ref 2000010), some (.int x), some (.int w)] [] μ Q) (fun μ Q => R 59 182 0 [some (.ref 110000011), some (.int x), some (.int w)] [] μ Q) := by
  obtain ⟨hW, pa, lw, s, un, mk, tp, hC, hM, hK, hL, hZ⟩ := h
  have n : ((x < nI 0 ∨ nI (pa 0) ≤ x) ∨ (∃ i, i < pa 0 ∧ x = nI i) ∧ (w < nI 0 ∨ nI 5 ≤ w)) → PQA Value.int μ (fun μ Q => R 59 92 0 [some (.ref 2000010), some (.int x), some (.int w)] [] μ Q) (fun μ Q => R 59 182 0 [some (.ref 110000011), some (.int x), some (.int w)] [] μ Q) := fun q => pq hW hM hK hL hZ (cq0 hC (fun Q => c92n (d := 58) hC hK q)) (fun ν hN => mq0 hN (fun Q => c182n (d := 57) hN hK q))
  have hp := hK.1.1.1
  rcases xcs x (pa 0) (by omega) with q | q | ⟨i, hi, rfl⟩
  · exact n (Or.inl (Or.inl q))
  · exact n (Or.inl (Or.inr q))
  · rcases xcs w 5 (by omega) with q | q | ⟨j, hj, rfl⟩
    · exact n (Or.inr ⟨⟨i, hi, rfl⟩, Or.inl q⟩)
    · exact n (Or.inr ⟨⟨i, hi, rfl⟩, Or.inr q⟩)
    · exact pq hW hM hK hL hZ (cq0 hC (fun Q => c92y (d := 58) hC hK hi hj)) (fun ν hN => mqS hN (c182y (d := 56) hN hK hi hj))
theorem pr3 (h : IVA μ) (x : Int32) : PQA Value.int μ (fun μ Q => R 59 93 0 [some (.ref 2000010), some (.int x)] [] μ Q) (fun μ Q => R 59 183 0 [some (.ref 110000011), some (.int x)] [] μ Q) := by
  obtain ⟨hW, pa, lw, s, un, mk, tp, hC, hM, hK, hL, hZ⟩ := h
  have hl := ln7 (s := s) hK.1
  rcases xcs x (ln pa s).length (by omega) with q | q | ⟨i, hi, rfl⟩
  · exact pq hW hM hK hL hZ (cq0 hC (fun Q => c93n hC.2.2.2.2.2.1 hl (Or.inl q))) (fun ν hN => mqS hN (c183n (d := 57) hN hK (Or.inl q)))
  · exact pq hW hM hK hL hZ (cq0 hC (fun Q => c93n hC.2.2.2.2.2.1 hl (Or.inr q))) (fun ν hN => mqS hN (c183n (d := 57) hN hK (Or.inr q)))
  · exact pq hW hM hK hL hZ (cq0 hC (fun Q => c93y hC.1 hC.2.2.2.2.2.1 hl hi)) (fun ν hN => mqS hN (c183y (d := 57) hN hK hi))
theorem pr4 (h : IVA μ) (x z : Int32) : PQA Value.int μ (fun μ Q => R 59 94 0 [some (.ref 2000010), some (.int x), some (.int z)] [] μ Q) (fun μ Q => R 59 184 0 [some (.ref 110000011), some (.int x), some (.int z), none, none] [] μ Q) := by
  obtain ⟨hW, pa, lw, s, un, mk, tp, hC, hM, hK, hL, hZ⟩ := h
  by_cases q : x = z ∨ (∀ q, q ∈ ln pa s → ¬ nI q = x) ∨ (∀ q, q ∈ ln pa s → ¬ nI q = z)
  · exact pq hW hM hK hL hZ (cq0 hC (fun Q => c94n (d := 58) hC hK q)) (fun ν hN => mq0 hN (fun Q => c184n (d := 57) hN hK q))
  · have q1 : ¬ x = z := fun e => q (Or.inl e)
    by_cases qa : ∃ a, a ∈ ln pa s ∧ nI a = x
    · by_cases qb : ∃ b, b ∈ ln pa s ∧ nI b = z
      · obtain ⟨a, ha, rfl⟩ := qa
        obtain ⟨b, hb, rfl⟩ := qb
        have ma := (ln_mem hK.1 hK.2.1 a).mp ha
        have mb := (ln_mem hK.1 hK.2.1 b).mp hb
        exact pq hW hM (OKA_new hK (SO_swp hK.2.1 ma.1 mb.1 hK.1.1.1)) hL hZ (c94y (d := 57) hC hK ha hb (fun e => q1 (by rw [e]))) (fun ν hN => c184y (d := 56) hN hK ha hb (fun e => q1 (by rw [e])))
      · exact absurd (Or.inr (Or.inr (fun b hb e => qb ⟨b, hb, e⟩))) q
    · exact absurd (Or.inr (Or.inl (fun a ha e => qa ⟨a, ha, e⟩))) q
theorem pr5 (h : IVA μ) (x : Int32) {o : Nat} (ho : o < 2) : PQA Value.int μ (fun μ Q => R 59 95 0 [some (.ref 2000010), some (.int x), some (.int (nI o))] [] μ Q) (fun μ Q => R 59 185 0 [some (.ref 110000011), some (.int x), some (.int (nI o))] [] μ Q) := by
  obtain ⟨hW, pa, lw, s, un, mk, tp, hC, hM, hK, hL, hZ⟩ := h
  have hp := hK.1.1.1
  have n : ((x < nI 0 ∨ nI (pa 0) ≤ x) ∨ ∃ i, i < pa 0 ∧ x = nI i ∧ bt (s 7) i = o) → PQA Value.int μ (fun μ Q => R 59 95 0 [some (.ref 2000010), some (.int x), some (.int (nI o))] [] μ Q) (fun μ Q => R 59 185 0 [some (.ref 110000011), some (.int x), some (.int (nI o))] [] μ Q) := fun q => pq hW hM hK hL hZ (cq0 hC (fun Q => c95n (d := 58) hC hK ho q)) (fun ν hN => mq0 hN (fun Q => c185n (d := 57) hN hK ho q))
  rcases xcs x (pa 0) (by omega) with q | q | ⟨i, hi, rfl⟩
  · exact n (Or.inl (Or.inl q))
  · exact n (Or.inl (Or.inr q))
  · by_cases hb : bt (s 7) i = o
    · exact n (Or.inr ⟨i, hi, rfl, hb⟩)
    · exact pq hW hM (OKA_new hK (SO_out hK.2.1 hp hi)) hL hZ (c95y (d := 57) hC hK ho hi hb) (fun ν hN => c185y (d := 56) hN hK ho hi hb)
theorem pr6 (h : IVA μ) (x : Int32) : PQA Value.int μ (fun μ Q => R 59 96 0 [some (.ref 2000010), some (.int x)] [] μ Q) (fun μ Q => R 59 186 0 [some (.ref 110000011), some (.int x)] [] μ Q) := by
  obtain ⟨hW, pa, lw, s, un, mk, tp, hC, hM, hK, hL, hZ⟩ := h
  have hp := hK.1.1.2.1
  have n : ((x < nI 0 ∨ nI (pa 1) ≤ x) ∨ ∃ i, i < pa 1 ∧ x = nI i ∧ s 8 = i + 1) → PQA Value.int μ (fun μ Q => R 59 96 0 [some (.ref 2000010), some (.int x)] [] μ Q) (fun μ Q => R 59 186 0 [some (.ref 110000011), some (.int x)] [] μ Q) := fun q => pq hW hM hK hL hZ (cq0 hC (fun Q => c96n hC hK q)) (fun ν hN => mq0 hN (fun Q => c186n (d := 58) hN hK q))
  rcases xcs x (pa 1) (by omega) with q | q | ⟨i, hi, rfl⟩
  · exact n (Or.inl (Or.inl q))
  · exact n (Or.inl (Or.inr q))
  · by_cases hb : s 8 = i + 1
    · exact n (Or.inr ⟨i, hi, rfl, hb⟩)
    · exact pq hW hM (OKA_new hK (SO_fr hK.1.1.1 hK.2.1 hi)) hL hZ (c96y (d := 57) hC hK hi hb) (fun ν hN => c186y (d := 56) hN hK hi hb)
theorem pr7 (h : IVA μ) (x : Int32) : PQA Value.int μ (fun μ Q => R 59 97 0 [some (.ref 2000010), some (.int x)] [] μ Q) (fun μ Q => R 59 187 0 [some (.ref 110000011), some (.int x)] [] μ Q) := by
  obtain ⟨hW, pa, lw, s, un, mk, tp, hC, hM, hK, hL, hZ⟩ := h
  have n : ((x < nI 0 ∨ nI 4 ≤ x) ∨ ∃ i, i < 4 ∧ x = nI i ∧ s 9 = i) → PQA Value.int μ (fun μ Q => R 59 97 0 [some (.ref 2000010), some (.int x)] [] μ Q) (fun μ Q => R 59 187 0 [some (.ref 110000011), some (.int x)] [] μ Q) := fun q => pq hW hM hK hL hZ (cq0 hC (fun Q => c97n (d := 58) hC hK q)) (fun ν hN => mq0 hN (fun Q => c187n (d := 58) hN hK q))
  rcases xcs x 4 (by omega) with q | q | ⟨i, hi, rfl⟩
  · exact n (Or.inl (Or.inl q))
  · exact n (Or.inl (Or.inr q))
  · by_cases hb : s 9 = i
    · exact n (Or.inr ⟨i, hi, rfl, hb⟩)
    · exact pq hW hM (OKA_new hK (SO_pc hK.1.1.1 hK.2.1 hi)) hL hZ (c97y (d := 57) hC hK hi hb) (fun ν hN => c187y (d := 56) hN hK hi hb)
theorem pr8 (h : IVA μ) : PQA Value.int μ (fun μ Q => R 59 98 0 [some (.ref 2000010)] [] μ Q) (fun μ Q => R 59 188 0 [some (.ref 110000011)] [] μ Q) := by
  obtain ⟨hW, pa, lw, s, un, mk, tp, hC, hM, hK, hL, hZ⟩ := h
  cases un with
  | nil => exact pq hW hM hK hL hZ (cq0 hC (fun Q => c98n (d := 57) hC)) (fun ν hN => mq0 hN (fun Q => c188n (d := 58) hN))
  | cons t un => exact pq hW hM (OKA_undo hK) hL hZ (c98y (d := 57) hC hK) (fun ν hN => c188y (d := 57) hN hK)
theorem pr9 (h : IVA μ) (x z p : Int32) : PQA Value.int μ (fun μ Q => R 59 99 0 [some (.ref 2000010), some (.int x), some (.int z), some (.int p)] [] μ Q) (fun μ Q => R 59 195 0 [some (.ref 110000011), some (.int x), some (.int z), some (.int p)] [] μ Q) := by
  obtain ⟨hW, pa, lw, s, un, mk, tp, hC, hM, hK, hL, hZ⟩ := h
  by_cases q : psO pa x z p
  · obtain ⟨a, b, c, ha, hb, hab, hc, rfl, rfl, rfl⟩ := q
    exact pq hW hM hK hL hZ (cqS hC (c99y (d := 55) hC hK ha hb hab hc)) (fun ν hN => mqS hN (c195y (d := 55) hN hK ha hb hab hc))
  · exact pq hW hM hK hL hZ (cq0 hC (fun Q => c99n (d := 57) hC.2.1 hK.1 q)) (fun ν hN => mq0 hN (fun Q => c195n (d := 57) hN hK q))
theorem pr10 (h : IVA μ) (x z p : Int32) : PQA Value.int μ (fun μ Q => R 59 100 0 [some (.ref 2000010), some (.int x), some (.int z), some (.int p)] [] μ Q) (fun μ Q => R 59 196 0 [some (.ref 110000011), some (.int x), some (.int z), some (.int p)] [] μ Q) := by
  obtain ⟨hW, pa, lw, s, un, mk, tp, hC, hM, hK, hL, hZ⟩ := h
  by_cases q : psO pa x z p
  · obtain ⟨a, b, c, ha, hb, hab, hc, rfl, rfl, rfl⟩ := q
    exact pq hW hM hK hL hZ (cqS hC (c100y (d := 55) hC hK ha hb hab hc)) (fun ν hN => mqS hN (c196y (d := 55) hN hK ha hb hab hc))
  · exact pq hW hM hK hL hZ (cq0 hC (fun Q => c100n (d := 57) hC.2.1 hK.1 q)) (fun ν hN => mq0 hN (fun Q => c196n (d := 57) hN hK q))
theorem pr11 (h : IVA μ) (w : Int32) : PQA Value.long μ (fun μ Q => R 59 101 0 [some (.ref 2000010), some (.int w)] [] μ Q) (fun μ Q => R 59 199 0 [some (.ref 110000011), some (.int w)] [] μ Q) := by
  obtain ⟨hW, pa, lw, s, un, mk, tp, hC, hM, hK, hL, hZ⟩ := h
  exact pq hW hM hK hL hZ (cqS hC (c101 (d := 54) hC hK)) (fun ν hN => mqS hN (c199 (d := 54) hN hK))
theorem pr12 (h : IVA μ) (x w : Int32) : PQA Value.long μ (fun μ Q => R 59 102 0 [some (.ref 2000010), some (.int x), some (.int w), none, none, none] [] μ Q) (fun μ Q => R 59 200 0 [some (.ref 110000011), some (.int x), some (.int w), none, none, none] [] μ Q) := by
  obtain ⟨hW, pa, lw, s, un, mk, tp, hC, hM, hK, hL, hZ⟩ := h
  by_cases q : ∃ i, i ≤ (ln pa s).length - 1 ∧ x = fI i
  · obtain ⟨i, hi, rfl⟩ := q
    exact pq hW hM hK hL hZ (cqS hC (c102y (d := 54) hC hK hi)) (fun ν hN => mqS hN (c200y (d := 55) hN hK hi))
  · exact pq hW hM hK hL hZ (cq0 hC (fun Q => c102_n (d := 58) hC hK q)) (fun ν hN => mqS hN (c200n (d := 57) hN hK q))
theorem pr13 (h : IVA μ) (w : Int32) : PQA Value.long μ (fun μ Q => R 59 103 0 [some (.ref 2000010), some (.int w)] [] μ Q) (fun μ Q => R 59 205 0 [some (.ref 110000011), some (.int w)] [] μ Q) := by
  obtain ⟨hW, pa, lw, s, un, mk, tp, hC, hM, hK, hL, hZ⟩ := h
  exact pq hW hM hK hL hZ (c103 (d := 53) hC hK) (fun ν hN => mqS hN (c205 (d := 44) hN hK))
theorem pr14 (h : IVA μ) : PQA Value.int μ (fun μ Q => R 59 104 0 [some (.ref 2000010)] [] μ Q) (fun μ Q => R 59 206 0 [some (.ref 110000011)] [] μ Q) := by
  obtain ⟨hW, pa, lw, s, un, mk, tp, hC, hM, hK, hL, hZ⟩ := h
  exact pq hW hM hK hL hZ (c104 (d := 53) hC hK) (fun ν hN => mqS hN (c206 (d := 44) hN hK))
theorem pr15 (h : IVA μ) : PQA Value.int μ (fun μ Q => R 59 105 0 [some (.ref 2000010), none, none] [] μ Q) (fun μ Q => R 59 207 0 [some (.ref 110000011), none, none] [] μ Q) := by
  obtain ⟨hW, pa, lw, s, un, mk, tp, hC, hM, hK, hL, hZ⟩ := h
  exact pq hW hM hK hL hZ (cqS hC (c105 (d := 54) hC hK)) (fun ν hN => mqS hN (c207 (d := 54) hN hK))
theorem pr16 (h : IVA μ) (x : Int32) : PQA Value.int μ (fun μ Q => R 59 106 0 [some (.ref 2000010), some (.int x), none, none, none] [] μ Q) (fun μ Q => R 59 208 0 [some (.ref 110000011), some (.int x), none, none, none, none, none] [] μ Q) := by
  obtain ⟨hW, pa, lw, s, un, mk, tp, hC, hM, hK, hL, hZ⟩ := h
  by_cases q : ∃ fr, 1 ≤ fr ∧ fr ≤ 20 ∧ x = nI fr
  · obtain ⟨fr, h1, h2, rfl⟩ := q
    exact pq hW hM hK hL hZ (cqS hC (c106y (d := 53) hC hK h1 h2)) (fun ν hN => mqS hN (c208y (d := 54) hN hK h1 h2))
  · exact pq hW hM hK hL hZ (cq0 hC (fun Q => c106n q)) (fun ν hN => mq0 hN (fun Q => c208n (d := 58) q))
theorem pr17 (h : IVA μ) (x y z : Int32) {p : Nat} (hp : p < 2) : PQA Value.int μ (fun μ Q => R 59 107 0 [some (.ref 2000010), some (.int x), some (.int y), some (.int z), some (.int (nI p)), none, none, none] [] μ Q) (fun μ Q => R 59 210 0 [some (.ref 110000011), some (.int x), some (.int y), some (.int z), some (.int (nI p))] [] μ Q) := by
  obtain ⟨hW, pa, lw, s, un, mk, tp, hC, hM, hK, hL, hZ⟩ := h
  by_cases q : hrO pa s x y z
  · obtain ⟨o, h, t, h1, h2, h3, h4, h5, h6, rfl, rfl, rfl⟩ := q
    exact pq hW hM hK hL hZ (cqS hC (c107y (d := 53) hC hK h1 h2 h3 h4 h5 h6 hp)) (fun ν hN => mqS hN (c210y (d := 54) hN hK h1 h2 h3 h4 h5 h6 hp))
  · exact pq hW hM hK hL hZ (cq0 hC (fun Q => c107n (d := 58) hC hK q)) (fun ν hN => mqS hN (c210n (d := 57) hN hK q))
theorem pr18 (h : IVA μ) (x : Int32) : PQA Value.int μ (fun μ Q => R 59 108 0 [some (.ref 2000010), some (.int x), none] [] μ Q) (fun μ Q => R 59 213 0 [some (.ref 110000011), some (.int x)] [] μ Q) := by
  obtain ⟨hW, pa, lw, s, un, mk, tp, hC, hM, hK, hL, hZ⟩ := h
  by_cases q : ∃ i, i < (ln pa s).length ∧ x = nI ((ln pa s).getD i 0)
  · obtain ⟨i, hi, rfl⟩ := q
    exact pq hW hM hK hL hZ (cqS hC (c108y (d := 54) hC hK hL hi)) (fun ν hN => mqS hN (c213y (d := 54) hN hK hL hi))
  · exact pq hW hM hK hL hZ (cq0 hC (fun Q => c108n (d := 58) hC hK q)) (fun ν hN => mqS hN (c213n (d := 57) hN hK q))
theorem pr19 (h : IVA μ) (x : Int32) : PQA Value.int μ (fun μ Q => R 59 109 0 [some (.ref 2000010), some (.int x), none, none, none, none, none] [] μ Q) (fun μ Q => R 59 215 0 [some (.ref 110000011), some (.int x), none, none, none, none] [] μ Q) := by
  obtain ⟨hW, pa, lw, s, un, mk, tp, hC, hM, hK, hL, hZ⟩ := h
  by_cases q : ∃ i, i < (ln pa s).length ∧ x = nI ((ln pa s).getD i 0)
  · obtain ⟨i, hi, rfl⟩ := q
    exact pq hW hM hK hL hZ (cqS hC (c109y (d := 53) hC hK hL hi)) (fun ν hN => mqS hN (c215y (d := 54) hN hK hL hi))
  · exact pq hW hM hK hL hZ (cq0 hC (fun Q => c109n (d := 58) hC hK q)) (fun ν hN => mqS hN (c215n (d := 57) hN hK q))
theorem pr20 (h : IVA μ) (x : Int32) : PQA Value.int μ (fun μ Q => R 59 110 0 [some (.ref 2000010), some (.int x), none] [] μ Q) (fun μ Q => R 59 217 0 [some (.ref 110000011), some (.int x), none, none, none, none, none] [] μ Q) := by
  obtain ⟨hW, pa, lw, s, un, mk, tp, hC, hM, hK, hL, hZ⟩ := h
  by_cases q : ∃ w, w < 2 ∧ x = nI w
  · obtain ⟨w, hw, e⟩ := q
    refine pq hW hM hK hL hZ (cq0 hC (fun Q => by subst e; exact c110y (d := 57) hC hK hw)) (fun ν hN => mqS hN ?_)
    obtain ⟨ρ, b1, b2, -⟩ := c217 (d := 57) hN hK hZ (x := x)
    exact ⟨ρ, b1, b2 w hw e⟩
  · have hx : (x < nI 0 ∨ nI 2 ≤ x) ∧ ¬ x = nI 0 ∧ ¬ x = nI 1 := by
      refine ⟨?_, fun e => q ⟨0, by omega, e⟩, fun e => q ⟨1, by omega, e⟩⟩
      rcases xcs x 2 (by omega) with e | e | ⟨j, hj, e⟩
      · exact Or.inl e
      · exact Or.inr e
      · exact absurd ⟨j, hj, e⟩ q
    refine pq hW hM hK hL hZ (cq0 hC (fun Q => c110n (d := 57) hx)) (fun ν hN => mqS hN ?_)
    obtain ⟨ρ, b1, -, b3⟩ := c217 (d := 57) hN hK hZ (x := x)
    exact ⟨ρ, b1, b3 hx⟩
theorem pr21 (h : IVA μ) (x1 x2 x3 x4 w : Int32) : PQA Value.long μ (fun μ Q => R 59 111 0 [some (.ref 2000010), some (.int x1), some (.int x2), some (.int x3), some (.int x4), some (.int w), none, none, none, none, none] [] μ Q) (fun μ Q => R 59 219 0 [some (.ref 110000011), some (.int x1), some (.int x2), some (.int x3), some (.int x4), some (.int w)] [] μ Q) := by
  obtain ⟨hW, pa, lw, s, un, mk, tp, hC, hM, hK, hL, hZ⟩ := h
  by_cases q : leO x1 x2 x3 x4
  · obtain ⟨h, f, p, q, h1, h2, h3, h4, h5, rfl, rfl, rfl, rfl⟩ := q
    exact pq hW hM hK hL hZ (cqS hC (c111y (d := 58) hC.1 h1 h2 h3 h4 h5)) (fun ν hN => mqS hN (c219y (d := 58) h1 h2 h3 h4 h5))
  · exact pq hW hM hK hL hZ (cq0 hC (fun Q => c111n q)) (fun ν hN => mq0 hN (fun Q => c219n (d := 58) q))
theorem pr22 (h : IVA μ) (x z : Int32) : PQA Value.int μ (fun μ Q => R 59 112 0 [some (.ref 2000010), some (.int x), some (.int z), none, none, none, none, none, none, none] [] μ Q) (fun μ Q => R 59 221 0 [some (.ref 110000011), some (.int x), some (.int z), none, none, none, none] [] μ Q) := by
  obtain ⟨hW, pa, lw, s, un, mk, tp, hC, hM, hK, hL, hZ⟩ := h
  by_cases q : evO pa s x z
  · obtain ⟨g, w, hg, hw, hl, rfl, rfl⟩ := q
    exact pq hW hM hK hL hZ (cqS hC (c112y (d := 53) hC hK hg hw hl)) (fun ν hN => mqS hN (c221y (d := 55) hN hK hg hw hl))
  · exact pq hW hM hK hL hZ (cq0 hC (fun Q => c112n hC hK q)) (fun ν hN => mqS hN (c221n (d := 57) hN hK q))
theorem pr23 (h : IVA μ) (x : Int32) {o : Nat} (ho : o < 2) : PQA Value.int μ (fun μ Q => R 59 113 0 [some (.ref 2000010), some (.int x), some (.int (nI o))] [] μ Q) (fun μ Q => R 59 222 0 [some (.ref 110000011), some (.int x), some (.int (nI o))] [] μ Q) := by
  obtain ⟨hW, pa, lw, s, un, mk, tp, hC, hM, hK, hL, hZ⟩ := h
  have n : ((x < nI 0 ∨ nI 4 ≤ x) ∨ ∃ i, i < 4 ∧ x = nI i ∧ o = 1 ∧ mk i = none) → PQA Value.int μ (fun μ Q => R 59 113 0 [some (.ref 2000010), some (.int x), some (.int (nI o))] [] μ Q) (fun μ Q => R 59 222 0 [some (.ref 110000011), some (.int x), some (.int (nI o))] [] μ Q) := fun q => pq hW hM hK hL hZ (cq0 hC (fun Q => c113n hC ho q)) (fun ν hN => mq0 hN (fun Q => c222n (d := 58) hN ho q))
  rcases xcs x 4 (by omega) with q | q | ⟨i, hi, rfl⟩
  · exact n (Or.inl (Or.inl q))
  · exact n (Or.inl (Or.inr q))
  · by_cases h0 : o = 0
    · subst h0
      exact pq hW hM (OKA_mark hK i) hL hZ (c113s (d := 58) hC hK hi) (fun ν hN => c222s (d := 57) hN hK hi)
    · have h1 : o = 1 := by omega
      cases hm : mk i with
      | none => exact n (Or.inr ⟨i, hi, rfl, h1, hm⟩)
      | some t =>
        subst h1
        exact pq hW hM (OKA_back hK hi hm) hL hZ (c113b (d := 57) hC hK hi hm) (fun ν hN => c222b (d := 57) hN hi hm)
theorem pr24 (h : IVA μ) (x : Int32) : PQA Value.int μ (fun μ Q => R 59 114 0 [some (.ref 2000010), some (.int x)] [] μ Q) (fun μ Q => R 59 224 0 [some (.ref 110000011), some (.int x)] [] μ Q) := by
  obtain ⟨hW, pa, lw, s, un, mk, tp, hC, hM, hK, hL, hZ⟩ := h
  rcases xcs x 11 (by omega) with q | q | ⟨i, hi, rfl⟩
  · exact pq hW hM hK hL hZ (cq0 hC (fun Q => c114n (Or.inl q))) (fun ν hN => mqS hN (c224n (d := 57) hN hK (Or.inl q)))
  · exact pq hW hM hK hL hZ (cq0 hC (fun Q => c114n (Or.inr q))) (fun ν hN => mqS hN (c224n (d := 57) hN hK (Or.inr q)))
  · exact pq hW hM hK hL hZ (cq0 hC (fun Q => c114y hC hK hi)) (fun ν hN => mqS hN (c224y (d := 56) hN hK hi))
end T1
