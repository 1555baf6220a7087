/-! ONE STEP: what the pure machine does the real one does -/
theorem ck_some {P : Prop} [Decidable P] {q : Option PR} {r : PR} (h : ck P q = some r) : P ∧ q = some r := by
  unfold ck at h
  split at h
  · exact ⟨by assumption, h⟩
  · cases h
theorem pI_some {st : List Value} {k : Int32 → List Value → Option PR} {r : PR} (h : pI st k = some r) : ∃ x t, st = .int x :: t ∧ k x t = some r := by
  unfold pI at h
  split at h
  · exact ⟨_, _, rfl, h⟩
  · cases h
theorem pL_some {st : List Value} {k : Int64 → List Value → Option PR} {r : PR} (h : pL st k = some r) : ∃ x t, st = .long x :: t ∧ k x t = some r := by
  unfold pL at h
  split at h
  · exact ⟨_, _, rfl, h⟩
  · cases h
theorem pA_some {st : List Value} {k : Nat → List Value → Option PR} {r : PR} (h : pA st k = some r) : ∃ x t, st = .ref x :: t ∧ k x t = some r := by
  unfold pA at h
  split at h
  · exact ⟨_, _, rfl, h⟩
  · cases h
theorem pV_some {st : List Value} {k : Value → List Value → Option PR} {r : PR} (h : pV st k = some r) : ∃ x t, st = x :: t ∧ k x t = some r := by
  unfold pV at h
  split at h
  · exact ⟨_, _, rfl, h⟩
  · cases h
theorem nxt_inj {a a' : Nat} {b b' : PL} {c c' : List Value} {d d' : PM} (h : nxt a b c d = some (.inl (a', b', c', d'))) : a' = a ∧ b' = b ∧ c' = c ∧ d' = d := by
  unfold nxt at h
  cases h
  exact ⟨rfl, rfl, rfl, rfl⟩
theorem bI_some {f : Int32 → Int32 → Int32} {pc : Nat} {ls : PL} {st : List Value} {μ : PM} {a' : Nat} {b' : PL} {c' : List Value} {d' : PM} (h : bI f pc ls st μ = some (.inl (a', b', c', d'))) : ∃ x z t, st = .int z :: .int x :: t ∧ a' = pc + 1 ∧ b' = ls ∧ c' = .int (f x z) :: t ∧ d' = μ := by
  obtain ⟨z, t, rfl, h1⟩ := pI_some h
  obtain ⟨x, t, rfl, h2⟩ := pI_some h1
  exact ⟨x, z, t, rfl, nxt_inj h2⟩
theorem bL_some {f : Int64 → Int64 → Int64} {pc : Nat} {ls : PL} {st : List Value} {μ : PM} {a' : Nat} {b' : PL} {c' : List Value} {d' : PM} (h : bL f pc ls st μ = some (.inl (a', b', c', d'))) : ∃ x z t, st = .long z :: .long x :: t ∧ a' = pc + 1 ∧ b' = ls ∧ c' = .long (f x z) :: t ∧ d' = μ := by
  obtain ⟨z, t, rfl, h1⟩ := pL_some h
  obtain ⟨x, t, rfl, h2⟩ := pL_some h1
  exact ⟨x, z, t, rfl, nxt_inj h2⟩
theorem jmp_some {pc : Nat} {off : Int} {ls : PL} {st : List Value} {μ : PM} {a' : Nat} {b' : PL} {c' : List Value} {d' : PM} (h : jmp pc off ls st μ = some (.inl (a', b', c', d'))) : (pc : Int) + off = (a' : Int) ∧ b' = ls ∧ c' = st ∧ d' = μ := by
  obtain ⟨h0, h1⟩ := ck_some h
  obtain ⟨rfl, h2⟩ := nxt_inj h1
  exact ⟨(Int.toNat_of_nonneg h0).symm, h2⟩
theorem br_some {P : Prop} [Decidable P] {pc : Nat} {off : Int} {ls : PL} {st : List Value} {μ : PM} {a' : Nat} {b' : PL} {c' : List Value} {d' : PM} (h : br P pc off ls st μ = some (.inl (a', b', c', d'))) : ∃ t : Nat, (pc : Int) + off = (t : Int) ∧ ((P ∧ a' = t) ∨ (¬ P ∧ a' = pc + 3)) ∧ b' = ls ∧ c' = st ∧ d' = μ := by
  obtain ⟨h0, h⟩ := ck_some h
  refine ⟨((pc : Int) + off).toNat, (Int.toNat_of_nonneg h0).symm, ?_⟩
  split at h
  · obtain ⟨h1, h2⟩ := nxt_inj h
    exact ⟨Or.inl ⟨by assumption, h1⟩, h2⟩
  · obtain ⟨h1, h2⟩ := nxt_inj h
    exact ⟨Or.inr ⟨by assumption, h1⟩, h2⟩
theorem ldI_some {i len pc : Nat} {ls : PL} {st : List Value} {μ : PM} {a' : Nat} {b' : PL} {c' : List Value} {d' : PM} (h : ldI i len pc ls st μ = some (.inl (a', b', c', d'))) : ∃ x, ls[i]? = some (some (.int x)) ∧ a' = pc + len ∧ b' = ls ∧ c' = .int x :: st ∧ d' = μ := by
  unfold ldI at h
  split at h
  · exact ⟨_, by assumption, nxt_inj h⟩
  · cases h
theorem ldL_some {i len pc : Nat} {ls : PL} {st : List Value} {μ : PM} {a' : Nat} {b' : PL} {c' : List Value} {d' : PM} (h : ldL i len pc ls st μ = some (.inl (a', b', c', d'))) : ∃ x, ls[i]? = some (some (.long x)) ∧ a' = pc + len ∧ b' = ls ∧ c' = .long x :: st ∧ d' = μ := by
  unfold ldL at h
  split at h
  · exact ⟨_, by assumption, nxt_inj h⟩
  · cases h
theorem ldA_some {i len pc : Nat} {ls : PL} {st : List Value} {μ : PM} {a' : Nat} {b' : PL} {c' : List Value} {d' : PM} (h : ldA i len pc ls st μ = some (.inl (a', b', c', d'))) : ∃ x, ls[i]? = some (some (.ref x)) ∧ a' = pc + len ∧ b' = ls ∧ c' = .ref x :: st ∧ d' = μ := by
  unfold ldA at h
  split at h
  · exact ⟨_, by assumption, nxt_inj h⟩
  · cases h
/-! locals -/
def lvO (g : GG) (ls : PL) : List (Nat × Value) := (List.range ls.length).filterMap (fun i => match ls[i]? with
  | some (some v) => some (i, tr g v)
  | _ => none)
theorem lvO_mem {g : GG} {ls : PL} {i : Nat} {w : Value} : (i, w) ∈ lvO g ls ↔ ∃ v, ls[i]? = some (some v) ∧ w = tr g v := by
  unfold lvO
  rw [List.mem_filterMap]
  constructor
  · rintro ⟨j, -, h⟩
    split at h
    · cases h; exact ⟨_, by assumption, rfl⟩
    · cases h
  · rintro ⟨v, h, rfl⟩
    refine ⟨i, List.mem_range.mpr (List.getElem?_eq_some_iff.mp h).1, ?_⟩
    rw [h]
def lvk (g : GG) (y : Nat) (ls : PL) (A : Array Slot) : Prop := lv_has A (xN y) (lvO g ls) ∧ ls.length = xN y ∧ ∀ i v, ls[i]? = some (some v) → v.category = 2 → (gN y).contains i = true
theorem lvk_at {g : GG} {y : Nat} {ls : PL} {A : Array Slot} (h : lvk g y ls A) {i : Nat} {v : Value} (hi : ls[i]? = some (some v)) : A[i]? = some (.val (tr g v)) := h.1.2.2 (i, tr g v) (lvO_mem.mpr ⟨v, hi, rfl⟩)
theorem lv_less {A : Array Slot} {n : Nat} {l l' : List (Nat × Value)} (h : lv_has A n l) (hs : ∀ q ∈ l', q ∈ l) : lv_has A n l' := ⟨h.1, h.2.1, fun q hq => h.2.2 q (hs q hq)⟩
theorem ok1_spec {y i : Nat} (h : ok1 y i = true) : i < xN y ∧ (gN y).contains i = false ∧ (i = 0 ∨ (gN y).contains (i - 1) = false) := by
  unfold ok1 at h
  simp only [Bool.and_eq_true, decide_eq_true_eq, Bool.or_eq_true, beq_iff_eq, Bool.not_eq_true'] at h
  exact ⟨h.1.1, h.1.2, h.2⟩
theorem ok2_spec {y i : Nat} (h : ok2 y i = true) : i + 1 < xN y ∧ (gN y).contains i = true ∧ (i = 0 ∨ (gN y).contains (i - 1) = false) ∧ (gN y).contains (i + 1) = false := by
  unfold ok2 at h
  simp only [Bool.and_eq_true, decide_eq_true_eq, Bool.or_eq_true, beq_iff_eq, Bool.not_eq_true'] at h
  exact ⟨h.1.1.1, h.1.1.2, h.1.2, h.2⟩
theorem lvk_set1 {g : GG} {y : Nat} {ls : PL} {A A' : Array Slot} {i : Nat} {v : Value} (h : lvk g y ls A) (ho : ok1 y i = true) (hc : v.category = 1)
    (h' : lv_has A' (xN y) ((i, tr g v) :: (lvO g ls).filter (fun q => !(q.1 == i) && !(q.1 + 1 == i && q.2.category == 2)))) : lvk g y (ls.set i (some v)) A' := by
  obtain ⟨o1, o2, o3⟩ := ok1_spec ho
  refine ⟨lv_less h' ?_, by rw [List.length_set]; exact h.2.1, ?_⟩
  · rintro ⟨j, w⟩ hq
    obtain ⟨u, hu, rfl⟩ := lvO_mem.mp hq
    rw [List.getElem?_set] at hu
    by_cases hij : i = j
    · subst hij
      rw [if_pos rfl, if_pos (by rw [h.2.1]; exact o1)] at hu
      cases hu
      exact List.mem_cons_self
    · rw [if_neg hij] at hu
      refine List.mem_cons_of_mem _ (List.mem_filter.mpr ⟨lvO_mem.mpr ⟨u, hu, rfl⟩, ?_⟩)
      have h1 : (j == i) = false := by simp [Ne.symm hij]
      by_cases hj : j + 1 = i
      · have hn : ¬ u.category = 2 := by
          intro hcat
          have := h.2.2 j u hu hcat
          rcases o3 with o3 | o3
          · omega
          · rw [show i - 1 = j by omega] at o3; rw [this] at o3; cases o3
        simp [h1, tr_cat, hn]
      · simp [h1, hj]
  · intro j u hu hcat
    rw [List.getElem?_set] at hu
    by_cases hij : i = j
    · subst hij
      rw [if_pos rfl, if_pos (by rw [h.2.1]; exact o1)] at hu
      cases hu
      omega
    · rw [if_neg hij] at hu
      exact h.2.2 j u hu hcat
theorem lvk_set2 {g : GG} {y : Nat} {ls : PL} {A A' : Array Slot} {i : Nat} {v : Value} (h : lvk g y ls A) (ho : ok2 y i = true)
    (h' : lv_has A' (xN y) ((i, tr g v) :: (lvO g ls).filter (fun q => !(q.1 == i) && (!(q.1 == i + 1) && !(q.1 + 1 == i && q.2.category == 2))))) : lvk g y ((ls.set i (some v)).set (i + 1) none) A' := by
  obtain ⟨o1, o2, o3, o4⟩ := ok2_spec ho
  have key : ∀ j u, ((ls.set i (some v)).set (i + 1) none)[j]? = some (some u) → (j = i ∧ u = v) ∨ (j ≠ i ∧ j ≠ i + 1 ∧ ls[j]? = some (some u)) := by
    intro j u hu
    rw [List.getElem?_set] at hu
    by_cases h1 : i + 1 = j
    · rw [if_pos h1] at hu
      split at hu <;> cases hu
    · rw [if_neg h1, List.getElem?_set] at hu
      by_cases h2 : i = j
      · rw [if_pos h2, if_pos (by rw [h.2.1]; omega)] at hu
        cases hu
        exact Or.inl ⟨h2.symm, rfl⟩
      · rw [if_neg h2] at hu
        exact Or.inr ⟨Ne.symm h2, Ne.symm h1, hu⟩
  refine ⟨lv_less h' ?_, by rw [List.length_set, List.length_set]; exact h.2.1, ?_⟩
  · rintro ⟨j, w⟩ hq
    obtain ⟨u, hu, rfl⟩ := lvO_mem.mp hq
    rcases key j u hu with ⟨rfl, rfl⟩ | ⟨n1, n2, hu⟩
    · exact List.mem_cons_self
    · refine List.mem_cons_of_mem _ (List.mem_filter.mpr ⟨lvO_mem.mpr ⟨u, hu, rfl⟩, ?_⟩)
      by_cases hj : j + 1 = i
      · have hn : ¬ u.category = 2 := by
          intro hcat
          have := h.2.2 j u hu hcat
          rcases o3 with o3 | o3
          · omega
          · rw [show i - 1 = j by omega] at o3; rw [this] at o3; cases o3
        simp [n1, n2, tr_cat, hn]
      · simp [n1, n2, hj]
  · intro j u hu hcat
    rcases key j u hu with ⟨rfl, rfl⟩ | ⟨n1, n2, hu⟩
    · exact o2
    · exact h.2.2 j u hu hcat
theorem okS_of {g : GG} {as : List Nat} {st st' : List Value} (h : okS g as st) (hs : ∀ a, Value.ref a ∈ st' → Value.ref a ∈ st) : okS g as st' := fun a ha => h a (hs a ha)
theorem okL_set {g : GG} {as : List Nat} {ls : PL} {i : Nat} {v : Value} (h : okL g as ls) (hv : ∀ a, v = .ref a → okr g as a) : okL g as (ls.set i (some v)) := by
  intro a ha
  rcases List.mem_or_eq_of_mem_set ha with h1 | h1
  · exact h a h1
  · exact hv a (Option.some.inj h1).symm
theorem okL_none {g : GG} {as : List Nat} {ls : PL} {i : Nat} (h : okL g as ls) : okL g as (ls.set i none) := by
  intro a ha
  rcases List.mem_or_eq_of_mem_set ha with h1 | h1
  · exact h a h1
  · cases h1
def slA (a : Nat) : Nat := if a % 100 < 12 then NN (a % 100) else a / 100 % 10000
def slS (μ : PM) : Nat := ((aS μ).map slA).sum
def Fr (g : GG) (p : Program) (s : State) (m : MethodId) (args : Array Value) (meth : Method) (c : Code) (y : Nat) : Prop := p.tables.exec = Jvm.exec ∧ c.code = bN y ∧ c.maxLocals = xN y ∧ s.vm.findClass (oC (oN y)) = some m.cls ∧ (∀ w ∈ TB, w.before args s = true) ∧ SF g s ∧ (kN y = 2 → meth.name = "<init>") ∧ y < 233
/-- from this pure state on the real machine comes to Q -/
def KC (g : GG) (p : Program) (l : Launch) (e : Env) (Rm : Room) (s : State) (m : MethodId) (args : Array Value) (below : List Frame) (meth : Method) (c : Code) (Q : State → Prop) (y K0 S0 pc : Nat) (ls : PL) (st : List Value) (μ : PM) : Prop :=
  ∀ (H : Heap) (locs : List Loc) (cells slots : Nat) (A : Array Slot), HF g μ H → va_S (gA g) s.heap H locs → K0 + cells = (aS μ).length → S0 + slots = slS μ → lvk g y ls A → okS g (aS μ) st → okL g (aS μ) ls → W p l e Rm s m args below meth c H locs cells slots Q (F0 m pc A (st.map (tr g)))
