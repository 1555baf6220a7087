/-! the shape of a step -/
def Sh (r : Option PR) (P : PR → Prop) : Prop := ∀ q, r = some q → P q
def Gr (μ : PM) (q : PR) : Prop := ∃ pc ls st μ', q = .inl (pc, ls, st, μ') ∧ (∃ t, aS μ' = aS μ ++ t)
theorem Sh_none {P : PR → Prop} : Sh none P := fun _ h => by cases h
theorem Sh_ck {c : Prop} [Decidable c] {r : Option PR} {P : PR → Prop} (h : Sh r P) : Sh (ck c r) P := fun q hq => h q (ck_some hq).2
theorem Sh_pI {st : List Value} {k : Int32 → List Value → Option PR} {P : PR → Prop} (h : ∀ x r, Sh (k x r) P) : Sh (pI st k) P := fun q hq => by obtain ⟨x, t, -, h2⟩ := pI_some hq; exact h x t q h2
theorem Sh_pL {st : List Value} {k : Int64 → List Value → Option PR} {P : PR → Prop} (h : ∀ x r, Sh (k x r) P) : Sh (pL st k) P := fun q hq => by obtain ⟨x, t, -, h2⟩ := pL_some hq; exact h x t q h2
theorem Sh_pA {st : List Value} {k : Nat → List Value → Option PR} {P : PR → Prop} (h : ∀ x r, Sh (k x r) P) : Sh (pA st k) P := fun q hq => by obtain ⟨x, t, -, h2⟩ := pA_some hq; exact h x t q h2
theorem Sh_pV {st : List Value} {k : Value → List Value → Option PR} {P : PR → Prop} (h : ∀ x r, Sh (k x r) P) : Sh (pV st k) P := fun q hq => by obtain ⟨x, t, -, h2⟩ := pV_some hq; exact h x t q h2
theorem Sh_nxt {pc : Nat} {ls : PL} {st : List Value} {μ μ' : PM} (h1 : ∃ t, aS μ' = aS μ ++ t) : Sh (nxt pc ls st μ') (Gr μ) := fun q hq => by unfold nxt at hq; cases hq; exact ⟨_, _, _, _, rfl, h1⟩
theorem Sh_same {pc : Nat} {ls : PL} {st : List Value} {μ : PM} : Sh (nxt pc ls st μ) (Gr μ) := Sh_nxt ⟨[], (List.append_nil _).symm⟩
theorem Sh_wI {pc : Nat} {ls : PL} {st : List Value} {μ : PM} {a j : Nat} {x : Int32} : Sh (nxt pc ls st (wI μ a j x)) (Gr μ) := Sh_nxt ⟨[], (List.append_nil _).symm⟩
theorem Sh_wL {pc : Nat} {ls : PL} {st : List Value} {μ : PM} {a j : Nat} {x : Int64} : Sh (nxt pc ls st (wL μ a j x)) (Gr μ) := Sh_nxt ⟨[], (List.append_nil _).symm⟩
theorem Sh_wR {pc : Nat} {ls : PL} {st : List Value} {μ : PM} {a j : Nat} {x : Option Nat} : Sh (nxt pc ls st (wR μ a j x)) (Gr μ) := Sh_nxt ⟨[], (List.append_nil _).symm⟩
theorem Sh_cI {pc : Nat} {ls : PL} {st : List Value} {μ : PM} {a sp b dp n : Nat} : Sh (nxt pc ls st (cI μ a sp b dp n)) (Gr μ) := Sh_nxt ⟨[], (List.append_nil _).symm⟩
theorem Sh_nw {pc : Nat} {ls : PL} {st : List Value} {μ : PM} {a : Nat} : Sh (nxt pc ls st (nw μ a)) (Gr μ) := Sh_nxt ⟨[a], rfl⟩
theorem Sh_jmp {pc : Nat} {off : Int} {ls : PL} {st : List Value} {μ : PM} : Sh (jmp pc off ls st μ) (Gr μ) := Sh_ck Sh_same
theorem Sh_br {c : Prop} [Decidable c] {pc : Nat} {off : Int} {ls : PL} {st : List Value} {μ : PM} : Sh (br c pc off ls st μ) (Gr μ) := Sh_ck (by split <;> exact Sh_same)
theorem Sh_bI {f : Int32 → Int32 → Int32} {pc : Nat} {ls : PL} {st : List Value} {μ : PM} : Sh (bI f pc ls st μ) (Gr μ) := Sh_pI fun _ _ => Sh_pI fun _ _ => Sh_same
theorem Sh_bL {f : Int64 → Int64 → Int64} {pc : Nat} {ls : PL} {st : List Value} {μ : PM} : Sh (bL f pc ls st μ) (Gr μ) := Sh_pL fun _ _ => Sh_pL fun _ _ => Sh_same
theorem Sh_ldI {i len pc : Nat} {ls : PL} {st : List Value} {μ : PM} : Sh (ldI i len pc ls st μ) (Gr μ) := by unfold ldI; split; exact Sh_same; exact Sh_none
theorem Sh_ldL {i len pc : Nat} {ls : PL} {st : List Value} {μ : PM} : Sh (ldL i len pc ls st μ) (Gr μ) := by unfold ldL; split; exact Sh_same; exact Sh_none
theorem Sh_ldA {i len pc : Nat} {ls : PL} {st : List Value} {μ : PM} : Sh (ldA i len pc ls st μ) (Gr μ) := by unfold ldA; split; exact Sh_same; exact Sh_none
theorem Sh_stI {y i len pc : Nat} {ls : PL} {st : List Value} {μ : PM} : Sh (stI y i len pc ls st μ) (Gr μ) := Sh_pI fun _ _ => Sh_ck Sh_same
theorem Sh_stA {y i len pc : Nat} {ls : PL} {st : List Value} {μ : PM} : Sh (stA y i len pc ls st μ) (Gr μ) := Sh_pA fun _ _ => Sh_ck Sh_same
theorem Sh_stL {y i len pc : Nat} {ls : PL} {st : List Value} {μ : PM} : Sh (stL y i len pc ls st μ) (Gr μ) := Sh_pL fun _ _ => Sh_ck Sh_same
theorem Sh_put {μ : PM} {a j : Nat} {ty : FieldType} {v : Value} {pc : Nat} {ls : PL} {st : List Value} : Sh (match putV μ a j ty v with
      | some μ' => nxt pc ls st μ'
      | none => none) (Gr μ) := by
  split
  · rename_i μ' h
    unfold putV at h
    refine Sh_nxt ?_
    split at h <;> first | (cases h; exact ⟨[], (List.append_nil _).symm⟩) | (split at h <;> first | (cases h; exact ⟨[], (List.append_nil _).symm⟩) | cases h) | cases h
  · exact Sh_none
def isPl (i : Instr) : Bool := match i with
  | .invokevirtual _ => false
  | .invokespecial _ => false
  | .invokestatic _ => false
  | .ireturn => false
  | .lreturn => false
  | .return_ => false
  | _ => true
theorem exI_pl {y : Nat} {i : Instr} {len pc : Nat} {ls : PL} {st : List Value} {μ : PM} (hi : isPl i = true) : Sh (exI y i len pc ls st μ) (Gr μ) := by
  cases i <;> first | (simp [isPl] at hi; done) | (simp only [exI]; (repeat' (first | exact Sh_none | exact Sh_same | exact Sh_wI | exact Sh_wL | exact Sh_wR | exact Sh_nw | exact Sh_cI | exact Sh_jmp | exact Sh_br | exact Sh_bI | exact Sh_bL | exact Sh_ldI | exact Sh_ldL | exact Sh_ldA | exact Sh_stI | exact Sh_stA | exact Sh_stL | exact Sh_put | refine Sh_ck ?_ | (refine Sh_pI ?_; intro _ _) | (refine Sh_pL ?_; intro _ _) | (refine Sh_pA ?_; intro _ _) | (refine Sh_pV ?_; intro _ _) | split)))
theorem exI_st {y k len pc : Nat} {ls : PL} {st : List Value} {μ : PM} {q : PR} (h : exI y (.invokestatic k) len pc ls st μ = some q) : Gr μ q ∨ (len = 3 ∧ ∃ z, lookM (oN y) k = some z ∧ kN z = 1 ∧ cal z st = some q) := by
  obtain ⟨rfl, h1⟩ := ck_some h
  unfold exC at h1
  split at h1
  · rename_i z hz
    obtain ⟨h2, h3⟩ := ck_some h1
    exact Or.inr ⟨rfl, z, hz, h2, h3⟩
  · exact Or.inl ((show Sh _ (Gr μ) by (repeat' (first | exact Sh_none | exact Sh_same | exact Sh_wI | exact Sh_wL | exact Sh_wR | exact Sh_nw | exact Sh_cI | exact Sh_jmp | exact Sh_br | exact Sh_bI | exact Sh_bL | exact Sh_ldI | exact Sh_ldL | exact Sh_ldA | exact Sh_stI | exact Sh_stA | exact Sh_stL | exact Sh_put | refine Sh_ck ?_ | (refine Sh_pI ?_; intro _ _) | (refine Sh_pL ?_; intro _ _) | (refine Sh_pA ?_; intro _ _) | (refine Sh_pV ?_; intro _ _) | split))) q h1)
theorem exI_sp {y k len pc : Nat} {ls : PL} {st : List Value} {μ : PM} {q : PR} (h : exI y (.invokespecial k) len pc ls st μ = some q) : Gr μ q ∨ (len = 3 ∧ ∃ z, lookM (oN y) k = some z ∧ (kN z = 2 ∧ isOf (oN z) (st[aN z]?) = true) ∧ cal z st = some q) := by
  obtain ⟨rfl, h1⟩ := ck_some h
  split at h1
  · rename_i z hz
    obtain ⟨h2, h3⟩ := ck_some h1
    exact Or.inr ⟨rfl, z, hz, h2, h3⟩
  · exact Or.inl ((show Sh _ (Gr μ) by (repeat' (first | exact Sh_none | exact Sh_same | exact Sh_wI | exact Sh_wL | exact Sh_wR | exact Sh_nw | exact Sh_cI | exact Sh_jmp | exact Sh_br | exact Sh_bI | exact Sh_bL | exact Sh_ldI | exact Sh_ldL | exact Sh_ldA | exact Sh_stI | exact Sh_stA | exact Sh_stL | exact Sh_put | refine Sh_ck ?_ | (refine Sh_pI ?_; intro _ _) | (refine Sh_pL ?_; intro _ _) | (refine Sh_pA ?_; intro _ _) | (refine Sh_pV ?_; intro _ _) | split))) q h1)
theorem exI_vi {y k len pc : Nat} {ls : PL} {st : List Value} {μ : PM} {q : PR} (h : exI y (.invokevirtual k) len pc ls st μ = some q) : len = 3 ∧ ∃ z, lookM (oN y) k = some z ∧ (kN z = 0 ∧ isOf (oN z) (st[aN z]?) = true) ∧ cal z st = some q := by
  obtain ⟨rfl, h1⟩ := ck_some h
  split at h1
  · rename_i z hz
    obtain ⟨h2, h3⟩ := ck_some h1
    exact ⟨rfl, z, hz, h2, h3⟩
  · cases h1
theorem exI_rt {y : Nat} {i : Instr} {len pc : Nat} {ls : PL} {st : List Value} {μ : PM} {q : PR} (hd : decode (bN y) pc = .ok (i, len)) (hi : i = .ireturn ∨ i = .lreturn ∨ i = .return_) (h : exI y i len pc ls st μ = some q) : ∃ v, q = .inr (.inr v) ∧ RetAt y pc v ∧ st = v.toList := by
  rcases hi with rfl | rfl | rfl
  · obtain ⟨rfl, h1⟩ := ck_some h
    split at h1
    · rename_i x
      split at h1
      · rename_i ht
        cases h1
        exact ⟨_, rfl, Or.inr (Or.inr ⟨x, rfl, hd, Or.inl ht⟩), rfl⟩
      · rename_i ht
        obtain ⟨h2, h3⟩ := ck_some h1
        cases h3
        exact ⟨_, rfl, Or.inr (Or.inr ⟨x, rfl, hd, Or.inr ⟨ht, h2⟩⟩), rfl⟩
      · cases h1
    · cases h1
  · obtain ⟨rfl, h1⟩ := ck_some h
    split at h1
    · rename_i x
      obtain ⟨h2, h3⟩ := ck_some h1
      cases h3
      exact ⟨_, rfl, Or.inr (Or.inl ⟨x, rfl, h2, hd⟩), rfl⟩
    · cases h1
  · obtain ⟨rfl, h1⟩ := ck_some h
    split at h1
    · obtain ⟨h2, h3⟩ := ck_some h1
      cases h3
      exact ⟨_, rfl, Or.inl ⟨rfl, h2, hd⟩, rfl⟩
    · cases h1
theorem run_pre0 : ∀ (n d y pc : Nat) (ls : PL) (st : List Value) (μ : PM) (v : Option Value) (μ' : PM), run n d y pc ls st μ = some (v, μ') → (∃ t, aS μ' = aS μ ++ t) ∧ ∃ y' pc', RetAt y' pc' v := by
  intro n
  induction n with
  | zero => intro d y pc ls st μ v μ' h; simp [run] at h
  | succ n ih =>
    intro d y pc ls st μ v μ' h
    rw [run] at h
    cases hs : st1 y pc ls st μ with
    | none => rw [hs] at h; simp at h
    | some q =>
      rw [hs] at h
      unfold st1 at hs
      split at hs
      · rename_i i len hd
        have hcall : ∀ {z : Nat} {as rest : List Value}, q = .inr (.inl (z, as, rest)) → (∃ t, aS μ' = aS μ ++ t) ∧ ∃ y' pc', RetAt y' pc' v := by
          intro z as rest hq
          subst hq
          cases d with
          | zero => simp at h
          | succ d =>
            simp only at h
            cases hc : run n d z 0 (ent z as) [] μ with
            | none => rw [hc] at h; simp at h
            | some w =>
              rw [hc] at h
              obtain ⟨⟨t1, a1⟩, -⟩ := ih _ _ _ _ _ _ _ _ hc
              obtain ⟨⟨t2, b1⟩, b3⟩ := ih _ _ _ _ _ _ _ _ h
              exact ⟨⟨t1 ++ t2, by rw [b1, a1, List.append_assoc]⟩, b3⟩
        have hgr : Gr μ q → (∃ t, aS μ' = aS μ ++ t) ∧ ∃ y' pc', RetAt y' pc' v := by
          rintro ⟨pc1, ls1, st1, μ1, rfl, ⟨t1, g1⟩⟩
          obtain ⟨⟨t2, b1⟩, b3⟩ := ih _ _ _ _ _ _ _ _ h
          exact ⟨⟨t1 ++ t2, by rw [b1, g1, List.append_assoc]⟩, b3⟩
        have hret : (i = .ireturn ∨ i = .lreturn ∨ i = .return_) → (∃ t, aS μ' = aS μ ++ t) ∧ ∃ y' pc', RetAt y' pc' v := by
          intro hi
          obtain ⟨w, rfl, h2, -⟩ := exI_rt hd hi hs
          simp only [Option.some.injEq, Prod.mk.injEq] at h
          obtain ⟨rfl, rfl⟩ := h
          exact ⟨⟨[], (List.append_nil _).symm⟩, _, _, h2⟩
        by_cases hp : isPl i = true
        · exact hgr (exI_pl hp q hs)
        · cases i <;> first | (exact absurd rfl hp) | skip
          · rcases exI_sp hs with hg | ⟨-, z, -, -, hz⟩
            · exact hgr hg
            · exact hcall (cal_spec hz).2.2.2
          · rcases exI_st hs with hg | ⟨-, z, -, -, hz⟩
            · exact hgr hg
            · exact hcall (cal_spec hz).2.2.2
          · obtain ⟨-, z, -, -, hz⟩ := exI_vi hs
            exact hcall (cal_spec hz).2.2.2
          · exact hret (Or.inl rfl)
          · exact hret (Or.inr (Or.inl rfl))
          · exact hret (Or.inr (Or.inr rfl))
      · cases hs
theorem run_pre (n d y pc : Nat) (ls : PL) (st : List Value) (μ : PM) (v : Option Value) (μ' : PM) (h : run n d y pc ls st μ = some (v, μ')) : ∃ t, aS μ' = aS μ ++ t := (run_pre0 n d y pc ls st μ v μ' h).1
theorem run_gr (n d y pc : Nat) (ls : PL) (st : List Value) (μ : PM) (v : Option Value) (μ' : PM) (h : run n d y pc ls st μ = some (v, μ')) : (aS μ).length ≤ (aS μ').length ∧ slS μ ≤ slS μ' ∧ ∃ y' pc', RetAt y' pc' v := by
  obtain ⟨⟨t, h1⟩, h2⟩ := run_pre0 n d y pc ls st μ v μ' h
  refine ⟨by rw [h1, List.length_append]; omega, ?_, h2⟩
  unfold slS
  rw [h1, List.map_append, List.sum_append]
  omega
