/-! EQUATIONS OF R -/
theorem run_mono : ∀ (n d y pc : Nat) (ls : PL) (st : List Value) (μ : PM) (r : Option Value × PM), run n d y pc ls st μ = some r → run (n + 1) d y pc ls st μ = some r := by
  intro n
  induction n with
  | zero => intro d y pc ls st μ r h; simp [run] at h
  | succ n ih =>
    intro d y pc ls st μ r h
    rw [run] at h
    rw [run]
    cases hs : st1 y pc ls st μ with
    | none => rw [hs] at h; simp at h
    | some q =>
      rw [hs] at h
      rcases q with ⟨pc', ls', st', μ'⟩ | ⟨z, as, rest⟩ | v
      · exact ih _ _ _ _ _ _ _ h
      · cases d with
        | zero => simp at h
        | succ d =>
          simp only at h ⊢
          cases hc : run n d z 0 (ent z as) [] μ with
          | none => rw [hc] at h; simp at h
          | some w =>
            rw [hc] at h
            rw [ih _ _ _ _ _ _ _ hc]
            exact ih _ _ _ _ _ _ _ h
      · exact h
theorem run_le {n k d y pc : Nat} {ls : PL} {st : List Value} {μ : PM} {r : Option Value × PM} (h : run n d y pc ls st μ = some r) (hk : n ≤ k) : run k d y pc ls st μ = some r := by
  obtain ⟨j, rfl⟩ := Nat.exists_eq_add_of_le hk
  clear hk
  induction j with
  | zero => exact h
  | succ j ih => exact run_mono _ _ _ _ _ _ _ _ ih
theorem R_nx {d y pc : Nat} {ls : PL} {st : List Value} {μ : PM} {Q : Option Value → PM → Prop} {pc' : Nat} {ls' : PL} {st' : List Value} {μ' : PM} (h : st1 y pc ls st μ = nxt pc' ls' st' μ') : R d y pc ls st μ Q = R d y pc' ls' st' μ' Q := by
  apply propext
  constructor
  · rintro ⟨n, v, w, h1, h2⟩
    cases n with
    | zero => simp [run] at h1
    | succ n => rw [run, h] at h1; exact ⟨n, v, w, h1, h2⟩
  · rintro ⟨n, v, w, h1, h2⟩
    exact ⟨n + 1, v, w, by rw [run, h]; exact h1, h2⟩
theorem R_no {d y pc : Nat} {ls : PL} {st : List Value} {μ : PM} {Q : Option Value → PM → Prop} (h : st1 y pc ls st μ = none) : R d y pc ls st μ Q = False := by
  apply propext
  constructor
  · rintro ⟨n, v, w, h1, h2⟩
    cases n with
    | zero => simp [run] at h1
    | succ n => rw [run, h] at h1; simp at h1
  · exact False.elim
theorem R_ret {d y pc : Nat} {ls : PL} {st : List Value} {μ : PM} {Q : Option Value → PM → Prop} {v : Option Value} (h : st1 y pc ls st μ = some (.inr (.inr v))) : R d y pc ls st μ Q = Q v μ := by
  apply propext
  constructor
  · rintro ⟨n, w, u, h1, h2⟩
    cases n with
    | zero => simp [run] at h1
    | succ n =>
      rw [run, h] at h1
      simp at h1
      obtain ⟨rfl, rfl⟩ := h1
      exact h2
  · intro hq
    exact ⟨1, v, μ, by rw [run, h], hq⟩
theorem R_call {d y pc : Nat} {ls : PL} {st : List Value} {μ : PM} {Q : Option Value → PM → Prop} {z : Nat} {as rest : List Value} (h : st1 y pc ls st μ = some (.inr (.inl (z, as, rest)))) :
    R (d + 1) y pc ls st μ Q = R d z 0 (ent z as) [] μ (fun v μ' => R (d + 1) y (pc + 3) ls (v.toList ++ rest) μ' Q) := by
  apply propext
  constructor
  · rintro ⟨n, w, u, h1, h2⟩
    cases n with
    | zero => simp [run] at h1
    | succ n =>
      rw [run, h] at h1
      simp only at h1
      cases hc : run n d z 0 (ent z as) [] μ with
      | none => rw [hc] at h1; simp at h1
      | some q =>
        rw [hc] at h1
        exact ⟨n, q.1, q.2, hc, n, w, u, h1, h2⟩
  · rintro ⟨n, v, μ', h1, k, w, u, h2, h3⟩
    refine ⟨max n k + 1, w, u, ?_, h3⟩
    rw [run, h]
    simp only
    rw [run_le h1 (Nat.le_max_left n k)]
    exact run_le h2 (Nat.le_max_right n k)
theorem R_mono {d y pc : Nat} {ls : PL} {st : List Value} {μ : PM} {Q P : Option Value → PM → Prop} (h : R d y pc ls st μ Q) (hq : ∀ v w, Q v w → P v w) : R d y pc ls st μ P := by
  obtain ⟨n, v, w, h1, h2⟩ := h
  exact ⟨n, v, w, h1, hq v w h2⟩
theorem R_eq {d y pc : Nat} {ls : PL} {st : List Value} {μ : PM} {v : Option Value} {w : PM} (h : R d y pc ls st μ (fun v' w' => v' = v ∧ w' = w)) (Q : Option Value → PM → Prop) : R d y pc ls st μ Q = Q v w := by
  obtain ⟨n, v', w', h1, rfl, rfl⟩ := h
  apply propext
  constructor
  · rintro ⟨k, a, b, h2, h3⟩
    have e1 := run_le h1 (Nat.le_max_left n k)
    have e2 := run_le h2 (Nat.le_max_right n k)
    rw [e1] at e2
    cases e2
    exact h3
  · intro hq
    exact ⟨n, _, _, h1, hq⟩
theorem run_up : ∀ (n d y pc : Nat) (ls : PL) (st : List Value) (μ : PM) (r : Option Value × PM), run n d y pc ls st μ = some r → run n (d + 1) y pc ls st μ = some r := by
  intro n
  induction n with
  | zero => intro d y pc ls st μ r h; simp [run] at h
  | succ n ih =>
    intro d y pc ls st μ r h
    rw [run] at h
    rw [run]
    cases hs : st1 y pc ls st μ with
    | none => rw [hs] at h; simp at h
    | some q =>
      rw [hs] at h
      rcases q with ⟨pc', ls', st', μ'⟩ | ⟨z, as, rest⟩ | v
      · exact ih _ _ _ _ _ _ _ h
      · cases d with
        | zero => simp at h
        | succ d =>
          simp only at h ⊢
          cases hc : run n d z 0 (ent z as) [] μ with
          | none => rw [hc] at h; simp at h
          | some w =>
            rw [hc] at h
            rw [ih _ _ _ _ _ _ _ hc]
            exact ih _ _ _ _ _ _ _ h
      · exact h
theorem R_up {d y pc : Nat} {ls : PL} {st : List Value} {μ : PM} {Q : Option Value → PM → Prop} (h : R d y pc ls st μ Q) : R (d + 1) y pc ls st μ Q := by
  obtain ⟨n, v, w, h1, h2⟩ := h
  exact ⟨n, v, w, run_up _ _ _ _ _ _ _ _ h1, h2⟩
section EQ
variable {d y pc : Nat} {ls : PL} {st : List Value} {μ : PM} {Q : Option Value → PM → Prop}
theorem e_no {P : Prop} [Decidable P] {q : Option PR} (h : st1 y pc ls st μ = ck P q) {X : Prop} (hx : P → R d y pc ls st μ Q = X) : R d y pc ls st μ Q = (P ∧ X) := by
  by_cases hp : P
  · rw [hx hp]; simp [hp]
  · rw [R_no (by rw [h, ck, if_neg hp])]; simp [hp]
theorem e_iconst {n : Int} {v : Int32} (hd : decode (bN y) pc = .ok (.iconst n, 1)) (hv : Int32.ofInt n = v) : R d y pc ls st μ Q = R d y (pc + 1) ls (.int v :: st) μ Q := by
  subst hv; exact R_nx (by simp only [st1, hd, exI, ck, if_true])
theorem e_bipush {n : Int} {v : Int32} (hd : decode (bN y) pc = .ok (.bipush n, 2)) (hv : (Int8.ofInt n).toInt32 = v) : R d y pc ls st μ Q = R d y (pc + 2) ls (.int v :: st) μ Q := by
  subst hv; exact R_nx (by simp only [st1, hd, exI, ck, if_true])
theorem e_sipush {n : Int} {v : Int32} (hd : decode (bN y) pc = .ok (.sipush n, 3)) (hv : (Int16.ofInt n).toInt32 = v) : R d y pc ls st μ Q = R d y (pc + 3) ls (.int v :: st) μ Q := by
  subst hv; exact R_nx (by simp only [st1, hd, exI, ck, if_true])
theorem e_lconst {n : Fin 2} {v : Int64} (hd : decode (bN y) pc = .ok (.lconst n, 1)) (hv : Int64.ofNat (n : Nat) = v) : R d y pc ls st μ Q = R d y (pc + 1) ls (.long v :: st) μ Q := by
  subst hv; exact R_nx (by simp only [st1, hd, exI, ck, if_true])
theorem e_ldc {k : Nat} {v : Int32} (hd : decode (bN y) pc = .ok (.ldc k, 2)) (hv : lookN (oN y) k = some v) : R d y pc ls st μ Q = R d y (pc + 2) ls (.int v :: st) μ Q := R_nx (by simp only [st1, hd, exI, ck, if_true, hv])
theorem e_ldcw {k : Nat} {v : Int32} (hd : decode (bN y) pc = .ok (.ldc_w k, 3)) (hv : lookN (oN y) k = some v) : R d y pc ls st μ Q = R d y (pc + 3) ls (.int v :: st) μ Q := R_nx (by simp only [st1, hd, exI, ck, if_true, hv])
theorem e_ldc2 {k : Nat} {v : Int64} (hd : decode (bN y) pc = .ok (.ldc2_w k, 3)) (hv : lookL (oN y) k = some v) : R d y pc ls st μ Q = R d y (pc + 3) ls (.long v :: st) μ Q := R_nx (by simp only [st1, hd, exI, ck, if_true, hv])
theorem e_null (hd : decode (bN y) pc = .ok (.aconst_null, 1)) : R d y pc ls st μ Q = R d y (pc + 1) ls (.null :: st) μ Q := R_nx (by simp only [st1, hd, exI, ck, if_true])
theorem e_iload_n {k : Fin 4} {x : Int32} (hd : decode (bN y) pc = .ok (.iload_n k, 1)) (hl : ls[(k : Nat)]? = some (some (.int x))) : R d y pc ls st μ Q = R d y (pc + 1) ls (.int x :: st) μ Q := R_nx (by simp only [st1, hd, exI, ck, if_true, ldI, hl])
theorem e_iload {k : Nat} {x : Int32} (hd : decode (bN y) pc = .ok (.iload k, 2)) (hl : ls[k]? = some (some (.int x))) : R d y pc ls st μ Q = R d y (pc + 2) ls (.int x :: st) μ Q := R_nx (by simp only [st1, hd, exI, ck, if_true, ldI, hl])
theorem e_lload_n {k : Fin 4} {x : Int64} (hd : decode (bN y) pc = .ok (.lload_n k, 1)) (hl : ls[(k : Nat)]? = some (some (.long x))) : R d y pc ls st μ Q = R d y (pc + 1) ls (.long x :: st) μ Q := R_nx (by simp only [st1, hd, exI, ck, if_true, ldL, hl])
theorem e_lload {k : Nat} {x : Int64} (hd : decode (bN y) pc = .ok (.lload k, 2)) (hl : ls[k]? = some (some (.long x))) : R d y pc ls st μ Q = R d y (pc + 2) ls (.long x :: st) μ Q := R_nx (by simp only [st1, hd, exI, ck, if_true, ldL, hl])
theorem e_aload_n {k : Fin 4} {x : Nat} (hd : decode (bN y) pc = .ok (.aload_n k, 1)) (hl : ls[(k : Nat)]? = some (some (.ref x))) : R d y pc ls st μ Q = R d y (pc + 1) ls (.ref x :: st) μ Q := R_nx (by simp only [st1, hd, exI, ck, if_true, ldA, hl])
theorem e_aload {k : Nat} {x : Nat} (hd : decode (bN y) pc = .ok (.aload k, 2)) (hl : ls[k]? = some (some (.ref x))) : R d y pc ls st μ Q = R d y (pc + 2) ls (.ref x :: st) μ Q := R_nx (by simp only [st1, hd, exI, ck, if_true, ldA, hl])
theorem e_istore_n {k : Fin 4} {x : Int32} {ls' : PL} (hd : decode (bN y) pc = .ok (.istore_n k, 1)) (ho : ok1 y k = true) (hl : ls.set k (some (.int x)) = ls') : R d y pc ls (.int x :: st) μ Q = R d y (pc + 1) ls' st μ Q := R_nx (by simp only [st1, hd, exI, ck, if_true, stI, pI, ho, hl])
theorem e_istore {k : Nat} {x : Int32} {ls' : PL} (hd : decode (bN y) pc = .ok (.istore k, 2)) (ho : ok1 y k = true) (hl : ls.set k (some (.int x)) = ls') : R d y pc ls (.int x :: st) μ Q = R d y (pc + 2) ls' st μ Q := R_nx (by simp only [st1, hd, exI, ck, if_true, stI, pI, ho, hl])
theorem e_astore_n {k : Fin 4} {x : Nat} {ls' : PL} (hd : decode (bN y) pc = .ok (.astore_n k, 1)) (ho : ok1 y k = true) (hl : ls.set k (some (.ref x)) = ls') : R d y pc ls (.ref x :: st) μ Q = R d y (pc + 1) ls' st μ Q := R_nx (by simp only [st1, hd, exI, ck, if_true, stA, pA, ho, hl])
theorem e_astore {k : Nat} {x : Nat} {ls' : PL} (hd : decode (bN y) pc = .ok (.astore k, 2)) (ho : ok1 y k = true) (hl : ls.set k (some (.ref x)) = ls') : R d y pc ls (.ref x :: st) μ Q = R d y (pc + 2) ls' st μ Q := R_nx (by simp only [st1, hd, exI, ck, if_true, stA, pA, ho, hl])
theorem e_lstore_n {k : Fin 4} {x : Int64} {ls' : PL} (hd : decode (bN y) pc = .ok (.lstore_n k, 1)) (ho : ok2 y k = true) (hl : (ls.set k (some (.long x))).set ((k : Nat) + 1) none = ls') : R d y pc ls (.long x :: st) μ Q = R d y (pc + 1) ls' st μ Q := R_nx (by simp only [st1, hd, exI, ck, if_true, stL, pL, ho, hl])
theorem e_lstore {k : Nat} {x : Int64} {ls' : PL} (hd : decode (bN y) pc = .ok (.lstore k, 2)) (ho : ok2 y k = true) (hl : (ls.set k (some (.long x))).set (k + 1) none = ls') : R d y pc ls (.long x :: st) μ Q = R d y (pc + 2) ls' st μ Q := R_nx (by simp only [st1, hd, exI, ck, if_true, stL, pL, ho, hl])
theorem e_iinc {k : Nat} {n : Int} {x v : Int32} {ls' : PL} (hd : decode (bN y) pc = .ok (.iinc k n, 3)) (ho : ok1 y k = true) (hv : Int32.ofInt n = v) (hg : ls[k]? = some (some (.int x))) (hl : ls.set k (some (.int (x + v))) = ls') : R d y pc ls st μ Q = R d y (pc + 3) ls' st μ Q := by
  subst hv; exact R_nx (by simp only [st1, hd, exI, ck, true_and, ho, if_true, hg, hl])
end EQ
