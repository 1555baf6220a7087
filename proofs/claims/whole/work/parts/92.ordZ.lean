/-! ORDERS: THE CLASS FINDS THEM ALL -/
section T1
variable {d : Nat} {μ : PM} {pa : Nat → Nat} {lw : LW} {s : Nat → Nat} {un : List (Nat → Nat)} {mk : Nat → Option (Nat → Nat)} {tp : List Nat}
theorem orA_mem (x : List Nat) : x ∈ orA pa s ↔ ∃ l, l.length = (ln pa s).length ∧ vR pa (s 7) l ∧ x = l.reverse := by
  unfold orA
  rw [orL_mem pa (s 7) _ [] x trivial]
  constructor
  · rintro ⟨e, h1, h2, h3, h4⟩
    rw [List.append_nil] at h2 h3 h4
    exact ⟨e, h1, (vR_iff pa (s 7) e).mpr ⟨h2, h3⟩, h4⟩
  · rintro ⟨l, h1, h2, h3⟩
    obtain ⟨k1, k2⟩ := (vR_iff pa (s 7) l).mp h2
    refine ⟨l, h1, ?_, ?_, ?_⟩
    · rw [List.append_nil]; exact k1
    · rw [List.append_nil]; exact k2
    · rw [List.append_nil]; exact h3
theorem len_bits (hK : OKA pa s un mk tp) {AL : Nat} (hA : AB (ln pa s) (ln pa s).length AL) {l : List Nat} (hv : vR pa (s 7) l) : l.length = (ln pa s).length ↔ sR l = AL := by
  have hp := hK.1.1.1
  obtain ⟨nd, el⟩ := vR_el hv
  have h7 := (vR_len hp hv).2
  obtain ⟨b1, b2⟩ := sR_b nd h7
  have hs : ∀ x, x ∈ l → x ∈ ln pa s := fun x hx => (ln_mem hK.1 hK.2.1 x).mpr (el x hx)
  have hA2 : ∀ p, p < 7 → (bt AL p = 1 ↔ p ∈ ln pa s) := fun p hp' => by rw [hA.2 p hp', List.take_length]
  have nl := ln_L7 hK
  constructor
  · intro h
    have hall := nd_all nd hs (by omega)
    exact bt_ex b1 hA.1 (fun p hp' => by rw [b2 p hp', hA2 p hp']; exact ⟨hs p, hall p⟩)
  · intro h
    have hall : ∀ x, x ∈ ln pa s → x ∈ l := fun x hx => by
      have hx7 : x < 7 := by have := ((ln_mem hK.1 hK.2.1 x).mp hx).1; omega
      exact (b2 x hx7).mp (by rw [h]; exact (hA2 x hx7).mpr hx)
    have k1 := nd_len l (ln pa s) nd hs
    have k2 := nd_len (ln pa s) l nl.1 hall
    omega
theorem Xz_mem {L : Nat → Nat → List (List Nat)} {AL : Nat} (hp : pa 0 ≤ 7) (hJ : J pa (s 7) (49 * AL) L) (l : List Nat) : l ∈ Xz L AL 7 ↔ vR pa (s 7) l ∧ l ≠ [] ∧ sR l = AL := by
  unfold Xz
  rw [List.mem_flatMap]
  constructor
  · rintro ⟨z, -, h⟩
    obtain ⟨m1, m2, m3, -⟩ := (hJ.2 _ _ l).mp h
    exact ⟨m1, m2, m3⟩
  · rintro ⟨m1, m2, m3⟩
    cases l with
    | nil => exact absurd rfl m2
    | cons p t =>
      have h7 := (vR_len hp m1).2 p List.mem_cons_self
      refine ⟨p, List.mem_range.mpr h7, (hJ.2 _ _ _).mpr ⟨m1, m2, m3, rfl, ?_⟩⟩
      rcases Classical.em ((p :: t).tail = []) with e | e
      · exact Or.inl e
      · right
        have := tau_lt hp m1 e
        rw [m3] at this
        exact this
theorem Xz_nd {L : Nat → Nat → List (List Nat)} {AL t : Nat} (hJ : J pa (s 7) t L) : ∀ z, (Xz L AL z).Nodup := by
  intro z
  induction z with
  | zero => exact List.nodup_nil
  | succ z ih =>
    rw [Xz_s]
    refine List.nodup_append.mpr ⟨ih, hJ.1 AL z, fun a ha b hb e => ?_⟩
    subst e
    obtain ⟨z', h1, h2⟩ := List.mem_flatMap.mp ha
    have e1 := ((hJ.2 _ _ a).mp h2).2.2.2.1
    have e2 := ((hJ.2 _ _ a).mp hb).2.2.2.1
    have := List.mem_range.mp h1
    omega
theorem orA_len (hK : OKA pa s un mk tp) {L : Nat → Nat → List (List Nat)} {AL : Nat} (hA : AB (ln pa s) (ln pa s).length AL) (hJ : J pa (s 7) (49 * AL) L) (hn : 1 ≤ (ln pa s).length) : (Xz L AL 7).length = (orA pa s).length := by
  have hp := hK.1.1.1
  have nd1 := Xz_nd (AL := AL) hJ 7
  have srt : (orA pa s).Pairwise (fun x y => rwN x < rwN y) := orL_srt hp _ [] trivial
  have nd2 : (orA pa s).Nodup := List.Pairwise.imp (fun h e => by rw [e] at h; omega) srt
  have nd3 : ((Xz L AL 7).map List.reverse).Nodup := List.Pairwise.map _ (fun a b h e => h (List.reverse_inj.mp e)) nd1
  have hne : ∀ l : List Nat, l.length = (ln pa s).length → l ≠ [] := fun l h q => by rw [q] at h; simp at h; omega
  have k1 := nd_len ((Xz L AL 7).map List.reverse) (orA pa s) nd3 (fun x hx => by
    obtain ⟨l, h1, rfl⟩ := List.mem_map.mp hx
    obtain ⟨m1, m2, m3⟩ := (Xz_mem hp hJ l).mp h1
    exact (orA_mem _).mpr ⟨l, (len_bits hK hA m1).mpr m3, m1, rfl⟩)
  have k2 := nd_len (orA pa s) ((Xz L AL 7).map List.reverse) nd2 (fun x hx => by
    obtain ⟨l, h1, h2, h3⟩ := (orA_mem x).mp hx
    exact List.mem_map.mpr ⟨l, (Xz_mem hp hJ l).mpr ⟨h2, hne l h1, (len_bits hK hA h2).mp h1⟩, h3.symm⟩)
  rw [List.length_map] at k1 k2
  omega
theorem ls_ok (hK : OKA pa s un mk tp) (lw : LW) : LSp pa lw (s 8) (s 9) (orA pa s) (lsA pa lw s) := by
  have hp := hK.1.1.1
  have srt : (orA pa s).Pairwise (fun x y => rwN x < rwN y) := orL_srt hp _ [] trivial
  have := ls_fold (pa := pa) (lw := lw) (fz := s 8) (pc := s 9) (orA pa s) [] none (fun x ab hx hm => by
    rw [List.nil_append] at hx
    obtain ⟨l, h1, h2, h3⟩ := (orA_mem x).mp hx
    rw [h3, ← mR_mn] at hm
    exact (vR_mb hK.1 lw (s 8) (s 9) h2 hm).2.1) (by rw [List.nil_append]; exact srt) (fun x hx => by simp at hx)
  rw [List.nil_append] at this
  exact this
theorem rR_inj : ∀ {l l' : List Nat}, l.length = l'.length → (∀ p, p ∈ l → p < 8) → (∀ p, p ∈ l' → p < 8) → rR' l = rR' l' → l = l' := by
  intro l
  induction l with
  | nil =>
    intro l' hl _ _ _
    exact (List.length_eq_zero_iff.mp hl.symm).symm
  | cons p t ih =>
    intro l' hl h h' e
    cases l' with
    | nil => simp at hl
    | cons p' t' =>
      have h1 := h p (List.mem_cons_self)
      have h2 := h' p' (List.mem_cons_self)
      have e' : 8 * rR' t + p = 8 * rR' t' + p' := e
      have e1 : p = p' := by omega
      have e2 : rR' t = rR' t' := by omega
      rw [e1, ih (by simpa using hl) (fun q hq => h q (List.mem_cons_of_mem _ hq)) (fun q hq => h' q (List.mem_cons_of_mem _ hq)) e2]
/-- the best that the class found is the reference's -/
theorem BR_ls (hK : OKA pa s un mk tp) {L : Nat → Nat → List (List Nat)} {AL : Nat} (hA : AB (ln pa s) (ln pa s).length AL) (hJ : J pa (s 7) (49 * AL) L) (hn : 1 ≤ (ln pa s).length) {o : Option (Nat × Nat × Nat)} (hB : BR (mR pa lw (s 8) (s 9)) (Xz L AL 7) o) : (o = none ↔ lsA pa lw s = none) ∧ ∀ l a b r a' b', lsA pa lw s = some (l, a, b) → o = some (r, a', b') → r = rwN l ∧ a' = a ∧ b' = b := by
  have hp := hK.1.1.1
  have hls := ls_ok hK lw
  have hne : ∀ l : List Nat, l.length = (ln pa s).length → l ≠ [] := fun l h q => by rw [q] at h; simp at h; omega
  have to : ∀ l, l ∈ Xz L AL 7 → l.reverse ∈ orA pa s := fun l hl => by
    obtain ⟨m1, m2, m3⟩ := (Xz_mem hp hJ l).mp hl
    exact (orA_mem _).mpr ⟨l, (len_bits hK hA m1).mpr m3, m1, rfl⟩
  have fr : ∀ x, x ∈ orA pa s → ∃ l, l ∈ Xz L AL 7 ∧ x = l.reverse := fun x hx => by
    obtain ⟨l, h1, h2, h3⟩ := (orA_mem x).mp hx
    exact ⟨l, (Xz_mem hp hJ l).mpr ⟨h2, hne l h1, (len_bits hK hA h2).mp h1⟩, h3⟩
  cases hl : lsA pa lw s with
  | none =>
    rw [hl] at hls
    refine ⟨?_, fun l a b r a' b' q => by simp at q⟩
    refine ⟨fun _ => rfl, fun _ => ?_⟩
    cases o with
    | none => rfl
    | some x =>
      obtain ⟨⟨l, h1, h2, h3⟩, -⟩ := hB
      have := hls l.reverse (to l h1)
      rw [← mR_mn, h3] at this
      simp at this
  | some lab =>
    obtain ⟨l0, a0, b0⟩ := lab
    rw [hl] at hls
    obtain ⟨g1, g2, g3⟩ := hls
    obtain ⟨m0, k1, k2⟩ := fr l0 g1
    refine ⟨⟨fun q => ?_, fun q => by simp at q⟩, fun l a b r a' b' q1 q2 => ?_⟩
    · subst q
      have := hB m0 k1
      rw [mR_mn, ← k2, g2] at this
      simp at this
    · have q1' : (l0, a0, b0) = (l, a, b) := Option.some.inj q1
      cases q1'
      subst q2
      obtain ⟨⟨m, h1, h2, h3⟩, h4⟩ := hB
      have e1 := h4 m0 (a0, b0) k1 (by rw [mR_mn, ← k2]; exact g2)
      have e2 := g3 m.reverse (a', b') (to m h1) (by rw [← mR_mn]; exact h3)
      rw [← rR_rw, h2] at e2
      have hr0 : rR' m0 = rwN l0 := by rw [k2, ← rR_rw]
      rw [hr0] at e1
      have hrow : r = rwN l0 := by
        unfold e3 at e1 e2
        simp only at e1 e2
        have c1 : a' * b0 = a0 * b' ∨ a' * b0 < a0 * b' := by omega
        omega
      have hmm : m = m0 := by
        obtain ⟨v1, v2, v3⟩ := (Xz_mem hp hJ m).mp h1
        obtain ⟨u1, u2, u3⟩ := (Xz_mem hp hJ m0).mp k1
        have t1 := (len_bits hK hA v1).mpr v3
        have t2 := (len_bits hK hA u1).mpr u3
        exact rR_inj (by omega) (fun p hp' => by have := (vR_len hp v1).2 p hp'; omega) (fun p hp' => by have := (vR_len hp u1).2 p hp'; omega) (by rw [h2, hr0]; exact hrow)
      subst hmm
      rw [mR_mn, ← k2, g2] at h3
      have := Option.some.inj h3
      cases this
      exact ⟨hrow, rfl, rfl⟩
end T1
