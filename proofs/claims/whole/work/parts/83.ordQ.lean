/-! ORDERS: ALL OF THEM, STEP BY STEP -/
theorem nd_len {α : Type} [DecidableEq α] : ∀ (l1 l2 : List α), l1.Nodup → (∀ x, x ∈ l1 → x ∈ l2) → l1.length ≤ l2.length := by
  intro l1
  induction l1 with
  | nil => intro l2 _ _; exact Nat.zero_le _
  | cons x t ih =>
    intro l2 hn hs
    obtain ⟨h1, h2⟩ := List.nodup_cons.mp hn
    have hx := hs x (List.mem_cons_self)
    have k := ih (l2.erase x) h2 (fun y hy => (List.mem_erase_of_ne (fun (e : y = x) => h1 (e ▸ hy))).mpr (hs y (List.mem_cons_of_mem _ hy)))
    rw [List.length_erase_of_mem hx] at k
    have : 0 < l2.length := List.length_pos_of_mem hx
    simp only [List.length_cons]
    omega
theorem nd_all {α : Type} [DecidableEq α] {l1 l2 : List α} (hn : l1.Nodup) (hs : ∀ x, x ∈ l1 → x ∈ l2) (hl : l2.length ≤ l1.length) : ∀ y, y ∈ l2 → y ∈ l1 := by
  intro y hy
  rcases Classical.em (y ∈ l1) with q | q
  · exact q
  · have := nd_len (y :: l1) l2 (List.nodup_cons.mpr ⟨q, hn⟩) (fun x hx => by
      rcases List.mem_cons.mp hx with e | e
      · rw [e]; exact hy
      · exact hs x e)
    simp only [List.length_cons] at this
    omega
theorem vR_el {pa : Nat → Nat} {ob : Nat} : ∀ {l : List Nat}, vR pa ob l → l.Nodup ∧ ∀ p, p ∈ l → p < pa 0 ∧ bt ob p = 0 := by
  intro l
  induction l with
  | nil => intro _; exact ⟨List.nodup_nil, fun p h => by simp at h⟩
  | cons p t ih =>
    intro h
    obtain ⟨h1, h2, h3, h4, -⟩ := h
    obtain ⟨k1, k2⟩ := ih h1
    refine ⟨List.nodup_cons.mpr ⟨h4, k1⟩, fun q hq => ?_⟩
    rcases List.mem_cons.mp hq with e | e
    · rw [e]; exact ⟨h2, h3⟩
    · exact k2 q e
theorem sR_b : ∀ {l : List Nat}, l.Nodup → (∀ p, p ∈ l → p < 7) → sR l < 128 ∧ ∀ p, p < 7 → (bt (sR l) p = 1 ↔ p ∈ l) := by
  intro l
  induction l with
  | nil => intro _ _; exact ⟨by decide, fun p hp => ⟨fun q => by unfold bt sR at q; simp at q, fun q => by simp at q⟩⟩
  | cons q t ih =>
    intro hn h7
    obtain ⟨h1, h2⟩ := List.nodup_cons.mp hn
    obtain ⟨k1, k2⟩ := ih h2 (fun p hp => h7 p (List.mem_cons_of_mem _ hp))
    have hq := h7 q (List.mem_cons_self)
    have hb : bt (sR t) q = 0 := by
      rcases bt_01 (sR t) q with e | e
      · exact e
      · exact absurd ((k2 q hq).mp e) h1
    have e : sR (q :: t) = sbN (sR t) q := by
      show sR t + 2 ^ q = _
      unfold sbN
      rw [if_pos hb]
    obtain ⟨s1, s2⟩ := sbN_b (sR t) k1 q hq
    rw [e]
    refine ⟨s1, fun p hp => ?_⟩
    rw [s2 p hp, k2 p hp, List.mem_cons]
    exact Or.comm
def tau : List Nat → Nat
  | p :: q :: t => 49 * sR (q :: t) + 7 * q + p
  | _ => 0
def J (pa : Nat → Nat) (ob t : Nat) (L : Nat → Nat → List (List Nat)) : Prop := (∀ T z, (L T z).Nodup) ∧ ∀ T z l, l ∈ L T z ↔ (vR pa ob l ∧ l ≠ [] ∧ sR l = T ∧ l.headD 0 = z ∧ (l.tail = [] ∨ tau l < t))
def alw (pa : Nat → Nat) (ob S q p : Nat) : Prop := p < pa 0 ∧ bt ob p = 0 ∧ bt S p = 0 ∧ mbN pa q p = true ∧ ∀ r, r < 7 → bt S r = 1 → r ≠ q → ¬ tw pa r p = 1
def L2 (L : Nat → Nat → List (List Nat)) (S q p : Nat) : Nat → Nat → List (List Nat) := fun T z => if T = S + 2 ^ p ∧ z = p then L T z ++ (L S q).map (fun l => p :: l) else L T z
theorem tau_el {pa : Nat → Nat} {ob : Nat} (hp : pa 0 ≤ 7) {p q : Nat} {t : List Nat} (h : vR pa ob (p :: q :: t)) : p < 7 ∧ q < 7 ∧ vR pa ob (q :: t) := by
  have k := (vR_el h).2
  exact ⟨by have := (k p (List.mem_cons_self)).1; omega, by have := (k q (List.mem_cons_of_mem _ (List.mem_cons_self))).1; omega, h.1⟩
theorem tau_lt {pa : Nat → Nat} {ob : Nat} (hp : pa 0 ≤ 7) {l : List Nat} (h : vR pa ob l) (hn : l.tail ≠ []) : tau l < 49 * sR l := by
  match l, h, hn with
  | [], _, hn => exact absurd rfl hn
  | [_], _, hn => exact absurd rfl hn
  | p :: q :: t, h, _ =>
    obtain ⟨h1, h2, -⟩ := tau_el hp h
    show 49 * sR (q :: t) + 7 * q + p < 49 * (sR (q :: t) + 2 ^ p)
    have : 0 < 2 ^ p := Nat.pow_pos (by omega)
    omega
/-- nothing comes between t and t' -/
theorem J_skip {pa : Nat → Nat} {ob t t' : Nat} {L : Nat → Nat → List (List Nat)} (h : J pa ob t L) (ht : t ≤ t') (hn : ∀ l, vR pa ob l → l.tail ≠ [] → t ≤ tau l → tau l < t' → False) : J pa ob t' L := by
  refine ⟨h.1, fun T z l => ?_⟩
  rw [h.2 T z l]
  constructor
  · rintro ⟨h1, h2, h3, h4, h5⟩
    exact ⟨h1, h2, h3, h4, h5.imp id (fun q => by omega)⟩
  · rintro ⟨h1, h2, h3, h4, h5⟩
    refine ⟨h1, h2, h3, h4, ?_⟩
    rcases Classical.em (l.tail = []) with e | e
    · exact Or.inl e
    · right
      rcases h5 with h5 | h5
      · exact absurd h5 e
      · rcases Nat.lt_or_ge (tau l) t with q | q
        · exact q
        · exact (hn l h1 e q h5).elim
/-- the shorter order is there already -/
theorem J_tl {pa : Nat → Nat} {ob t : Nat} {L : Nat → Nat → List (List Nat)} (hp : pa 0 ≤ 7) (h : J pa ob t L) {p q : Nat} {l : List Nat} (hv : vR pa ob (p :: q :: l)) (ht : 49 * sR (q :: l) ≤ t) : q :: l ∈ L (sR (q :: l)) q := by
  obtain ⟨h1, h2, h3⟩ := tau_el hp hv
  refine (h.2 _ _ _).mpr ⟨h3, List.cons_ne_nil _ _, rfl, rfl, ?_⟩
  rcases Classical.em ((q :: l).tail = []) with e | e
  · exact Or.inl e
  · right
    have := tau_lt hp h3 e
    omega
theorem J_n {pa : Nat → Nat} {ob S q p t' : Nat} {L : Nat → Nat → List (List Nat)} (hp : pa 0 ≤ 7) (h : J pa ob (49 * S + 7 * q + p) L) (hq : q < 7) (h7 : p < 7) (ht : 49 * S + 7 * q + p ≤ t') (ht2 : t' ≤ 49 * S + 7 * q + 7) (he : L S q = []) : J pa ob t' L := by
  refine J_skip h ht (fun l hv hn h1 h2 => ?_)
  match l, hv, hn, h1, h2 with
  | [], _, hn, _, _ => exact hn rfl
  | [_], _, hn, _, _ => exact hn rfl
  | p' :: q' :: t, hv, _, h1, h2 =>
    obtain ⟨k1, k2, k3⟩ := tau_el hp hv
    have h1' : 49 * S + 7 * q + p ≤ 49 * sR (q' :: t) + 7 * q' + p' := h1
    have h2' : 49 * sR (q' :: t) + 7 * q' + p' < t' := h2
    have e1 : sR (q' :: t) = S := by omega
    have e2 : q' = q := by omega
    have := J_tl hp h hv (by omega)
    rw [e1, e2, he] at this
    simp at this
theorem J_m {pa : Nat → Nat} {ob S q p : Nat} {L : Nat → Nat → List (List Nat)} (hp : pa 0 ≤ 7) (h : J pa ob (49 * S + 7 * q + p) L) (hq : q < 7) (h7 : p < 7) (ha : ¬ alw pa ob S q p) : J pa ob (49 * S + 7 * q + (p + 1)) L := by
  refine J_skip h (by omega) (fun l hv hn h1 h2 => ?_)
  match l, hv, hn, h1, h2 with
  | [], _, hn, _, _ => exact hn rfl
  | [_], _, hn, _, _ => exact hn rfl
  | p' :: q' :: t, hv, _, h1, h2 =>
    obtain ⟨k1, k2, k3⟩ := tau_el hp hv
    have h1' : 49 * S + 7 * q + p ≤ 49 * sR (q' :: t) + 7 * q' + p' := h1
    have h2' : 49 * sR (q' :: t) + 7 * q' + p' < 49 * S + 7 * q + (p + 1) := h2
    have e1 : sR (q' :: t) = S := by omega
    have e2 : q' = q := by omega
    have e3 : p' = p := by omega
    subst e2; subst e3
    obtain ⟨-, v2, v3, v4, v5, v6⟩ := hv
    obtain ⟨nd, el⟩ := vR_el k3
    obtain ⟨-, sb⟩ := sR_b nd (fun x hx => by have := (el x hx).1; omega)
    rw [e1] at sb
    refine ha ⟨v2, v3, ?_, ?_, fun r hr hb hne => ?_⟩
    · rcases bt_01 S p' with e | e
      · exact e
      · exact absurd ((sb p' h7).mp e) v4
    · rcases v5 with v5 | v5
      · exact absurd v5 (List.cons_ne_nil _ _)
      · exact v5
    · have hm := (sb r hr).mp hb
      rcases List.mem_cons.mp hm with e | e
      · exact absurd e hne
      · exact v6 r e
theorem J_y {pa : Nat → Nat} {ob S q p : Nat} {L : Nat → Nat → List (List Nat)} (hp : pa 0 ≤ 7) (h : J pa ob (49 * S + 7 * q + p) L) (hq : q < 7) (h7 : p < 7) (ha : alw pa ob S q p) : J pa ob (49 * S + 7 * q + (p + 1)) (L2 L S q p) := by
  have hmem : ∀ l', l' ∈ L S q → vR pa ob (p :: l') ∧ sR (p :: l') = S + 2 ^ p ∧ (p :: l').tail ≠ [] ∧ tau (p :: l') = 49 * S + 7 * q + p := by
    intro l' hl
    obtain ⟨m1, m2, m3, m4, m5⟩ := (h.2 S q l').mp hl
    match l', m1, m2, m3, m4, m5 with
    | [], _, m2, _, _, _ => exact absurd rfl m2
    | q' :: t, m1, m2, m3, m4, m5 =>
      have m4' : q' = q := m4
      subst m4'
      obtain ⟨a1, a2, a3, a4, a5⟩ := ha
      obtain ⟨nd, el⟩ := vR_el m1
      obtain ⟨-, sb⟩ := sR_b nd (fun x hx => by have := (el x hx).1; omega)
      rw [m3] at sb
      refine ⟨⟨m1, a1, a2, fun hm => ?_, Or.inr a4, fun r hr => ?_⟩, ?_, List.cons_ne_nil _ _, ?_⟩
      · have := (sb p h7).mpr hm; omega
      · have hr' : r ∈ t := hr
        have hrm : r ∈ q' :: t := List.mem_cons_of_mem _ hr'
        have hr7 : r < 7 := by have := (el r hrm).1; omega
        exact a5 r hr7 ((sb r hr7).mpr hrm) (fun e => (List.nodup_cons.mp nd).1 (e ▸ hr'))
      · show sR (q' :: t) + 2 ^ p = _; rw [m3]
      · show 49 * sR (q' :: t) + 7 * q' + p = _; rw [m3]
  refine ⟨fun T z => ?_, fun T z l => ?_⟩
  · unfold L2
    split
    · refine List.nodup_append.mpr ⟨h.1 T z, List.Pairwise.map _ (fun a b hab e => hab (List.cons.inj e).2) (h.1 S q), fun a ha' b hb e => ?_⟩
      obtain ⟨l', k1, rfl⟩ := List.mem_map.mp hb
      subst e
      obtain ⟨-, -, -, -, m5⟩ := (h.2 T z _).mp ha'
      obtain ⟨-, -, n3, n4⟩ := hmem l' k1
      rcases m5 with m5 | m5
      · exact n3 m5
      · omega
    · exact h.1 T z
  · constructor
    · intro hl
      have old : l ∈ L T z → (vR pa ob l ∧ l ≠ [] ∧ sR l = T ∧ l.headD 0 = z ∧ (l.tail = [] ∨ tau l < 49 * S + 7 * q + (p + 1))) := fun hl => by
        obtain ⟨m1, m2, m3, m4, m5⟩ := (h.2 T z l).mp hl
        exact ⟨m1, m2, m3, m4, m5.imp id (fun q => by omega)⟩
      unfold L2 at hl
      split at hl
      · rename_i hc
        rcases List.mem_append.mp hl with k | k
        · exact old k
        · obtain ⟨l', k1, rfl⟩ := List.mem_map.mp k
          obtain ⟨n1, n2, n3, n4⟩ := hmem l' k1
          exact ⟨n1, List.cons_ne_nil _ _, by rw [n2, hc.1], by rw [hc.2]; rfl, Or.inr (by omega)⟩
      · exact old hl
    · rintro ⟨m1, m2, m3, m4, m5⟩
      have old : l ∈ L T z → l ∈ L2 L S q p T z := fun k => by
        unfold L2
        split
        · exact List.mem_append_left _ k
        · exact k
      rcases Classical.em (l.tail = []) with e | e
      · exact old ((h.2 T z l).mpr ⟨m1, m2, m3, m4, Or.inl e⟩)
      · have m5' : tau l < 49 * S + 7 * q + (p + 1) := by
          rcases m5 with m5 | m5
          · exact absurd m5 e
          · exact m5
        rcases Nat.lt_or_ge (tau l) (49 * S + 7 * q + p) with k | k
        · exact old ((h.2 T z l).mpr ⟨m1, m2, m3, m4, Or.inr k⟩)
        · match l, m1, m2, m3, m4, e, m5', k with
          | [], _, _, _, _, e, _, _ => exact absurd rfl e
          | [_], _, _, _, _, e, _, _ => exact absurd rfl e
          | p' :: q' :: t, m1, _, m3, m4, _, m5', k =>
            obtain ⟨k1, k2, k3⟩ := tau_el hp m1
            have k' : 49 * S + 7 * q + p ≤ 49 * sR (q' :: t) + 7 * q' + p' := k
            have m5'' : 49 * sR (q' :: t) + 7 * q' + p' < 49 * S + 7 * q + (p + 1) := m5'
            have e1 : sR (q' :: t) = S := by omega
            have e2 : q' = q := by omega
            have e3 : p' = p := by omega
            subst e2; subst e3
            have hin := J_tl hp h m1 (by omega)
            rw [e1] at hin
            have hT : T = S + 2 ^ p' := by
              rw [← m3]
              show sR (q' :: t) + 2 ^ p' = _
              rw [e1]
            have hz : z = p' := m4.symm
            unfold L2
            rw [if_pos ⟨hT, hz⟩]
            exact List.mem_append_right _ (List.mem_map.mpr ⟨q' :: t, hin, rfl⟩)
def L0 (pa : Nat → Nat) (ob : Nat) : Nat → Nat → List (List Nat) := fun T z => if T = 2 ^ z ∧ z < pa 0 ∧ bt ob z = 0 then [[z]] else []
theorem J_0 {pa : Nat → Nat} {ob : Nat} (hp : pa 0 ≤ 7) : J pa ob 49 (L0 pa ob) := by
  refine ⟨fun T z => ?_, fun T z l => ?_⟩
  · unfold L0
    split
    · exact List.nodup_cons.mpr ⟨by simp, List.nodup_nil⟩
    · exact List.nodup_nil
  · unfold L0
    constructor
    · intro hl
      split at hl
      · rename_i hc
        have e : l = [z] := by simpa using hl
        subst e
        exact ⟨⟨trivial, hc.2.1, hc.2.2, by simp, Or.inl rfl, fun q hq => by simp at hq⟩, List.cons_ne_nil _ _, by rw [hc.1]; show 0 + 2 ^ z = 2 ^ z; omega, rfl, Or.inl rfl⟩
      · simp at hl
    · rintro ⟨m1, m2, m3, m4, m5⟩
      match l, m1, m2, m3, m4, m5 with
      | [], _, m2, _, _, _ => exact absurd rfl m2
      | [x], m1, _, m3, m4, _ =>
        have hz : x = z := m4
        subst hz
        obtain ⟨-, v2, v3, -⟩ := m1
        have h3 : 0 + 2 ^ x = T := m3
        rw [if_pos ⟨by omega, v2, v3⟩]
        exact List.mem_cons_self
      | p :: q :: t, m1, _, _, _, m5 =>
        obtain ⟨k1, k2, k3⟩ := tau_el hp m1
        have : tau (p :: q :: t) < 49 := by
          rcases m5 with m5 | m5
          · exact absurd m5 (List.cons_ne_nil _ _)
          · exact m5
        have h' : 49 * (sR t + 2 ^ q) + 7 * q + p < 49 := this
        have : 0 < 2 ^ q := Nat.pow_pos (by omega)
        omega
