/-! ORDERS: ALL OF THE REFERENCE'S, AND THE LEAST -/
def uR (pa : Nat → Nat) (ob : Nat) : List Nat → Prop
  | [] => True
  | p :: t => uR pa ob t ∧ p < pa 0 ∧ bt ob p = 0 ∧ p ∉ t ∧ (t = [] ∨ mbN pa (t.headD 0) p = true)
theorem uR_suf {pa : Nat → Nat} {ob : Nat} : ∀ {e pre : List Nat}, uR pa ob (e ++ pre) → uR pa ob pre := by
  intro e
  induction e with
  | nil => intro pre h; exact h
  | cons p e ih => intro pre h; exact ih h.1
theorem pr_iff (pa : Nat → Nat) (m : List Nat) : prN pa m = true ↔ ∀ k e, k + 2 ≤ e → e < m.length → ¬ tw pa (m.getD k 0) (m.getD e 0) = 1 := by
  unfold prN
  rw [List.all_eq_true]
  constructor
  · intro h k e h1 h2 h3
    have h4 := List.all_eq_true.mp (h k (List.mem_range.mpr (by omega))) e (List.mem_range.mpr h2)
    rw [Bool.or_eq_true, Bool.not_eq_true', decide_eq_false_iff_not, decide_eq_true_eq] at h4
    rcases h4 with h4 | h4
    · exact h4 h1
    · exact h4 h3
  · intro h k hk
    rw [List.all_eq_true]
    intro e he
    rw [Bool.or_eq_true, Bool.not_eq_true', decide_eq_false_iff_not, decide_eq_true_eq]
    by_cases q : k + 2 ≤ e
    · exact Or.inr (h k e q (List.mem_range.mp he))
    · exact Or.inl q
theorem gD_app1 {a b : List Nat} {k : Nat} (h : k < a.length) : (a ++ b).getD k 0 = a.getD k 0 := by
  rw [List.getD_eq_getElem?_getD, List.getD_eq_getElem?_getD, List.getElem?_append_left h]
theorem gD_app2 {a : List Nat} {p : Nat} : (a ++ [p]).getD a.length 0 = p := by
  rw [List.getD_eq_getElem?_getD, List.getElem?_append_right (Nat.le_refl _), Nat.sub_self]
  rfl
theorem gD_mem {l : List Nat} {k : Nat} (h : k < l.length) : l.getD k 0 ∈ l := by
  rw [List.getD_eq_getElem?_getD, List.getElem?_eq_getElem h]
  exact List.getElem_mem h
theorem mem_gD {l : List Nat} {x : Nat} (h : x ∈ l) : ∃ k, k < l.length ∧ l.getD k 0 = x := by
  obtain ⟨i, hi, e⟩ := List.mem_iff_getElem.mp h
  exact ⟨i, hi, by rw [List.getD_eq_getElem?_getD, List.getElem?_eq_getElem hi, ← e]; rfl⟩
theorem vR_iff (pa : Nat → Nat) (ob : Nat) : ∀ l : List Nat, vR pa ob l ↔ uR pa ob l ∧ prN pa l.reverse = true := by
  intro l
  induction l with
  | nil => exact ⟨fun _ => ⟨trivial, by rw [pr_iff]; intro k e h1 h2; simp at h2⟩, fun _ => trivial⟩
  | cons p t ih =>
    have key : prN pa (p :: t).reverse = true ↔ prN pa t.reverse = true ∧ ∀ q, q ∈ t.tail → ¬ tw pa q p = 1 := by
      rw [pr_iff, pr_iff, List.reverse_cons]
      have hlen : (t.reverse ++ [p]).length = t.reverse.length + 1 := by simp
      constructor
      · intro h
        refine ⟨fun k e h1 h2 => ?_, fun q hq => ?_⟩
        · have := h k e h1 (by omega)
          rwa [gD_app1 (by omega), gD_app1 h2] at this
        · cases t with
          | nil => simp at hq
          | cons q' t' =>
            have hq' : q ∈ t'.reverse := List.mem_reverse.mpr hq
            obtain ⟨k, hk, e⟩ := mem_gD hq'
            have hl : (q' :: t').reverse.length = t'.reverse.length + 1 := by simp
            have := h k (q' :: t').reverse.length (by omega) (by omega)
            rw [gD_app2, gD_app1 (by omega), List.reverse_cons, gD_app1 hk, e] at this
            exact this
      · rintro ⟨h1, h2⟩ k e h3 h4
        rcases Nat.lt_or_ge e t.reverse.length with q | q
        · rw [gD_app1 (by omega), gD_app1 q]
          exact h1 k e h3 q
        · have e' : e = t.reverse.length := by omega
          subst e'
          rw [gD_app2, gD_app1 (by omega)]
          cases t with
          | nil => simp at h3
          | cons q' t' =>
            have hl : (q' :: t').reverse.length = t'.reverse.length + 1 := by simp
            have hk : k < t'.reverse.length := by omega
            rw [List.reverse_cons, gD_app1 hk]
            exact h2 _ (List.mem_reverse.mp (gD_mem hk))
    show (vR pa ob t ∧ _ ∧ _ ∧ _ ∧ _ ∧ _) ↔ (uR pa ob t ∧ _ ∧ _ ∧ _ ∧ _) ∧ _
    rw [key, ih]
    constructor
    · rintro ⟨⟨a1, a2⟩, a3, a4, a5, a6, a7⟩
      exact ⟨⟨a1, a3, a4, a5, a6⟩, a2, a7⟩
    · rintro ⟨⟨a1, a3, a4, a5, a6⟩, a2, a7⟩
      exact ⟨⟨a1, a2⟩, a3, a4, a5, a6, a7⟩
theorem orL_mem (pa : Nat → Nat) (ob : Nat) : ∀ (r : Nat) (pre x : List Nat), uR pa ob pre → (x ∈ orL pa ob r pre ↔ ∃ e, e.length = r ∧ uR pa ob (e ++ pre) ∧ prN pa (e ++ pre).reverse = true ∧ x = (e ++ pre).reverse) := by
  intro r
  induction r with
  | zero =>
    intro pre x hw
    rw [orL]
    constructor
    · intro h
      by_cases q : prN pa pre.reverse = true
      · rw [if_pos q] at h
        have e : x = pre.reverse := by simpa using h
        exact ⟨[], rfl, hw, q, e⟩
      · rw [if_neg q] at h; simp at h
    · rintro ⟨e, h1, h2, h3, h4⟩
      have e0 : e = [] := List.length_eq_zero_iff.mp h1
      subst e0
      rw [List.nil_append] at h3 h4
      rw [if_pos h3, h4]
      exact List.mem_cons_self
  | succ r ih =>
    intro pre x hw
    rw [orL, List.mem_flatMap]
    constructor
    · rintro ⟨p, hp, hx⟩
      by_cases hc : bt ob p = 0 ∧ p ∉ pre ∧ (pre = [] ∨ mbN pa (pre.headD 0) p = true)
      · rw [if_pos hc] at hx
        have hw2 : uR pa ob (p :: pre) := ⟨hw, List.mem_range.mp hp, hc.1, hc.2.1, hc.2.2⟩
        obtain ⟨e, h1, h2, h3, h4⟩ := (ih (p :: pre) x hw2).mp hx
        refine ⟨e ++ [p], by simp [h1], ?_, ?_, ?_⟩
        · rw [List.append_assoc]; exact h2
        · rw [List.append_assoc]; exact h3
        · rw [List.append_assoc]; exact h4
      · rw [if_neg hc] at hx; simp at hx
    · rintro ⟨e, h1, h2, h3, h4⟩
      obtain ⟨e', p, rfl⟩ : ∃ e' p, e = e' ++ [p] := by
        have hne : e ≠ [] := fun q => by rw [q] at h1; simp at h1
        exact ⟨e.dropLast, e.getLast hne, (List.dropLast_concat_getLast hne).symm⟩
      rw [List.append_assoc] at h2 h3 h4
      have hw2 := uR_suf h2
      have hw3 : uR pa ob (p :: pre) := hw2
      obtain ⟨-, a1, a2, a3, a4⟩ := hw3
      refine ⟨p, List.mem_range.mpr a1, ?_⟩
      rw [if_pos ⟨a2, a3, a4⟩]
      exact (ih (p :: pre) x hw2).mpr ⟨e', by simp at h1; exact h1, h2, h3, h4⟩
theorem rR_app : ∀ (e pre : List Nat), rR' (e ++ pre) = rR' pre * 8 ^ e.length + rR' e := by
  intro e
  induction e with
  | nil => intro pre; show rR' pre = rR' pre * 1 + 0; omega
  | cons p e ih =>
    intro pre
    show 8 * rR' (e ++ pre) + p = rR' pre * 8 ^ (e.length + 1) + (8 * rR' e + p)
    rw [ih, Nat.pow_succ, Nat.mul_add, ← Nat.mul_assoc, Nat.mul_comm 8 (rR' pre), Nat.mul_assoc, Nat.mul_comm 8 (8 ^ e.length)]
    omega
theorem uR_el {pa : Nat → Nat} {ob : Nat} (hp : pa 0 ≤ 7) : ∀ {l : List Nat}, uR pa ob l → ∀ p, p ∈ l → p < 7 := by
  intro l
  induction l with
  | nil => intro _ p h; simp at h
  | cons q t ih =>
    intro h p hm
    rcases List.mem_cons.mp hm with e | e
    · rw [e]; have := h.2.1; omega
    · exact ih h.1 p e
theorem orL_row {pa : Nat → Nat} {ob : Nat} (hp : pa 0 ≤ 7) {r : Nat} {pre x : List Nat} (hw : uR pa ob pre) (hx : x ∈ orL pa ob r pre) : rR' pre * 8 ^ r ≤ rwN x ∧ rwN x < (rR' pre + 1) * 8 ^ r := by
  obtain ⟨e, h1, h2, -, h4⟩ := (orL_mem pa ob r pre x hw).mp hx
  rw [h4, ← rR_rw, rR_app, h1]
  have hb := rR_b (l := e) (fun p hp' => by have := uR_el hp h2 p (List.mem_append_left _ hp'); omega)
  rw [h1] at hb
  rw [Nat.add_mul, Nat.one_mul]
  omega
theorem orL_srt {pa : Nat → Nat} {ob : Nat} (hp : pa 0 ≤ 7) : ∀ (r : Nat) (pre : List Nat), uR pa ob pre → (orL pa ob r pre).Pairwise (fun x y => rwN x < rwN y) := by
  intro r
  induction r with
  | zero =>
    intro pre hw
    rw [orL]
    split
    · exact List.pairwise_singleton _ _
    · exact List.Pairwise.nil
  | succ r ih =>
    intro pre hw
    rw [orL, List.pairwise_flatMap]
    refine ⟨fun p hpm => ?_, ?_⟩
    · split
      · rename_i hc
        exact ih (p :: pre) ⟨hw, List.mem_range.mp hpm, hc.1, hc.2.1, hc.2.2⟩
      · exact List.Pairwise.nil
    · refine List.Pairwise.imp_of_mem ?_ List.pairwise_lt_range
      intro a b ha hb hab x hx y hy
      split at hx
      · rename_i hc
        split at hy
        · rename_i hc2
          have k1 := (orL_row hp (r := r) (pre := a :: pre) ⟨hw, List.mem_range.mp ha, hc.1, hc.2.1, hc.2.2⟩ hx).2
          have k2 := (orL_row hp (r := r) (pre := b :: pre) ⟨hw, List.mem_range.mp hb, hc2.1, hc2.2.1, hc2.2.2⟩ hy).1
          have k3 : (rR' (a :: pre) + 1) * 8 ^ r ≤ rR' (b :: pre) * 8 ^ r := Nat.mul_le_mul_right _ (by show 8 * rR' pre + a + 1 ≤ 8 * rR' pre + b; omega)
          omega
        · simp at hy
      · simp at hx
/-- the least of the first ones -/
def LSp (pa : Nat → Nat) (lw : LW) (fz pc : Nat) (Y : List (List Nat)) (acc : Option (List Nat × Nat × Nat)) : Prop := match acc with
  | none => ∀ x, x ∈ Y → mnN pa lw fz pc x = none
  | some (l, ab) => l ∈ Y ∧ mnN pa lw fz pc l = some ab ∧ ∀ x ab', x ∈ Y → mnN pa lw fz pc x = some ab' → e3 (rwN l, ab) (rwN x, ab')
theorem ls_step {pa : Nat → Nat} {lw : LW} {fz pc : Nat} {Y : List (List Nat)} {acc : Option (List Nat × Nat × Nat)} {y : List Nat} (hpos : ∀ x ab, x ∈ Y ∨ x = y → mnN pa lw fz pc x = some ab → 0 < ab.2) (hs : ∀ x, x ∈ Y → rwN x < rwN y) (h : LSp pa lw fz pc Y acc) : LSp pa lw fz pc (Y ++ [y]) (lsF pa lw fz pc acc y) := by
  unfold lsF
  cases hm : mnN pa lw fz pc y with
  | none =>
    show LSp pa lw fz pc (Y ++ [y]) acc
    match acc, h with
    | none, h =>
      intro x hx
      rcases List.mem_append.mp hx with q | q
      · exact h x q
      · rw [show x = y by simpa using q]; exact hm
    | some (l, ab), h =>
      obtain ⟨h1, h2, h3⟩ := h
      refine ⟨List.mem_append_left _ h1, h2, fun x ab' hx hx2 => ?_⟩
      rcases List.mem_append.mp hx with q | q
      · exact h3 x ab' q hx2
      · rw [show x = y by simpa using q, hm] at hx2; simp at hx2
  | some ab =>
    match acc, h with
    | none, h =>
      show LSp pa lw fz pc (Y ++ [y]) (some (y, ab))
      refine ⟨List.mem_append_right _ List.mem_cons_self, hm, fun x ab' hx hx2 => ?_⟩
      rcases List.mem_append.mp hx with q | q
      · rw [h x q] at hx2; simp at hx2
      · have e : x = y := by simpa using q
        subst e
        rw [hm] at hx2
        have e2 := Option.some.inj hx2
        subst e2
        exact e3_rf _
    | some (l, ab0), h =>
      obtain ⟨h1, h2, h3⟩ := h
      show LSp pa lw fz pc (Y ++ [y]) (if ab.1 * ab0.2 < ab0.1 * ab.2 then some (y, ab) else some (l, ab0))
      have py := hpos y ab (Or.inr rfl) hm
      have pl := hpos l ab0 (Or.inl h1) h2
      by_cases hc : ab.1 * ab0.2 < ab0.1 * ab.2
      · rw [if_pos hc]
        refine ⟨List.mem_append_right _ List.mem_cons_self, hm, fun x ab' hx hx2 => ?_⟩
        rcases List.mem_append.mp hx with q | q
        · exact e3_tr (x := (rwN y, ab)) (y := (rwN l, ab0)) (z := (rwN x, ab')) py pl (hpos x ab' (Or.inl q) hx2) (Or.inl hc) (h3 x ab' q hx2)
        · have e : x = y := by simpa using q
          subst e
          rw [hm] at hx2
          have e2 := Option.some.inj hx2
          subst e2
          exact e3_rf _
      · rw [if_neg hc]
        refine ⟨List.mem_append_left _ h1, h2, fun x ab' hx hx2 => ?_⟩
        rcases List.mem_append.mp hx with q | q
        · exact h3 x ab' q hx2
        · have e : x = y := by simpa using q
          subst e
          rw [hm] at hx2
          have e2 := Option.some.inj hx2
          subst e2
          rcases Nat.lt_or_ge (ab0.1 * ab.2) (ab.1 * ab0.2) with k | k
          · exact Or.inl k
          · exact Or.inr ⟨by show ab0.1 * ab.2 = ab.1 * ab0.2; omega, Nat.le_of_lt (hs l h1)⟩
theorem ls_fold {pa : Nat → Nat} {lw : LW} {fz pc : Nat} : ∀ (Z Y : List (List Nat)) (acc : Option (List Nat × Nat × Nat)), (∀ x ab, x ∈ Y ++ Z → mnN pa lw fz pc x = some ab → 0 < ab.2) → (Y ++ Z).Pairwise (fun x y => rwN x < rwN y) → LSp pa lw fz pc Y acc → LSp pa lw fz pc (Y ++ Z) (Z.foldl (lsF pa lw fz pc) acc) := by
  intro Z
  induction Z with
  | nil => intro Y acc _ _ h; rw [List.append_nil]; exact h
  | cons z Z ih =>
    intro Y acc hp hs h
    rw [List.foldl_cons]
    have e : Y ++ z :: Z = (Y ++ [z]) ++ Z := by simp
    rw [e] at hp hs ⊢
    refine ih (Y ++ [z]) _ hp hs (ls_step (fun x ab hx hx2 => hp x ab ?_ hx2) (fun x hx => ?_) h)
    · rcases hx with q | q
      · exact List.mem_append_left _ (List.mem_append_left _ q)
      · rw [q]; exact List.mem_append_left _ (List.mem_append_right _ List.mem_cons_self)
    · exact (List.pairwise_append.mp (List.pairwise_append.mp hs).1).2.2 x hx z List.mem_cons_self
