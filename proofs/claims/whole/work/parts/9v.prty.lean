/-! THE CLASS'S PARTY TAKES WHAT IS TOLD -/
theorem fbs_c {f g : Nat → Nat} : ∀ n, (∀ i, i < n → f i = g i) → fb_sum f n = fb_sum g n := by
  intro n
  induction n with
  | zero => intro _; rfl
  | succ n ih =>
    intro h
    show fb_sum f n + f n = fb_sum g n + g n
    rw [ih (fun i hi => h i (by omega)), h n (by omega)]
theorem fbs_1 {f g : Nat → Nat} {c : Nat} (hc : g c = f c + 1) (ho : ∀ i, i ≠ c → f i = g i) : ∀ n, c < n → fb_sum g n = fb_sum f n + 1 := by
  intro n
  induction n with
  | zero => intro h; omega
  | succ n ih =>
    intro h
    show fb_sum g n + g n = fb_sum f n + f n + 1
    by_cases e : c = n
    · subst e
      rw [hc, fbs_c c (fun i hi => (ho i (by omega)).symm)]
      omega
    · rw [ih (by omega), ho n (fun q => e q.symm)]
      omega
theorem bsN_c {pa pb : Nat → Nat} {w a : Nat} (h : ∀ b, b < 7 → (tw pb a b = w ↔ tw pa a b = w)) : bsN pb w a = bsN pa w a := by
  unfold bsN
  refine fbs_c 7 (fun b hb => ?_)
  by_cases e : tw pa a b = w
  · rw [if_pos e, if_pos ((h b hb).mpr e)]
  · rw [if_neg e, if_neg (fun q => e ((h b hb).mp q))]
theorem twN_c {pa pb : Nat → Nat} {w : Nat} (h0 : pb 0 = pa 0) (h7 : pa 0 ≤ 7) (h : ∀ a b, a < 7 → b < 7 → (tw pb a b = w ↔ tw pa a b = w)) : twN pb w = twN pa w := by
  unfold twN
  rw [h0]
  refine fbs_c _ (fun a ha => fbs_c _ (fun b hb => ?_))
  by_cases e : tw pa a b = w
  · rw [if_pos e, if_pos ((h a b (by omega) (by omega)).mpr e)]
  · rw [if_neg e, if_neg (fun q => e ((h a b (by omega) (by omega)).mp q))]
theorem adP_tw {pa : Nat → Nat} {wm k x y a b : Nat} (h0 : pa 0 < 7) : tw (adP pa wm k x y) a b = tw pa a b := by
  unfold tw adP
  rw [if_neg (by omega), if_neg (by omega), if_neg (by omega), if_neg (by omega), if_neg (by omega)]
theorem adF_tw {pa : Nat → Nat} {x y a b : Nat} (h0 : pa 1 < 4) : tw (adF pa x y) a b = tw pa a b := by
  unfold tw adF
  rw [if_neg (by omega), if_neg (by omega), if_neg (by omega)]
theorem up_tw {pa : Nat → Nat} {k v a b : Nat} (h : k < 8) : tw (up pa k v) a b = tw pa a b := by
  unfold tw up
  rw [if_neg (by omega)]
theorem adP_twN {pa : Nat → Nat} {wm k x y w : Nat} (h0 : pa 0 < 7) (hZ : TZ pa) (hw : w ≠ 0) : twN (adP pa wm k x y) w = twN pa w := by
  unfold twN
  have e0 : adP pa wm k x y 0 = pa 0 + 1 := rfl
  rw [e0]
  simp only [adP_tw h0]
  show fb_sum _ (pa 0) + fb_sum _ (pa 0) = _
  have z : fb_sum (fun b => if tw pa (pa 0) b = w then 1 else 0) (pa 0) = fb_sum (fun _ => 0) (pa 0) := fbs_c _ (fun b hb => by
    have := hZ (pa 0) b h0 (by omega) (Nat.le_refl _)
    rw [if_neg (by omega)])
  have z2 : ∀ n, fb_sum (fun _ => 0) n = 0 := by
    intro n
    induction n with
    | zero => rfl
    | succ n ih => show fb_sum _ n + 0 = 0; rw [ih]
  rw [z, z2]
  rfl
theorem adT_bs {pa : Nat → Nat} {i j q : Nat} (hi : i < 7) (hj : j < 7) (hij : i ≠ j) : bsN (adT pa i j q) q i = bsN pa q i ||| 2 ^ j ∧ bsN (adT pa i j q) q j = bsN pa q j ||| 2 ^ i := by
  constructor
  · obtain ⟨a1, a2⟩ := bs_ex (adT pa i j q) q i
    obtain ⟨b1, b2⟩ := bs_ex pa q i
    refine bt_ex a1 (Nat.or_lt_two_pow (n := 7) b1 (Nat.pow_lt_pow_right (by omega) (by omega))) (fun p hp => ?_)
    rw [a2 p hp, bt_or, adT_t hi hj hi hp]
    by_cases e : p = j
    · rw [if_pos e, if_pos (Or.inl ⟨rfl, e⟩)]
      exact ⟨fun _ => rfl, fun _ => rfl⟩
    · rw [if_neg e, if_neg (by omega)]
      exact (b2 p hp).symm
  · obtain ⟨a1, a2⟩ := bs_ex (adT pa i j q) q j
    obtain ⟨b1, b2⟩ := bs_ex pa q j
    refine bt_ex a1 (Nat.or_lt_two_pow (n := 7) b1 (Nat.pow_lt_pow_right (by omega) (by omega))) (fun p hp => ?_)
    rw [a2 p hp, bt_or, adT_t hi hj hj hp]
    by_cases e : p = i
    · rw [if_pos e, if_pos (Or.inr ⟨rfl, e⟩)]
      exact ⟨fun _ => rfl, fun _ => rfl⟩
    · rw [if_neg e, if_neg (by omega)]
      exact (b2 p hp).symm
theorem adT_bo {pa : Nat → Nat} {i j q a : Nat} (hi : i < 7) (hj : j < 7) (ha : a < 7) (h1 : a ≠ i) (h2 : a ≠ j) (w : Nat) : bsN (adT pa i j q) w a = bsN pa w a := bsN_c (fun b hb => by rw [adT_t hi hj ha hb, if_neg (by omega)])
theorem adT_bw {pa : Nat → Nat} {i j q a w : Nat} (hi : i < 7) (hj : j < 7) (ha : a < 7) (hw : w ≠ q) (hw0 : w ≠ 0) (h0 : tw pa i j = 0) (h0' : tw pa j i = 0) : bsN (adT pa i j q) w a = bsN pa w a := bsN_c (fun b hb => by
  rw [adT_t hi hj ha hb]
  by_cases e : (a = i ∧ b = j) ∨ (a = j ∧ b = i)
  · rw [if_pos e]
    have : tw pa a b = 0 := by rcases e with ⟨rfl, rfl⟩ | ⟨rfl, rfl⟩ <;> assumption
    omega
  · rw [if_neg e])
theorem adT_tw {pa : Nat → Nat} {i j q w : Nat} (h7 : pa 0 ≤ 7) (hi : i < 7) (hj : j < 7) (hw : w ≠ q) (hw0 : w ≠ 0) (h0 : tw pa i j = 0) (h0' : tw pa j i = 0) : twN (adT pa i j q) w = twN pa w := twN_c (adT_o (by omega)) h7 (fun a b ha hb => by
  rw [adT_t hi hj ha hb]
  by_cases e : (a = i ∧ b = j) ∨ (a = j ∧ b = i)
  · rw [if_pos e]
    have : tw pa a b = 0 := by rcases e with ⟨rfl, rfl⟩ | ⟨rfl, rfl⟩ <;> assumption
    omega
  · rw [if_neg e])
theorem adT_tq {pa : Nat → Nat} {i j q : Nat} (h7 : pa 0 ≤ 7) (hi : i < pa 0) (hj : j < pa 0) (hij : i ≠ j) (hq : q ≠ 0) (h0 : tw pa i j = 0) (h0' : tw pa j i = 0) : twN (adT pa i j q) q = twN pa q + 1 := by
  have key : ∀ c e, ((c = i ∧ e = j) ∨ (c = j ∧ e = i)) → e < c → twN (adT pa i j q) q = twN pa q + 1 := by
    intro c e hce hlt
    have hz : tw pa c e = 0 := by rcases hce with ⟨rfl, rfl⟩ | ⟨rfl, rfl⟩ <;> assumption
    unfold twN
    rw [adT_o (show 0 < 44 by omega)]
    -- beyond the party all is alike
    let f : Nat → Nat := fun a => fb_sum (fun b => if tw pa a b = q then 1 else 0) a
    let g : Nat → Nat := fun a => if a < 7 then fb_sum (fun b => if tw (adT pa i j q) a b = q then 1 else 0) a else f a
    have hg : fb_sum (fun a => fb_sum (fun b => if tw (adT pa i j q) a b = q then 1 else 0) a) (pa 0) = fb_sum g (pa 0) := fbs_c _ (fun a ha => by show _ = (if a < 7 then _ else _); rw [if_pos (show a < 7 by omega)])
    rw [hg]
    refine fbs_1 (f := f) (g := g) (c := c) ?_ (fun a ha => ?_) (pa 0) (by omega)
    · show (if c < 7 then _ else _) = _
      rw [if_pos (show c < 7 by omega)]
      let f2 : Nat → Nat := fun b => if tw pa c b = q then 1 else 0
      let g2 : Nat → Nat := fun b => if b < 7 then (if tw (adT pa i j q) c b = q then 1 else 0) else f2 b
      have hg2 : fb_sum (fun b => if tw (adT pa i j q) c b = q then 1 else 0) c = fb_sum g2 c := fbs_c _ (fun b hb => by show _ = (if b < 7 then _ else _); rw [if_pos (show b < 7 by omega)])
      rw [hg2]
      refine fbs_1 (f := f2) (g := g2) (c := e) ?_ (fun b hb => ?_) c hlt
      · show (if e < 7 then (if tw (adT pa i j q) c e = q then 1 else 0) else f2 e) = (if tw pa c e = q then 1 else 0) + 1
        rw [if_pos (show e < 7 by omega), adT_t (by omega) (by omega) (by omega) (by omega), if_pos hce, if_pos rfl, hz, if_neg (show ¬ (0 = q) by omega)]
      · show (if tw pa c b = q then 1 else 0) = (if b < 7 then (if tw (adT pa i j q) c b = q then 1 else 0) else f2 b)
        by_cases hb7 : b < 7
        · rw [if_pos hb7, adT_t (by omega) (by omega) (by omega) hb7, if_neg (show ¬ ((c = i ∧ b = j) ∨ (c = j ∧ b = i)) by omega)]
        · rw [if_neg hb7]
    · show fb_sum (fun b => if tw pa a b = q then 1 else 0) a = (if a < 7 then _ else f a)
      by_cases ha7 : a < 7
      · rw [if_pos ha7]
        refine fbs_c _ (fun b hb => ?_)
        rw [adT_t (by omega) (by omega) ha7 (by omega), if_neg (show ¬ ((a = i ∧ b = j) ∨ (a = j ∧ b = i)) by omega)]
      · rw [if_neg ha7]
  by_cases h : j < i
  · exact key i j (Or.inl ⟨rfl, rfl⟩) h
  · exact key j i (Or.inr ⟨rfl, rfl⟩) (by omega)
theorem shl_2 : ∀ p, p < 17 → nI 1 <<< (nI p &&& nI 31) = nI (2 ^ p) := by decide +kernel
theorem shr_2 : ∀ p, p < 17 → ∀ o, o < 131072 → (nI o >>> (nI p &&& nI 31)) &&& nI 1 = nI (bt o p) := by
  intro p hp o ho
  have k : nI o >>> (nI p &&& nI 31) = nI (o / 2 ^ p) := pk_shrN (n := o) (by omega) (nI p &&& nI 31) p ((by decide : ∀ p, p < 17 → ((nI p &&& nI 31).toBitVec.smod 32).toNat = p) p hp)
  rw [k, and1 _ (Nat.lt_of_le_of_lt (Nat.div_le_self _ _) (by omega))]
  rfl
