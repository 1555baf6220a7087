/-! ALL TOKENS ARE GOOD -/
theorem n10_b : ∀ (u : List Nat), (∀ c, c ∈ u → c ≤ 9) → n10 u < 10 ^ u.length := by
  have key : ∀ (u : List Nat) (x m : Nat), (∀ c, c ∈ u → c ≤ 9) → x < 10 ^ m → u.foldl (fun x c => 10 * x + c) x < 10 ^ (m + u.length) := by
    intro u
    induction u with
    | nil => intro x m _ h; exact h
    | cons c u ih =>
      intro x m h hx
      have hc := h c List.mem_cons_self
      rw [List.foldl_cons, List.length_cons, show m + (u.length + 1) = (m + 1) + u.length by omega]
      refine ih _ (m + 1) (fun c' q => h c' (List.mem_cons_of_mem _ q)) ?_
      rw [Nat.pow_succ]
      omega
  intro u h
  have := key u 0 0 h (by decide)
  rw [Nat.zero_add] at this
  exact this
theorem nb_el {tp : List Nat} {k c : Nat} (hk : k ≤ tp.length) (h : c ∈ slc tp 48 k (en isD tp k - k)) : c ≤ 9 := by
  obtain ⟨i, h1, h2⟩ := slc_el h
  have := of_decide_eq_true (en_all (f := isD) (tp := tp) (tp.length - k) k (by omega) (k + i) (by omega) (by omega))
  omega
theorem tok_ok {tp : List Nat} (hn : tp.length ≤ 1000) (hc : ∀ c, c ∈ tp → c < 127) {k : Nat} (hk : k ≤ tp.length) : okK (tok tp k) := by
  obtain ⟨e1, e2⟩ := en_le isW tp hk
  unfold tok
  have h128 := tokA_c hc (en isW tp k)
  generalize en isW tp k = q at *
  by_cases z : tp.length ≤ q
  · rw [tokA_e z]
    exact ⟨by show (30 : Nat) < 128; decide, by show q ≤ 1000; omega, fun y => by exact absurd y (by show ¬ (30 : Nat) ≤ 28; decide), fun y => by exact absurd y (by show ¬ (30 : Nat) = 29; decide)⟩
  · have z' : q < tp.length := by omega
    refine ⟨h128, by rw [(tokA_n z').2.1]; omega, ?_, ?_⟩
    · unfold tokA
      rw [if_neg z]
      by_cases y : isL (tp.getD q 0) = true
      · rw [if_pos y]
        by_cases l : en isL tp q - q ≤ 8
        · rw [if_pos l]
          intro _
          exact ⟨fun c hc' => wd_el (by omega) hc', by rw [slc_len]; exact l, rfl⟩
        · rw [if_neg l]
          intro w
          exact absurd w (by show ¬ (31 : Nat) ≤ 28; decide)
      · rw [if_neg y]
        by_cases x : isD (tp.getD q 0) = true
        · rw [if_pos x]
          intro w
          exfalso
          have w' : (if en isD tp q - q ≤ 4 then 29 else 31) ≤ 28 := w
          split at w' <;> omega
        · rw [if_neg x]
          intro w
          exfalso
          have w' : (if isM (tp.getD q 0) = true then tp.getD q 0 else 31) ≤ 28 := w
          split at w'
          · rename_i m
            have := of_decide_eq_true m
            omega
          · omega
    · unfold tokA
      rw [if_neg z]
      by_cases y : isL (tp.getD q 0) = true
      · rw [if_pos y]
        intro w
        exfalso
        have w' : (if en isL tp q - q ≤ 8 then kwS (b256 (slc tp 96 q (en isL tp q - q))) 28 0 else 31) = 29 := w
        have := kwS_le (b256 (slc tp 96 q (en isL tp q - q))) 28 0 (by omega)
        split at w' <;> omega
      · rw [if_neg y]
        by_cases x : isD (tp.getD q 0) = true
        · rw [if_pos x]
          intro w
          have w' : (if en isD tp q - q ≤ 4 then 29 else 31) = 29 := w
          by_cases l : en isD tp q - q ≤ 4
          · have b := n10_b (slc tp 48 q (en isD tp q - q)) (fun c hc' => nb_el (by omega) hc')
            rw [slc_len] at b
            exact Nat.lt_of_lt_of_le b (Nat.le_trans (Nat.pow_le_pow_right (n := 10) (by omega) l) (by decide))
          · rw [if_neg l] at w'; omega
        · rw [if_neg x]
          intro w
          exfalso
          have w' : (if isM (tp.getD q 0) = true then tp.getD q 0 else 31) = 29 := w
          split at w'
          · rename_i m
            have := of_decide_eq_true m
            omega
          · omega
theorem isT_GT {tp : List Nat} (hn : tp.length ≤ 1000) (hc : ∀ c, c ∈ tp → c < 127) : ∀ (T : List Tok) (k : Nat), k ≤ tp.length → isT tp k T → GT T := by
  intro T
  induction T with
  | nil => intro k _ h; exact h.elim
  | cons t T ih =>
    intro k hk h
    obtain ⟨h1, h2⟩ := h
    have ok : okK t := by rw [h1]; exact tok_ok hn hc hk
    by_cases e : t.2.1 = 30
    · rw [if_pos e] at h2
      subst h2
      refine ⟨by show (if t.2.1 = 30 then ([] : List Tok) = [] else enT9 []); rw [if_pos e], fun t' ht => ?_⟩
      rw [List.mem_singleton] at ht
      rw [ht]; exact ok
    · rw [if_neg e] at h2
      have hb : t.2.2.2 ≤ tp.length := by
        rw [h1]
        obtain ⟨a1, a2⟩ := en_le isW tp hk
        by_cases z : tp.length ≤ en isW tp k
        · have : (tok tp k).2.1 = 30 := by unfold tok; rw [tokA_e z]
          rw [h1] at e
          exact absurd this e
        · exact (tokA_n (show en isW tp k < tp.length by omega)).2.2.2
      have g := ih t.2.2.2 hb h2
      refine ⟨by show (if t.2.1 = 30 then T = [] else enT9 T); rw [if_neg e]; exact g.1, fun t' ht => ?_⟩
      rcases List.mem_cons.mp ht with q | q
      · rw [q]; exact ok
      · exact g.2 t' q
theorem TX_GT {μ : PM} {tp : List Nat} (hn : tp.length ≤ 1000) (hc : ∀ c, c ∈ tp → c < 127) {T : List Tok} (h : TX μ tp T) : GT T := by
  obtain ⟨k, h1, h2, -⟩ := h
  exact isT_GT hn hc T k h1 h2
