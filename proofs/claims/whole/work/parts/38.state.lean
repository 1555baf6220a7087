/-! HOW ALL STANDS; WHAT STAYS -/
abbrev St : Type := (Nat → Nat) × LW × (Nat → Nat) × List (Nat → Nat) × (Nat → Option (Nat → Nat)) × List Nat
def pstA (i : Nat) : Nat := (43 + 2 * i) * 1000000 + 8
def pstO (i : Nat) : Nat := (44 + 2 * i) * 1000000 + 720
def mrkA (i : Nat) : Nat := (102 + 2 * i) * 1000000 + 8
def mrkO (i : Nat) : Nat := (103 + 2 * i) * 1000000 + 720
theorem fx_pst {μ : PM} (h : FX μ) {i : Nat} (hi : i < 20) : rR μ 42002024 i = some (pstA i) := h (42002024, i, pstA i) ((by decide : ∀ i, i < 20 → (42002024, i, pstA i) ∈ fxL) i hi)
theorem fx_pso {μ : PM} (h : FX μ) {i : Nat} (hi : i < 20) : rR μ (pstA i) 0 = some (pstO i) := h (pstA i, 0, pstO i) ((by decide : ∀ i, i < 20 → (pstA i, 0, pstO i) ∈ fxL) i hi)
theorem fx_mrk {μ : PM} (h : FX μ) {i : Nat} (hi : i < 4) : rR μ 83000424 i = some (mrkA i) := h (83000424, i, mrkA i) ((by decide : ∀ i, i < 4 → (83000424, i, mrkA i) ∈ fxL) i hi)
theorem fx_mro {μ : PM} (h : FX μ) {i : Nat} (hi : i < 4) : rR μ (mrkA i) 0 = some (mrkO i) := h (mrkA i, 0, mrkO i) ((by decide : ∀ i, i < 4 → (mrkA i, 0, mrkO i) ∈ fxL) i hi)
/-- the ints at addresses outside of l stay, and all else -/
def EX (l : List Nat) (μ ν : PM) : Prop := (∀ a j, a ∉ l → rI ν a j = rI μ a j) ∧ ν.2 = μ.2
theorem EX_rf (l : List Nat) (μ : PM) : EX l μ μ := ⟨fun _ _ _ => rfl, rfl⟩
theorem EX_tr {l l' : List Nat} {μ ν ρ : PM} (h : EX l μ ν) (k : EX l' ν ρ) : EX (l ++ l') μ ρ := ⟨fun a j ha => by
  rw [List.mem_append, not_or] at ha
  rw [k.1 a j ha.2, h.1 a j ha.1], k.2.trans h.2⟩
theorem EX_I {l : List Nat} {μ ν : PM} (h : EX l μ ν) {a j : Nat} (ha : a ∉ l) : rI ν a j = rI μ a j := h.1 a j ha
theorem EX_L {l : List Nat} {μ ν : PM} (h : EX l μ ν) {a j : Nat} : rL ν a j = rL μ a j := by unfold rL; rw [h.2]
theorem EX_R {l : List Nat} {μ ν : PM} (h : EX l μ ν) {a j : Nat} : rR ν a j = rR μ a j := by unfold rR; rw [h.2]
theorem EX_S {l : List Nat} {μ ν : PM} (h : EX l μ ν) : aS ν = aS μ := by unfold aS; rw [h.2]
theorem EX_FX {l : List Nat} {μ ν : PM} (h : EX l μ ν) (hF : FX μ) : FX ν := fun q hq => (EX_R h).trans (hF q hq)
theorem EX_wI (μ : PM) (a j : Nat) (x : Int32) : EX [a] μ (wI μ a j x) := ⟨fun b k hb => by rw [rI_wI, if_neg (fun q => hb (by rw [q.1]; exact List.mem_singleton_self b))], rfl⟩
theorem EX_wA (μ : PM) (a : Nat) (f : Nat → Int32) : EX [a] μ (wA μ a f) := ⟨fun b k hb => by rw [rI_wA, if_neg (fun q => hb (by rw [q]; exact List.mem_singleton_self b))], rfl⟩
theorem rI_cI {μ : PM} {a sp b dp n c k : Nat} : rI (cI μ a sp b dp n) c k = if b = c ∧ dp ≤ k ∧ k < dp + n then rI μ a (sp + (k - dp)) else rI μ c k := rfl
theorem rR_cI {μ : PM} {a sp b dp n c k : Nat} : rR (cI μ a sp b dp n) c k = rR μ c k := rfl
theorem rL_cI {μ : PM} {a sp b dp n c k : Nat} : rL (cI μ a sp b dp n) c k = rL μ c k := rfl
theorem EX_cI (μ : PM) (a sp b dp n : Nat) : EX [b] μ (cI μ a sp b dp n) := ⟨fun c k hb => by rw [rI_cI, if_neg (fun q => hb (by rw [q.1]; exact List.mem_singleton_self c))], rfl⟩
theorem EX_mo {l l' : List Nat} {μ ν : PM} (h : EX l μ ν) (hs : ∀ a, a ∈ l → a ∈ l') : EX l' μ ν := ⟨fun a j ha => h.1 a j (fun q => ha (hs a q)), h.2⟩
theorem EX_CSg {l : List Nat} {μ ν : PM} {a o n : Nat} {s : Nat → Nat} (h : EX l μ ν) (ha : a ∉ l) (ho : o ∉ l) (hc : CSg μ a o n s) : CSg ν a o n s := by
  unfold CSg at hc ⊢
  simpa only [EX_I h ha, EX_I h ho] using hc
theorem EX_CPa {l : List Nat} {μ ν : PM} {pa : Nat → Nat} (h : EX l μ ν) (hl : ∀ a, a ∈ l → ¬ (11000000 ≤ a ∧ a < 39000000)) (hC : CPa μ pa) : CPa ν pa := by
  have e : ∀ a j, 11000000 ≤ a → a < 39000000 → rI ν a j = rI μ a j := fun a j h1 h2 => h.1 a j (fun q => hl a q ⟨h1, h2⟩)
  unfold CPa at hC ⊢
  simpa (disch := omega) only [e] using hC
theorem EX_CLa {l : List Nat} {μ ν : PM} {lw : LW} (h : EX l μ ν) (hl : ∀ a, a ∈ l → ¬ (11000000 ≤ a ∧ a < 39000000)) (hC : CLa μ lw) : CLa ν lw := by
  have e : ∀ a j, 11000000 ≤ a → a < 39000000 → rI ν a j = rI μ a j := fun a j h1 h2 => h.1 a j (fun q => hl a q ⟨h1, h2⟩)
  unfold CLa cdCa at hC ⊢
  simpa (disch := omega) only [e] using hC
theorem EX_CPb {l : List Nat} {μ ν : PM} {pa : Nat → Nat} (h : EX l μ ν) (hl : ∀ a, a ∈ l → ¬ (11000000 ≤ a ∧ a < 39000000)) (hC : CPb μ pa) : CPb ν pa := by
  have e : ∀ a j, 11000000 ≤ a → a < 39000000 → rI ν a j = rI μ a j := fun a j h1 h2 => h.1 a j (fun q => hl a q ⟨h1, h2⟩)
  unfold CPb at hC ⊢
  simpa (disch := omega) only [e] using hC
theorem EX_CLb {l : List Nat} {μ ν : PM} {lw : LW} (h : EX l μ ν) (hl : ∀ a, a ∈ l → ¬ (11000000 ≤ a ∧ a < 39000000)) (hC : CLb μ lw) : CLb ν lw := by
  have e : ∀ a j, 11000000 ≤ a → a < 39000000 → rI ν a j = rI μ a j := fun a j h1 h2 => h.1 a j (fun q => hl a q ⟨h1, h2⟩)
  unfold CLb cdCb at hC ⊢
  simpa (disch := omega) only [e] using hC
/-- the party that is played -/
def CPt (μ : PM) (pa : Nat → Nat) (lw : LW) : Prop := (rR μ 2000010 2 = some 11000005 ∧ rR μ 2000010 3 = some 25000005 ∧ CPa μ pa ∧ CLa μ lw) ∨ (rR μ 2000010 2 = some 25000005 ∧ rR μ 2000010 3 = some 11000005 ∧ CPb μ pa ∧ CLb μ lw)
def CPs (μ : PM) (n : Nat) (un : List (Nat → Nat)) : Prop := rI μ 41000006 2 = nI un.length ∧ ∃ nx, nx < 20 ∧ rI μ 41000006 1 = nI nx ∧ ∀ i, i < un.length → CSg μ (pstA ((nx + 19 - i) % 20)) (pstO ((nx + 19 - i) % 20)) n (un.getD i (fun _ => 0))
def CMk (μ : PM) (n : Nat) (mk : Nat → Option (Nat → Nat)) : Prop := ∃ bits, bits < 16 ∧ rI μ 2000010 7 = nI bits ∧ ∀ m, m < 4 → (mk m = none → bt bits m = 0) ∧ ∀ t, mk m = some t → bt bits m = 1 ∧ CSg μ (mrkA m) (mrkO m) n t
def CLn (μ : PM) (l : List Nat) : Prop := rI μ 2000010 9 = nI l.length ∧ ∀ i, i < l.length → rI μ 84000720 i = nI (l.getD i 0)
def CTp (μ : PM) (tp : List Nat) : Prop := rI μ 3000009 1 = nI tp.length ∧ ∀ i, i < tp.length → rI μ 4100022 i = nI (tp.getD i 0)
theorem EX_CPt {l : List Nat} {μ ν : PM} {pa : Nat → Nat} {lw : LW} (h : EX l μ ν) (hl : ∀ a, a ∈ l → ¬ (11000000 ≤ a ∧ a < 39000000)) (hC : CPt μ pa lw) : CPt ν pa lw := by
  rcases hC with ⟨h1, h2, h3, h4⟩ | ⟨h1, h2, h3, h4⟩
  · exact Or.inl ⟨(EX_R h).trans h1, (EX_R h).trans h2, EX_CPa h hl h3, EX_CLa h hl h4⟩
  · exact Or.inr ⟨(EX_R h).trans h1, (EX_R h).trans h2, EX_CPb h hl h3, EX_CLb h hl h4⟩
theorem EX_CPs {l : List Nat} {μ ν : PM} {n : Nat} {un : List (Nat → Nat)} (h : EX l μ ν) (hl : ∀ a, a ∈ l → ¬ (41000000 ≤ a ∧ a < 83000000)) (hC : CPs μ n un) : CPs ν n un := by
  obtain ⟨h1, nx, h2, h3, h4⟩ := hC
  refine ⟨(EX_I h (fun q => hl _ q (by omega))).trans h1, nx, h2, (EX_I h (fun q => hl _ q (by omega))).trans h3, fun i hi => ?_⟩
  refine EX_CSg h (fun q => hl _ q ?_) (fun q => hl _ q ?_) (h4 i hi)
  · unfold pstA; omega
  · unfold pstO; omega
theorem EX_CMk {l : List Nat} {μ ν : PM} {n : Nat} {mk : Nat → Option (Nat → Nat)} (h : EX l μ ν) (h7 : rI ν 2000010 7 = rI μ 2000010 7) (hl : ∀ a, a ∈ l → ¬ (102000000 ≤ a ∧ a < 110000000)) (hC : CMk μ n mk) : CMk ν n mk := by
  obtain ⟨b, h1, h2, h3⟩ := hC
  refine ⟨b, h1, h7.trans h2, fun m hm => ⟨(h3 m hm).1, fun t ht => ⟨((h3 m hm).2 t ht).1, ?_⟩⟩⟩
  refine EX_CSg h (fun q => hl _ q ?_) (fun q => hl _ q ?_) ((h3 m hm).2 t ht).2
  · unfold mrkA; omega
  · unfold mrkO; omega
theorem EX_CLn {l : List Nat} {μ ν : PM} {t : List Nat} (h : EX l μ ν) (h1 : 2000010 ∉ l) (h2 : 84000720 ∉ l) (hC : CLn μ t) : CLn ν t := by
  unfold CLn at hC ⊢
  simpa only [EX_I h h1, EX_I h h2] using hC
theorem EX_CTp {l : List Nat} {μ ν : PM} {t : List Nat} (h : EX l μ ν) (h1 : 3000009 ∉ l) (h2 : 4100022 ∉ l) (hC : CTp μ t) : CTp ν t := by
  unfold CTp at hC ⊢
  simpa only [EX_I h h1, EX_I h h2] using hC
/-- b's stand comes to a -/
def tk (μ : PM) (a o b p : Nat) : PM := wI (wI (wI (cI μ p 0 o 0 7) a 1 (rI μ b 1)) a 2 (rI μ b 2)) a 3 (rI μ b 3)
theorem tk_EX (μ : PM) (a o b p : Nat) : EX [o, a] μ (tk μ a o b p) := EX_mo (EX_tr (EX_tr (EX_tr (EX_cI μ p 0 o 0 7) (EX_wI _ a 1 _)) (EX_wI _ a 2 _)) (EX_wI _ a 3 _)) (by
  intro x hx
  simp only [List.mem_append, List.mem_cons, List.not_mem_nil, or_false] at hx ⊢
  omega)
theorem tk_CSg {μ : PM} {a o b p n : Nat} {s : Nat → Nat} (hao : a ≠ o) (hn : n ≤ 7) (h : CSg μ b p n s) : CSg (tk μ a o b p) a o n s := by
  obtain ⟨h1, h2, h3, h4⟩ := h
  unfold tk
  refine ⟨fun k hk => ?_, ?_, ?_, ?_⟩
  · rw [rI_wI, if_neg (fun q => hao q.1), rI_wI, if_neg (fun q => hao q.1), rI_wI, if_neg (fun q => hao q.1), rI_cI, if_pos ⟨rfl, by omega, by omega⟩]
    simpa using h1 k hk
  · simp only [rI_wI, and_false, if_false, and_self, if_true, h2, Nat.reduceEqDiff]
  · simp only [rI_wI, and_false, if_false, and_self, if_true, h3, Nat.reduceEqDiff]
  · simp only [rI_wI, and_false, if_false, and_self, if_true, h4, Nat.reduceEqDiff]
section T1
variable {d : Nat} {μ : PM} {Q : Option Value → PM → Prop}
theorem c83 {a o b p : Nat} (ha : a % 100 = 8) (hb : b % 100 = 8) (hab : a ≠ b) (hob : o ≠ b) (ho : o % 100 = 20) (hp : p % 100 = 20) (ho2 : o / 100 % 10000 = 7) (hp2 : p / 100 % 10000 = 7) (ho3 : 2000000 ≤ o) (hp3 : 2000000 ≤ p) (h1 : rR μ a 0 = some o) (h2 : rR μ b 0 = some p) :
    R d 83 0 [some (.ref a), some (.ref b)] [] μ Q = Q none (tk μ a o b p) := by
  simp (disch := first | assumption | omega) only [r83_0, r83_1, r83_4, r83_5, r83_6, r83_9, r83_10, r83_12, r83_15, r83_16, r83_17, r83_20, r83_23, r83_24, r83_25, r83_28, r83_31, r83_32, r83_33, r83_36, r83_39, rI_wI, rL_wL, rR_wR, rI_wL, rI_wR, rL_wI, rL_wR, rR_wI, rR_wL, va_rf_some, va_rf_none, Option.toList_some, Option.toList_none, List.nil_append, List.cons_append, true_and, and_true, false_and, and_false, and_self, if_true, if_false, not_true_eq_false, not_false_eq_true, or_false, false_or, or_true, true_or, or_self, ite_true, ite_false, Option.some.injEq, reduceCtorEq, Nat.reduceMod, Nat.reduceDiv, Nat.reduceLeDiff, Nat.reduceEqDiff, Nat.reduceAdd, Nat.reduceMul, Nat.reduceSub, Nat.reduceLT, sw_nil, sw_int, sw_long, sw_ref, li, lo, nI_m1, ng_eq, nn_eq, en_eq, ng_le, ng_lt, Int32.neg_neg, nI_add, pk_mul, nI_clampO, nI_ltO, nI_leO, nI_eqO, nI_subO, nle_t, nle_f, nlt_t, nlt_f, neq_f, h1, h2, ha, hb, ho, hp, ho2, hp2, ho3, hp3, rR_cI, rI_cI, hab, hob, neq_f, nle_t, Int32.lt_irrefl, Nat.zero_add, tk, Nat.le_refl, Nat.zero_le]
end T1
