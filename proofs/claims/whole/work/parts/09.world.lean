/-! WHAT THE REAL HEAP HOLDS OF A PURE MEMORY -/
def kwT : List Int64 := [7168366, 512970547566, 1952541804, 1852138347, 440006961524, 1936292453, 1936484720, 1752132708, 1953066341, 465491552104, 1885432178, 31935733760681324, 1717660780, 440006569588, 499967685221, 1885954923, 500186639987, 482854660462, 422607680100, 123580728896627, 7563385, 126943922974835, 1668246628, 7237492, 6385252, 28530, 1937007984, 1885430629]
def kwF (j : Nat) : Int64 := kwT.getD j 0
def TB : List Cond := lw_tbl.filter goodWord
theorem tb_of {w : Cond} (h : w ∈ lw_tbl) (hg : goodWord w = true) : w ∈ TB := List.mem_filter.mpr ⟨h, hg⟩
/-- classes and slots, array classes by tag, the first address of what is made, the made words' and the script's address, the script's length and ints -/
abbrev GG : Type := va_G × (Nat → ClassId) × Nat × Nat × Nat × Nat × (Nat → Int32)
def gD (g : GG) : va_G := g.1
def gT0 (g : GG) : Nat → ClassId := g.2.1
def gB (g : GG) : Nat := g.2.2.1
def gK (g : GG) : Nat := g.2.2.2.1
def gS (g : GG) : Nat := g.2.2.2.2.1
def gL (g : GG) : Nat := g.2.2.2.2.2.1
def gX (g : GG) : Nat → Int32 := g.2.2.2.2.2.2
def sA (g : GG) : Nat := gL g * 100 + 20
def gA (g : GG) : Nat → Prop := fun q => gB g ≤ q
def ad (g : GG) (a : Nat) : Nat := if a / 1000000 = 0 then gS g else if a / 1000000 = 1 then gK g else gB g + (a / 1000000 - 2)
def tr (g : GG) (v : Value) : Value := match v with
  | .ref a => .ref (ad g a)
  | v => v
theorem tr_int (g : GG) (x : Int32) : tr g (.int x) = .int x := rfl
theorem tr_long (g : GG) (x : Int64) : tr g (.long x) = .long x := rfl
theorem tr_null (g : GG) : tr g .null = .null := rfl
theorem tr_ref (g : GG) (a : Nat) : tr g (.ref a) = .ref (ad g a) := rfl
theorem tr_cat (g : GG) (v : Value) : (tr g v).category = v.category := by cases v <;> rfl
theorem tr_rf (g : GG) (o : Option Nat) : tr g (va_rf o) = va_rf (o.map (ad g)) := by cases o <;> rfl
theorem tr_sw (g : GG) (st : List Value) : ((st.map (tr g)).map fun v => v.category).sum = sw st := by
  unfold sw
  rw [List.map_map]
  congr 1
  exact List.map_congr_left (fun v _ => tr_cat g v)
def tyG (t : Nat) : FieldType := match t with
  | 20 => .int
  | 21 => .long
  | 22 => .char
  | 23 => .boolean
  | _ => .object "ChinRow$Stand"
def TY (g : GG) : List (ClassId × FieldType) := [(gT0 g 20, .int), (gT0 g 21, .long), (gT0 g 22, .char), (gT0 g 23, .boolean), (gT0 g 24, .object "ChinRow$Stand")]
def fsO (g : GG) (μ : PM) (a c : Nat) : List Value := (List.range (NN c)).map (fun k => tr g (fv μ a (tyN c k) k))
def arO (g : GG) (μ : PM) (a t : Nat) : vp_A := match t with
  | 20 => (a / 100 % 10000, .inl (fun j => rI μ a j))
  | 21 => (a / 100 % 10000, .inr (.inl (fun j => rL μ a j)))
  | 22 => (a / 100 % 10000, .inl (fun j => rI μ a j))
  | 23 => (a / 100 % 10000, .inl (fun j => rI μ a j))
  | _ => (a / 100 % 10000, .inr (.inr (.inr (.inr (fun j => (rR μ a j).map (ad g))))))
def ceO (g : GG) (μ : PM) (a : Nat) : va_E := if a % 100 < 12 then .inr (a % 100, fsO g μ a (a % 100)) else .inl (gT0 g (a % 100), arO g μ a (a % 100))
def wsO (g : GG) (μ : PM) : va_W := (aS μ).map (fun a => (ad g a, ceO g μ a))
def okA (as : List Nat) : Prop := ∀ (k a : Nat), as[k]? = some a → a / 1000000 = k + 2 ∧ (a % 100 < 12 ∨ (20 ≤ a % 100 ∧ a % 100 ≤ 24))
def okr (g : GG) (as : List Nat) (a : Nat) : Prop := a ∈ as ∨ a = kwA ∨ a = sA g
def okS (g : GG) (as : List Nat) (st : List Value) : Prop := ∀ a, Value.ref a ∈ st → okr g as a
def okL (g : GG) (as : List Nat) (ls : PL) : Prop := ∀ a, some (Value.ref a) ∈ ls → okr g as a
def okM (g : GG) (μ : PM) : Prop := ∀ a j c, rR μ a j = some c → okr g (aS μ) c
def SF (g : GG) (s : State) : Prop := va_K (gD g) vwCl (TY g) s ∧ (∀ q ∈ mL, q.2.2.2.2 ≠ 0 → va_Nw (Cond.methodLinkNest (oC q.1) q.2.1 (yN q.2.2.1) "ChinRow") s) ∧ va_Nw (Cond.fieldLinkNest "ChinRow$Lexer" 55 "ChinRow" "KEYWORDS" "[J" "ChinRow") s ∧ va_AO "ChinRow$Stand" s ∧
  va_Z "ChinRow" "KEYWORDS" "[J" (.ref (gK g)) (gA g) s s.heap ∧ va_T .long (gK g) 28 (fun j => .long (kwF j)) (gA g) s s.heap ∧ va_T .int (gS g) (gL g) (fun j => .int (gX g j)) (gA g) s s.heap ∧ gB g ≤ s.heap.size ∧ gL g ≤ 3584
def HF (g : GG) (μ : PM) (H : Heap) : Prop := va_P (gD g) vwCl (wsO g μ) H ∧ va_D (gA g) (wsO g μ) ∧ okA (aS μ) ∧ okM g μ ∧ (∀ j, j < 28 → rL μ kwA j = kwF j) ∧ ∀ j, j < gL g → rI μ (sA g) j = gX g j
theorem SF_to {g : GG} {s U : State} {H : Heap} {locs : List Loc} (h : SF g s) (hS : va_S (gA g) s.heap H locs) (hU : U.heap = H) (hW : s.WarmedH U.vm) : SF g U := by
  obtain ⟨h1, h2, h3, h4, h5, h6, h7, h8, h9⟩ := h
  have hv := hW.alike
  refine ⟨va_K.moved hv h1, fun q hq hn => va_Nw.warmM hW (h2 q hq hn), va_Nw.warmF hW h3, va_AO.moved hv h4, ?_, ?_, ?_, ?_, h9⟩
  · rw [hU]; exact va_Z.moved hv (h5.kept hS.2.1)
  · rw [hU]; exact va_T.moved hv (h6.kept hS.2.1)
  · rw [hU]; exact va_T.moved hv (h7.kept hS.2.1)
  · rw [hU]; exact Nat.le_trans h8 hS.1
theorem SF_vm {g : GG} {s U : State} (h : SF g s) (hU : U.heap = s.heap) (hv : s.vm = U.vm) : SF g U := by
  obtain ⟨h1, h2, h3, h4, h5, h6, h7, h8, h9⟩ := h
  have ha : s.vm.Alike U.vm := by rw [hv]; exact Vm.Alike.refl _
  refine ⟨va_K.moved ha h1, fun q hq hn => va_Nw.same rfl hv (h2 q hq hn), va_Nw.same rfl hv h3, va_AO.moved ha h4, ?_, ?_, ?_, ?_, h9⟩
  · rw [hU]; exact va_Z.moved ha h5
  · rw [hU]; exact va_T.moved ha h6
  · rw [hU]; exact va_T.moved ha h7
  · rw [hU]; exact h8
theorem sA_div (g : GG) (h : gL g ≤ 3584) : sA g / 1000000 = 0 := by unfold sA; omega
theorem sA_mod (g : GG) : sA g % 100 = 20 := by unfold sA; omega
theorem sA_len (g : GG) (h : gL g ≤ 3584) : sA g / 100 % 10000 = gL g := by unfold sA; omega
theorem wsO_get {g : GG} {μ : PM} {k a : Nat} (h : (aS μ)[k]? = some a) : (wsO g μ)[k]? = some (ad g a, ceO g μ a) := by
  unfold wsO; rw [List.getElem?_map, h]; rfl
theorem ad_made {g : GG} {as : List Nat} (h : okA as) {k a : Nat} (hk : as[k]? = some a) : ad g a = gB g + k := by
  have := (h k a hk).1
  unfold ad
  rw [if_neg (by omega), if_neg (by omega)]
  omega
theorem okA_inj {as : List Nat} (h : okA as) {k j a : Nat} (hk : as[k]? = some a) (hj : as[j]? = some a) : k = j := by
  have h1 := (h k a hk).1
  have h2 := (h j a hj).1
  omega
/-- another memory that differs at one made address alone -/
theorem wsO_set {g : GG} {μ μ' : PM} {k a : Nat} (hA : okA (aS μ)) (hk : (aS μ)[k]? = some a) (he : aS μ' = aS μ) (hd : ∀ b, b ≠ a → ceO g μ' b = ceO g μ b) : (wsO g μ).set k (ad g a, ceO g μ' a) = wsO g μ' := by
  apply List.ext_getElem?
  intro j
  rw [List.getElem?_set]
  by_cases h : k = j
  · subst h
    have hl : k < (wsO g μ).length := by unfold wsO; rw [List.length_map]; exact (List.getElem?_eq_some_iff.mp hk).1
    rw [if_pos rfl, if_pos hl]
    exact (wsO_get (by rw [he]; exact hk)).symm
  · rw [if_neg h]
    unfold wsO
    rw [List.getElem?_map, List.getElem?_map, he]
    cases hj : (aS μ)[j]? with
    | none => rfl
    | some b =>
      have hb : b ≠ a := fun e => h (okA_inj hA hk (by rw [hj, e]))
      simp only [Option.map_some, hd b hb]
theorem fv_ne {μ : PM} {a b j : Nat} {x : Int32} (h : b ≠ a) (ty : FieldType) (k : Nat) : fv (wI μ a j x) b ty k = fv μ b ty k := by
  have : ¬ (a = b ∧ j = k) := fun q => h q.1.symm
  cases ty <;> simp [fv, rI, rL, rR, wI, this]
theorem fv_neL {μ : PM} {a b j : Nat} {x : Int64} (h : b ≠ a) (ty : FieldType) (k : Nat) : fv (wL μ a j x) b ty k = fv μ b ty k := by
  have : ¬ (a = b ∧ j = k) := fun q => h q.1.symm
  cases ty <;> simp [fv, rI, rL, rR, wL, this]
theorem fv_neR {μ : PM} {a b j : Nat} {x : Option Nat} (h : b ≠ a) (ty : FieldType) (k : Nat) : fv (wR μ a j x) b ty k = fv μ b ty k := by
  have : ¬ (a = b ∧ j = k) := fun q => h q.1.symm
  cases ty <;> simp [fv, rI, rL, rR, wR, this]
theorem ceO_wI {g : GG} {μ : PM} {a j : Nat} {x : Int32} (b : Nat) (h : b ≠ a) : ceO g (wI μ a j x) b = ceO g μ b := by
  have e : ∀ k, rI (wI μ a j x) b k = rI μ b k := fun k => by simp [rI, wI, Ne.symm h]
  have e2 : ∀ k, rL (wI μ a j x) b k = rL μ b k := fun k => rfl
  have e3 : ∀ k, rR (wI μ a j x) b k = rR μ b k := fun k => rfl
  unfold ceO fsO arO
  simp only [fv_ne h, e, e2, e3]
theorem ceO_wL {g : GG} {μ : PM} {a j : Nat} {x : Int64} (b : Nat) (h : b ≠ a) : ceO g (wL μ a j x) b = ceO g μ b := by
  have e : ∀ k, rI (wL μ a j x) b k = rI μ b k := fun k => rfl
  have e2 : ∀ k, rL (wL μ a j x) b k = rL μ b k := fun k => by simp [rL, wL, Ne.symm h]
  have e3 : ∀ k, rR (wL μ a j x) b k = rR μ b k := fun k => rfl
  unfold ceO fsO arO
  simp only [fv_neL h, e, e2, e3]
theorem ceO_wR {g : GG} {μ : PM} {a j : Nat} {x : Option Nat} (b : Nat) (h : b ≠ a) : ceO g (wR μ a j x) b = ceO g μ b := by
  have e : ∀ k, rI (wR μ a j x) b k = rI μ b k := fun k => rfl
  have e2 : ∀ k, rL (wR μ a j x) b k = rL μ b k := fun k => rfl
  have e3 : ∀ k, rR (wR μ a j x) b k = rR μ b k := fun k => by simp [rR, wR, Ne.symm h]
  unfold ceO fsO arO
  simp only [fv_neR h, e, e2, e3]
theorem ceO_cI {g : GG} {μ : PM} {a sp b dp n : Nat} (c : Nat) (h : c ≠ b) : ceO g (cI μ a sp b dp n) c = ceO g μ c := by
  have e : ∀ k, rI (cI μ a sp b dp n) c k = rI μ c k := fun k => by simp [rI, cI, Ne.symm h]
  have e2 : ∀ k, rL (cI μ a sp b dp n) c k = rL μ c k := fun k => rfl
  have e3 : ∀ k, rR (cI μ a sp b dp n) c k = rR μ c k := fun k => rfl
  have e4 : ∀ ty k, fv (cI μ a sp b dp n) c ty k = fv μ c ty k := fun ty k => by cases ty <;> simp [fv, e, e2, e3]
  unfold ceO fsO arO
  simp only [e4, e, e2, e3]
theorem ceO_nw {g : GG} {μ : PM} {a : Nat} (b : Nat) (h : b ≠ a) : ceO g (nw μ a) b = ceO g μ b := by
  have e : ∀ k, rI (nw μ a) b k = rI μ b k := fun k => by simp [rI, nw, Ne.symm h]
  have e2 : ∀ k, rL (nw μ a) b k = rL μ b k := fun k => by simp [rL, nw, Ne.symm h]
  have e3 : ∀ k, rR (nw μ a) b k = rR μ b k := fun k => by simp [rR, nw, Ne.symm h]
  have e4 : ∀ ty k, fv (nw μ a) b ty k = fv μ b ty k := fun ty k => by cases ty <;> simp [fv, e, e2, e3]
  unfold ceO fsO arO
  simp only [e4, e, e2, e3]
