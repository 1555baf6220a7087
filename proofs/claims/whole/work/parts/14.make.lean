/-! steps that make -/
def okT (t : FieldType) : Bool := match t with
  | .int => true
  | .boolean => true
  | .long => true
  | .object _ => true
  | .array _ => true
  | _ => false
set_option maxRecDepth 100000 in
theorem tb_tyok : ∀ c, c < 12 → ∀ k, k < NN c → okT (tyN c k) = true := by decide +kernel
theorem fv_new {μ : PM} {a : Nat} {ty : FieldType} {k : Nat} (h : okT ty = true) : fv (nw μ a) a ty k = defaultValue ty := by
  cases ty <;> first | (simp [okT] at h; done) | (simp [fv, rI, rL, rR, nw, va_rf, defaultValue])
theorem nx_mod (μ : PM) {n t : Nat} (ht : t < 100) : nx μ n t % 100 = t := by unfold nx; omega
theorem nx_len (μ : PM) {n t : Nat} (ht : t < 100) (hn : n < 10000) : nx μ n t / 100 % 10000 = n := by unfold nx; omega
theorem nx_div (μ : PM) {n t : Nat} (ht : t < 100) (hn : n < 10000) : nx μ n t / 1000000 = (aS μ).length + 2 := by unfold nx; omega
theorem okr_more {g : GG} {as : List Nat} {a b : Nat} (h : okr g as b) : okr g (as ++ [a]) b := by
  rcases h with h | h
  · exact Or.inl (List.mem_append_left _ h)
  · exact Or.inr h
theorem wsO_nw {g : GG} {μ : PM} {a : Nat} (hA : okA (aS μ)) (ha : a / 1000000 = (aS μ).length + 2) : wsO g (nw μ a) = wsO g μ ++ [(ad g a, ceO g (nw μ a) a)] := by
  unfold wsO
  rw [aS_nw, List.map_append, List.map_singleton]
  congr 1
  apply List.map_congr_left
  intro b hb
  have hne : b ≠ a := by
    obtain ⟨k, hk⟩ := List.getElem?_of_mem hb
    have h1 := (hA k b hk).1
    have h2 := (List.getElem?_eq_some_iff.mp hk).1
    intro q
    rw [q, ha] at h1
    omega
  rw [ceO_nw b hne]
theorem slS_nw {μ : PM} {a : Nat} : slS (nw μ a) = slS μ + slA a := by
  unfold slS
  rw [aS_nw, List.map_append, List.sum_append]
  simp
/-- the heap's size is told by what has been made -/
theorem H_size {g : GG} {μ : PM} {H : Heap} {s : State} {locs : List Loc} {K0 cells : Nat} (hB : s.heap.size = gB g + K0) (hH : HF g μ H) (hS : va_S (gA g) s.heap H locs) (hK : K0 + cells = (aS μ).length) (hz : H.size ≤ s.heap.size + cells) : H.size = gB g + (aS μ).length := by
  have h1 := hS.1
  by_cases h0 : (aS μ).length = 0
  · omega
  · have hl : (aS μ).length - 1 < (aS μ).length := by omega
    have hk : (aS μ)[(aS μ).length - 1]? = some (aS μ)[(aS μ).length - 1] := List.getElem?_eq_getElem hl
    have h2 := (hH.1 _ _ (wsO_get (g := g) hk)).lt
    have h3 := ad_made (g := g) hH.2.2.1 hk
    simp only at h2
    omega
theorem HF_new {g : GG} {μ : PM} {H H1 : Heap} {s : State} {locs : List Loc} {a t n : Nat} (hg : gL g ≤ 3584) (hgs : gB g ≤ s.heap.size) (hH : HF g μ H) (hS : va_S (gA g) s.heap H locs) (hz : H.size = gB g + (aS μ).length) (ht : t < 12 ∨ (20 ≤ t ∧ t ≤ 24)) (hn : n < 10000) (ha : a = nx μ n t)
    (z1 : H1.size = H.size + 1) (o1 : ∀ q, q < H.size → H1[q]? = H[q]?) (hat : va_at (gD g) vwCl (H.size, ceO g (nw μ a) a) H1) : HF g (nw μ a) H1 ∧ va_S (gA g) s.heap H1 locs ∧ ad g a = H.size ∧ 2000000 ≤ a := by
  have hd : a / 1000000 = (aS μ).length + 2 := by rw [ha]; exact nx_div μ (by omega) hn
  have hm : a % 100 = t := by rw [ha]; exact nx_mod μ (by omega)
  have had : ad g a = H.size := by
    unfold ad
    rw [if_neg (by omega), if_neg (by omega), hz]
    omega
  have hbig : 2000000 ≤ a := by omega
  obtain ⟨hP, hD, hA, hM, hk, hs⟩ := hH
  have hkk : ∀ (k : Nat) (x : Nat × va_E), (wsO g μ)[k]? = some x → H1[x.1]? = H[x.1]? := fun k x hx => o1 x.1 ((hP k x hx).lt)
  refine ⟨⟨?_, ?_, ?_, ?_, ?_, ?_⟩, ⟨Nat.le_trans hS.1 (by omega), fun x h1 h2 => (o1 x (Nat.lt_of_lt_of_le h1 hS.1)).trans (hS.2.1 x h1 h2), hS.2.2⟩, had, hbig⟩
  · rw [wsO_nw hA hd, had]
    refine (hP.kept hkk).app (fun k x hx => ?_)
    have hz : k < 1 := (List.getElem?_eq_some_iff.mp hx).1
    rw [show k = 0 by omega] at hx
    cases hx
    exact hat
  · rw [wsO_nw hA hd, had]
    exact hD.push hP rfl (show gB g ≤ H.size by omega)
  · rw [aS_nw]
    intro k b hb
    by_cases hl : k < (aS μ).length
    · rw [List.getElem?_append_left hl] at hb
      exact hA k b hb
    · rw [List.getElem?_append_right (by omega)] at hb
      have hz : k - (aS μ).length < 1 := (List.getElem?_eq_some_iff.mp hb).1
      rw [show k - (aS μ).length = 0 by omega] at hb
      cases hb
      exact ⟨by omega, by rw [hm]; exact ht⟩
  · intro b j d hr
    have : rR (nw μ a) b j = if a = b then none else rR μ b j := rfl
    rw [this] at hr
    split at hr
    · cases hr
    · rw [aS_nw]; exact okr_more (hM b j d hr)
  · intro j hj
    have : rL (nw μ a) kwA j = if a = kwA then 0 else rL μ kwA j := rfl
    rw [this, if_neg (fun q => by rw [q] at hbig; exact absurd hbig (by decide))]
    exact hk j hj
  · intro j hj
    have : rI (nw μ a) (sA g) j = if a = sA g then 0 else rI μ (sA g) j := rfl
    rw [this, if_neg (fun q => by have := sA_div g hg; rw [← q] at this; omega)]
    exact hs j hj
section STP
variable {g : GG} {p : Program} {l : Launch} {e : Env} {Rm : Room} {s : State} {m : MethodId} {args : Array Value} {below : List Frame} {meth : Method} {c : Code} {Q : State → Prop} {y K0 S0 pc len pc' : Nat} {ls ls' : PL} {st st' : List Value} {μ μ' : PM}
theorem k_new {i : Nat} (F : Fr g p s m args meth c y) (hB : s.heap.size = gB g + K0) (hd : decode (bN y) pc = .ok (.new i, len)) (h : exI y (.new i) len pc ls st μ = some (.inl (pc', ls', st', μ'))) (hc : (aS μ').length ≤ K0 + Rm.cells) (hs : slS μ' ≤ S0 + Rm.slots) (k : KC g p l e Rm s m args below meth c Q y K0 S0 pc' ls' st' μ') : KC g p l e Rm s m args below meth c Q y K0 S0 pc ls st μ := by
  obtain ⟨rfl, h1⟩ := ck_some h
  split at h1
  · rename_i cc hl
    obtain ⟨rfl, rfl, rfl, rfl⟩ := nxt_inj h1
    obtain ⟨f1, f2⟩ := lookC_spec hl
    intro H locs cells slots A hH hS hK hL hlv hst hls
    obtain ⟨t1, t2⟩ := tb_make cc f2
    have hKn := F.2.2.2.2.2.1.1.1 cc _ (tb_obj cc f2)
    rw [aS_nw, List.length_append] at hc
    rw [slS_nw] at hs
    have hsl : slA (nx μ 0 cc) = NN cc := by unfold slA; rw [nx_mod μ (by omega), if_pos f2]
    rw [hsl] at hs
    simp only [List.length_singleton] at hc
    intro T hT X
    have hz := H_size hB hH hS hK (by rw [← hT]; exact X.heapSize)
    refine (W.newcK F.1 F.2.1 F.2.2.2.1 (F.2.2.2.2.1 _ f1) (F.2.2.2.2.1 _ (tb_of (tb_in t1) rfl)) (F.2.2.2.2.1 _ (tb_of (tb_in t2) rfl)) rfl hd (by omega) (by omega) hKn.2.1 rfl (fun H1 kC hkC e1 z1 o1 => ?_) : W p l e Rm s m args below meth c H locs cells slots Q (F0 m pc A (st.map (tr g)))) T hT X
    obtain ⟨hH1, hS1, had, hbig⟩ := HF_new (a := nx μ 0 cc) (t := cc) (n := 0) F.2.2.2.2.2.1.2.2.2.2.2.2.2.2 F.2.2.2.2.2.1.2.2.2.2.2.2.2.1 hH hS hz (by omega) (by omega) rfl z1 o1 (by
      rw [ceO_obj (nx_mod μ (by omega)) f2]
      refine ⟨_, tb_obj cc f2, (u_born (tyN cc) F.2.2.2.2.1 (lay_in f2) hKn hkC e1 (tb_ty cc f2)).to (fun j hj => ?_)⟩
      have hj : j < NN cc := hj
      unfold vp_V
      rw [List.getD_eq_getElem?_getD, fsO_at hj, fv_new (tb_tyok cc f2 j hj)]
      have hok := tb_tyok cc f2 j hj
      cases hty : tyN cc j <;> rw [hty] at hok <;> first | (simp [okT] at hok; done) | rfl)
    show W p l e Rm s m args below meth c H1 locs (cells + 1) (slots + NN cc) Q (F0 m (pc + 3) A (.ref H.size :: st.map (tr g)))
    rw [← had]
    refine k H1 locs (cells + 1) (slots + NN cc) A hH1 hS1 (by rw [aS_nw, List.length_append]; simp; omega) (by rw [slS_nw]; unfold slA; rw [nx_mod μ (by omega)]; rw [if_pos f2]; omega) hlv (fun b hb => ?_) (fun b hb => by rw [aS_nw]; exact okr_more (hls b hb))
    rcases List.mem_cons.mp hb with h9 | h9
    · cases h9; rw [aS_nw]; exact Or.inl (by simp)
    · rw [aS_nw]; exact okr_more (hst b (h9))
  · cases h1
theorem cA_prim {t : FieldType} {cA : ClassId} {k : Nat} (hK : va_K (gD g) vwCl (TY g) s) {q : ClassId × FieldType} (hk : (TY g)[k]? = some q) (hq : q.2 = t) (ht : va_RA s q.1 t = (s.vm.findClass ("[" ++ t.toString) = some q.1)) (h : s.vm.findClass ("[" ++ t.toString) = some cA) : cA = q.1 := by
  have h1 := (hK.2 k q hk).2
  rw [hq, ht, h] at h1
  exact Option.some.inj h1
theorem k_newa {at0 : ArrayType} (F : Fr g p s m args meth c y) (hB : s.heap.size = gB g + K0) (hd : decode (bN y) pc = .ok (.newarray at0, len)) (h : exI y (.newarray at0) len pc ls st μ = some (.inl (pc', ls', st', μ'))) (hc : (aS μ').length ≤ K0 + Rm.cells) (hs : slS μ' ≤ S0 + Rm.slots) (k : KC g p l e Rm s m args below meth c Q y K0 S0 pc' ls' st' μ') : KC g p l e Rm s m args below meth c Q y K0 S0 pc ls st μ := by
  obtain ⟨rfl, h1⟩ := ck_some h
  split at h1
  · rename_i gt hl
    obtain ⟨n, t, rfl, h2⟩ := pI_some h1
    obtain ⟨⟨hn0, hn1⟩, h3⟩ := ck_some h2
    obtain ⟨rfl, rfl, rfl, rfl⟩ := nxt_inj h3
    intro H locs cells slots A hH hS hK hL hlv hst hls
    rw [aS_nw, List.length_append] at hc
    rw [slS_nw] at hs
    have hgt : 20 ≤ gt ∧ gt ≤ 24 := by cases at0 <;> simp [tgT] at hl <;> omega
    have hsl : slA (nx μ n.toNatClampNeg gt) = n.toNatClampNeg := by unfold slA; rw [nx_mod μ (by omega), if_neg (by omega), nx_len μ (by omega) hn1]
    rw [hsl] at hs
    simp only [List.length_singleton] at hc
    have harr : (Cond.arrayClass (newarray.typeOf at0)).before args s = true := by
      cases at0 <;> simp [tgT] at hl
      · exact F.2.2.2.2.1 _ w_abool
      · exact F.2.2.2.2.1 _ w_achar
      · exact F.2.2.2.2.1 _ w_aint
      · exact F.2.2.2.2.1 _ w_along
    have hby : n.toNatClampNeg * componentBytes (newarray.typeOf at0) ≤ 536870912 := by
      have : componentBytes (newarray.typeOf at0) ≤ 8 := by cases at0 <;> decide
      calc n.toNatClampNeg * componentBytes (newarray.typeOf at0) ≤ 10000 * 8 := Nat.mul_le_mul (by omega) this
        _ ≤ 536870912 := by decide
    intro T hT X
    have hz := H_size hB hH hS hK (by rw [← hT]; exact X.heapSize)
    refine (va_newaK F.1 F.2.1 harr rfl hd rfl hn0 rfl hby (by omega) (by omega) rfl (fun H1 cA e1 z1 o1 hAr hNm => ?_) : W p l e Rm s m args below meth c H locs cells slots Q (F0 m pc A (.int n :: t.map (tr g)))) T hT X
    obtain ⟨hH1, hS1, had, hbig⟩ := HF_new (a := nx μ n.toNatClampNeg gt) (t := gt) (n := n.toNatClampNeg) F.2.2.2.2.2.1.2.2.2.2.2.2.2.2 F.2.2.2.2.2.1.2.2.2.2.2.2.2.1 hH hS hz (by omega) hn1 rfl z1 o1 (by
      rw [ceO_arr (nx_mod μ (by omega)) hgt.1]
      show H1[H.size]? = some (vp_cell (gT0 g gt) (arO g (nw μ (nx μ n.toNatClampNeg gt)) (nx μ n.toNatClampNeg gt) gt))
      rw [e1]
      cases at0 <;> simp [tgT] at hl <;> subst hl
      · rw [cA_prim F.2.2.2.2.2.1.1 (k := 3) rfl rfl rfl hNm]; simp [arO, vp_cell, nx_len μ (show (23 : Nat) < 100 by omega) hn1, rI, nw, newarray.typeOf, defaultValue]; rfl
      · rw [cA_prim F.2.2.2.2.2.1.1 (k := 2) rfl rfl rfl hNm]; simp [arO, vp_cell, nx_len μ (show (22 : Nat) < 100 by omega) hn1, rI, nw, newarray.typeOf, defaultValue]; rfl
      · rw [cA_prim F.2.2.2.2.2.1.1 (k := 0) rfl rfl rfl hNm]; simp [arO, vp_cell, nx_len μ (show (20 : Nat) < 100 by omega) hn1, rI, nw, newarray.typeOf, defaultValue]; rfl
      · rw [cA_prim F.2.2.2.2.2.1.1 (k := 1) rfl rfl rfl hNm]; simp [arO, vp_cell, nx_len μ (show (21 : Nat) < 100 by omega) hn1, rL, nw, newarray.typeOf, defaultValue]; rfl)
    show W p l e Rm s m args below meth c H1 locs (cells + 1) (slots + n.toNatClampNeg) Q (F0 m (pc + 2) A (.ref H.size :: t.map (tr g)))
    rw [← had]
    refine k H1 locs (cells + 1) (slots + n.toNatClampNeg) A hH1 hS1 (by rw [aS_nw, List.length_append]; simp; omega) (by rw [slS_nw]; unfold slA; rw [nx_mod μ (by omega)]; rw [if_neg (by omega), nx_len μ (by omega) hn1]; omega) hlv (fun b hb => ?_) (fun b hb => by rw [aS_nw]; exact okr_more (hls b hb))
    rcases List.mem_cons.mp hb with h9 | h9
    · cases h9; rw [aS_nw]; exact Or.inl (by simp)
    · rw [aS_nw]; exact okr_more (hst b (by simp [h9]))
  · cases h1
theorem k_newq {i : Nat} (F : Fr g p s m args meth c y) (hB : s.heap.size = gB g + K0) (hd : decode (bN y) pc = .ok (.anewarray i, len)) (h : exI y (.anewarray i) len pc ls st μ = some (.inl (pc', ls', st', μ'))) (hc : (aS μ').length ≤ K0 + Rm.cells) (hs : slS μ' ≤ S0 + Rm.slots) (k : KC g p l e Rm s m args below meth c Q y K0 S0 pc' ls' st' μ') : KC g p l e Rm s m args below meth c Q y K0 S0 pc ls st μ := by
  obtain ⟨rfl, h1⟩ := ck_some h
  split at h1
  · rename_i hl
    obtain ⟨n, t, rfl, h2⟩ := pI_some h1
    obtain ⟨⟨hn0, hn1⟩, h3⟩ := ck_some h2
    obtain ⟨rfl, rfl, rfl, rfl⟩ := nxt_inj h3
    obtain ⟨f1, f2⟩ := lookC_spec hl
    intro H locs cells slots A hH hS hK hL hlv hst hls
    rw [aS_nw, List.length_append] at hc
    rw [slS_nw] at hs
    have hsl : slA (nx μ n.toNatClampNeg 24) = n.toNatClampNeg := by unfold slA; rw [nx_mod μ (by omega), if_neg (by omega), nx_len μ (by omega) hn1]
    rw [hsl] at hs
    simp only [List.length_singleton] at hc
    intro T hT X
    have hz := H_size hB hH hS hK (by rw [← hT]; exact X.heapSize)
    refine (W.anew F.1 F.2.1 F.2.2.2.1 (F.2.2.2.2.1 _ f1) (va_AO.use F.2.2.2.2.2.1.2.2.2.1) rfl hd rfl hn0 (by omega) (by omega) (by omega) (fun cA kA comp g1 g2 g3 g4 => ?_) : W p l e Rm s m args below meth c H locs cells slots Q (F0 m pc A (.int n :: t.map (tr g)))) T hT X
    generalize hH1 : H.push ({ cls := cA, slots := Array.replicate n.toNatClampNeg .null, vm := .none } : Cell) = H1
    have z1 : H1.size = H.size + 1 := by rw [← hH1, Array.size_push]
    have e1 : H1[H.size]? = some (arrV cA n.toNatClampNeg (fun _ => .null)) := by rw [← hH1, Array.getElem?_push_size, ← arrV_new]
    have o1 : ∀ q : Nat, q < H.size → H1[q]? = H[q]? := fun q hq => by rw [← hH1, Array.getElem?_push, if_neg (Nat.ne_of_lt hq)]
    have hcA : cA = gT0 g 24 := by
      obtain ⟨kA', comp', q1, q2, q3, q4⟩ := (F.2.2.2.2.2.1.1.2 4 _ rfl).2
      have q4 : s.vm.findClass ("[" ++ (FieldType.object "ChinRow$Stand").toString) = some (gT0 g 24) := q4
      have g1 : s.vm.findClass ("[" ++ (FieldType.object "ChinRow$Stand").toString) = some cA := g1
      rw [g1] at q4
      exact Option.some.inj q4
    obtain ⟨hH1, hS1, had, hbig⟩ := HF_new (a := nx μ n.toNatClampNeg 24) (t := 24) (n := n.toNatClampNeg) F.2.2.2.2.2.1.2.2.2.2.2.2.2.2 F.2.2.2.2.2.1.2.2.2.2.2.2.2.1 hH hS hz (by omega) hn1 rfl z1 o1 (by
      rw [ceO_arr (nx_mod μ (by omega)) (by omega)]
      show H1[H.size]? = some (vp_cell (gT0 g 24) (arO g (nw μ (nx μ n.toNatClampNeg 24)) (nx μ n.toNatClampNeg 24) 24))
      rw [e1, hcA]
      simp [arO, vp_cell, nx_len μ (show (24 : Nat) < 100 by omega) hn1, rR, nw, va_rf])
    show W p l e Rm s m args below meth c H1 locs (cells + 1) (slots + n.toNatClampNeg) Q (F0 m (pc + 3) A (.ref H.size :: t.map (tr g)))
    rw [← had]
    refine k H1 locs (cells + 1) (slots + n.toNatClampNeg) A hH1 hS1 (by rw [aS_nw, List.length_append]; simp; omega) (by rw [slS_nw]; unfold slA; rw [nx_mod μ (by omega)]; rw [if_neg (by omega), nx_len μ (by omega) hn1]; omega) hlv (fun b hb => ?_) (fun b hb => by rw [aS_nw]; exact okr_more (hls b hb))
    rcases List.mem_cons.mp hb with h9 | h9
    · cases h9; rw [aS_nw]; exact Or.inl (by simp)
    · rw [aS_nw]; exact okr_more (hst b (by simp [h9]))
  · cases h1
end STP
