/-! steps that make -/
def okT (t : FieldType) : Bool := match t with
  | .int => true
  | .boolean => true
  | .long => true
  | .object _ => true
  | .array _ => true
  | _ => false
set_option maxRecDepth 100000 in
theorem tb_tyok : ∀ c, c < 12 → ∀ k, k < NN c → okT (tyN c k) = true := by decide +kernel
theorem fv_new {μ : PM} {a : Nat} {ty : FieldType} {k : Nat} (h : okT ty = true) : fv (nw μ a) a ty k = defaultValue ty := by
  cases ty <;> first | (simp [okT] at h; done) | (simp [fv, rI, rL, rR, nw, va_rf, defaultValue])
theorem nx_mod (μ : PM) {n t : Nat} (ht : t < 100) : nx μ n t % 100 = t := by unfold nx; omega
theorem nx_len (μ : PM) {n t : Nat} (ht : t < 100) (hn : n < 10000) : nx μ n t / 100 % 10000 = n := by unfold nx; omega
theorem nx_div (μ : PM) {n t : Nat} (ht : t < 100) (hn : n < 10000) : nx μ n t / 1000000 = (aS μ).length + 2 := by unfold nx; omega
theorem okr_more {g : GG} {as : List Nat} {a b : Nat} (h : okr g as b) : okr g (as ++ [a]) b := by
  rcases h with h | h
  · exact Or.inl (List.mem_append_left _ h)
  · exact Or.inr h
theorem wsO_nw {g : GG} {μ : PM} {a : Nat} (hA : okA (aS μ)) (ha : a / 1000000 = (aS μ).length + 2) : wsO g (nw μ a) = wsO g μ ++ [(ad g a, ceO g (nw μ a) a)] := by
  unfold wsO
  rw [aS_nw, List.map_append, List.map_singleton]
  congr 1
  apply List.map_congr_left
  intro b hb
  have hne : b ≠ a := by
    obtain ⟨k, hk⟩ := List.getElem?_of_mem hb
    have h1 := (hA k b hk).1
    have h2 := (List.getElem?_eq_some_iff.mp hk).1
    intro q
    rw [q, ha] at h1
    omega
  rw [ceO_nw b hne]
theorem slS_nw {μ : PM} {a : Nat} : slS (nw μ a) = slS μ + slA a := by
  unfold slS
  rw [aS_nw, List.map_append, List.sum_append]
  simp
/-- the heap's size is told by what has been made -/
theorem H_size {g : GG} {μ : PM} {H : Heap} {s : State} {locs : List Loc} {K0 cells : Nat} (hB : s.heap.size = gB g + K0) (hH : HF g μ H) (hS : va_S (gA g) s.heap H locs) (hK : K0 + cells = (aS μ).length) (hz : H.size ≤ s.heap.size + cells) : H.size = gB g + (aS μ).length := by
  have h1 := hS.1
  by_cases h0 : (aS μ).length = 0
  · omega
  · have hl : (aS μ).length - 1 < (aS μ).length := by omega
    have hk : (aS μ)[(aS μ).length - 1]? = some (aS μ)[(aS μ).length - 1] := List.getElem?_eq_getElem hl
    have h2 := (hH.1 _ _ (wsO_get (g := g) hk)).lt
    have h3 := ad_made (g := g) hH.2.2.1 hk
    simp only at h2
    omega
theorem HF_new {g : GG} {μ : PM} {H H1 : Heap} {s : State} {locs : List Loc} {a t n : Nat} (hg : gL g ≤ 3584) (hgs : gB g ≤ s.heap.size) (hH : HF g μ H) (hS : va_S (gA g) s.heap H locs) (hz : H.size = gB g + (aS μ).length) (ht : t < 12 ∨ (20 ≤ t ∧ t ≤ 24)) (hn : n < 10000) (ha : a = nx μ n t)
    (z1 : H1.size = H.size + 1) (o1 : ∀ q, q < H.size → H1[q]? = H[q]?) (hat : va_at (gD g) vwCl (H.size, ceO g (nw μ a) a) H1) : HF g (nw μ a) H1 ∧ va_S (gA g) s.heap H1 locs ∧ ad g a = H.size ∧ 2000000 ≤ a := by
  have hd : a / 1000000 = (aS μ).length + 2 := by rw [ha]; exact nx_div μ (by omega) hn
  have hm : a % 100 = t := by rw [ha]; exact nx_mod μ (by omega)
  have had : ad g a = H.size := by
    unfold ad
    rw [if_neg (by omega), if_neg (by omega), hz]
    omega
  have hbig : 2000000 ≤ a := by omega
  obtain ⟨hP, hD, hA, hM, hk, hs⟩ := hH
  have hkk : ∀ (k : Nat) (x : Nat × va_E), (wsO g μ)[k]? = some x → H1[x.1]? = H[x.1]? := fun k x hx => o1 x.1 ((hP k x hx).lt)
  refine ⟨⟨?_, ?_, ?_, ?_, ?_, ?_⟩, ⟨Nat.le_trans hS.1 (by omega), fun x h1 h2 => (o1 x (Nat.lt_of_lt_of_le h1 hS.1)).trans (hS.2.1 x h1 h2), hS.2.2⟩, had, hbig⟩
  · rw [wsO_nw hA hd, had]
    refine (hP.kept hkk).app (fun k x hx => ?_)
    have hz : k < 1 := (List.getElem?_eq_some_iff.mp hx).1
    rw [show k = 0 by omega] at hx
    cases hx
    exact hat
  · rw [wsO_nw hA hd, had]
    exact hD.push hP rfl (show gB g ≤ H.size by omega)
  · rw [aS_nw]
    intro k b hb
    by_cases hl : k < (aS μ).length
    · rw [List.getElem?_append_left hl] at hb
      exact hA k b hb
    · rw [List.getElem?_append_right (by omega)] at hb
      have hz : k - (aS μ).length < 1 := (List.getElem?_eq_some_iff.mp hb).1
      rw [show k - (aS μ).length = 0 by omega] at hb
      cases hb
      exact ⟨by omega, by rw [hm]; exact ht⟩
  · intro b j d hr
    have : rR (nw μ a) b j = if a = b then none else rR μ b j := rfl
    rw [this] at hr
    split at hr
    · cases hr
    · rw [aS_nw]; exact okr_more (hM b j d hr)
  · intro j hj
    have : rL (nw μ a) kwA j = if a = kwA then 0 else rL μ kwA j := rfl
    rw [this, if_neg (fun q => by rw [q] at hbig; exact absurd hbig (by decide))]
    exact hk j hj
  · intro j hj
    have : rI (nw μ a) (sA g) j = if a = sA g then 0 else rI μ (sA g) j := rfl
    rw [this, if_neg (fun q => by have := sA_div g hg; rw [← q] at this; omega)]
    exact hs j hj
section STP
variable {g : GG} {p : Program} {l : Launch} {e : Env} {Rm : Room} {s : State} {m : MethodId} {args : Array Value} {below : List Frame} {meth : Method} {c : Code} {Q : State → Prop} {y K0 S0 pc len pc' : Nat} {ls ls' : PL} {st st' : List Value} {μ μ' : PM}
theorem k_new {i : Nat} (F : Fr g p s m args meth c y) (hB : s.heap.size = gB g + K0) (hd : decode (bN y) pc = .ok (.new i, len)) (h : exI y (.new i) len pc ls st μ = some (.inl (pc', ls', st', μ'))) (hc : (aS μ').length ≤ K0 + Rm.cells) (hs : slS μ' ≤ S0 + Rm.slots) (k : KC g p l e Rm s m args below meth c Q y K0 S0 pc' ls' st' μ') : KC g p l e Rm s m args below meth c Q y K0 S0 pc ls st μ := by
  obtain ⟨rfl, h1⟩ := ck_some h
  split at h1
  · rename_i cc hl
    generalize hna : nx μ 0 cc = a at h1
    obtain ⟨rfl, rfl, rfl, rfl⟩ := nxt_inj h1
    obtain ⟨f1, f2⟩ := lookC_spec hl
    have ham : a % 100 = cc := by rw [← hna]; exact nx_mod μ (by omega)
    intro H locs cells slots A hH hS hK hL hlv hst hls
    obtain ⟨t1, t2⟩ := tb_make cc f2
    have hKn := F.2.2.2.2.2.1.1.1 cc _ (tb_obj cc f2)
    rw [aS_nw, List.length_append] at hc
    rw [slS_nw] at hs
    have hsl : slA a = NN cc := by unfold slA; rw [ham, if_pos f2]
    rw [hsl] at hs
    simp only [List.length_singleton] at hc
    intro T hT X
    have hz := H_size hB hH hS hK (by rw [← hT]; exact X.heapSize)
    refine (W.newcK F.1 F.2.1 F.2.2.2.1 (F.2.2.2.2.1 _ f1) (F.2.2.2.2.1 _ (tb_of (tb_in t1) rfl)) (F.2.2.2.2.1 _ (tb_of (tb_in t2) rfl)) rfl hd (by omega) (by omega) hKn.2.1 rfl (fun H1 kC hkC e1 z1 o1 => ?_) : W p l e Rm s m args below meth c H locs cells slots Q (F0 m pc A (st.map (tr g)))) T hT X
    obtain ⟨hH1, hS1, had, hbig⟩ := HF_new (a := a) (t := cc) (n := 0) F.2.2.2.2.2.1.2.2.2.2.2.2.2.2 F.2.2.2.2.2.1.2.2.2.2.2.2.2.1 hH hS hz (by omega) (by omega) hna.symm z1 o1 (by
      rw [ceO_obj ham f2]
      refine ⟨_, tb_obj cc f2, (u_born (tyN cc) F.2.2.2.2.1 (lay_in f2) hKn hkC e1 (tb_ty cc f2)).to (fun j hj => ?_)⟩
      have hj : j < NN cc := hj
      unfold vp_V
      rw [List.getD_eq_getElem?_getD, fsO_at hj, fv_new (tb_tyok cc f2 j hj)]
      have hok := tb_tyok cc f2 j hj
      cases hty : tyN cc j <;> rw [hty] at hok <;> first | (simp [okT] at hok; done) | rfl)
    show W p l e Rm s m args below meth c H1 locs (cells + 1) (slots + NN cc) Q (F0 m (pc + 3) A (.ref H.size :: st.map (tr g)))
    rw [← had]
    refine k H1 locs (cells + 1) (slots + NN cc) A hH1 hS1 (by rw [aS_nw, List.length_append]; simp; omega) (by rw [slS_nw, hsl]; omega) hlv (fun b hb => ?_) (fun b hb => by rw [aS_nw]; exact okr_more (hls b hb))
    rcases List.mem_cons.mp hb with h9 | h9
    · cases h9; rw [aS_nw]; exact Or.inl (by simp)
    · rw [aS_nw]; exact okr_more (hst b (h9))
  · cases h1
theorem cA_prim {t : FieldType} {cA : ClassId} {k : Nat} (hK : va_K (gD g) vwCl (TY g) s) {q : ClassId × FieldType} (hk : (TY g)[k]? = some q) (hq : q.2 = t) (ht : va_RA s q.1 t = (s.vm.findClass ("[" ++ t.toString) = some q.1)) (h : s.vm.findClass ("[" ++ t.toString) = some cA) : cA = q.1 := by
  have h1 := (hK.2 k q hk).2
  rw [hq, ht, h] at h1
  exact Option.some.inj h1
theorem at_newa {at0 : ArrayType} {H1 : Heap} {h0 a n gt : Nat} {cA : ClassId} (hK : va_K (gD g) vwCl (TY g) s) (hl : tgT at0 = some gt) (ham : a % 100 = gt) (haz : a / 100 % 10000 = n) (e1 : H1[h0]? = some (arrV cA n (fun _ => defaultValue (newarray.typeOf at0)))) (hNm : s.vm.findClass ("[" ++ (newarray.typeOf at0).toString) = some cA) : va_at (gD g) vwCl (h0, ceO g (nw μ a) a) H1 := by
  cases at0 <;> simp only [tgT, Option.some.injEq, reduceCtorEq] at hl <;> subst hl
  · rw [ceO_arr ham (by omega)]
    show H1[h0]? = some (vp_cell (gT0 g 23) (arO g (nw μ a) a 23))
    rw [e1, cA_prim hK (k := 3) rfl rfl rfl hNm]; simp [arO, vp_cell, haz, rI, nw, newarray.typeOf, defaultValue]
  · rw [ceO_arr ham (by omega)]
    show H1[h0]? = some (vp_cell (gT0 g 22) (arO g (nw μ a) a 22))
    rw [e1, cA_prim hK (k := 2) rfl rfl rfl hNm]; simp [arO, vp_cell, haz, rI, nw, newarray.typeOf, defaultValue]
  · rw [ceO_arr ham (by omega)]
    show H1[h0]? = some (vp_cell (gT0 g 20) (arO g (nw μ a) a 20))
    rw [e1, cA_prim hK (k := 0) rfl rfl rfl hNm]; simp [arO, vp_cell, haz, rI, nw, newarray.typeOf, defaultValue]
  · rw [ceO_arr ham (by omega)]
    show H1[h0]? = some (vp_cell (gT0 g 21) (arO g (nw μ a) a 21))
    rw [e1, cA_prim hK (k := 1) rfl rfl rfl hNm]; simp [arO, vp_cell, haz, rL, nw, newarray.typeOf, defaultValue]
theorem tgT_ge {at0 : ArrayType} {gt : Nat} (hl : tgT at0 = some gt) : 20 ≤ gt ∧ gt ≤ 24 := by cases at0 <;> simp [tgT] at hl <;> omega
theorem cb_le (at0 : ArrayType) : componentBytes (newarray.typeOf at0) ≤ 8 := by cases at0 <;> decide
theorem ab_newa {at0 : ArrayType} {gt : Nat} (hl : tgT at0 = some gt) (h : ∀ w ∈ TB, w.before args s = true) : (Cond.arrayClass (newarray.typeOf at0)).before args s = true := by
  cases at0 <;> simp [tgT] at hl
  · exact h _ w_abool
  · exact h _ w_achar
  · exact h _ w_aint
  · exact h _ w_along
theorem by_newa {n b : Nat} (hn : n < 10000) (hb : b ≤ 8) : n * b ≤ 536870912 := Nat.le_trans (Nat.mul_le_mul (Nat.le_of_lt hn) hb) (by decide)
theorem k_newa {at0 : ArrayType} (F : Fr g p s m args meth c y) (hB : s.heap.size = gB g + K0) (hd : decode (bN y) pc = .ok (.newarray at0, len)) (h : exI y (.newarray at0) len pc ls st μ = some (.inl (pc', ls', st', μ'))) (hc : (aS μ').length ≤ K0 + Rm.cells) (hs : slS μ' ≤ S0 + Rm.slots) (k : KC g p l e Rm s m args below meth c Q y K0 S0 pc' ls' st' μ') : KC g p l e Rm s m args below meth c Q y K0 S0 pc ls st μ := by
  obtain ⟨rfl, h1⟩ := ck_some h
  split at h1
  · rename_i gt hl
    obtain ⟨n, t, rfl, h2⟩ := pI_some h1
    obtain ⟨⟨hn0, hn1⟩, h3⟩ := ck_some h2
    generalize hN : n.toNatClampNeg = N at h3 hn1
    generalize hna : nx μ N gt = a at h3
    obtain ⟨rfl, rfl, rfl, rfl⟩ := nxt_inj h3
    have hgt := tgT_ge hl
    have ham : a % 100 = gt := by rw [← hna]; exact nx_mod μ (by omega)
    have haz : a / 100 % 10000 = N := by rw [← hna]; exact nx_len μ (by omega) hn1
    intro H locs cells slots A hH hS hK hL hlv hst hls
    rw [aS_nw, List.length_append] at hc
    rw [slS_nw] at hs
    have hsl : slA a = N := by unfold slA; rw [ham, if_neg (by omega), haz]
    rw [hsl] at hs
    simp only [List.length_singleton] at hc
    intro T hT X
    have hz := H_size hB hH hS hK (by rw [← hT]; exact X.heapSize)
    refine (va_newaK F.1 F.2.1 (ab_newa hl F.2.2.2.2.1) rfl hd rfl hn0 hN (by_newa hn1 (cb_le at0)) (by omega) (by omega) rfl (fun H1 cA e1 z1 o1 hAr hNm => ?_) : W p l e Rm s m args below meth c H locs cells slots Q (F0 m pc A (.int n :: t.map (tr g)))) T hT X
    obtain ⟨hH1, hS1, had, hbig⟩ := HF_new (a := a) (t := gt) (n := N) F.2.2.2.2.2.1.2.2.2.2.2.2.2.2 F.2.2.2.2.2.1.2.2.2.2.2.2.2.1 hH hS hz (Or.inr hgt) hn1 hna.symm z1 o1 (at_newa F.2.2.2.2.2.1.1 hl ham haz e1 hNm)
    show W p l e Rm s m args below meth c H1 locs (cells + 1) (slots + N) Q (F0 m (pc + 2) A (.ref H.size :: t.map (tr g)))
    rw [← had]
    refine k H1 locs (cells + 1) (slots + N) A hH1 hS1 (by rw [aS_nw, List.length_append]; simp; omega) (by rw [slS_nw, hsl]; omega) hlv (fun b hb => ?_) (fun b hb => by rw [aS_nw]; exact okr_more (hls b hb))
    rcases List.mem_cons.mp hb with h9 | h9
    · cases h9; rw [aS_nw]; exact Or.inl (by simp)
    · rw [aS_nw]; exact okr_more (hst b (List.mem_cons_of_mem _ h9))
  · cases h1
theorem at_newq {H1 : Heap} {h0 a n : Nat} {cA : ClassId} (ham : a % 100 = 24) (haz : a / 100 % 10000 = n) (e1 : H1[h0]? = some (arrV cA n (fun _ => .null))) (hcA : cA = gT0 g 24) : va_at (gD g) vwCl (h0, ceO g (nw μ a) a) H1 := by
  rw [ceO_arr ham (by omega)]
  show H1[h0]? = some (vp_cell (gT0 g 24) (arO g (nw μ a) a 24))
  rw [e1, hcA]
  simp [arO, vp_cell, haz, rR, nw, va_rf]
theorem cA_stand {cA : ClassId} (hK : va_K (gD g) vwCl (TY g) s) (h : s.vm.findClass ("[" ++ (FieldType.object "ChinRow$Stand").toString) = some cA) : cA = gT0 g 24 := by
  obtain ⟨kA', comp', q1, q2, q3, q4⟩ := (hK.2 4 (gT0 g 24, .object "ChinRow$Stand") rfl).2
  have q5 := h.symm.trans q4
  exact Option.some.inj q5
theorem k_newq {i : Nat} (F : Fr g p s m args meth c y) (hB : s.heap.size = gB g + K0) (hd : decode (bN y) pc = .ok (.anewarray i, len)) (h : exI y (.anewarray i) len pc ls st μ = some (.inl (pc', ls', st', μ'))) (hc : (aS μ').length ≤ K0 + Rm.cells) (hs : slS μ' ≤ S0 + Rm.slots) (k : KC g p l e Rm s m args below meth c Q y K0 S0 pc' ls' st' μ') : KC g p l e Rm s m args below meth c Q y K0 S0 pc ls st μ := by
  obtain ⟨rfl, h1⟩ := ck_some h
  split at h1
  · rename_i hl
    obtain ⟨n, t, rfl, h2⟩ := pI_some h1
    obtain ⟨⟨hn0, hn1⟩, h3⟩ := ck_some h2
    generalize hN : n.toNatClampNeg = N at h3 hn1
    generalize hna : nx μ N 24 = a at h3
    obtain ⟨rfl, rfl, rfl, rfl⟩ := nxt_inj h3
    obtain ⟨f1, f2⟩ := lookC_spec hl
    have hoc : oC 8 = "ChinRow$Stand" := rfl
    rw [hoc] at f1
    have ham : a % 100 = 24 := by rw [← hna]; exact nx_mod μ (by omega)
    have haz : a / 100 % 10000 = N := by rw [← hna]; exact nx_len μ (by omega) hn1
    intro H locs cells slots A hH hS hK hL hlv hst hls
    rw [aS_nw, List.length_append] at hc
    rw [slS_nw] at hs
    have hsl : slA a = N := by unfold slA; rw [ham, if_neg (by omega), haz]
    rw [hsl] at hs
    simp only [List.length_singleton] at hc
    intro T hT X
    have hz := H_size hB hH hS hK (by rw [← hT]; exact X.heapSize)
    refine (W.anew F.1 F.2.1 F.2.2.2.1 (F.2.2.2.2.1 _ f1) (va_AO.use F.2.2.2.2.2.1.2.2.2.1) rfl hd rfl hn0 (by rw [hN]; exact by_newa hn1 (by decide)) (by omega) (by rw [hN]; omega) (fun cA kA comp g1 g2 g3 g4 => ?_) : W p l e Rm s m args below meth c H locs cells slots Q (F0 m pc A (.int n :: t.map (tr g)))) T hT X
    rw [hN]
    generalize hH1 : H.push ({ cls := cA, slots := Array.replicate N .null, vm := .none } : Cell) = H1
    have z1 : H1.size = H.size + 1 := by rw [← hH1, Array.size_push]
    have e1 : H1[H.size]? = some (arrV cA N (fun _ => .null)) := by rw [← hH1, Array.getElem?_push_size, ← arrV_new]
    have o1 : ∀ q : Nat, q < H.size → H1[q]? = H[q]? := fun q hq => by rw [← hH1, Array.getElem?_push, if_neg (Nat.ne_of_lt hq)]
    obtain ⟨hH1, hS1, had, hbig⟩ := HF_new (a := a) (t := 24) (n := N) F.2.2.2.2.2.1.2.2.2.2.2.2.2.2 F.2.2.2.2.2.1.2.2.2.2.2.2.2.1 hH hS hz (Or.inr ⟨by omega, by omega⟩) hn1 hna.symm z1 o1 (at_newq ham haz e1 (cA_stand F.2.2.2.2.2.1.1 g1))
    show W p l e Rm s m args below meth c H1 locs (cells + 1) (slots + N) Q (F0 m (pc + 3) A (.ref H.size :: t.map (tr g)))
    rw [← had]
    refine k H1 locs (cells + 1) (slots + N) A hH1 hS1 (by rw [aS_nw, List.length_append]; simp; omega) (by rw [slS_nw, hsl]; omega) hlv (fun b hb => ?_) (fun b hb => by rw [aS_nw]; exact okr_more (hls b hb))
    rcases List.mem_cons.mp hb with h9 | h9
    · cases h9; rw [aS_nw]; exact Or.inl (by simp)
    · rw [aS_nw]; exact okr_more (hst b (List.mem_cons_of_mem _ h9))
  · cases h1
end STP
