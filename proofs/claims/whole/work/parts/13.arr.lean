/-! steps on arrays, makings, the machine's own -/
set_option maxRecDepth 100000 in
theorem w_native : Cond.native arraycopyName ∈ TB := tb_of (tb_in (show lw_tbl[733]? = some (Cond.native arraycopyName) by decide +kernel)) rfl
set_option maxRecDepth 100000 in
theorem w_cstat : Cond.static arraycopyName ∈ TB := tb_of (tb_in (show lw_tbl[732]? = some (Cond.static arraycopyName) by decide +kernel)) rfl
set_option maxRecDepth 100000 in
theorem w_csys : Cond.initialized "java/lang/System" ∈ TB := tb_of (tb_in (show lw_tbl[118]? = some (Cond.initialized "java/lang/System") by decide +kernel)) rfl
set_option maxRecDepth 100000 in
theorem w_cmath : Cond.initialized "java/lang/Math" ∈ TB := tb_of (tb_in (show lw_tbl[119]? = some (Cond.initialized "java/lang/Math") by decide +kernel)) rfl
set_option maxRecDepth 100000 in
theorem w_oinst : Cond.instanceMethod objectInit ∈ TB := tb_of (tb_in (show lw_tbl[128]? = some (Cond.instanceMethod objectInit) by decide +kernel)) rfl
set_option maxRecDepth 100000 in
theorem w_ocode : Cond.code objectInit ⟨#[0xb1]⟩ 1 none ∈ TB := tb_of (tb_in (show lw_tbl[129]? = some (Cond.code objectInit ⟨#[0xb1]⟩ 1 none) by decide +kernel)) rfl
set_option maxRecDepth 100000 in
theorem w_mins : Cond.static Lib.Math.min.name ∈ TB := tb_of (tb_in (show lw_tbl[735]? = some (Cond.static Lib.Math.min.name) by decide +kernel)) rfl
set_option maxRecDepth 100000 in
theorem w_minc : Cond.code Lib.Math.min.name Lib.Math.min.code 2 (some .int) ∈ TB := tb_of (tb_in (show lw_tbl[736]? = some (Cond.code Lib.Math.min.name Lib.Math.min.code 2 (some .int)) by decide +kernel)) rfl
set_option maxRecDepth 100000 in
theorem w_abss : Cond.static Lib.Math.abs.name ∈ TB := tb_of (tb_in (show lw_tbl[785]? = some (Cond.static Lib.Math.abs.name) by decide +kernel)) rfl
set_option maxRecDepth 100000 in
theorem w_absc : Cond.code Lib.Math.abs.name Lib.Math.abs.code 1 (some .int) ∈ TB := tb_of (tb_in (show lw_tbl[786]? = some (Cond.code Lib.Math.abs.name Lib.Math.abs.code 1 (some .int)) by decide +kernel)) rfl
set_option maxRecDepth 100000 in
theorem w_maxs : Cond.static Lib.Math.max.name ∈ TB := tb_of (tb_in (show lw_tbl[820]? = some (Cond.static Lib.Math.max.name) by decide +kernel)) rfl
set_option maxRecDepth 100000 in
theorem w_maxc : Cond.code Lib.Math.max.name Lib.Math.max.code 2 (some .int) ∈ TB := tb_of (tb_in (show lw_tbl[821]? = some (Cond.code Lib.Math.max.name Lib.Math.max.code 2 (some .int)) by decide +kernel)) rfl
set_option maxRecDepth 100000 in
theorem w_achar : Cond.arrayClass .char ∈ TB := tb_of (tb_in (show lw_tbl[146]? = some (Cond.arrayClass .char) by decide +kernel)) rfl
set_option maxRecDepth 100000 in
theorem w_aint : Cond.arrayClass .int ∈ TB := tb_of (tb_in (show lw_tbl[206]? = some (Cond.arrayClass .int) by decide +kernel)) rfl
set_option maxRecDepth 100000 in
theorem w_along : Cond.arrayClass .long ∈ TB := tb_of (tb_in (show lw_tbl[229]? = some (Cond.arrayClass .long) by decide +kernel)) rfl
set_option maxRecDepth 100000 in
theorem w_abool : Cond.arrayClass .boolean ∈ TB := tb_of (tb_in (show lw_tbl[273]? = some (Cond.arrayClass .boolean) by decide +kernel)) rfl
theorem lookH_spec {o i h : Nat} (hh : lookH o i = some h) : Cond.methodLink (oC o) i (if h = 900 then arraycopyName else if h = 901 then objectInit else if h = 902 then Lib.Math.max.name else if h = 903 then Lib.Math.min.name else Lib.Math.abs.name) ∈ TB := by
  obtain ⟨q, hq, e1⟩ := Option.map_eq_some_iff.mp hh
  have hm := List.mem_of_find?_eq_some hq
  have hp := List.find?_some hq
  simp only [Bool.and_eq_true, beq_iff_eq] at hp
  have h1 := tb_spec q hm
  rw [hp.1, hp.2, e1] at h1
  exact tb_of (tb_in h1) rfl
theorem lookC_spec {o i h : Nat} (hh : lookC o i = some h) : Cond.classLink (oC o) i (oC h) ∈ TB ∧ h < 12 := by
  obtain ⟨q, hq, e1⟩ := Option.map_eq_some_iff.mp hh
  have hm := List.mem_of_find?_eq_some hq
  have hp := List.find?_some hq
  simp only [Bool.and_eq_true, beq_iff_eq] at hp
  obtain ⟨h1, h2⟩ := tb_class q hm
  rw [hp.1, hp.2, e1] at h1
  rw [e1] at h2
  exact ⟨tb_of (tb_in h1) rfl, h2⟩
theorem arO_wI {g : GG} {μ : PM} {a k : Nat} {x : Int32} : (fun j => rI (wI μ a k x) a j) = upd (fun j => rI μ a j) k x := by
  funext j
  simp only [rI_wI, upd, true_and, eq_comm]
theorem arO_wL {g : GG} {μ : PM} {a k : Nat} {x : Int64} : (fun j => rL (wL μ a k x) a j) = vp_updL (fun j => rL μ a j) k x := by
  funext j
  simp only [rL_wL, vp_updL, true_and, eq_comm]
theorem arO_wR {g : GG} {μ : PM} {a k v : Nat} : (fun j => (rR (wR μ a k (some v)) a j).map (ad g)) = va_up (fun j => (rR μ a j).map (ad g)) k (some (ad g v)) := by
  funext j
  by_cases h : j = k
  · subst h; simp [rR_wR, va_up]
  · simp [rR_wR, va_up, h, Ne.symm h]
theorem tag5 {t : Nat} (h1 : 20 ≤ t) (h2 : t ≤ 24) : t = 20 ∨ t = 21 ∨ t = 22 ∨ t = 23 ∨ t = 24 := by
  obtain ⟨k, rfl⟩ := Nat.exists_eq_add_of_le h1
  have hk : k < 5 := by omega
  match k, hk with
  | 0, _ => exact Or.inl rfl
  | 1, _ => exact Or.inr (Or.inl rfl)
  | 2, _ => exact Or.inr (Or.inr (Or.inl rfl))
  | 3, _ => exact Or.inr (Or.inr (Or.inr (Or.inl rfl)))
  | 4, _ => exact Or.inr (Or.inr (Or.inr (Or.inr rfl)))
  | k + 5, hk => exact absurd hk (by omega)
theorem ad_sA (g : GG) (h : gL g ≤ 3584) : ad g (sA g) = gS g := by unfold ad; rw [if_pos (sA_div g h)]
theorem ad_kw (g : GG) : ad g kwA = gK g := by unfold ad; rw [if_neg (by decide), if_pos (by decide)]
section STP
variable {g : GG} {p : Program} {l : Launch} {e : Env} {Rm : Room} {s : State} {m : MethodId} {args : Array Value} {below : List Frame} {meth : Method} {c : Code} {Q : State → Prop} {y K0 S0 pc len pc' : Nat} {ls ls' : PL} {st st' : List Value} {μ μ' : PM}
theorem k_iaload (F : Fr g p s m args meth c y) (hd : decode (bN y) pc = .ok (.iaload, len)) (h : exI y (.iaload) len pc ls st μ = some (.inl (pc', ls', st', μ'))) (k : KC g p l e Rm s m args below meth c Q y K0 S0 pc' ls' st' μ') : KC g p l e Rm s m args below meth c Q y K0 S0 pc ls st μ := by
  obtain ⟨rfl, h1⟩ := ck_some h
  obtain ⟨i, t, rfl, h2⟩ := pI_some h1
  obtain ⟨a, t, rfl, h3⟩ := pA_some h2
  obtain ⟨⟨ha, hi⟩, h4⟩ := ck_some h3
  obtain ⟨rfl, rfl, rfl, rfl⟩ := nxt_inj h4
  intro H locs cells slots A hH hS hK hL hlv hst hls
  have hn := F.2.2.2.2.2.1.2.2.2.2.2.2.2.2
  rcases hst a (by simp) with hm | hm | hm
  · obtain ⟨q, hq⟩ := List.getElem?_of_mem hm
    have he := wsO_get (g := g) hq
    rw [ceO_arr ha (by omega)] at he
    exact va_iald F.1 F.2.1 F.2.2.2.2.2.1.1 hH.1 q 0 he rfl hi hd (k H locs cells slots A hH hS hK hL hlv (okS_of hst (fun b hb => by simp at hb; simp [hb])) hls)
  · subst hm; exact absurd ha (by decide)
  · subst hm
    rw [sA_len g hn] at hi
    have hlt : i.toNatClampNeg < gL g := Nat.not_le.mp fun q => hi (Or.inr q)
    show W p l e Rm s m args below meth c H locs cells slots Q (F0 m pc A (.int i :: .ref (ad g (sA g)) :: t.map (tr g)))
    rw [ad_sA g hn]
    refine va_ti F.1 F.2.1 F.2.2.2.2.2.1.2.2.2.2.2.2.1 hS hi rfl hd ?_
    rw [← hH.2.2.2.2.2 _ hlt]
    exact k H locs cells slots A hH hS hK hL hlv (okS_of hst (fun b hb => by simp at hb; simp [hb])) hls
theorem k_laload (F : Fr g p s m args meth c y) (hd : decode (bN y) pc = .ok (.laload, len)) (h : exI y (.laload) len pc ls st μ = some (.inl (pc', ls', st', μ'))) (k : KC g p l e Rm s m args below meth c Q y K0 S0 pc' ls' st' μ') : KC g p l e Rm s m args below meth c Q y K0 S0 pc ls st μ := by
  obtain ⟨rfl, h1⟩ := ck_some h
  obtain ⟨i, t, rfl, h2⟩ := pI_some h1
  obtain ⟨a, t, rfl, h3⟩ := pA_some h2
  obtain ⟨⟨ha, hi⟩, h4⟩ := ck_some h3
  obtain ⟨rfl, rfl, rfl, rfl⟩ := nxt_inj h4
  intro H locs cells slots A hH hS hK hL hlv hst hls
  rcases hst a (by simp) with hm | hm | hm
  · obtain ⟨q, hq⟩ := List.getElem?_of_mem hm
    have he := wsO_get (g := g) hq
    rw [ceO_arr ha (by omega)] at he
    exact va_lald F.1 F.2.1 F.2.2.2.2.2.1.1 hH.1 q 1 he rfl hi hd (k H locs cells slots A hH hS hK hL hlv (okS_of hst (fun b hb => by simp at hb; simp [hb])) hls)
  · subst hm
    have hi : vp_in i 28 := hi
    have hlt : i.toNatClampNeg < 28 := Nat.not_le.mp fun q => hi (Or.inr q)
    show W p l e Rm s m args below meth c H locs cells slots Q (F0 m pc A (.int i :: .ref (ad g kwA) :: t.map (tr g)))
    rw [ad_kw g]
    refine va_tl F.1 F.2.1 F.2.2.2.2.2.1.2.2.2.2.2.1 hS hi rfl hd ?_
    rw [← hH.2.2.2.2.1 _ hlt]
    exact k H locs cells slots A hH hS hK hL hlv (okS_of hst (fun b hb => by simp at hb; simp [hb])) hls
  · subst hm; rw [sA_mod] at ha; exact absurd ha (by decide)
theorem k_caload (F : Fr g p s m args meth c y) (hd : decode (bN y) pc = .ok (.caload, len)) (h : exI y (.caload) len pc ls st μ = some (.inl (pc', ls', st', μ'))) (k : KC g p l e Rm s m args below meth c Q y K0 S0 pc' ls' st' μ') : KC g p l e Rm s m args below meth c Q y K0 S0 pc ls st μ := by
  obtain ⟨rfl, h1⟩ := ck_some h
  obtain ⟨i, t, rfl, h2⟩ := pI_some h1
  obtain ⟨a, t, rfl, h3⟩ := pA_some h2
  obtain ⟨⟨ha, hi⟩, h4⟩ := ck_some h3
  obtain ⟨rfl, rfl, rfl, rfl⟩ := nxt_inj h4
  intro H locs cells slots A hH hS hK hL hlv hst hls
  obtain ⟨q, hq⟩ := List.getElem?_of_mem (okr_tag (hst a (by simp)) (by omega) (by omega))
  have he := wsO_get (g := g) hq
  rw [ceO_arr ha (by omega)] at he
  exact va_cald F.1 F.2.1 F.2.2.2.2.2.1.1 hH.1 q 2 he rfl hi hd (k H locs cells slots A hH hS hK hL hlv (okS_of hst (fun b hb => by simp at hb; simp [hb])) hls)
theorem k_baload (F : Fr g p s m args meth c y) (hd : decode (bN y) pc = .ok (.baload, len)) (h : exI y (.baload) len pc ls st μ = some (.inl (pc', ls', st', μ'))) (k : KC g p l e Rm s m args below meth c Q y K0 S0 pc' ls' st' μ') : KC g p l e Rm s m args below meth c Q y K0 S0 pc ls st μ := by
  obtain ⟨rfl, h1⟩ := ck_some h
  obtain ⟨i, t, rfl, h2⟩ := pI_some h1
  obtain ⟨a, t, rfl, h3⟩ := pA_some h2
  obtain ⟨⟨ha, hi⟩, h4⟩ := ck_some h3
  obtain ⟨rfl, rfl, rfl, rfl⟩ := nxt_inj h4
  intro H locs cells slots A hH hS hK hL hlv hst hls
  obtain ⟨q, hq⟩ := List.getElem?_of_mem (okr_tag (hst a (by simp)) (by omega) (by omega))
  have he := wsO_get (g := g) hq
  rw [ceO_arr ha (by omega)] at he
  exact va_zald F.1 F.2.1 F.2.2.2.2.2.1.1 hH.1 q 3 he rfl hi hd (k H locs cells slots A hH hS hK hL hlv (okS_of hst (fun b hb => by simp at hb; simp [hb])) hls)
theorem k_aaload (F : Fr g p s m args meth c y) (hd : decode (bN y) pc = .ok (.aaload, len)) (h : exI y (.aaload) len pc ls st μ = some (.inl (pc', ls', st', μ'))) (k : KC g p l e Rm s m args below meth c Q y K0 S0 pc' ls' st' μ') : KC g p l e Rm s m args below meth c Q y K0 S0 pc ls st μ := by
  obtain ⟨rfl, h1⟩ := ck_some h
  obtain ⟨i, t, rfl, h2⟩ := pI_some h1
  obtain ⟨a, t, rfl, h3⟩ := pA_some h2
  obtain ⟨⟨ha, hi⟩, h4⟩ := ck_some h3
  obtain ⟨rfl, rfl, rfl, rfl⟩ := nxt_inj h4
  intro H locs cells slots A hH hS hK hL hlv hst hls
  obtain ⟨q, hq⟩ := List.getElem?_of_mem (okr_tag (hst a (by simp)) (by omega) (by omega))
  have he := wsO_get (g := g) hq
  rw [ceO_arr ha (by omega)] at he
  refine va_aldq F.1 F.2.1 F.2.2.2.2.2.1.1 hH.1 q 4 he rfl hi hd ?_
  rw [← tr_rf]
  refine k H locs cells slots A hH hS hK hL hlv (fun b hb => ?_) hls
  rcases List.mem_cons.mp hb with h9 | h9
  · cases hr : rR μ' a i.toNatClampNeg with
    | none => rw [hr] at h9; cases h9
    | some d => rw [hr] at h9; cases h9; exact hH.2.2.2.1 _ _ _ hr
  · exact hst b (by simp [h9])
theorem k_alen (F : Fr g p s m args meth c y) (hd : decode (bN y) pc = .ok (.arraylength, len)) (h : exI y (.arraylength) len pc ls st μ = some (.inl (pc', ls', st', μ'))) (k : KC g p l e Rm s m args below meth c Q y K0 S0 pc' ls' st' μ') : KC g p l e Rm s m args below meth c Q y K0 S0 pc ls st μ := by
  obtain ⟨rfl, h1⟩ := ck_some h
  obtain ⟨a, t, rfl, h2⟩ := pA_some h1
  obtain ⟨ha, h3⟩ := ck_some h2
  obtain ⟨rfl, rfl, rfl, rfl⟩ := nxt_inj h3
  intro H locs cells slots A hH hS hK hL hlv hst hls
  have hn := F.2.2.2.2.2.1.2.2.2.2.2.2.2.2
  have kk := k H locs cells slots A hH hS hK hL hlv (okS_of hst (fun b hb => by simp at hb; simp [hb])) hls
  rcases hst a (by simp) with hm | hm | hm
  · obtain ⟨q, hq⟩ := List.getElem?_of_mem hm
    have he := wsO_get (g := g) hq
    rcases tag5 ha.1 ha.2 with h9 | h9 | h9 | h9 | h9
    · rw [ceO_arr h9 (by omega)] at he
      exact va_alen F.1 F.2.1 F.2.2.2.2.2.1.1 hH.1 q 0 he rfl rfl hd kk
    · rw [ceO_arr h9 (by omega)] at he
      exact va_alen F.1 F.2.1 F.2.2.2.2.2.1.1 hH.1 q 1 he rfl rfl hd kk
    · rw [ceO_arr h9 (by omega)] at he
      exact va_alen F.1 F.2.1 F.2.2.2.2.2.1.1 hH.1 q 2 he rfl rfl hd kk
    · rw [ceO_arr h9 (by omega)] at he
      exact va_alen F.1 F.2.1 F.2.2.2.2.2.1.1 hH.1 q 3 he rfl rfl hd kk
    · rw [ceO_arr h9 (by omega)] at he
      exact va_alen F.1 F.2.1 F.2.2.2.2.2.1.1 hH.1 q 4 he rfl rfl hd kk
  · subst hm
    show W p l e Rm s m args below meth c H locs cells slots Q (F0 m pc A (.ref (ad g kwA) :: t.map (tr g)))
    rw [ad_kw g]
    exact va_tlen F.1 F.2.1 F.2.2.2.2.2.1.2.2.2.2.2.1 hS rfl hd kk
  · subst hm
    show W p l e Rm s m args below meth c H locs cells slots Q (F0 m pc A (.ref (ad g (sA g)) :: t.map (tr g)))
    rw [ad_sA g hn]
    exact va_tlen F.1 F.2.1 F.2.2.2.2.2.1.2.2.2.2.2.2.1 hS (by rw [sA_len g hn]) hd kk
theorem k_iastore (F : Fr g p s m args meth c y) (hd : decode (bN y) pc = .ok (.iastore, len)) (h : exI y (.iastore) len pc ls st μ = some (.inl (pc', ls', st', μ'))) (k : KC g p l e Rm s m args below meth c Q y K0 S0 pc' ls' st' μ') : KC g p l e Rm s m args below meth c Q y K0 S0 pc ls st μ := by
  obtain ⟨rfl, h1⟩ := ck_some h
  obtain ⟨x, t, rfl, h2⟩ := pI_some h1
  obtain ⟨i, t, rfl, h3⟩ := pI_some h2
  obtain ⟨a, t, rfl, h4⟩ := pA_some h3
  obtain ⟨⟨ha, hbig, hi⟩, h5⟩ := ck_some h4
  obtain ⟨rfl, rfl, rfl, rfl⟩ := nxt_inj h5
  intro H locs cells slots A hH hS hK hL hlv hst hls
  have hn := F.2.2.2.2.2.1.2.2.2.2.2.2.2.2
  obtain ⟨q, hq⟩ := List.getElem?_of_mem (okr_big (hst a (by simp)) hn hbig)
  have he := wsO_get (g := g) hq
  rw [ceO_arr ha (by omega)] at he
  have hk0 : a ≠ kwA := fun q => by rw [q] at hbig; exact absurd hbig (by decide)
  have hs0 : a ≠ sA g := fun q => by
    have := sA_div g hn
    rw [← q] at this
    omega
  refine va_iast F.1 F.2.1 F.2.2.2.2.2.1.1 hH.1 hH.2.1 hS q 0 he rfl hi hd (fun H1 locs1 hP1 hD1 hS1 => ?_)
  rw [← arO_wI (g := g)] at hP1 hD1
  refine k H1 locs1 cells slots A (HF_upd hH hq rfl (fun b hb => ceO_wI b hb) (by rw [ceO_arr ha (by omega)]; exact hP1) (by rw [ceO_arr ha (by omega)]; exact hD1) hH.2.2.2.1 (fun j => ?_) (fun j => ?_)) hS1 hK hL hlv (okS_of hst (fun b hb => by simp [hb])) hls
  · rfl
  · rw [rI_wI, if_neg (fun q => hs0 q.1)]
theorem k_lastore (F : Fr g p s m args meth c y) (hd : decode (bN y) pc = .ok (.lastore, len)) (h : exI y (.lastore) len pc ls st μ = some (.inl (pc', ls', st', μ'))) (k : KC g p l e Rm s m args below meth c Q y K0 S0 pc' ls' st' μ') : KC g p l e Rm s m args below meth c Q y K0 S0 pc ls st μ := by
  obtain ⟨rfl, h1⟩ := ck_some h
  obtain ⟨x, t, rfl, h2⟩ := pL_some h1
  obtain ⟨i, t, rfl, h3⟩ := pI_some h2
  obtain ⟨a, t, rfl, h4⟩ := pA_some h3
  obtain ⟨⟨ha, hbig, hi⟩, h5⟩ := ck_some h4
  obtain ⟨rfl, rfl, rfl, rfl⟩ := nxt_inj h5
  intro H locs cells slots A hH hS hK hL hlv hst hls
  have hn := F.2.2.2.2.2.1.2.2.2.2.2.2.2.2
  obtain ⟨q, hq⟩ := List.getElem?_of_mem (okr_big (hst a (by simp)) hn hbig)
  have he := wsO_get (g := g) hq
  rw [ceO_arr ha (by omega)] at he
  have hk0 : a ≠ kwA := fun q => by rw [q] at hbig; exact absurd hbig (by decide)
  have hs0 : a ≠ sA g := fun q => by
    have := sA_div g hn
    rw [← q] at this
    omega
  refine va_last F.1 F.2.1 F.2.2.2.2.2.1.1 hH.1 hH.2.1 hS q 1 he rfl hi hd (fun H1 locs1 hP1 hD1 hS1 => ?_)
  rw [← arO_wL (g := g)] at hP1 hD1
  refine k H1 locs1 cells slots A (HF_upd hH hq rfl (fun b hb => ceO_wL b hb) (by rw [ceO_arr ha (by omega)]; exact hP1) (by rw [ceO_arr ha (by omega)]; exact hD1) hH.2.2.2.1 (fun j => ?_) (fun j => ?_)) hS1 hK hL hlv (okS_of hst (fun b hb => by simp [hb])) hls
  · rw [rL_wL, if_neg (fun q => hk0 q.1)]
  · rfl
theorem k_castore (F : Fr g p s m args meth c y) (hd : decode (bN y) pc = .ok (.castore, len)) (h : exI y (.castore) len pc ls st μ = some (.inl (pc', ls', st', μ'))) (k : KC g p l e Rm s m args below meth c Q y K0 S0 pc' ls' st' μ') : KC g p l e Rm s m args below meth c Q y K0 S0 pc ls st μ := by
  obtain ⟨rfl, h1⟩ := ck_some h
  obtain ⟨x, t, rfl, h2⟩ := pI_some h1
  obtain ⟨i, t, rfl, h3⟩ := pI_some h2
  obtain ⟨a, t, rfl, h4⟩ := pA_some h3
  obtain ⟨⟨ha, hbig, hi⟩, h5⟩ := ck_some h4
  obtain ⟨rfl, rfl, rfl, rfl⟩ := nxt_inj h5
  intro H locs cells slots A hH hS hK hL hlv hst hls
  have hn := F.2.2.2.2.2.1.2.2.2.2.2.2.2.2
  obtain ⟨q, hq⟩ := List.getElem?_of_mem (okr_big (hst a (by simp)) hn hbig)
  have he := wsO_get (g := g) hq
  rw [ceO_arr ha (by omega)] at he
  have hk0 : a ≠ kwA := fun q => by rw [q] at hbig; exact absurd hbig (by decide)
  have hs0 : a ≠ sA g := fun q => by
    have := sA_div g hn
    rw [← q] at this
    omega
  refine va_cast F.1 F.2.1 F.2.2.2.2.2.1.1 hH.1 hH.2.1 hS q 2 he rfl hi hd (fun H1 locs1 hP1 hD1 hS1 => ?_)
  rw [← arO_wI (g := g)] at hP1 hD1
  refine k H1 locs1 cells slots A (HF_upd hH hq rfl (fun b hb => ceO_wI b hb) (by rw [ceO_arr ha (by omega)]; exact hP1) (by rw [ceO_arr ha (by omega)]; exact hD1) hH.2.2.2.1 (fun j => ?_) (fun j => ?_)) hS1 hK hL hlv (okS_of hst (fun b hb => by simp [hb])) hls
  · rfl
  · rw [rI_wI, if_neg (fun q => hs0 q.1)]
theorem k_bastore (F : Fr g p s m args meth c y) (hd : decode (bN y) pc = .ok (.bastore, len)) (h : exI y (.bastore) len pc ls st μ = some (.inl (pc', ls', st', μ'))) (k : KC g p l e Rm s m args below meth c Q y K0 S0 pc' ls' st' μ') : KC g p l e Rm s m args below meth c Q y K0 S0 pc ls st μ := by
  obtain ⟨rfl, h1⟩ := ck_some h
  obtain ⟨x, t, rfl, h2⟩ := pI_some h1
  obtain ⟨i, t, rfl, h3⟩ := pI_some h2
  obtain ⟨a, t, rfl, h4⟩ := pA_some h3
  obtain ⟨⟨ha, hbig, hi⟩, h5⟩ := ck_some h4
  obtain ⟨rfl, rfl, rfl, rfl⟩ := nxt_inj h5
  intro H locs cells slots A hH hS hK hL hlv hst hls
  have hn := F.2.2.2.2.2.1.2.2.2.2.2.2.2.2
  obtain ⟨q, hq⟩ := List.getElem?_of_mem (okr_big (hst a (by simp)) hn hbig)
  have he := wsO_get (g := g) hq
  rw [ceO_arr ha (by omega)] at he
  have hk0 : a ≠ kwA := fun q => by rw [q] at hbig; exact absurd hbig (by decide)
  have hs0 : a ≠ sA g := fun q => by
    have := sA_div g hn
    rw [← q] at this
    omega
  refine va_zast F.1 F.2.1 F.2.2.2.2.2.1.1 hH.1 hH.2.1 hS q 3 he rfl hi hd (fun H1 locs1 hP1 hD1 hS1 => ?_)
  rw [← arO_wI (g := g)] at hP1 hD1
  refine k H1 locs1 cells slots A (HF_upd hH hq rfl (fun b hb => ceO_wI b hb) (by rw [ceO_arr ha (by omega)]; exact hP1) (by rw [ceO_arr ha (by omega)]; exact hD1) hH.2.2.2.1 (fun j => ?_) (fun j => ?_)) hS1 hK hL hlv (okS_of hst (fun b hb => by simp [hb])) hls
  · rfl
  · rw [rI_wI, if_neg (fun q => hs0 q.1)]
theorem k_aastore (F : Fr g p s m args meth c y) (hd : decode (bN y) pc = .ok (.aastore, len)) (h : exI y (.aastore) len pc ls st μ = some (.inl (pc', ls', st', μ'))) (k : KC g p l e Rm s m args below meth c Q y K0 S0 pc' ls' st' μ') : KC g p l e Rm s m args below meth c Q y K0 S0 pc ls st μ := by
  obtain ⟨rfl, h1⟩ := ck_some h
  obtain ⟨x, t, rfl, h2⟩ := pA_some h1
  obtain ⟨i, t, rfl, h3⟩ := pI_some h2
  obtain ⟨a, t, rfl, h4⟩ := pA_some h3
  obtain ⟨⟨ha, hx, hbig, hi⟩, h5⟩ := ck_some h4
  obtain ⟨rfl, rfl, rfl, rfl⟩ := nxt_inj h5
  intro H locs cells slots A hH hS hK hL hlv hst hls
  have hn := F.2.2.2.2.2.1.2.2.2.2.2.2.2.2
  obtain ⟨q, hq⟩ := List.getElem?_of_mem (okr_big (hst a (by simp)) hn hbig)
  have he := wsO_get (g := g) hq
  rw [ceO_arr ha (by omega)] at he
  obtain ⟨q2, hq2⟩ := List.getElem?_of_mem (okr_obj (hst x (by simp)) (by omega))
  have he2 := wsO_get (g := g) hq2
  rw [ceO_obj hx (by omega)] at he2
  refine va_astq (r := (oC 8, TN 8, NN 8)) F.1 F.2.1 F.2.2.2.2.2.1.1 hH.1 hH.2.1 hS q 4 q2 8 he rfl he2 (tb_obj 8 (by omega)) hi hd (fun H1 locs1 hP1 hD1 hS1 => ?_)
  rw [← arO_wR] at hP1 hD1
  refine k H1 locs1 cells slots A (HF_upd hH hq rfl (fun b hb => ceO_wR b hb) (by rw [ceO_arr ha (by omega)]; exact hP1) (by rw [ceO_arr ha (by omega)]; exact hD1) ?_ (fun j => rfl) (fun j => rfl)) hS1 hK hL hlv (okS_of hst (fun b hb => by simp [hb])) hls
  intro b j d hd9
  rw [rR_wR] at hd9
  split at hd9
  · cases hd9; exact hst _ (by simp)
  · exact hH.2.2.2.1 b j d hd9
theorem k_kw {i : Nat} (F : Fr g p s m args meth c y) (hd : decode (bN y) pc = .ok (.getstatic i, len)) (h : exI y (.getstatic i) len pc ls st μ = some (.inl (pc', ls', st', μ'))) (k : KC g p l e Rm s m args below meth c Q y K0 S0 pc' ls' st' μ') : KC g p l e Rm s m args below meth c Q y K0 S0 pc ls st μ := by
  obtain ⟨⟨rfl, hoy, rfl⟩, h1⟩ := ck_some h
  obtain ⟨rfl, rfl, rfl, rfl⟩ := nxt_inj h1
  intro H locs cells slots A hH hS hK hL hlv hst hls
  have hown := F.2.2.2.1
  rw [hoy] at hown
  refine va_getsN F.1 F.2.1 F.2.2.2.2.2.1.2.2.2.2.1 hS hown (va_Nw.use rfl F.2.2.2.2.2.1.2.2.1) (fun _ z => z) hd ?_
  rw [← ad_kw g]
  exact k H locs cells slots A hH hS hK hL hlv (fun b hb => by
    rcases List.mem_cons.mp hb with h9 | h9
    · cases h9; exact Or.inr (Or.inl rfl)
    · exact hst b h9) hls
theorem k_ifnull {off : Int} (F : Fr g p s m args meth c y) (hd : decode (bN y) pc = .ok (.ifnull off, len)) (h : exI y (.ifnull off) len pc ls st μ = some (.inl (pc', ls', st', μ'))) (k : KC g p l e Rm s m args below meth c Q y K0 S0 pc' ls' st' μ') : KC g p l e Rm s m args below meth c Q y K0 S0 pc ls st μ := by
  obtain ⟨rfl, h1⟩ := ck_some h
  obtain ⟨v, t, rfl, h2⟩ := pV_some h1
  split at h2
  · obtain ⟨ht, rfl, rfl, rfl⟩ := jmp_some h2
    intro H locs cells slots A hH hS hK hL hlv hst hls
    exact lv_ifnullN F.1 F.2.1 hd ht (k H locs cells slots A hH hS hK hL hlv (okS_of hst (fun b hb => List.mem_cons_of_mem _ hb)) hls)
  · obtain ⟨rfl, rfl, rfl, rfl⟩ := nxt_inj h2
    intro H locs cells slots A hH hS hK hL hlv hst hls
    exact lv_ifnull F.1 F.2.1 hd (k H locs cells slots A hH hS hK hL hlv (okS_of hst (fun b hb => List.mem_cons_of_mem _ hb)) hls)
  · cases h2
theorem k_tsw {dflt lo hi : Int} {offs : Array Int} (F : Fr g p s m args meth c y) (hd : decode (bN y) pc = .ok (.tableswitch dflt lo hi offs, len)) (h : exI y (.tableswitch dflt lo hi offs) len pc ls st μ = some (.inl (pc', ls', st', μ'))) (k : KC g p l e Rm s m args below meth c Q y K0 S0 pc' ls' st' μ') : KC g p l e Rm s m args below meth c Q y K0 S0 pc ls st μ := by
  obtain ⟨x, t, rfl, h1⟩ := pI_some h
  split at h1
  · rename_i off hj
    obtain ⟨ht, rfl, rfl, rfl⟩ := jmp_some h1
    intro H locs cells slots A hH hS hK hL hlv hst hls
    have kk := k H locs cells slots A hH hS hK hL hlv (okS_of hst (fun b hb => List.mem_cons_of_mem _ hb)) hls
    unfold jT at hj
    split at hj
    · cases hj
      exact lv_tableOut F.1 F.2.1 hd (by assumption) ht kk
    · rename_i hx
      exact lv_tableIn F.1 F.2.1 hd (fun q => hx (Or.inl q)) (fun q => hx (Or.inr q)) hj ht kk
  · cases h1
theorem k_lsw {dflt : Int} {ps : Array (Int × Int)} (F : Fr g p s m args meth c y) (hd : decode (bN y) pc = .ok (.lookupswitch dflt ps, len)) (h : exI y (.lookupswitch dflt ps) len pc ls st μ = some (.inl (pc', ls', st', μ'))) (k : KC g p l e Rm s m args below meth c Q y K0 S0 pc' ls' st' μ') : KC g p l e Rm s m args below meth c Q y K0 S0 pc ls st μ := by
  obtain ⟨hp, h1⟩ := ck_some h
  obtain ⟨x, t, rfl, h2⟩ := pI_some h1
  obtain ⟨ht, rfl, rfl, rfl⟩ := jmp_some h2
  intro H locs cells slots A hH hS hK hL hlv hst hls
  exact lv_lookup F.1 F.2.1 hd hp rfl ht (k H locs cells slots A hH hS hK hL hlv (okS_of hst (fun b hb => List.mem_cons_of_mem _ hb)) hls)
end STP
