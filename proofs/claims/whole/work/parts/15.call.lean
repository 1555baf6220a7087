/-! the machine's own methods, calls, returns -/
theorem cal_spec {z : Nat} {st : List Value} {q : PR} (h : cal z st = some q) : (if kN z = 1 then aN z else aN z + 1) ≤ st.length ∧ sw (st.drop (if kN z = 1 then aN z else aN z + 1)) ≤ 8 ∧ entG z 0 (st.take (if kN z = 1 then aN z else aN z + 1)).reverse = true ∧ q = .inr (.inl (z, (st.take (if kN z = 1 then aN z else aN z + 1)).reverse, st.drop (if kN z = 1 then aN z else aN z + 1))) := by
  unfold cal at h
  simp only at h
  generalize (if kN z = 1 then aN z else aN z + 1) = n at h ⊢
  split at h
  · rename_i hc
    exact ⟨hc.1, hc.2.1, hc.2.2, (Option.some.inj h).symm⟩
  · cases h
theorem lookM_spec {o i z : Nat} (h : lookM o i = some z) : z < 232 ∧ oN z ≠ 13 ∧ ((Cond.methodLink (oC o) i (yN z) ∈ TB) ∨ (kN z ≠ 0 ∧ ∃ q ∈ mL, q.2.2.2.2 ≠ 0 ∧ Cond.methodLinkNest (oC q.1) q.2.1 (yN q.2.2.1) "ChinRow" = Cond.methodLinkNest (oC o) i (yN z) "ChinRow")) := by
  obtain ⟨q, hq, e1⟩ := Option.map_eq_some_iff.mp h
  have hm := List.mem_of_find?_eq_some hq
  have hp := List.find?_some hq
  simp only [Bool.and_eq_true, beq_iff_eq] at hp
  obtain ⟨h1, h2, h3, h4⟩ := tb_meth q hm
  rw [e1] at h2 h3 h4
  refine ⟨h2, h3, ?_⟩
  by_cases hz : q.2.2.2.2 = 0
  · rw [if_pos hz, hp.1, hp.2, e1] at h1
    exact Or.inl (tb_of (tb_in h1) rfl)
  · refine Or.inr ⟨h4.resolve_left hz, q, hm, hz, ?_⟩
    rw [hp.1, hp.2, e1]
def rmD (d mc ms : Nat) : Room := { frames := d + 1, cells := mc, slots := ms, locals := 40 * d + 100 }
def wsZ (z : Nat) : List Cond := Cond.code (yN z) (bN z) (xN z) (tN z) :: TB
def Pz (g : GG) (μ : PM) : State → Prop := fun U => SF g U ∧ HF g μ U.heap ∧ U.heap.size = gB g + (aS μ).length
def Qz (g : GG) (v : Option Value) (μ' : PM) : Array Value → State → Outcome → State → Prop := fun _ st o t => o = .returned (v.map (tr g)) ∧ HF g μ' t.heap ∧ va_F (gA g) st t
def mcZ (μ μ' : PM) : Nat := (aS μ').length - (aS μ).length
def msZ (μ μ' : PM) : Nat := slS μ' - slS μ
def MetZ (g : GG) (l : Launch) (d z : Nat) (as : List Value) (μ : PM) (v : Option Value) (μ' : PM) : Prop := Met l (yN z) (wsZ z) (rmD d (mcZ μ μ') (msZ μ μ')) (va_Pc (as.map (tr g)) (Pz g μ)) (Qz g v μ') (mcZ μ μ') (msZ μ μ') (gA g)
theorem TB_good : ∀ w ∈ TB, w ∈ TB ∧ ((w.onTables && w.keeps) = true ∨ ∃ ty, w = .arrayClass ty) := fun w h => ⟨h, good_of_word (List.mem_filter.mp h).2⟩
theorem wsZ_good {z : Nat} (hz : z < 232) : GoodIn TB (wsZ z) := by
  intro w hw
  rcases List.mem_cons.mp hw with h | h
  · rw [h]; exact TB_good _ (tb_of (tb_code z hz) rfl)
  · exact TB_good w h
theorem Pz_blind {g : GG} {μ : PM} {av : List Value} : FrameBlind (va_Pc av (Pz g μ)) := by
  intro a U gf mk h
  obtain ⟨h1, h2, h3, h4⟩ := h
  exact ⟨h1, SF_vm (U := U.calling gf mk a) h2 rfl rfl, h3, h4⟩
def RetAt (y pc : Nat) (v : Option Value) : Prop := (v = none ∧ tN y = none ∧ decode (bN y) pc = .ok (.return_, 1)) ∨ (∃ x, v = some (.long x) ∧ tN y = some .long ∧ decode (bN y) pc = .ok (.lreturn, 1)) ∨ (∃ x, v = some (.int x) ∧ decode (bN y) pc = .ok (.ireturn, 1) ∧ (tN y = some .int ∨ (tN y = some .boolean ∧ (x = 0 ∨ x = 1))))
section STP
variable {g : GG} {p : Program} {l : Launch} {e : Env} {Rm : Room} {s : State} {m : MethodId} {args : Array Value} {below : List Frame} {meth : Method} {c : Code} {Q : State → Prop} {y K0 S0 pc len pc' : Nat} {ls ls' : PL} {st st' : List Value} {μ μ' : PM}
theorem k_static {i : Nat} (F : Fr g p s m args meth c y) (hR : 1 ≤ Rm.frames ∧ 100 ≤ Rm.locals) (hd : decode (bN y) pc = .ok (.invokestatic i, len)) (h : exI y (.invokestatic i) len pc ls st μ = some (.inl (pc', ls', st', μ'))) (hc : (aS μ').length ≤ K0 + Rm.cells) (hs : slS μ' ≤ S0 + Rm.slots) (k : KC g p l e Rm s m args below meth c Q y K0 S0 pc' ls' st' μ') : KC g p l e Rm s m args below meth c Q y K0 S0 pc ls st μ := by
  obtain ⟨rfl, h1⟩ := ck_some h
  unfold exC at h1
  split at h1
  · rename_i z hz
    obtain ⟨h2, h3⟩ := ck_some h1
    have h4 := (cal_spec h3).2.2.2
    cases h4
  · rename_i hz
    have nf : nativeFrameWords "java/lang/System" "arraycopy" 5 + 11 = 18 := by decide
    split at h1
    · rename_i hh
      have hw := lookH_spec hh
      rw [if_pos rfl] at hw
      split at h1
      · rename_i n dp b sp a t
        obtain ⟨⟨ha, hb, hab, hbb, q1, q2, q3, q4, q5, q6⟩, h2⟩ := ck_some h1
        obtain ⟨rfl, rfl, rfl, rfl⟩ := nxt_inj h2
        intro H locs cells slots A hH hS hK hL hlv hst hls
        have hn := F.2.2.2.2.2.1.2.2.2.2.2.2.2.2
        obtain ⟨qa, hqa⟩ := List.getElem?_of_mem (okr_big (hst a (by simp)) hn hab)
        have hea := wsO_get (g := g) hqa
        rw [ceO_arr ha (by omega)] at hea
        obtain ⟨qb, hqb⟩ := List.getElem?_of_mem (okr_big (hst b (by simp)) hn hbb)
        have heb := wsO_get (g := g) hqb
        rw [ceO_arr hb (by omega)] at heb
        have hk0 : b ≠ kwA := fun q => by rw [q] at hbb; exact absurd hbb (by decide)
        have hs0 : b ≠ sA g := fun q => by
          rw [q] at hbb
          have h9 : sA g < 1000000 := by unfold sA; omega
          exact Nat.lt_irrefl _ (Nat.lt_of_lt_of_le h9 (Nat.le_trans (by decide) hbb))
        refine va_copyi F.1 F.2.1 (F.2.2.1.trans hlv.1.1.symm) F.2.2.2.1 (F.2.2.2.2.1 _ hw) (F.2.2.2.2.1 _ w_native) (F.2.2.2.2.1 _ w_cstat) (F.2.2.2.2.1 _ w_csys) F.2.2.2.2.2.1.1 hH.1 hH.2.1 hS qa qb 0 0 hea heb rfl rfl rfl q1 q2 q3 q4 q5 (fun _ _ => rfl) hR.1 (by rw [tr_sw, nf]; omega) hd (fun H1 locs1 hP1 hD1 hS1 => ?_)
        have ear : (fun j => rI (cI μ a sp.toNatClampNeg b dp.toNatClampNeg n.toNatClampNeg) b j) = va_cpy (fun j => rI μ a j) (fun j => rI μ b j) sp.toNatClampNeg dp.toNatClampNeg n.toNatClampNeg := by
          funext j
          simp only [rI, cI, va_cpy, true_and]
        rw [← ear] at hP1 hD1
        refine k H1 locs1 cells slots A (HF_upd hH hqb rfl (fun d hd => ceO_cI d hd) (by rw [ceO_arr hb (by omega)]; exact hP1) (by rw [ceO_arr hb (by omega)]; exact hD1) hH.2.2.2.1 (fun j => rfl) (fun j => ?_)) hS1 hK hL hlv (okS_of hst (fun d hd => by simp [hd])) hls
        show (if b = sA g ∧ _ then _ else _) = _
        rw [if_neg (fun q => hs0 q.1)]
        rfl
      · cases h1
    · rename_i hh
      have hw := lookH_spec hh
      rw [if_neg (by decide), if_neg (by decide), if_pos rfl] at hw
      obtain ⟨z, t, rfl, h2⟩ := pI_some h1
      obtain ⟨x, t, rfl, h3⟩ := pI_some h2
      obtain ⟨hsw, h4⟩ := ck_some h3
      obtain ⟨rfl, rfl, rfl, rfl⟩ := nxt_inj h4
      intro H locs cells slots A hH hS hK hL hlv hst hls
      exact va_mmax F.1 F.2.1 (F.2.2.1.trans hlv.1.1.symm) F.2.2.2.1 (F.2.2.2.2.1 _ hw) (F.2.2.2.2.1 _ w_maxs) (F.2.2.2.2.1 _ w_cmath) (F.2.2.2.2.1 _ w_maxc) hR.1 (by rw [tr_sw]; omega) (by omega) (by omega) hd (k H locs cells slots A hH hS hK hL hlv (okS_of hst (fun b hb => by simpa using hb)) hls)
    · rename_i hh
      have hw := lookH_spec hh
      rw [if_neg (by decide), if_neg (by decide), if_neg (by decide), if_pos rfl] at hw
      obtain ⟨z, t, rfl, h2⟩ := pI_some h1
      obtain ⟨x, t, rfl, h3⟩ := pI_some h2
      obtain ⟨hsw, h4⟩ := ck_some h3
      obtain ⟨rfl, rfl, rfl, rfl⟩ := nxt_inj h4
      intro H locs cells slots A hH hS hK hL hlv hst hls
      exact va_mmin F.1 F.2.1 (F.2.2.1.trans hlv.1.1.symm) F.2.2.2.1 (F.2.2.2.2.1 _ hw) (F.2.2.2.2.1 _ w_mins) (F.2.2.2.2.1 _ w_cmath) (F.2.2.2.2.1 _ w_minc) hR.1 (by rw [tr_sw]; omega) (by omega) (by omega) hd (k H locs cells slots A hH hS hK hL hlv (okS_of hst (fun b hb => by simpa using hb)) hls)
    · rename_i hh
      have hw := lookH_spec hh
      rw [if_neg (by decide), if_neg (by decide), if_neg (by decide), if_neg (by decide)] at hw
      obtain ⟨x, t, rfl, h3⟩ := pI_some h1
      obtain ⟨hsw, h4⟩ := ck_some h3
      obtain ⟨rfl, rfl, rfl, rfl⟩ := nxt_inj h4
      intro H locs cells slots A hH hS hK hL hlv hst hls
      exact va_mabs F.1 F.2.1 (F.2.2.1.trans hlv.1.1.symm) F.2.2.2.1 (F.2.2.2.2.1 _ hw) (F.2.2.2.2.1 _ w_abss) (F.2.2.2.2.1 _ w_cmath) (F.2.2.2.2.1 _ w_absc) hR.1 (by rw [tr_sw]; omega) (by omega) (by omega) hd (k H locs cells slots A hH hS hK hL hlv (okS_of hst (fun b hb => by simpa using hb)) hls)
    · cases h1
theorem k_oinit {i : Nat} (F : Fr g p s m args meth c y) (hR : 1 ≤ Rm.frames ∧ 100 ≤ Rm.locals) (hd : decode (bN y) pc = .ok (.invokespecial i, len)) (h : exI y (.invokespecial i) len pc ls st μ = some (.inl (pc', ls', st', μ'))) (k : KC g p l e Rm s m args below meth c Q y K0 S0 pc' ls' st' μ') : KC g p l e Rm s m args below meth c Q y K0 S0 pc ls st μ := by
  obtain ⟨rfl, h1⟩ := ck_some h
  split at h1
  · rename_i z hz
    obtain ⟨h2, h3⟩ := ck_some h1
    have h4 := (cal_spec h3).2.2.2
    cases h4
  · rename_i hz
    split at h1
    · rename_i hh
      have hw := lookH_spec hh
      rw [if_neg (by decide), if_pos rfl] at hw
      obtain ⟨a, t, rfl, h2⟩ := pA_some h1
      obtain ⟨hsw, h3⟩ := ck_some h2
      obtain ⟨rfl, rfl, rfl, rfl⟩ := nxt_inj h3
      intro H locs cells slots A hH hS hK hL hlv hst hls
      have hlr := lv_room (m := m) (pc := pc) (ls := A) (rest := (Value.ref a :: st').map (tr g)) (st := st'.map (tr g)) (by rw [tr_sw]; exact hsw)
      refine W.objInit F.1 F.2.1 F.2.2.2.1 (F.2.2.2.2.1 _ hw) (F.2.2.2.2.1 _ w_oinst) (F.2.2.2.2.1 _ w_ocode) rfl (hlv.1.1.trans F.2.2.1.symm) rfl hd hR.1 ?_ (k H locs cells slots A hH hS hK hL hlv (okS_of hst (fun b hb => List.mem_cons_of_mem _ hb)) hls)
      have := hR.2
      omega
    · cases h1
/-- behind a call -/
theorem k_back {z : Nat} {a0 : Array Value} {rest : List Value} {v : Option Value} {H : Heap} {locs : List Loc} {cells slots : Nat} {A : Array Slot} {stk : List Value} (hg1 : (aS μ).length ≤ (aS μ').length) (hg2 : slS μ ≤ slS μ') (hnr : ∀ a, v ≠ some (.ref a))
    (hr : va_Run p l e Rm s m args below meth c H locs cells slots (mcZ μ μ') (msZ μ μ') (F0 m pc A stk) (rest.map (tr g)) (Qz g v μ' a0) (gA g)) (hS : va_S (gA g) s.heap H locs) (hK : K0 + cells = (aS μ).length) (hL : S0 + slots = slS μ) (hlv : lvk g y ls A) (hst : okS g (aS μ') rest) (hls : okL g (aS μ') ls)
    (k : KC g p l e Rm s m args below meth c Q y K0 S0 (pc + 3) ls (v.toList ++ rest) μ') : W p l e Rm s m args below meth c H locs cells slots Q (F0 m pc A stk) := by
  intro T hT X
  obtain ⟨v', st₀, t, T', L, h0, X', hL', e1, e2, ⟨hv, hH', hz, hk⟩, hst2⟩ := hr T hT X
  have hv' : v' = v.map (tr g) := by injection hv
  subst hv'
  rw [h0] at hz hk
  have hS' : va_S (gA g) s.heap T'.heap (locs ++ L) := ⟨Nat.le_trans hS.1 (by rw [e1]; exact hz), fun q h1 h2 => by rw [e1, hk q (Nat.lt_of_lt_of_le h1 hS.1) h2]; exact hS.2.1 q h1 h2, fun q hq => by
    rcases List.mem_append.mp hq with h | h
    · exact hS.2.2 q h
    · exact hL' q h⟩
  have kk := k T'.heap (locs ++ L) (cells + mcZ μ μ') (slots + msZ μ μ') A (by rw [e1]; exact hH') hS' (by unfold mcZ; omega) (by unfold msZ; omega) hlv (fun b hb => by
    rcases List.mem_append.mp hb with h | h
    · cases v with
      | none => simp at h
      | some w => simp at h; exact absurd (congrArg some h.symm) (hnr b)
    · exact hst b h) hls
  have hm : (v.toList ++ rest).map (tr g) = (v.map (tr g)).toList ++ rest.map (tr g) := by cases v <;> simp
  rw [hm] at kk
  obtain ⟨t2, a1, b1⟩ := kk T' rfl X'
  exact ⟨t2, hst2 t2 a1, b1⟩
end STP
