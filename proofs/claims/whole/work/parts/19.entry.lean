/-! THE CLAIM OUT OF ONE WALK OF THE LAW'S BODY. Your part is whole_start (and what it stands on); all else here is the same for every law, but numbers. -/
def R_law : String := "ChinRowLaw"
def lw_P (b : Addr) (xs : List Int32) (args : Array Value) (s : State) : Prop := args = #[.ref b] ∧ s.IntsAt b xs ∧ xs.length ≤ 3584 ∧ (Jvm.Cond.and given_1 narrow_1).before args s = true
def lw_Q (_ : Array Value) (s : State) (o : Outcome) (t : State) : Prop := o = .returned (some (.int 1)) ∧ Framed s o t [] 600000 7302250
def lw_Z (below : List Frame) (a : Array Value) (s : State) : State → Prop := fun t => ∃ o, t.status = .running ∧ Ended t below o ∧ lw_Q a s o t
/-- the law's own end, with 1 on the stack, nothing written that was there before, its room as the claim has it -/
theorem lw_ret {p : Program} {l : Launch} {e : Env} {s : State} {m : MethodId} {below : List Frame} {meth : Method} {c : Code} {b : Nat} (hx : p.tables.exec = Jvm.exec) (hb : c.code = code) (hr : meth.sig.returnType = ret) (hlocks : meth.locks = false) {pc : Nat} {H : Heap} {ls : Array Slot} (hdg : decode code pc = .ok (.ireturn, 1)) : W p l e room_1 s m #[Value.ref b] below meth c H [] 600000 7302250 (lw_Z below #[Value.ref b] s) (F0 m pc ls [.int 1]) := by
  intro T hT X
  obtain ⟨fs, hret, hrun, hended, hW, hframe⟩ := X.leave (v := some (.int 1)) (hlocks := hlocks) (fun h => by rw [hr] at h; cases h)
  have hmeth' : T.vm.method? m = some meth := X.method'
  refine ⟨T.setFrames fs, ?_, .returned (some (.int 1)), hrun, hended, rfl, ⟨_, rfl⟩, hW, hframe⟩
  jvm_step X.here [X.here.top, hx, hb, hdg, hmeth', hr, ret, narrow_b1]
  (try refine ⟨rfl, ?_⟩); (try refine ⟨rfl, ?_⟩)
  first | (intro acts; rw [hret _ acts rfl rfl rfl]) | rw [hret _ _ rfl rfl rfl]
  exact Steps.refl _
/-- what holds at the law's entry: the machine, the code, the tables' words (any of lw_tbl by 'hts w (by decide +kernel)'), the script of L ints xs at the cell b, what the Statement gives of the start (any of its parts by flat_of_before) -/
def lw_At (p : Program) (s : State) (m : MethodId) (meth : Method) (c : Code) (b L : Nat) (xs : Nat → Int32) : Prop :=
  p.tables.exec = Jvm.exec ∧ c.code = code ∧ meth.sig.returnType = ret ∧ c.maxLocals = 4 ∧ s.vm.findClass R_law = some m.cls ∧ (∀ w ∈ lw_tbl, w.before #[Value.ref b] s = true) ∧ va_X b L xs s s.heap ∧ b < s.heap.size ∧ meth.locks = false ∧ (Jvm.Cond.and given_1 narrow_1).before #[Value.ref b] s = true
def mu0 (L : Nat) (xs : Nat → Int32) : PM := (fun a j => if a = L * 100 + 20 then xs j else 0, fun a j => if a = kwA then kwF j else 0, fun _ _ => none, [])
theorem w_lay : Cond.laysStatic "ChinRow" "KEYWORDS" "[J" ∈ lw_tbl := tb_in (show lw_tbl[562]? = some (Cond.laysStatic "ChinRow" "KEYWORDS" "[J") by decide +kernel)
theorem w_ini : Cond.initialized "ChinRow" ∈ lw_tbl := tb_in (show lw_tbl[105]? = some (Cond.initialized "ChinRow") by decide +kernel)
theorem w_over : Cond.arrayOver (.object "ChinRow$Stand") ∈ lw_tbl := tb_in (show lw_tbl[372]? = some (Cond.arrayOver (.object "ChinRow$Stand")) by decide +kernel)
theorem w_fnest : Cond.fieldLinkNest "ChinRow$Lexer" 55 "ChinRow" "KEYWORDS" "[J" "ChinRow" ∈ lw_tbl := tb_in (show lw_tbl[561]? = some (Cond.fieldLinkNest "ChinRow$Lexer" 55 "ChinRow" "KEYWORDS" "[J" "ChinRow") by decide +kernel)
theorem TB_sub {w : Cond} (h : w ∈ TB) : w ∈ lw_tbl := (List.mem_filter.mp h).1
theorem arr_of {s : State} {cA comp : ClassId} {k : Class} {ty : FieldType} (h2 : s.vm.classes[cA]? = some k) (h3 : k.kind = .array comp ty) : ArrOfT s cA ty := fun n z => ⟨fun q h => (by cases h), k, h2, comp, h3⟩
theorem sf_known {s : State} {args : Array Value} (hts : ∀ w ∈ lw_tbl, w.before args s = true) (B t b L : Nat) (xs : Nat → Int32) : ∃ (D : va_G) (cT : Nat → ClassId), va_K D vwCl (TY (D, cT, B, t, b, L, xs)) s := by
  have hk : ∀ c, ∃ q : ClassId × (Nat → Nat), c < 12 → u_Kn s (oC c) (TN c) (NN c) q.1 q.2 := by
    intro c
    by_cases hc : c < 12
    · obtain ⟨cC, iS, h⟩ := u_known (C := oC c) (T := TN c) (N := NN c) hts (fun w hw => TB_sub (lay_in hc w hw)) (hts _ (tb_in (tb_make c hc).1))
      exact ⟨(cC, iS), fun _ => h⟩
    · exact ⟨(0, fun _ => 0), fun h => absurd h hc⟩
  obtain ⟨c0, k0, q0, a1, a2, a3⟩ := Cond.arrayClass_spec (hts _ (TB_sub w_aint))
  obtain ⟨c1, k1, q1, b1, b2, b3⟩ := Cond.arrayClass_spec (hts _ (TB_sub w_along))
  obtain ⟨c2, k2, q2, d1, d2, d3⟩ := Cond.arrayClass_spec (hts _ (TB_sub w_achar))
  obtain ⟨c3, k3, q3, e1, e2, e3⟩ := Cond.arrayClass_spec (hts _ (TB_sub w_abool))
  obtain ⟨q4, c4, k4, f1, f2, f3, f4, f5⟩ := Cond.arrayOver_spec (hts _ w_over)
  refine ⟨(fun c => (Classical.choose (hk c)).1, fun c => (Classical.choose (hk c)).2), fun t => if t = 20 then c0 else if t = 21 then c1 else if t = 22 then c2 else if t = 23 then c3 else c4, ?_, ?_⟩
  · intro c q hq
    have hc : c < 12 := (List.getElem?_eq_some_iff.mp hq).1
    rw [tb_obj c hc] at hq
    cases hq
    exact Classical.choose_spec (hk c) hc
  · intro k q hq
    have hk5 : k < 5 := (List.getElem?_eq_some_iff.mp hq).1
    match k, hk5 with
    | 0, _ => cases hq; exact ⟨arr_of a2 a3, a1⟩
    | 1, _ => cases hq; exact ⟨arr_of b2 b3, b1⟩
    | 2, _ => cases hq; exact ⟨arr_of d2 d3, d1⟩
    | 3, _ => cases hq; exact ⟨arr_of e2 e3, e1⟩
    | 4, _ => cases hq; exact ⟨arr_of f3 f4, k4, q4, f3, f4, f1, f5⟩
    | k + 5, h => exact absurd h (by omega)
set_option maxRecDepth 100000 in
theorem kw_elems : ∀ j, j < 28 → Cond.eq (.elem (.static "ChinRow" "KEYWORDS" "[J") (.int (Int32.ofNat j))) (.long (kwF j)) ∈ flatC (Jvm.Cond.and given_1 narrow_1) := by decide +kernel
theorem kw_known {s : State} {args : Array Value} {A : Nat → Prop} (hts : ∀ w ∈ lw_tbl, w.before args s = true) (hgv : (Jvm.Cond.and given_1 narrow_1).before args s = true) (hA : ∀ a : Nat, a < s.heap.size → ¬ A a) : ∃ t, va_Z "ChinRow" "KEYWORDS" "[J" (.ref t) A s s.heap ∧ va_T .long t 28 (fun j => .long (kwF j)) A s s.heap := by
  have hs := flat_of_before _ hgv
  have h1 : (Cond.arrayOf (.static "ChinRow" "KEYWORDS" "[J") .long).before args s = true := hs _ (by decide +kernel)
  have h2 : (Cond.eq (.length (.static "ChinRow" "KEYWORDS" "[J")) (.int 28)).before args s = true := hs _ (by decide +kernel)
  obtain ⟨t, ht, hT⟩ := va_Tof (tm := .static "ChinRow" "KEYWORDS" "[J") (N := 28) (f := fun j => .long (kwF j)) (A := A) (by decide) h1 (va_eqt h2) (fun j hj => va_eqtl (hs _ (kw_elems j hj))) hA
  exact ⟨t, va_Zof (hts _ w_lay) (hts _ w_ini) ht hA, hT⟩
theorem sc_known {s : State} {b L : Nat} {xs : Nat → Int32} {A : Nat → Prop} (h : va_X b L xs s s.heap) (hA : ∀ a : Nat, a < s.heap.size → ¬ A a) : va_T .int b L (fun j => .int (xs j)) A s s.heap := by
  obtain ⟨scr, h1, h2, h3, h4, h5⟩ := h
  exact ⟨scr, h1, h2, h3, Nat.le_of_eq h4.symm, by rw [h4], h5, hA b (Array.getElem?_eq_some_iff.mp h1).1⟩
set_option maxHeartbeats 4000000 in
/-- the law, out of a pure run -/
theorem law_pure {p : Program} {e : Env} {s : State} {m : MethodId} {below : List Frame} {meth : Method} {c : Code} (l : Launch) {b L : Nat} {xs : Nat → Int32} (hL : L ≤ 3584) (C0 : lw_At p s m meth c b L xs) {n : Nat} {μ' : PM} (h : run n 60 232 0 (ent 232 [.ref (L * 100 + 20)]) [] (mu0 L xs) = some (some (.int 1), μ')) (h1 : (aS μ').length ≤ 600000) (h2 : slS μ' ≤ 7302250) :
    W p l e room_1 s m #[Value.ref b] below meth c s.heap [] 0 0 (lw_Z below #[Value.ref b] s) (entryFrame m ([Value.ref b] : List Value).toArray 4) := by
  obtain ⟨hx, hb, hr, hml, hown, hts, hX, hbl, hlocks, hgv⟩ := C0
  have hA : ∀ a : Nat, a < s.heap.size → ¬ (fun q : Nat => s.heap.size ≤ q) a := fun a ha hq => Nat.lt_irrefl _ (Nat.lt_of_lt_of_le ha hq)
  obtain ⟨t, hZ, hT⟩ := kw_known hts hgv hA
  obtain ⟨D, cT, hK⟩ := sf_known hts s.heap.size t b L xs
  have hSF : SF (D, cT, s.heap.size, t, b, L, xs) s := ⟨hK, fun q hq hn => va_Nw.of rfl (hts _ (by
    have h9 := (tb_meth q hq).1
    rw [if_neg hn] at h9
    exact tb_in h9)), va_Nw.of rfl (hts _ w_fnest), va_AO.of (hts _ w_over), hZ, hT, sc_known hX hA, Nat.le_refl _, hL⟩
  have hHF : HF (D, cT, s.heap.size, t, b, L, xs) (mu0 L xs) s.heap := ⟨fun k q hq => by simp [wsO, aS, mu0] at hq, ⟨fun i j p q hp => by simp [wsO, aS, mu0] at hp, fun k q hq => by simp [wsO, aS, mu0] at hq⟩, fun k a hk => by simp [aS, mu0] at hk, fun a j c hr => by simp [rR, mu0] at hr, fun j hj => rfl, fun j hj => by simp [rI, mu0, sA, gL, gX]⟩
  have F : Fr (D, cT, s.heap.size, t, b, L, xs) p s m #[Value.ref b] meth c 232 := ⟨hx, hb, hml, hown, fun w hw => hts w (TB_sub hw), hSF, fun hk => absurd hk (by decide), by decide⟩
  have hen : ([Value.ref (L * 100 + 20)] : List Value).map (tr (D, cT, s.heap.size, t, b, L, xs)) = [Value.ref b] := by
    simp only [List.map_cons, List.map_nil, tr_ref]
    congr 2
    exact ad_sA (D, cT, s.heap.size, t, b, L, xs) hL
  have hlv := ent_lvk (g := (D, cT, s.heap.size, t, b, L, xs)) (z := 232) (as := [Value.ref (L * 100 + 20)]) rfl
  rw [hen] at hlv
  have hx4 : xN 232 = 4 := rfl
  rw [hx4] at hlv
  rw [lg_entry_eq]
  refine good n (D, cT, s.heap.size, t, b, L, xs) 60 232 0 _ [] (mu0 L xs) _ μ' h p l e room_1 s m _ below meth c _ 0 0 F rfl (by decide) (by decide) (by rw [Nat.zero_add]; exact h1) (by rw [Nat.zero_add]; exact h2) ?_ s.heap [] 0 0 _ hHF va_S.rf rfl rfl hlv (fun a ha => by cases ha) (ent_okL (fun a ha => by
    simp at ha
    exact Or.inr (Or.inr ha)))
  intro pcr H' locs' cells' slots' A hret hH' hS' hK' hL'
  refine va_forget (fun q hq => hS'.2.2 q hq) ?_
  refine W.widen (k := 600000) (n := 7302250) (by omega) (by omega) ?_
  rcases hret with ⟨h9, -⟩ | ⟨x, h9, -⟩ | ⟨x, h9, hdec, -⟩
  · cases h9
  · cases h9
  · exact lw_ret hx hb hr hlocks hdec
