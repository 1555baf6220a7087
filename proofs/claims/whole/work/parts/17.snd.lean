/-! SOUNDNESS: a pure run that ends is a run of the machine -/
section SND
variable {g : GG} {p : Program} {l : Launch} {e : Env} {Rm : Room} {s : State} {m : MethodId} {args : Array Value} {below : List Frame} {meth : Method} {c : Code} {Q : State → Prop} {y K0 S0 pc len pc' : Nat} {ls ls' : PL} {st st' : List Value} {μ μ' : PM}
theorem k_any {i : Instr} (F : Fr g p s m args meth c y) (hB : s.heap.size = gB g + K0) (hR : 1 ≤ Rm.frames ∧ 100 ≤ Rm.locals) (hd : decode (bN y) pc = .ok (i, len)) (h : exI y i len pc ls st μ = some (.inl (pc', ls', st', μ'))) (hc : (aS μ').length ≤ K0 + Rm.cells) (hs : slS μ' ≤ S0 + Rm.slots) (k : KC g p l e Rm s m args below meth c Q y K0 S0 pc' ls' st' μ') : KC g p l e Rm s m args below meth c Q y K0 S0 pc ls st μ := by
  cases i with
  | aaload => exact k_aaload F hd h k
  | aastore => exact k_aastore F hd h k
  | aconst_null => exact k_null F hd h k
  | aload z_0 => exact k_aload F hd h k
  | aload_n z_0 => exact k_aload_n F hd h k
  | anewarray z_0 => exact k_newq F hB hd h hc hs k
  | areturn => simp [exI] at h
  | arraylength => exact k_alen F hd h k
  | astore z_0 => exact k_astore F hd h k
  | astore_n z_0 => exact k_astore_n F hd h k
  | athrow => simp [exI] at h
  | baload => exact k_baload F hd h k
  | bastore => exact k_bastore F hd h k
  | bipush z_0 => exact k_bipush F hd h k
  | caload => exact k_caload F hd h k
  | castore => exact k_castore F hd h k
  | checkcast z_0 => simp [exI] at h
  | d2f => simp [exI] at h
  | d2i => simp [exI] at h
  | d2l => simp [exI] at h
  | dadd => simp [exI] at h
  | daload => simp [exI] at h
  | dastore => simp [exI] at h
  | dcmp z_0 => simp [exI] at h
  | dconst z_0 => simp [exI] at h
  | ddiv => simp [exI] at h
  | dload z_0 => simp [exI] at h
  | dload_n z_0 => simp [exI] at h
  | dmul => simp [exI] at h
  | dneg => simp [exI] at h
  | drem => simp [exI] at h
  | dreturn => simp [exI] at h
  | dstore z_0 => simp [exI] at h
  | dstore_n z_0 => simp [exI] at h
  | dsub => simp [exI] at h
  | dup => exact k_dup F hd h k
  | dup_x1 => simp [exI] at h
  | dup_x2 => simp [exI] at h
  | dup2 => exact k_dup2 F hd h k
  | dup2_x1 => simp [exI] at h
  | dup2_x2 => simp [exI] at h
  | f2d => simp [exI] at h
  | f2i => simp [exI] at h
  | f2l => simp [exI] at h
  | fadd => simp [exI] at h
  | faload => simp [exI] at h
  | fastore => simp [exI] at h
  | fcmp z_0 => simp [exI] at h
  | fconst z_0 => simp [exI] at h
  | fdiv => simp [exI] at h
  | fload z_0 => simp [exI] at h
  | fload_n z_0 => simp [exI] at h
  | fmul => simp [exI] at h
  | fneg => simp [exI] at h
  | frem => simp [exI] at h
  | freturn => simp [exI] at h
  | fstore z_0 => simp [exI] at h
  | fstore_n z_0 => simp [exI] at h
  | fsub => simp [exI] at h
  | getfield z_0 => exact k_getfield F hd h k
  | getstatic z_0 => exact k_kw F hd h k
  | goto z_0 => exact k_goto F hd h k
  | goto_w z_0 => simp [exI] at h
  | i2b => simp [exI] at h
  | i2c => exact k_i2c F hd h k
  | i2d => simp [exI] at h
  | i2f => simp [exI] at h
  | i2l => exact k_i2l F hd h k
  | i2s => simp [exI] at h
  | iadd => exact k_iadd F hd h k
  | iaload => exact k_iaload F hd h k
  | iand => exact k_iand F hd h k
  | iastore => exact k_iastore F hd h k
  | iconst z_0 => exact k_iconst F hd h k
  | idiv => exact k_idiv F hd h k
  | if_acmp z_0 z_1 => simp [exI] at h
  | if_icmp z_0 z_1 => cases z_0 <;> first | exact k_ic_eq F hd h k | exact k_ic_ne F hd h k | exact k_ic_lt F hd h k | exact k_ic_ge F hd h k | exact k_ic_gt F hd h k | exact k_ic_le F hd h k
  | ifCond z_0 z_1 => cases z_0 <;> first | exact k_if_eq F hd h k | exact k_if_ne F hd h k | exact k_if_lt F hd h k | exact k_if_ge F hd h k | exact k_if_gt F hd h k | exact k_if_le F hd h k
  | ifnonnull z_0 => simp [exI] at h
  | ifnull z_0 => exact k_ifnull F hd h k
  | iinc z_0 z_1 => exact k_iinc F hd h k
  | iload z_0 => exact k_iload F hd h k
  | iload_n z_0 => exact k_iload_n F hd h k
  | imul => exact k_imul F hd h k
  | ineg => exact k_ineg F hd h k
  | instanceof z_0 => simp [exI] at h
  | invokedynamic z_0 => simp [exI] at h
  | invokeinterface z_0 z_1 => simp [exI] at h
  | invokespecial z_0 => exact k_oinit F hR hd h k
  | invokestatic z_0 => exact k_static F hR hd h hc hs k
  | invokevirtual z_0 => obtain ⟨-, z, -, -, hz⟩ := exI_vi h; have := (cal_spec hz).2.2.2; cases this
  | ior => exact k_ior F hd h k
  | irem => exact k_irem F hd h k
  | ireturn => obtain ⟨v, hv, -⟩ := exI_rt hd (by simp) h; cases hv
  | ishl => exact k_ishl F hd h k
  | ishr => exact k_ishr F hd h k
  | istore z_0 => exact k_istore F hd h k
  | istore_n z_0 => exact k_istore_n F hd h k
  | isub => exact k_isub F hd h k
  | iushr => exact k_iushr F hd h k
  | ixor => exact k_ixor F hd h k
  | jsr z_0 => simp [exI] at h
  | jsr_w z_0 => simp [exI] at h
  | l2d => simp [exI] at h
  | l2f => simp [exI] at h
  | l2i => exact k_l2i F hd h k
  | ladd => exact k_ladd F hd h k
  | laload => exact k_laload F hd h k
  | land => exact k_land F hd h k
  | lastore => exact k_lastore F hd h k
  | lcmp => exact k_lcmp F hd h k
  | lconst z_0 => exact k_lconst F hd h k
  | ldc z_0 => exact k_ldc F hd h k
  | ldc_w z_0 => exact k_ldc_w F hd h k
  | ldc2_w z_0 => exact k_ldc2_w F hd h k
  | ldiv => exact k_ldiv F hd h k
  | lload z_0 => exact k_lload F hd h k
  | lload_n z_0 => exact k_lload_n F hd h k
  | lmul => exact k_lmul F hd h k
  | lneg => simp [exI] at h
  | lookupswitch z_0 z_1 => exact k_lsw F hd h k
  | lor => exact k_lor F hd h k
  | lrem => exact k_lrem F hd h k
  | lreturn => obtain ⟨v, hv, -⟩ := exI_rt hd (by simp) h; cases hv
  | lshl => exact k_lshl F hd h k
  | lshr => exact k_lshr F hd h k
  | lstore z_0 => exact k_lstore F hd h k
  | lstore_n z_0 => exact k_lstore_n F hd h k
  | lsub => exact k_lsub F hd h k
  | lushr => exact k_lushr F hd h k
  | lxor => simp [exI] at h
  | monitorenter => simp [exI] at h
  | monitorexit => simp [exI] at h
  | multianewarray z_0 z_1 => simp [exI] at h
  | new z_0 => exact k_new F hB hd h hc hs k
  | newarray z_0 => exact k_newa F hB hd h hc hs k
  | nop => simp [exI] at h
  | pop => simp [exI] at h
  | pop2 => simp [exI] at h
  | putfield z_0 => exact k_putfield F hd h k
  | putstatic z_0 => simp [exI] at h
  | ret z_0 => simp [exI] at h
  | return_ => obtain ⟨v, hv, -⟩ := exI_rt hd (by simp) h; cases hv
  | saload => simp [exI] at h
  | sastore => simp [exI] at h
  | sipush z_0 => exact k_sipush F hd h k
  | swap => simp [exI] at h
  | tableswitch z_0 z_1 z_2 z_3 => exact k_tsw F hd h k
end SND
theorem slL_cons (v : Value) (vs : List Value) : slL (v :: vs) = (if v.category = 2 then [some v, none] else [some v]) ++ slL vs := by
  unfold slL
  rw [List.flatMap_cons]
theorem ent_at (g : GG) (z : Nat) : ∀ (as : List Value) (k i : Nat) (v : Value), (slL as)[i]? = some (some v) → (k + i, tr g v) ∈ lv_args k (as.map (tr g)) ∧ (entG z k as = true → v.category = 2 → (gN z).contains (k + i) = true) := by
  intro as
  induction as with
  | nil => intro k i v h; simp [slL] at h
  | cons w ws ih =>
    intro k i v h
    rw [slL_cons] at h
    rw [List.map_cons, lv_args, tr_cat]
    by_cases hc : w.category = 2
    · rw [if_pos hc] at h ⊢
      rcases i with _ | _ | i
      · simp at h
        subst h
        refine ⟨by simp, fun he _ => ?_⟩
        simp only [entG, if_pos hc, Bool.and_eq_true] at he
        exact he.1
      · simp at h
      · have h2 : (slL ws)[i]? = some (some v) := by simpa using h
        obtain ⟨q1, q2⟩ := ih (k + 2) i v h2
        refine ⟨List.mem_cons_of_mem _ (by rw [show k + (i + 1 + 1) = k + 2 + i by omega]; exact q1), fun he hv => ?_⟩
        simp only [entG, if_pos hc, Bool.and_eq_true] at he
        rw [show k + (i + 1 + 1) = k + 2 + i by omega]
        exact q2 he.2 hv
    · rw [if_neg hc] at h ⊢
      rcases i with _ | i
      · simp at h
        subst h
        exact ⟨by simp, fun _ hv => absurd hv hc⟩
      · have h2 : (slL ws)[i]? = some (some v) := by simpa using h
        obtain ⟨q1, q2⟩ := ih (k + 1) i v h2
        refine ⟨List.mem_cons_of_mem _ (by rw [show k + (i + 1) = k + 1 + i by omega]; exact q1), fun he hv => ?_⟩
        simp only [entG, if_neg hc] at he
        rw [show k + (i + 1) = k + 1 + i by omega]
        exact q2 he hv
theorem ent_len (z : Nat) : ∀ (as : List Value) (k : Nat), entG z k as = true → k + (slL as).length ≤ xN z := by
  intro as
  induction as with
  | nil => intro k h; simp only [entG, decide_eq_true_eq] at h; simpa [slL] using h
  | cons w ws ih =>
    intro k h
    rw [slL_cons, List.length_append]
    by_cases hc : w.category = 2
    · simp only [entG, if_pos hc, Bool.and_eq_true] at h
      have := ih (k + 2) h.2
      rw [if_pos hc]
      simp only [List.length_cons, List.length_nil]
      omega
    · simp only [entG, if_neg hc] at h
      have := ih (k + 1) h
      rw [if_neg hc]
      simp only [List.length_cons, List.length_nil]
      omega
theorem lg_len (g : GG) : ∀ as : List Value, (lg_sl (as.map (tr g))).length = (slL as).length := by
  intro as
  induction as with
  | nil => rfl
  | cons w ws ih =>
    rw [slL_cons, List.map_cons, List.length_append, ← ih]
    unfold lg_sl
    rw [List.flatMap_cons, List.length_append, tr_cat]
    by_cases hc : w.category = 2 <;> simp [hc]
theorem slL_mem {as : List Value} {v : Value} (h : some v ∈ slL as) : v ∈ as := by
  unfold slL at h
  obtain ⟨w, hw, h2⟩ := List.mem_flatMap.mp h
  split at h2
  · simp at h2; rw [h2]; exact hw
  · simp at h2; rw [h2]; exact hw
theorem ent_lvk {g : GG} {z : Nat} {as : List Value} (he : entG z 0 as = true) : lvk g z (ent z as) ((lg_sl (as.map (tr g)) ++ List.replicate (xN z - (lg_sl (as.map (tr g))).length) Slot.unset).toArray) := by
  have hlen := ent_len z as 0 he
  have key : ∀ (i : Nat) (v : Value), (ent z as)[i]? = some (some v) → (slL as)[i]? = some (some v) := by
    intro i v h
    unfold ent at h
    by_cases hi : i < (slL as).length
    · rwa [List.getElem?_append_left hi] at h
    · rw [List.getElem?_append_right (by omega), List.getElem?_replicate] at h
      split at h <;> cases h
  refine ⟨lv_less (lv_entry (as.map (tr g)) (n := xN z) (by rw [lg_len]; omega)) ?_, ?_, ?_⟩
  · rintro ⟨i, w⟩ hq
    obtain ⟨v, hv, rfl⟩ := lvO_mem.mp hq
    have := (ent_at g z as 0 i v (key i v hv)).1
    rwa [Nat.zero_add] at this
  · unfold ent
    rw [List.length_append, List.length_replicate]
    omega
  · intro i v hv hc
    have := (ent_at g z as 0 i v (key i v hv)).2 he hc
    rwa [Nat.zero_add] at this
theorem ent_okL {g : GG} {as : List Nat} {z : Nat} {vs : List Value} (h : okS g as vs) : okL g as (ent z vs) := by
  intro a ha
  unfold ent at ha
  rcases List.mem_append.mp ha with h1 | h1
  · exact h a (slL_mem h1)
  · have := List.eq_of_mem_replicate h1
    cases this
def Good (n : Nat) : Prop := ∀ (g : GG) (d y pc : Nat) (ls : PL) (st : List Value) (μ : PM) (v : Option Value) (μ' : PM), run n d y pc ls st μ = some (v, μ') → ∀ (p : Program) (l : Launch) (e : Env) (Rm : Room) (s : State) (m : MethodId) (args : Array Value) (below : List Frame) (meth : Method) (c : Code) (Q : State → Prop) (K0 S0 : Nat), Fr g p s m args meth c y → s.heap.size = gB g + K0 → d + 1 ≤ Rm.frames → 40 * d + 100 ≤ Rm.locals → (aS μ').length ≤ K0 + Rm.cells → slS μ' ≤ S0 + Rm.slots →
  (∀ (pcr : Nat) (H' : Heap) (locs' : List Loc) (cells' slots' : Nat) (A : Array Slot), RetAt y pcr v → HF g μ' H' → va_S (gA g) s.heap H' locs' → K0 + cells' = (aS μ').length → S0 + slots' = slS μ' → W p l e Rm s m args below meth c H' locs' cells' slots' Q (F0 m pcr A ((v.map (tr g)).toList))) → KC g p l e Rm s m args below meth c Q y K0 S0 pc ls st μ
theorem RetAt_nr {y pc : Nat} {v : Option Value} (h : RetAt y pc v) : ∀ a, v ≠ some (.ref a) := by
  intro a hv
  rcases h with ⟨h, -⟩ | ⟨x, h, -⟩ | ⟨x, h, -⟩ <;> (rw [h] at hv; cases hv)
theorem met_of {n : Nat} (hG : Good n) {g : GG} {l : Launch} {d z : Nat} {as : List Value} {μ : PM} {v : Option Value} {μ' : PM} (h : run n d z 0 (ent z as) [] μ = some (v, μ')) (hz : z < 232) (ho : oN z ≠ 13) (has : okS g (aS μ) as) (he : entG z 0 as = true) : MetZ g l d z as μ v μ' := by
  obtain ⟨g1, g2, -⟩ := run_gr _ _ _ _ _ _ _ _ _ h
  unfold MetZ
  refine Met.ofW (cc := bN z) (maxL := xN z) (ret := tN z) (tb_plain z hz ho).1 rfl ?_
  intro p e s m args below meth c s₁ B hml hv
  obtain ⟨rfl, hSF, hHF, hsz⟩ := hv
  have hts := atoms_spec (ws := wsZ z) B.pre
  have hown : s.vm.findClass (yN z).cls = some m.cls := findClass_of_methodNamed B.named
  obtain ⟨o1, o2, o3⟩ := tb_own z (by omega)
  rw [o1] at hown
  have hr := B.returns
  have hlocks := B.notSynchronized
  have F : Fr g p s m (as.map (tr g)).toArray meth c z := ⟨B.exec, B.bytes, hml, hown, fun w hw => hts w (List.mem_cons_of_mem _ hw), hSF, fun hk => (name_of_methodNamed B.named B.method).1.trans (o3 hk).1, by omega⟩
  rw [lg_entry_eq]
  refine hG g d z 0 (ent z as) [] μ v μ' h p l e _ s m _ below meth c _ (aS μ).length (slS μ) F hsz (Nat.le_refl _) (Nat.le_refl _) (by show _ ≤ _ + mcZ μ μ'; unfold mcZ; omega) (by show _ ≤ _ + msZ μ μ'; unfold msZ; omega) ?_ s.heap [] 0 0 _ hHF va_S.rf (Nat.add_zero _) (Nat.add_zero _) (ent_lvk he) (fun a ha => by cases ha) (ent_okL has)
  intro pcr H' locs' cells' slots' A hret hH' hS' hK' hL'
  have e1 : cells' = mcZ μ μ' := by unfold mcZ; omega
  have e2 : slots' = msZ μ μ' := by unfold msZ; omega
  subst e1
  subst e2
  rcases hret with ⟨rfl, ht, hdec⟩ | ⟨x, rfl, ht, hdec⟩ | ⟨x, rfl, hdec, ht⟩
  · rw [ht] at hr
    exact W.vret B.exec B.bytes hr (fun t h1 h2 => ⟨rfl, by rw [h1]; exact hH', hS'.F h1⟩) hS'.2.2 hdec
  · rw [ht] at hr
    exact W.lret B.exec B.bytes hr (fun t h1 h2 => ⟨rfl, by rw [h1]; exact hH', hS'.F h1⟩) hS'.2.2 hdec
  · rcases ht with ht | ⟨ht, hx⟩
    · rw [ht] at hr
      exact W.iret B.exec B.bytes hr (fun t h1 h2 => ⟨rfl, by rw [h1]; exact hH', hS'.F h1⟩) hS'.2.2 hdec
    · rw [ht] at hr
      exact W.zret B.exec B.bytes hr (nar_bool hx).1 (fun t h1 h2 => ⟨rfl, by rw [h1]; exact hH', hS'.F h1⟩) hS'.2.2 hdec
section CALLS
variable {g : GG} {p : Program} {l : Launch} {e : Env} {Rm : Room} {s : State} {m : MethodId} {args : Array Value} {below : List Frame} {meth : Method} {c : Code} {Q : State → Prop} {y K0 S0 pc len pc' : Nat} {ls ls' : PL} {st st' : List Value} {μ μ' : PM}
theorem ini_in {z : Nat} (hz : z < 232) : Cond.initialized (yN z).cls ∈ TB := tb_of (tb_in (tb_init z hz)) rfl
theorem ins_in {z : Nat} (hz : z < 232) (hk : kN z ≠ 1) : Cond.instanceMethod (yN z) ∈ TB := tb_of (tb_in (tb_inst z hz hk)) rfl
theorem sta_in {z : Nat} (hz : z < 232) (hk : kN z = 1) : Cond.static (yN z) ∈ TB := tb_of (tb_in (tb_stat z hz hk)) rfl
theorem sel_in {z : Nat} (hz : z < 232) (hk : kN z = 0) : Cond.selects (yN z).cls (yN z) (yN z) ∈ TB := tb_of (tb_in (tb_sel z hz hk)) rfl
theorem pre_U {H : Heap} {locs : List Loc} (F : Fr g p s m args meth c y) (hH : HF g μ H) (hS : va_S (gA g) s.heap H locs) (hz : H.size = gB g + (aS μ).length) (U : State) (hU : U.heap = H) (hW : s.WarmedH U.vm) : Pz g μ U := ⟨SF_to F.2.2.2.2.2.1 hS hU hW, by rw [hU]; exact hH, by rw [hU]; exact hz⟩
theorem run_V {i z a d : Nat} {As rest : List Value} {v : Option Value} {H : Heap} {locs : List Loc} {cells slots : Nat} {A : Array Slot} (F : Fr g p s m args meth c y) (hf : d + 1 + 1 ≤ Rm.frames) (hlo : 40 * (d + 1) + 100 ≤ Rm.locals) (hd : decode (bN y) pc = .ok (.invokevirtual i, 3)) (hl : lookM (oN y) i = some z) (hk : kN z = 0) (ha : a % 100 = oN z) (hn : As.length = aN z) (hsw : sw rest ≤ 8) (hM : MetZ g l d z (.ref a :: As) μ v μ')
    (hH : HF g μ H) (hS : va_S (gA g) s.heap H locs) (hz : H.size = gB g + (aS μ).length) (hlv : lvk g y ls A) (hma : a ∈ aS μ) (hcl : oN z < 12) (hc : cells + mcZ μ μ' ≤ Rm.cells ∧ slots + msZ μ μ' ≤ Rm.slots) :
    va_Run p l e Rm s m args below meth c H locs cells slots (mcZ μ μ') (msZ μ μ') (F0 m pc A ((As.reverse ++ .ref a :: rest).map (tr g))) (rest.map (tr g)) (Qz g v μ' (((.ref a :: As) : List Value).map (tr g)).toArray) (gA g) := by
  obtain ⟨z1, z2, z3⟩ := lookM_spec hl
  obtain ⟨t1, t2, t3, t4⟩ := tb_plain z z1 z2
  obtain ⟨o1, o2, o3⟩ := tb_own z (by omega)
  have hlink : Cond.methodLink (oC (oN y)) i (yN z) ∈ TB := by
    rcases z3 with z3 | ⟨z3, -⟩
    · exact z3
    · exact absurd hk z3
  obtain ⟨q, hq⟩ := List.getElem?_of_mem hma
  have he := wsO_get (g := g) hq
  rw [ceO_obj ha hcl] at he
  have hrc := va_recv F.2.2.2.2.2.1.1 hH.1 (tb_obj (oN z) hcl) he
  have hrc : ∃ cell : Cell, H[ad g a]? = some cell ∧ cell.vm.isStatics = false ∧ s.vm.findClass (yN z).cls = some cell.cls := by rw [o1]; exact hrc
  have cw : CallW Rm s args (oC (oN y)) (yN z).cls i (yN z) (bN z) (xN z) (tN z) (wsZ z) (rmD d (mcZ μ μ') (msZ μ μ')) (mcZ μ μ') (msZ μ μ') (aN z) := ⟨callB_of (Ts := TB) (aN z) F.2.2.2.2.1 (wsZ_good z1) rfl rfl rfl (F.2.2.2.2.1 _ (ini_in z1)) (F.2.2.2.2.1 _ hlink) ⟨t2, t3, t4⟩ ⟨by show d + 1 + 1 ≤ _; omega, by show 8 + (xN z + 11) + (40 * d + 100) ≤ _; omega⟩, F.2.2.2.2.1 _ (ins_in z1 (by omega)), F.2.2.2.2.1 _ (sel_in z1 hk)⟩
  have hlr := lv_room (m := m) (pc := pc) (ls := A) (rest := (As.reverse ++ .ref a :: rest).map (tr g)) (st := rest.map (tr g)) (by rw [tr_sw]; exact hsw)
  exact va_runV (As := As.map (tr g)) (rest := rest.map (tr g)) (b := ad g a) (C := (yN z).cls) ⟨F.1, F.2.1, F.2.2.1, F.2.2.2.1, F.2.2.2.2.1⟩ hM cw ⟨Pz_blind, hrc, fun U hU hW => ⟨rfl, pre_U F hH hS hz U hU hW⟩⟩ rfl (by rw [List.length_map]; exact hn) hlv.1.1 (by simp [List.map_reverse, tr_ref]) hlr hd hc
theorem run_I {i z a d : Nat} {As rest : List Value} {v : Option Value} {H : Heap} {locs : List Loc} {cells slots : Nat} {A : Array Slot} (F : Fr g p s m args meth c y) (hf : d + 1 + 1 ≤ Rm.frames) (hlo : 40 * (d + 1) + 100 ≤ Rm.locals) (hd : decode (bN y) pc = .ok (.invokespecial i, 3)) (hl : lookM (oN y) i = some z) (hk : kN z = 2) (hn : As.length = aN z) (hsw : sw rest ≤ 8) (hM : MetZ g l d z (.ref a :: As) μ v μ')
    (hH : HF g μ H) (hS : va_S (gA g) s.heap H locs) (hz : H.size = gB g + (aS μ).length) (hlv : lvk g y ls A) (hc : cells + mcZ μ μ' ≤ Rm.cells ∧ slots + msZ μ μ' ≤ Rm.slots) :
    va_Run p l e Rm s m args below meth c H locs cells slots (mcZ μ μ') (msZ μ μ') (F0 m pc A ((As.reverse ++ .ref a :: rest).map (tr g))) (rest.map (tr g)) (Qz g v μ' (((.ref a :: As) : List Value).map (tr g)).toArray) (gA g) := by
  obtain ⟨z1, z2, z3⟩ := lookM_spec hl
  obtain ⟨t1, t2, t3, t4⟩ := tb_plain z z1 z2
  obtain ⟨o1, o2, o3⟩ := tb_own z (by omega)
  obtain ⟨o4, o5⟩ := o3 hk
  have hlr := lv_room (m := m) (pc := pc) (ls := A) (rest := (As.reverse ++ .ref a :: rest).map (tr g)) (st := rest.map (tr g)) (by rw [tr_sw]; exact hsw)
  have hw : wsZ z = Cond.code (yN z) (bN z) (xN z) none :: TB := by unfold wsZ; rw [o5]
  rcases z3 with z3 | ⟨-, q, hq, hqn, hqe⟩
  · exact va_runI (As := As.map (tr g)) (rest := rest.map (tr g)) (b := ad g a) ⟨F.1, F.2.1, F.2.2.1, F.2.2.2.1, F.2.2.2.2.1⟩ hM (cwI (Ts := TB) (aN z) F.2.2.2.2.1 (wsZ_good z1) hw rfl rfl (F.2.2.2.2.1 _ (ini_in z1)) (F.2.2.2.2.1 _ z3) (F.2.2.2.2.1 _ (ins_in z1 (by omega))) o4 ⟨t2, t3, t4⟩ ⟨by show d + 1 + 1 ≤ _; omega, by show 8 + (xN z + 11) + (40 * d + 100) ≤ _; omega⟩) ⟨Pz_blind, fun U hU hW => ⟨rfl, pre_U F hH hS hz U hU hW⟩⟩ rfl (by rw [List.length_map]; exact hn) hlv.1.1 (by simp [List.map_reverse, tr_ref]) hlr hd hc
  · have hnest := F.2.2.2.2.2.1.2.1 q hq hqn
    rw [hqe] at hnest
    exact va_runIN (As := As.map (tr g)) (rest := rest.map (tr g)) (b := ad g a) ⟨F.1, F.2.1, F.2.2.1, F.2.2.2.1, F.2.2.2.2.1⟩ hM ⟨va_cnB (Ts := TB) (aN z) F.2.2.2.2.1 (wsZ_good z1) hw rfl rfl hnest (F.2.2.2.2.1 _ (ini_in z1)) ⟨t2, t3, t4⟩ ⟨by show d + 1 + 1 ≤ _; omega, by show 8 + (xN z + 11) + (40 * d + 100) ≤ _; omega⟩, o4, F.2.2.2.2.1 _ (ins_in z1 (by omega))⟩ ⟨Pz_blind, fun U hU hW => ⟨rfl, pre_U F hH hS hz U hU hW⟩⟩ rfl (by rw [List.length_map]; exact hn) hlv.1.1 (by simp [List.map_reverse, tr_ref]) hlr hd hc
theorem run_S {i z d : Nat} {As rest : List Value} {v : Option Value} {H : Heap} {locs : List Loc} {cells slots : Nat} {A : Array Slot} (F : Fr g p s m args meth c y) (hf : d + 1 + 1 ≤ Rm.frames) (hlo : 40 * (d + 1) + 100 ≤ Rm.locals) (hd : decode (bN y) pc = .ok (.invokestatic i, 3)) (hl : lookM (oN y) i = some z) (hk : kN z = 1) (hn : As.length = aN z) (hsw : sw rest ≤ 8) (hM : MetZ g l d z As μ v μ')
    (hH : HF g μ H) (hS : va_S (gA g) s.heap H locs) (hz : H.size = gB g + (aS μ).length) (hlv : lvk g y ls A) (hc : cells + mcZ μ μ' ≤ Rm.cells ∧ slots + msZ μ μ' ≤ Rm.slots) :
    va_Run p l e Rm s m args below meth c H locs cells slots (mcZ μ μ') (msZ μ μ') (F0 m pc A ((As.reverse ++ rest).map (tr g))) (rest.map (tr g)) (Qz g v μ' (As.map (tr g)).toArray) (gA g) := by
  obtain ⟨z1, z2, z3⟩ := lookM_spec hl
  obtain ⟨t1, t2, t3, t4⟩ := tb_plain z z1 z2
  obtain ⟨o1, o2, o3⟩ := tb_own z (by omega)
  have hlr := lv_room (m := m) (pc := pc) (ls := A) (rest := (As.reverse ++ rest).map (tr g)) (st := rest.map (tr g)) (by rw [tr_sw]; exact hsw)
  rcases z3 with z3 | ⟨-, q, hq, hqn, hqe⟩
  · exact va_runS (As := As.map (tr g)) (rest := rest.map (tr g)) ⟨F.1, F.2.1, F.2.2.1, F.2.2.2.1, F.2.2.2.2.1⟩ hM ⟨callB_of (Ts := TB) (aN z) F.2.2.2.2.1 (wsZ_good z1) rfl rfl rfl (F.2.2.2.2.1 _ (ini_in z1)) (F.2.2.2.2.1 _ z3) ⟨t2, t3, t4⟩ ⟨by show d + 1 + 1 ≤ _; omega, by show 8 + (xN z + 11) + (40 * d + 100) ≤ _; omega⟩, F.2.2.2.2.1 _ (sta_in z1 hk)⟩ ⟨Pz_blind, fun U hU hW => ⟨rfl, pre_U F hH hS hz U hU hW⟩⟩ rfl (by rw [List.length_map]; exact hn) hlv.1.1 (by simp [List.map_reverse]) hlr hd hc
  · have hnest := F.2.2.2.2.2.1.2.1 q hq hqn
    rw [hqe] at hnest
    exact va_runSN (As := As.map (tr g)) (rest := rest.map (tr g)) ⟨F.1, F.2.1, F.2.2.1, F.2.2.2.1, F.2.2.2.2.1⟩ hM ⟨va_cnB (Ts := TB) (aN z) F.2.2.2.2.1 (wsZ_good z1) rfl rfl rfl hnest (F.2.2.2.2.1 _ (ini_in z1)) ⟨t2, t3, t4⟩ ⟨by show d + 1 + 1 ≤ _; omega, by show 8 + (xN z + 11) + (40 * d + 100) ≤ _; omega⟩, F.2.2.2.2.1 _ (sta_in z1 hk), trivial⟩ ⟨Pz_blind, fun U hU hW => ⟨rfl, pre_U F hH hS hz U hU hW⟩⟩ rfl (by rw [List.length_map]; exact hn) hlv.1.1 (by simp [List.map_reverse]) hlr hd hc
end CALLS
