/-! the steps, instruction by instruction -/
section STP
variable {g : GG} {p : Program} {l : Launch} {e : Env} {Rm : Room} {s : State} {m : MethodId} {args : Array Value} {below : List Frame} {meth : Method} {c : Code} {Q : State → Prop} {y K0 S0 pc len pc' : Nat} {ls ls' : PL} {st st' : List Value} {μ μ' : PM}
theorem k_iconst {n : Int} (F : Fr g p s m args meth c y) (hd : decode (bN y) pc = .ok (.iconst n, len)) (h : exI y (.iconst n) len pc ls st μ = some (.inl (pc', ls', st', μ'))) (k : KC g p l e Rm s m args below meth c Q y K0 S0 pc' ls' st' μ') : KC g p l e Rm s m args below meth c Q y K0 S0 pc ls st μ := by
  obtain ⟨rfl, hh1⟩ := ck_some h
  obtain ⟨rfl, rfl, rfl, rfl⟩ := nxt_inj hh1
  intro H locs cells slots A hH hS hK hL hlv hst hls
  exact lv_iconst F.1 F.2.1 hd rfl (k H locs cells slots A hH hS hK hL hlv (okS_of hst (fun a ha => by simpa using ha)) hls)
theorem k_bipush {n : Int} (F : Fr g p s m args meth c y) (hd : decode (bN y) pc = .ok (.bipush n, len)) (h : exI y (.bipush n) len pc ls st μ = some (.inl (pc', ls', st', μ'))) (k : KC g p l e Rm s m args below meth c Q y K0 S0 pc' ls' st' μ') : KC g p l e Rm s m args below meth c Q y K0 S0 pc ls st μ := by
  obtain ⟨rfl, hh1⟩ := ck_some h
  obtain ⟨rfl, rfl, rfl, rfl⟩ := nxt_inj hh1
  intro H locs cells slots A hH hS hK hL hlv hst hls
  exact lv_bipush F.1 F.2.1 hd rfl (k H locs cells slots A hH hS hK hL hlv (okS_of hst (fun a ha => by simpa using ha)) hls)
theorem k_sipush {n : Int} (F : Fr g p s m args meth c y) (hd : decode (bN y) pc = .ok (.sipush n, len)) (h : exI y (.sipush n) len pc ls st μ = some (.inl (pc', ls', st', μ'))) (k : KC g p l e Rm s m args below meth c Q y K0 S0 pc' ls' st' μ') : KC g p l e Rm s m args below meth c Q y K0 S0 pc ls st μ := by
  obtain ⟨rfl, hh1⟩ := ck_some h
  obtain ⟨rfl, rfl, rfl, rfl⟩ := nxt_inj hh1
  intro H locs cells slots A hH hS hK hL hlv hst hls
  exact lv_sipush F.1 F.2.1 hd rfl (k H locs cells slots A hH hS hK hL hlv (okS_of hst (fun a ha => by simpa using ha)) hls)
theorem k_lconst {n : Fin 2} (F : Fr g p s m args meth c y) (hd : decode (bN y) pc = .ok (.lconst n, len)) (h : exI y (.lconst n) len pc ls st μ = some (.inl (pc', ls', st', μ'))) (k : KC g p l e Rm s m args below meth c Q y K0 S0 pc' ls' st' μ') : KC g p l e Rm s m args below meth c Q y K0 S0 pc ls st μ := by
  obtain ⟨rfl, hh1⟩ := ck_some h
  obtain ⟨rfl, rfl, rfl, rfl⟩ := nxt_inj hh1
  intro H locs cells slots A hH hS hK hL hlv hst hls
  exact lv_lconst F.1 F.2.1 hd rfl (k H locs cells slots A hH hS hK hL hlv (okS_of hst (fun a ha => by simpa using ha)) hls)
theorem k_null (F : Fr g p s m args meth c y) (hd : decode (bN y) pc = .ok (.aconst_null, len)) (h : exI y (.aconst_null) len pc ls st μ = some (.inl (pc', ls', st', μ'))) (k : KC g p l e Rm s m args below meth c Q y K0 S0 pc' ls' st' μ') : KC g p l e Rm s m args below meth c Q y K0 S0 pc ls st μ := by
  obtain ⟨rfl, hh1⟩ := ck_some h
  obtain ⟨rfl, rfl, rfl, rfl⟩ := nxt_inj hh1
  intro H locs cells slots A hH hS hK hL hlv hst hls
  exact lv_null F.1 F.2.1 hd (k H locs cells slots A hH hS hK hL hlv (okS_of hst (fun a ha => by simpa using ha)) hls)
theorem k_ldc {i : Nat} (F : Fr g p s m args meth c y) (hd : decode (bN y) pc = .ok (.ldc i, len)) (h : exI y (.ldc i) len pc ls st μ = some (.inl (pc', ls', st', μ'))) (k : KC g p l e Rm s m args below meth c Q y K0 S0 pc' ls' st' μ') : KC g p l e Rm s m args below meth c Q y K0 S0 pc ls st μ := by
  obtain ⟨rfl, hh1⟩ := ck_some h
  split at hh1
  · obtain ⟨rfl, rfl, rfl, rfl⟩ := nxt_inj hh1
    rename_i v hv
    obtain ⟨q, hq, e1⟩ := Option.map_eq_some_iff.mp hv
    have hm := List.mem_of_find?_eq_some hq
    have hp := List.find?_some hq
    simp only [Bool.and_eq_true, beq_iff_eq] at hp
    have hw := tb_in (tb_int q hm)
    rw [hp.1, hp.2, e1] at hw
    intro H locs cells slots A hH hS hK hL hlv hst hls
    exact lv_ldc F.1 F.2.1 F.2.2.2.1 (F.2.2.2.2.1 _ (tb_of hw rfl)) hd (k H locs cells slots A hH hS hK hL hlv (okS_of hst (fun a ha => by simpa using ha)) hls)
  · cases hh1
theorem k_ldc_w {i : Nat} (F : Fr g p s m args meth c y) (hd : decode (bN y) pc = .ok (.ldc_w i, len)) (h : exI y (.ldc_w i) len pc ls st μ = some (.inl (pc', ls', st', μ'))) (k : KC g p l e Rm s m args below meth c Q y K0 S0 pc' ls' st' μ') : KC g p l e Rm s m args below meth c Q y K0 S0 pc ls st μ := by
  obtain ⟨rfl, hh1⟩ := ck_some h
  split at hh1
  · obtain ⟨rfl, rfl, rfl, rfl⟩ := nxt_inj hh1
    rename_i v hv
    obtain ⟨q, hq, e1⟩ := Option.map_eq_some_iff.mp hv
    have hm := List.mem_of_find?_eq_some hq
    have hp := List.find?_some hq
    simp only [Bool.and_eq_true, beq_iff_eq] at hp
    have hw := tb_in (tb_int q hm)
    rw [hp.1, hp.2, e1] at hw
    intro H locs cells slots A hH hS hK hL hlv hst hls
    exact lv_ldcw F.1 F.2.1 F.2.2.2.1 (F.2.2.2.2.1 _ (tb_of hw rfl)) hd (k H locs cells slots A hH hS hK hL hlv (okS_of hst (fun a ha => by simpa using ha)) hls)
  · cases hh1
theorem k_ldc2_w {i : Nat} (F : Fr g p s m args meth c y) (hd : decode (bN y) pc = .ok (.ldc2_w i, len)) (h : exI y (.ldc2_w i) len pc ls st μ = some (.inl (pc', ls', st', μ'))) (k : KC g p l e Rm s m args below meth c Q y K0 S0 pc' ls' st' μ') : KC g p l e Rm s m args below meth c Q y K0 S0 pc ls st μ := by
  obtain ⟨rfl, hh1⟩ := ck_some h
  split at hh1
  · obtain ⟨rfl, rfl, rfl, rfl⟩ := nxt_inj hh1
    rename_i v hv
    obtain ⟨q, hq, e1⟩ := Option.map_eq_some_iff.mp hv
    have hm := List.mem_of_find?_eq_some hq
    have hp := List.find?_some hq
    simp only [Bool.and_eq_true, beq_iff_eq] at hp
    have hw := tb_in (tb_long q hm)
    rw [hp.1, hp.2, e1] at hw
    intro H locs cells slots A hH hS hK hL hlv hst hls
    exact lv_ldc2 F.1 F.2.1 F.2.2.2.1 (F.2.2.2.2.1 _ (tb_of hw rfl)) hd (k H locs cells slots A hH hS hK hL hlv (okS_of hst (fun a ha => by simpa using ha)) hls)
  · cases hh1
theorem k_iload_n {i : Fin 4} (F : Fr g p s m args meth c y) (hd : decode (bN y) pc = .ok (.iload_n i, len)) (h : exI y (.iload_n i) len pc ls st μ = some (.inl (pc', ls', st', μ'))) (k : KC g p l e Rm s m args below meth c Q y K0 S0 pc' ls' st' μ') : KC g p l e Rm s m args below meth c Q y K0 S0 pc ls st μ := by
  obtain ⟨rfl, hh1⟩ := ck_some h
  obtain ⟨x, hx, rfl, rfl, rfl, rfl⟩ := ldI_some hh1
  intro H locs cells slots A hH hS hK hL hlv hst hls
  exact lv_iload_n F.1 F.2.1 hd rfl (lvk_at hlv hx) (k H locs cells slots A hH hS hK hL hlv (okS_of hst (fun a ha => by simpa using ha)) hls)
theorem k_iload {i : Nat} (F : Fr g p s m args meth c y) (hd : decode (bN y) pc = .ok (.iload i, len)) (h : exI y (.iload i) len pc ls st μ = some (.inl (pc', ls', st', μ'))) (k : KC g p l e Rm s m args below meth c Q y K0 S0 pc' ls' st' μ') : KC g p l e Rm s m args below meth c Q y K0 S0 pc ls st μ := by
  obtain ⟨rfl, hh1⟩ := ck_some h
  obtain ⟨x, hx, rfl, rfl, rfl, rfl⟩ := ldI_some hh1
  intro H locs cells slots A hH hS hK hL hlv hst hls
  exact lv_iload F.1 F.2.1 hd (lvk_at hlv hx) (k H locs cells slots A hH hS hK hL hlv (okS_of hst (fun a ha => by simpa using ha)) hls)
theorem k_lload_n {i : Fin 4} (F : Fr g p s m args meth c y) (hd : decode (bN y) pc = .ok (.lload_n i, len)) (h : exI y (.lload_n i) len pc ls st μ = some (.inl (pc', ls', st', μ'))) (k : KC g p l e Rm s m args below meth c Q y K0 S0 pc' ls' st' μ') : KC g p l e Rm s m args below meth c Q y K0 S0 pc ls st μ := by
  obtain ⟨rfl, hh1⟩ := ck_some h
  obtain ⟨x, hx, rfl, rfl, rfl, rfl⟩ := ldL_some hh1
  intro H locs cells slots A hH hS hK hL hlv hst hls
  exact lv_lload_n F.1 F.2.1 hd rfl (lvk_at hlv hx) (k H locs cells slots A hH hS hK hL hlv (okS_of hst (fun a ha => by simpa using ha)) hls)
theorem k_lload {i : Nat} (F : Fr g p s m args meth c y) (hd : decode (bN y) pc = .ok (.lload i, len)) (h : exI y (.lload i) len pc ls st μ = some (.inl (pc', ls', st', μ'))) (k : KC g p l e Rm s m args below meth c Q y K0 S0 pc' ls' st' μ') : KC g p l e Rm s m args below meth c Q y K0 S0 pc ls st μ := by
  obtain ⟨rfl, hh1⟩ := ck_some h
  obtain ⟨x, hx, rfl, rfl, rfl, rfl⟩ := ldL_some hh1
  intro H locs cells slots A hH hS hK hL hlv hst hls
  exact lv_lload F.1 F.2.1 hd (lvk_at hlv hx) (k H locs cells slots A hH hS hK hL hlv (okS_of hst (fun a ha => by simpa using ha)) hls)
theorem k_aload_n {i : Fin 4} (F : Fr g p s m args meth c y) (hd : decode (bN y) pc = .ok (.aload_n i, len)) (h : exI y (.aload_n i) len pc ls st μ = some (.inl (pc', ls', st', μ'))) (k : KC g p l e Rm s m args below meth c Q y K0 S0 pc' ls' st' μ') : KC g p l e Rm s m args below meth c Q y K0 S0 pc ls st μ := by
  obtain ⟨rfl, hh1⟩ := ck_some h
  obtain ⟨x, hx, rfl, rfl, rfl, rfl⟩ := ldA_some hh1
  intro H locs cells slots A hH hS hK hL hlv hst hls
  exact lv_aload_n F.1 F.2.1 hd rfl (lvk_at hlv hx) (k H locs cells slots A hH hS hK hL hlv (fun a ha => by rcases List.mem_cons.mp ha with h1 | h1; (cases h1; exact hls _ (List.mem_of_getElem? hx)); exact hst a h1) hls)
theorem k_aload {i : Nat} (F : Fr g p s m args meth c y) (hd : decode (bN y) pc = .ok (.aload i, len)) (h : exI y (.aload i) len pc ls st μ = some (.inl (pc', ls', st', μ'))) (k : KC g p l e Rm s m args below meth c Q y K0 S0 pc' ls' st' μ') : KC g p l e Rm s m args below meth c Q y K0 S0 pc ls st μ := by
  obtain ⟨rfl, hh1⟩ := ck_some h
  obtain ⟨x, hx, rfl, rfl, rfl, rfl⟩ := ldA_some hh1
  intro H locs cells slots A hH hS hK hL hlv hst hls
  exact lv_aload F.1 F.2.1 hd (lvk_at hlv hx) (k H locs cells slots A hH hS hK hL hlv (fun a ha => by rcases List.mem_cons.mp ha with h1 | h1; (cases h1; exact hls _ (List.mem_of_getElem? hx)); exact hst a h1) hls)
theorem k_istore_n {i : Fin 4} (F : Fr g p s m args meth c y) (hd : decode (bN y) pc = .ok (.istore_n i, len)) (h : exI y (.istore_n i) len pc ls st μ = some (.inl (pc', ls', st', μ'))) (k : KC g p l e Rm s m args below meth c Q y K0 S0 pc' ls' st' μ') : KC g p l e Rm s m args below meth c Q y K0 S0 pc ls st μ := by
  obtain ⟨rfl, hh1⟩ := ck_some h
  obtain ⟨x, t, rfl, hh2⟩ := pI_some hh1
  obtain ⟨ho, hh3⟩ := ck_some hh2
  obtain ⟨rfl, rfl, rfl, rfl⟩ := nxt_inj hh3
  intro H locs cells slots A hH hS hK hL hlv hst hls
  exact lv_istore_n F.1 F.2.1 hd rfl hlv.1 (ok1_spec ho).1 rfl (fun A' h' => k H locs cells slots A' hH hS hK hL (lvk_set1 hlv ho rfl h') (okS_of hst (fun a ha => List.mem_cons_of_mem _ ha)) (okL_set hls (fun a ha => by cases ha)))
theorem k_istore {i : Nat} (F : Fr g p s m args meth c y) (hd : decode (bN y) pc = .ok (.istore i, len)) (h : exI y (.istore i) len pc ls st μ = some (.inl (pc', ls', st', μ'))) (k : KC g p l e Rm s m args below meth c Q y K0 S0 pc' ls' st' μ') : KC g p l e Rm s m args below meth c Q y K0 S0 pc ls st μ := by
  obtain ⟨rfl, hh1⟩ := ck_some h
  obtain ⟨x, t, rfl, hh2⟩ := pI_some hh1
  obtain ⟨ho, hh3⟩ := ck_some hh2
  obtain ⟨rfl, rfl, rfl, rfl⟩ := nxt_inj hh3
  intro H locs cells slots A hH hS hK hL hlv hst hls
  exact lv_istore F.1 F.2.1 hd hlv.1 (ok1_spec ho).1 rfl (fun A' h' => k H locs cells slots A' hH hS hK hL (lvk_set1 hlv ho rfl h') (okS_of hst (fun a ha => List.mem_cons_of_mem _ ha)) (okL_set hls (fun a ha => by cases ha)))
theorem k_astore_n {i : Fin 4} (F : Fr g p s m args meth c y) (hd : decode (bN y) pc = .ok (.astore_n i, len)) (h : exI y (.astore_n i) len pc ls st μ = some (.inl (pc', ls', st', μ'))) (k : KC g p l e Rm s m args below meth c Q y K0 S0 pc' ls' st' μ') : KC g p l e Rm s m args below meth c Q y K0 S0 pc ls st μ := by
  obtain ⟨rfl, hh1⟩ := ck_some h
  obtain ⟨x, t, rfl, hh2⟩ := pA_some hh1
  obtain ⟨ho, hh3⟩ := ck_some hh2
  obtain ⟨rfl, rfl, rfl, rfl⟩ := nxt_inj hh3
  intro H locs cells slots A hH hS hK hL hlv hst hls
  exact lv_astore_n F.1 F.2.1 hd rfl hlv.1 (ok1_spec ho).1 rfl (fun A' h' => k H locs cells slots A' hH hS hK hL (lvk_set1 hlv ho rfl h') (okS_of hst (fun a ha => List.mem_cons_of_mem _ ha)) (okL_set hls (fun a ha => by cases ha; exact hst _ List.mem_cons_self)))
theorem k_astore {i : Nat} (F : Fr g p s m args meth c y) (hd : decode (bN y) pc = .ok (.astore i, len)) (h : exI y (.astore i) len pc ls st μ = some (.inl (pc', ls', st', μ'))) (k : KC g p l e Rm s m args below meth c Q y K0 S0 pc' ls' st' μ') : KC g p l e Rm s m args below meth c Q y K0 S0 pc ls st μ := by
  obtain ⟨rfl, hh1⟩ := ck_some h
  obtain ⟨x, t, rfl, hh2⟩ := pA_some hh1
  obtain ⟨ho, hh3⟩ := ck_some hh2
  obtain ⟨rfl, rfl, rfl, rfl⟩ := nxt_inj hh3
  intro H locs cells slots A hH hS hK hL hlv hst hls
  exact lv_astore F.1 F.2.1 hd hlv.1 (ok1_spec ho).1 rfl (fun A' h' => k H locs cells slots A' hH hS hK hL (lvk_set1 hlv ho rfl h') (okS_of hst (fun a ha => List.mem_cons_of_mem _ ha)) (okL_set hls (fun a ha => by cases ha; exact hst _ List.mem_cons_self)))
theorem k_lstore_n {i : Fin 4} (F : Fr g p s m args meth c y) (hd : decode (bN y) pc = .ok (.lstore_n i, len)) (h : exI y (.lstore_n i) len pc ls st μ = some (.inl (pc', ls', st', μ'))) (k : KC g p l e Rm s m args below meth c Q y K0 S0 pc' ls' st' μ') : KC g p l e Rm s m args below meth c Q y K0 S0 pc ls st μ := by
  obtain ⟨rfl, hh1⟩ := ck_some h
  obtain ⟨x, t, rfl, hh2⟩ := pL_some hh1
  obtain ⟨ho, hh3⟩ := ck_some hh2
  obtain ⟨rfl, rfl, rfl, rfl⟩ := nxt_inj hh3
  intro H locs cells slots A hH hS hK hL hlv hst hls
  exact lv_lstore_n F.1 F.2.1 hd rfl hlv.1 (ok2_spec ho).1 rfl (fun A' h' => k H locs cells slots A' hH hS hK hL (lvk_set2 (v := .long x) hlv ho h') (okS_of hst (fun a ha => List.mem_cons_of_mem _ ha)) (okL_none (okL_set hls (fun a ha => by cases ha))))
theorem k_lstore {i : Nat} (F : Fr g p s m args meth c y) (hd : decode (bN y) pc = .ok (.lstore i, len)) (h : exI y (.lstore i) len pc ls st μ = some (.inl (pc', ls', st', μ'))) (k : KC g p l e Rm s m args below meth c Q y K0 S0 pc' ls' st' μ') : KC g p l e Rm s m args below meth c Q y K0 S0 pc ls st μ := by
  obtain ⟨rfl, hh1⟩ := ck_some h
  obtain ⟨x, t, rfl, hh2⟩ := pL_some hh1
  obtain ⟨ho, hh3⟩ := ck_some hh2
  obtain ⟨rfl, rfl, rfl, rfl⟩ := nxt_inj hh3
  intro H locs cells slots A hH hS hK hL hlv hst hls
  exact lv_lstore F.1 F.2.1 hd hlv.1 (ok2_spec ho).1 rfl (fun A' h' => k H locs cells slots A' hH hS hK hL (lvk_set2 (v := .long x) hlv ho h') (okS_of hst (fun a ha => List.mem_cons_of_mem _ ha)) (okL_none (okL_set hls (fun a ha => by cases ha))))
theorem k_iinc {i : Nat} {n : Int} (F : Fr g p s m args meth c y) (hd : decode (bN y) pc = .ok (.iinc i n, len)) (h : exI y (.iinc i n) len pc ls st μ = some (.inl (pc', ls', st', μ'))) (k : KC g p l e Rm s m args below meth c Q y K0 S0 pc' ls' st' μ') : KC g p l e Rm s m args below meth c Q y K0 S0 pc ls st μ := by
  obtain ⟨⟨rfl, ho⟩, hh1⟩ := ck_some h
  split at hh1
  · rename_i x hx
    obtain ⟨rfl, rfl, rfl, rfl⟩ := nxt_inj hh1
    intro H locs cells slots A hH hS hK hL hlv hst hls
    obtain ⟨j, hj⟩ := List.getElem?_of_mem (lvO_mem.mpr ⟨_, hx, rfl⟩ : (i, tr g (.int x)) ∈ lvO g ls)
    exact lv_iinc F.1 F.2.1 hd hlv.1 hj rfl (ok1_spec ho).1 rfl (fun A' h' => k H locs cells slots A' hH hS hK hL (lvk_set1 hlv ho rfl h') hst (okL_set hls (fun a ha => by cases ha)))
  · cases hh1
theorem k_iadd (F : Fr g p s m args meth c y) (hd : decode (bN y) pc = .ok (.iadd, len)) (h : exI y (.iadd) len pc ls st μ = some (.inl (pc', ls', st', μ'))) (k : KC g p l e Rm s m args below meth c Q y K0 S0 pc' ls' st' μ') : KC g p l e Rm s m args below meth c Q y K0 S0 pc ls st μ := by
  obtain ⟨rfl, hh1⟩ := ck_some h
  obtain ⟨x, z, t, rfl, rfl, rfl, rfl, rfl⟩ := bI_some hh1
  intro H locs cells slots A hH hS hK hL hlv hst hls
  exact lv_iadd F.1 F.2.1 hd (k H locs cells slots A hH hS hK hL hlv (okS_of hst (fun a ha => by simpa using ha)) hls)
theorem k_isub (F : Fr g p s m args meth c y) (hd : decode (bN y) pc = .ok (.isub, len)) (h : exI y (.isub) len pc ls st μ = some (.inl (pc', ls', st', μ'))) (k : KC g p l e Rm s m args below meth c Q y K0 S0 pc' ls' st' μ') : KC g p l e Rm s m args below meth c Q y K0 S0 pc ls st μ := by
  obtain ⟨rfl, hh1⟩ := ck_some h
  obtain ⟨x, z, t, rfl, rfl, rfl, rfl, rfl⟩ := bI_some hh1
  intro H locs cells slots A hH hS hK hL hlv hst hls
  exact lv_isub F.1 F.2.1 hd (k H locs cells slots A hH hS hK hL hlv (okS_of hst (fun a ha => by simpa using ha)) hls)
theorem k_imul (F : Fr g p s m args meth c y) (hd : decode (bN y) pc = .ok (.imul, len)) (h : exI y (.imul) len pc ls st μ = some (.inl (pc', ls', st', μ'))) (k : KC g p l e Rm s m args below meth c Q y K0 S0 pc' ls' st' μ') : KC g p l e Rm s m args below meth c Q y K0 S0 pc ls st μ := by
  obtain ⟨rfl, hh1⟩ := ck_some h
  obtain ⟨x, z, t, rfl, rfl, rfl, rfl, rfl⟩ := bI_some hh1
  intro H locs cells slots A hH hS hK hL hlv hst hls
  exact lv_imul F.1 F.2.1 hd (k H locs cells slots A hH hS hK hL hlv (okS_of hst (fun a ha => by simpa using ha)) hls)
theorem k_iand (F : Fr g p s m args meth c y) (hd : decode (bN y) pc = .ok (.iand, len)) (h : exI y (.iand) len pc ls st μ = some (.inl (pc', ls', st', μ'))) (k : KC g p l e Rm s m args below meth c Q y K0 S0 pc' ls' st' μ') : KC g p l e Rm s m args below meth c Q y K0 S0 pc ls st μ := by
  obtain ⟨rfl, hh1⟩ := ck_some h
  obtain ⟨x, z, t, rfl, rfl, rfl, rfl, rfl⟩ := bI_some hh1
  intro H locs cells slots A hH hS hK hL hlv hst hls
  exact lv_iand F.1 F.2.1 hd (k H locs cells slots A hH hS hK hL hlv (okS_of hst (fun a ha => by simpa using ha)) hls)
theorem k_ior (F : Fr g p s m args meth c y) (hd : decode (bN y) pc = .ok (.ior, len)) (h : exI y (.ior) len pc ls st μ = some (.inl (pc', ls', st', μ'))) (k : KC g p l e Rm s m args below meth c Q y K0 S0 pc' ls' st' μ') : KC g p l e Rm s m args below meth c Q y K0 S0 pc ls st μ := by
  obtain ⟨rfl, hh1⟩ := ck_some h
  obtain ⟨x, z, t, rfl, rfl, rfl, rfl, rfl⟩ := bI_some hh1
  intro H locs cells slots A hH hS hK hL hlv hst hls
  exact lv_ior F.1 F.2.1 hd (k H locs cells slots A hH hS hK hL hlv (okS_of hst (fun a ha => by simpa using ha)) hls)
theorem k_ixor (F : Fr g p s m args meth c y) (hd : decode (bN y) pc = .ok (.ixor, len)) (h : exI y (.ixor) len pc ls st μ = some (.inl (pc', ls', st', μ'))) (k : KC g p l e Rm s m args below meth c Q y K0 S0 pc' ls' st' μ') : KC g p l e Rm s m args below meth c Q y K0 S0 pc ls st μ := by
  obtain ⟨rfl, hh1⟩ := ck_some h
  obtain ⟨x, z, t, rfl, rfl, rfl, rfl, rfl⟩ := bI_some hh1
  intro H locs cells slots A hH hS hK hL hlv hst hls
  exact lv_ixor F.1 F.2.1 hd (k H locs cells slots A hH hS hK hL hlv (okS_of hst (fun a ha => by simpa using ha)) hls)
theorem k_ishl (F : Fr g p s m args meth c y) (hd : decode (bN y) pc = .ok (.ishl, len)) (h : exI y (.ishl) len pc ls st μ = some (.inl (pc', ls', st', μ'))) (k : KC g p l e Rm s m args below meth c Q y K0 S0 pc' ls' st' μ') : KC g p l e Rm s m args below meth c Q y K0 S0 pc ls st μ := by
  obtain ⟨rfl, hh1⟩ := ck_some h
  obtain ⟨x, z, t, rfl, rfl, rfl, rfl, rfl⟩ := bI_some hh1
  intro H locs cells slots A hH hS hK hL hlv hst hls
  exact lv_ishl F.1 F.2.1 hd (k H locs cells slots A hH hS hK hL hlv (okS_of hst (fun a ha => by simpa using ha)) hls)
theorem k_ishr (F : Fr g p s m args meth c y) (hd : decode (bN y) pc = .ok (.ishr, len)) (h : exI y (.ishr) len pc ls st μ = some (.inl (pc', ls', st', μ'))) (k : KC g p l e Rm s m args below meth c Q y K0 S0 pc' ls' st' μ') : KC g p l e Rm s m args below meth c Q y K0 S0 pc ls st μ := by
  obtain ⟨rfl, hh1⟩ := ck_some h
  obtain ⟨x, z, t, rfl, rfl, rfl, rfl, rfl⟩ := bI_some hh1
  intro H locs cells slots A hH hS hK hL hlv hst hls
  exact lv_ishr F.1 F.2.1 hd (k H locs cells slots A hH hS hK hL hlv (okS_of hst (fun a ha => by simpa using ha)) hls)
theorem k_iushr (F : Fr g p s m args meth c y) (hd : decode (bN y) pc = .ok (.iushr, len)) (h : exI y (.iushr) len pc ls st μ = some (.inl (pc', ls', st', μ'))) (k : KC g p l e Rm s m args below meth c Q y K0 S0 pc' ls' st' μ') : KC g p l e Rm s m args below meth c Q y K0 S0 pc ls st μ := by
  obtain ⟨rfl, hh1⟩ := ck_some h
  obtain ⟨x, z, t, rfl, rfl, rfl, rfl, rfl⟩ := bI_some hh1
  intro H locs cells slots A hH hS hK hL hlv hst hls
  exact lv_iushr F.1 F.2.1 hd rfl (k H locs cells slots A hH hS hK hL hlv (okS_of hst (fun a ha => by simpa using ha)) hls)
theorem k_ladd (F : Fr g p s m args meth c y) (hd : decode (bN y) pc = .ok (.ladd, len)) (h : exI y (.ladd) len pc ls st μ = some (.inl (pc', ls', st', μ'))) (k : KC g p l e Rm s m args below meth c Q y K0 S0 pc' ls' st' μ') : KC g p l e Rm s m args below meth c Q y K0 S0 pc ls st μ := by
  obtain ⟨rfl, hh1⟩ := ck_some h
  obtain ⟨x, z, t, rfl, rfl, rfl, rfl, rfl⟩ := bL_some hh1
  intro H locs cells slots A hH hS hK hL hlv hst hls
  exact lv_ladd F.1 F.2.1 hd (k H locs cells slots A hH hS hK hL hlv (okS_of hst (fun a ha => by simpa using ha)) hls)
theorem k_lsub (F : Fr g p s m args meth c y) (hd : decode (bN y) pc = .ok (.lsub, len)) (h : exI y (.lsub) len pc ls st μ = some (.inl (pc', ls', st', μ'))) (k : KC g p l e Rm s m args below meth c Q y K0 S0 pc' ls' st' μ') : KC g p l e Rm s m args below meth c Q y K0 S0 pc ls st μ := by
  obtain ⟨rfl, hh1⟩ := ck_some h
  obtain ⟨x, z, t, rfl, rfl, rfl, rfl, rfl⟩ := bL_some hh1
  intro H locs cells slots A hH hS hK hL hlv hst hls
  exact lv_lsub F.1 F.2.1 hd (k H locs cells slots A hH hS hK hL hlv (okS_of hst (fun a ha => by simpa using ha)) hls)
theorem k_lmul (F : Fr g p s m args meth c y) (hd : decode (bN y) pc = .ok (.lmul, len)) (h : exI y (.lmul) len pc ls st μ = some (.inl (pc', ls', st', μ'))) (k : KC g p l e Rm s m args below meth c Q y K0 S0 pc' ls' st' μ') : KC g p l e Rm s m args below meth c Q y K0 S0 pc ls st μ := by
  obtain ⟨rfl, hh1⟩ := ck_some h
  obtain ⟨x, z, t, rfl, rfl, rfl, rfl, rfl⟩ := bL_some hh1
  intro H locs cells slots A hH hS hK hL hlv hst hls
  exact lv_lmul F.1 F.2.1 hd (k H locs cells slots A hH hS hK hL hlv (okS_of hst (fun a ha => by simpa using ha)) hls)
theorem k_land (F : Fr g p s m args meth c y) (hd : decode (bN y) pc = .ok (.land, len)) (h : exI y (.land) len pc ls st μ = some (.inl (pc', ls', st', μ'))) (k : KC g p l e Rm s m args below meth c Q y K0 S0 pc' ls' st' μ') : KC g p l e Rm s m args below meth c Q y K0 S0 pc ls st μ := by
  obtain ⟨rfl, hh1⟩ := ck_some h
  obtain ⟨x, z, t, rfl, rfl, rfl, rfl, rfl⟩ := bL_some hh1
  intro H locs cells slots A hH hS hK hL hlv hst hls
  exact lv_land F.1 F.2.1 hd (k H locs cells slots A hH hS hK hL hlv (okS_of hst (fun a ha => by simpa using ha)) hls)
theorem k_lor (F : Fr g p s m args meth c y) (hd : decode (bN y) pc = .ok (.lor, len)) (h : exI y (.lor) len pc ls st μ = some (.inl (pc', ls', st', μ'))) (k : KC g p l e Rm s m args below meth c Q y K0 S0 pc' ls' st' μ') : KC g p l e Rm s m args below meth c Q y K0 S0 pc ls st μ := by
  obtain ⟨rfl, hh1⟩ := ck_some h
  obtain ⟨x, z, t, rfl, rfl, rfl, rfl, rfl⟩ := bL_some hh1
  intro H locs cells slots A hH hS hK hL hlv hst hls
  exact lv_lor F.1 F.2.1 hd (k H locs cells slots A hH hS hK hL hlv (okS_of hst (fun a ha => by simpa using ha)) hls)
theorem k_idiv (F : Fr g p s m args meth c y) (hd : decode (bN y) pc = .ok (.idiv, len)) (h : exI y (.idiv) len pc ls st μ = some (.inl (pc', ls', st', μ'))) (k : KC g p l e Rm s m args below meth c Q y K0 S0 pc' ls' st' μ') : KC g p l e Rm s m args below meth c Q y K0 S0 pc ls st μ := by
  obtain ⟨rfl, hh1⟩ := ck_some h
  obtain ⟨z, t, rfl, hh2⟩ := pI_some hh1
  obtain ⟨x, t, rfl, hh3⟩ := pI_some hh2
  obtain ⟨hz, hh4⟩ := ck_some hh3
  obtain ⟨rfl, rfl, rfl, rfl⟩ := nxt_inj hh4
  intro H locs cells slots A hH hS hK hL hlv hst hls
  exact lv_idiv F.1 F.2.1 hd hz (k H locs cells slots A hH hS hK hL hlv (okS_of hst (fun a ha => by simpa using ha)) hls)
theorem k_irem (F : Fr g p s m args meth c y) (hd : decode (bN y) pc = .ok (.irem, len)) (h : exI y (.irem) len pc ls st μ = some (.inl (pc', ls', st', μ'))) (k : KC g p l e Rm s m args below meth c Q y K0 S0 pc' ls' st' μ') : KC g p l e Rm s m args below meth c Q y K0 S0 pc ls st μ := by
  obtain ⟨rfl, hh1⟩ := ck_some h
  obtain ⟨z, t, rfl, hh2⟩ := pI_some hh1
  obtain ⟨x, t, rfl, hh3⟩ := pI_some hh2
  obtain ⟨hz, hh4⟩ := ck_some hh3
  obtain ⟨rfl, rfl, rfl, rfl⟩ := nxt_inj hh4
  intro H locs cells slots A hH hS hK hL hlv hst hls
  exact lv_irem F.1 F.2.1 hd hz (k H locs cells slots A hH hS hK hL hlv (okS_of hst (fun a ha => by simpa using ha)) hls)
theorem k_ldiv (F : Fr g p s m args meth c y) (hd : decode (bN y) pc = .ok (.ldiv, len)) (h : exI y (.ldiv) len pc ls st μ = some (.inl (pc', ls', st', μ'))) (k : KC g p l e Rm s m args below meth c Q y K0 S0 pc' ls' st' μ') : KC g p l e Rm s m args below meth c Q y K0 S0 pc ls st μ := by
  obtain ⟨rfl, hh1⟩ := ck_some h
  obtain ⟨z, t, rfl, hh2⟩ := pL_some hh1
  obtain ⟨x, t, rfl, hh3⟩ := pL_some hh2
  obtain ⟨hz, hh4⟩ := ck_some hh3
  obtain ⟨rfl, rfl, rfl, rfl⟩ := nxt_inj hh4
  intro H locs cells slots A hH hS hK hL hlv hst hls
  exact lv_ldiv F.1 F.2.1 hd hz (k H locs cells slots A hH hS hK hL hlv (okS_of hst (fun a ha => by simpa using ha)) hls)
theorem k_lrem (F : Fr g p s m args meth c y) (hd : decode (bN y) pc = .ok (.lrem, len)) (h : exI y (.lrem) len pc ls st μ = some (.inl (pc', ls', st', μ'))) (k : KC g p l e Rm s m args below meth c Q y K0 S0 pc' ls' st' μ') : KC g p l e Rm s m args below meth c Q y K0 S0 pc ls st μ := by
  obtain ⟨rfl, hh1⟩ := ck_some h
  obtain ⟨z, t, rfl, hh2⟩ := pL_some hh1
  obtain ⟨x, t, rfl, hh3⟩ := pL_some hh2
  obtain ⟨hz, hh4⟩ := ck_some hh3
  obtain ⟨rfl, rfl, rfl, rfl⟩ := nxt_inj hh4
  intro H locs cells slots A hH hS hK hL hlv hst hls
  exact lv_lrem F.1 F.2.1 hd hz (k H locs cells slots A hH hS hK hL hlv (okS_of hst (fun a ha => by simpa using ha)) hls)
theorem k_lshl (F : Fr g p s m args meth c y) (hd : decode (bN y) pc = .ok (.lshl, len)) (h : exI y (.lshl) len pc ls st μ = some (.inl (pc', ls', st', μ'))) (k : KC g p l e Rm s m args below meth c Q y K0 S0 pc' ls' st' μ') : KC g p l e Rm s m args below meth c Q y K0 S0 pc ls st μ := by
  obtain ⟨rfl, hh1⟩ := ck_some h
  obtain ⟨z, t, rfl, hh2⟩ := pI_some hh1
  obtain ⟨x, t, rfl, hh3⟩ := pL_some hh2
  obtain ⟨rfl, rfl, rfl, rfl⟩ := nxt_inj hh3
  intro H locs cells slots A hH hS hK hL hlv hst hls
  exact lv_lshl F.1 F.2.1 hd rfl (k H locs cells slots A hH hS hK hL hlv (okS_of hst (fun a ha => by simpa using ha)) hls)
theorem k_lshr (F : Fr g p s m args meth c y) (hd : decode (bN y) pc = .ok (.lshr, len)) (h : exI y (.lshr) len pc ls st μ = some (.inl (pc', ls', st', μ'))) (k : KC g p l e Rm s m args below meth c Q y K0 S0 pc' ls' st' μ') : KC g p l e Rm s m args below meth c Q y K0 S0 pc ls st μ := by
  obtain ⟨rfl, hh1⟩ := ck_some h
  obtain ⟨z, t, rfl, hh2⟩ := pI_some hh1
  obtain ⟨x, t, rfl, hh3⟩ := pL_some hh2
  obtain ⟨rfl, rfl, rfl, rfl⟩ := nxt_inj hh3
  intro H locs cells slots A hH hS hK hL hlv hst hls
  exact lv_lshr F.1 F.2.1 hd rfl (k H locs cells slots A hH hS hK hL hlv (okS_of hst (fun a ha => by simpa using ha)) hls)
theorem k_lushr (F : Fr g p s m args meth c y) (hd : decode (bN y) pc = .ok (.lushr, len)) (h : exI y (.lushr) len pc ls st μ = some (.inl (pc', ls', st', μ'))) (k : KC g p l e Rm s m args below meth c Q y K0 S0 pc' ls' st' μ') : KC g p l e Rm s m args below meth c Q y K0 S0 pc ls st μ := by
  obtain ⟨rfl, hh1⟩ := ck_some h
  obtain ⟨z, t, rfl, hh2⟩ := pI_some hh1
  obtain ⟨x, t, rfl, hh3⟩ := pL_some hh2
  obtain ⟨rfl, rfl, rfl, rfl⟩ := nxt_inj hh3
  intro H locs cells slots A hH hS hK hL hlv hst hls
  exact lv_lushr F.1 F.2.1 hd rfl (k H locs cells slots A hH hS hK hL hlv (okS_of hst (fun a ha => by simpa using ha)) hls)
theorem k_lcmp (F : Fr g p s m args meth c y) (hd : decode (bN y) pc = .ok (.lcmp, len)) (h : exI y (.lcmp) len pc ls st μ = some (.inl (pc', ls', st', μ'))) (k : KC g p l e Rm s m args below meth c Q y K0 S0 pc' ls' st' μ') : KC g p l e Rm s m args below meth c Q y K0 S0 pc ls st μ := by
  obtain ⟨rfl, hh1⟩ := ck_some h
  obtain ⟨z, t, rfl, hh2⟩ := pL_some hh1
  obtain ⟨x, t, rfl, hh3⟩ := pL_some hh2
  obtain ⟨rfl, rfl, rfl, rfl⟩ := nxt_inj hh3
  intro H locs cells slots A hH hS hK hL hlv hst hls
  exact W.lcmp F.1 F.2.1 hd (k H locs cells slots A hH hS hK hL hlv (okS_of hst (fun a ha => by simpa using ha)) hls)
theorem k_ineg (F : Fr g p s m args meth c y) (hd : decode (bN y) pc = .ok (.ineg, len)) (h : exI y (.ineg) len pc ls st μ = some (.inl (pc', ls', st', μ'))) (k : KC g p l e Rm s m args below meth c Q y K0 S0 pc' ls' st' μ') : KC g p l e Rm s m args below meth c Q y K0 S0 pc ls st μ := by
  obtain ⟨rfl, hh1⟩ := ck_some h
  obtain ⟨x, t, rfl, hh2⟩ := pI_some hh1
  obtain ⟨rfl, rfl, rfl, rfl⟩ := nxt_inj hh2
  intro H locs cells slots A hH hS hK hL hlv hst hls
  exact lv_ineg F.1 F.2.1 hd (k H locs cells slots A hH hS hK hL hlv (okS_of hst (fun a ha => by simpa using ha)) hls)
theorem k_i2l (F : Fr g p s m args meth c y) (hd : decode (bN y) pc = .ok (.i2l, len)) (h : exI y (.i2l) len pc ls st μ = some (.inl (pc', ls', st', μ'))) (k : KC g p l e Rm s m args below meth c Q y K0 S0 pc' ls' st' μ') : KC g p l e Rm s m args below meth c Q y K0 S0 pc ls st μ := by
  obtain ⟨rfl, hh1⟩ := ck_some h
  obtain ⟨x, t, rfl, hh2⟩ := pI_some hh1
  obtain ⟨rfl, rfl, rfl, rfl⟩ := nxt_inj hh2
  intro H locs cells slots A hH hS hK hL hlv hst hls
  exact lv_i2l F.1 F.2.1 hd rfl (k H locs cells slots A hH hS hK hL hlv (okS_of hst (fun a ha => by simpa using ha)) hls)
theorem k_l2i (F : Fr g p s m args meth c y) (hd : decode (bN y) pc = .ok (.l2i, len)) (h : exI y (.l2i) len pc ls st μ = some (.inl (pc', ls', st', μ'))) (k : KC g p l e Rm s m args below meth c Q y K0 S0 pc' ls' st' μ') : KC g p l e Rm s m args below meth c Q y K0 S0 pc ls st μ := by
  obtain ⟨rfl, hh1⟩ := ck_some h
  obtain ⟨x, t, rfl, hh2⟩ := pL_some hh1
  obtain ⟨rfl, rfl, rfl, rfl⟩ := nxt_inj hh2
  intro H locs cells slots A hH hS hK hL hlv hst hls
  exact lv_l2i F.1 F.2.1 hd rfl (k H locs cells slots A hH hS hK hL hlv (okS_of hst (fun a ha => by simpa using ha)) hls)
theorem k_i2c (F : Fr g p s m args meth c y) (hd : decode (bN y) pc = .ok (.i2c, len)) (h : exI y (.i2c) len pc ls st μ = some (.inl (pc', ls', st', μ'))) (k : KC g p l e Rm s m args below meth c Q y K0 S0 pc' ls' st' μ') : KC g p l e Rm s m args below meth c Q y K0 S0 pc ls st μ := by
  obtain ⟨rfl, hh1⟩ := ck_some h
  obtain ⟨x, t, rfl, hh2⟩ := pI_some hh1
  obtain ⟨rfl, rfl, rfl, rfl⟩ := nxt_inj hh2
  intro H locs cells slots A hH hS hK hL hlv hst hls
  exact lv_i2c F.1 F.2.1 hd rfl (k H locs cells slots A hH hS hK hL hlv (okS_of hst (fun a ha => by simpa using ha)) hls)
theorem k_dup (F : Fr g p s m args meth c y) (hd : decode (bN y) pc = .ok (.dup, len)) (h : exI y (.dup) len pc ls st μ = some (.inl (pc', ls', st', μ'))) (k : KC g p l e Rm s m args below meth c Q y K0 S0 pc' ls' st' μ') : KC g p l e Rm s m args below meth c Q y K0 S0 pc ls st μ := by
  obtain ⟨rfl, hh1⟩ := ck_some h
  obtain ⟨v, t, rfl, hh2⟩ := pV_some hh1
  obtain ⟨hv, hh3⟩ := ck_some hh2
  obtain ⟨rfl, rfl, rfl, rfl⟩ := nxt_inj hh3
  intro H locs cells slots A hH hS hK hL hlv hst hls
  exact lv_dup F.1 F.2.1 hd ((tr_cat g v).trans hv) (k H locs cells slots A hH hS hK hL hlv (okS_of hst (fun a ha => by simpa using ha)) hls)
theorem k_dup2 (F : Fr g p s m args meth c y) (hd : decode (bN y) pc = .ok (.dup2, len)) (h : exI y (.dup2) len pc ls st μ = some (.inl (pc', ls', st', μ'))) (k : KC g p l e Rm s m args below meth c Q y K0 S0 pc' ls' st' μ') : KC g p l e Rm s m args below meth c Q y K0 S0 pc ls st μ := by
  obtain ⟨rfl, hh1⟩ := ck_some h
  obtain ⟨v, t, rfl, hh2⟩ := pV_some hh1
  obtain ⟨hv, hh3⟩ := ck_some hh2
  obtain ⟨w, t, rfl, hh4⟩ := pV_some hh3
  obtain ⟨hw, hh5⟩ := ck_some hh4
  obtain ⟨rfl, rfl, rfl, rfl⟩ := nxt_inj hh5
  intro H locs cells slots A hH hS hK hL hlv hst hls
  exact lv_dup2_11 F.1 F.2.1 hd ((tr_cat g v).trans hv) ((tr_cat g w).trans hw) (k H locs cells slots A hH hS hK hL hlv (okS_of hst (fun a ha => by simp only [List.mem_cons] at ha ⊢; rcases ha with h | h | h | h | h <;> simp [h])) hls)
theorem k_goto {off : Int} (F : Fr g p s m args meth c y) (hd : decode (bN y) pc = .ok (.goto off, len)) (h : exI y (.goto off) len pc ls st μ = some (.inl (pc', ls', st', μ'))) (k : KC g p l e Rm s m args below meth c Q y K0 S0 pc' ls' st' μ') : KC g p l e Rm s m args below meth c Q y K0 S0 pc ls st μ := by
  obtain ⟨rfl, hh1⟩ := ck_some h
  obtain ⟨ht, rfl, rfl, rfl⟩ := jmp_some hh1
  intro H locs cells slots A hH hS hK hL hlv hst hls
  exact lv_goto F.1 F.2.1 hd ht (k H locs cells slots A hH hS hK hL hlv hst hls)
theorem k_if_eq {off : Int} (F : Fr g p s m args meth c y) (hd : decode (bN y) pc = .ok (.ifCond .eq off, len)) (h : exI y (.ifCond .eq off) len pc ls st μ = some (.inl (pc', ls', st', μ'))) (k : KC g p l e Rm s m args below meth c Q y K0 S0 pc' ls' st' μ') : KC g p l e Rm s m args below meth c Q y K0 S0 pc ls st μ := by
  obtain ⟨rfl, hh1⟩ := ck_some h
  obtain ⟨x, t, rfl, hh2⟩ := pI_some hh1
  obtain ⟨tg, ht, hb, rfl, rfl, rfl⟩ := br_some hh2
  intro H locs cells slots A hH hS hK hL hlv hst hls
  rcases hb with ⟨hb, rfl⟩ | ⟨hb, rfl⟩
  · exact lv_if_eq F.1 F.2.1 hd ht (fun _ => k H locs cells slots A hH hS hK hL hlv (okS_of hst (fun a ha => List.mem_cons_of_mem _ ha)) hls) (fun hn => absurd hb hn)
  · exact lv_if_eq F.1 F.2.1 hd ht (fun hn => absurd hn hb) (fun _ => k H locs cells slots A hH hS hK hL hlv (okS_of hst (fun a ha => List.mem_cons_of_mem _ ha)) hls)
theorem k_ic_eq {off : Int} (F : Fr g p s m args meth c y) (hd : decode (bN y) pc = .ok (.if_icmp .eq off, len)) (h : exI y (.if_icmp .eq off) len pc ls st μ = some (.inl (pc', ls', st', μ'))) (k : KC g p l e Rm s m args below meth c Q y K0 S0 pc' ls' st' μ') : KC g p l e Rm s m args below meth c Q y K0 S0 pc ls st μ := by
  obtain ⟨rfl, hh1⟩ := ck_some h
  obtain ⟨z, t, rfl, hh2⟩ := pI_some hh1
  obtain ⟨x, t, rfl, hh3⟩ := pI_some hh2
  obtain ⟨tg, ht, hb, rfl, rfl, rfl⟩ := br_some hh3
  intro H locs cells slots A hH hS hK hL hlv hst hls
  rcases hb with ⟨hb, rfl⟩ | ⟨hb, rfl⟩
  · exact lv_icmp_eq F.1 F.2.1 hd ht (fun _ => k H locs cells slots A hH hS hK hL hlv (okS_of hst (fun a ha => List.mem_cons_of_mem _ (List.mem_cons_of_mem _ ha))) hls) (fun hn => absurd hb hn)
  · exact lv_icmp_eq F.1 F.2.1 hd ht (fun hn => absurd hn hb) (fun _ => k H locs cells slots A hH hS hK hL hlv (okS_of hst (fun a ha => List.mem_cons_of_mem _ (List.mem_cons_of_mem _ ha))) hls)
theorem k_if_ne {off : Int} (F : Fr g p s m args meth c y) (hd : decode (bN y) pc = .ok (.ifCond .ne off, len)) (h : exI y (.ifCond .ne off) len pc ls st μ = some (.inl (pc', ls', st', μ'))) (k : KC g p l e Rm s m args below meth c Q y K0 S0 pc' ls' st' μ') : KC g p l e Rm s m args below meth c Q y K0 S0 pc ls st μ := by
  obtain ⟨rfl, hh1⟩ := ck_some h
  obtain ⟨x, t, rfl, hh2⟩ := pI_some hh1
  obtain ⟨tg, ht, hb, rfl, rfl, rfl⟩ := br_some hh2
  intro H locs cells slots A hH hS hK hL hlv hst hls
  rcases hb with ⟨hb, rfl⟩ | ⟨hb, rfl⟩
  · exact lv_if_ne F.1 F.2.1 hd ht (fun _ => k H locs cells slots A hH hS hK hL hlv (okS_of hst (fun a ha => List.mem_cons_of_mem _ ha)) hls) (fun hn => absurd hn hb)
  · exact lv_if_ne F.1 F.2.1 hd ht (fun hn => absurd hn hb) (fun _ => k H locs cells slots A hH hS hK hL hlv (okS_of hst (fun a ha => List.mem_cons_of_mem _ ha)) hls)
theorem k_ic_ne {off : Int} (F : Fr g p s m args meth c y) (hd : decode (bN y) pc = .ok (.if_icmp .ne off, len)) (h : exI y (.if_icmp .ne off) len pc ls st μ = some (.inl (pc', ls', st', μ'))) (k : KC g p l e Rm s m args below meth c Q y K0 S0 pc' ls' st' μ') : KC g p l e Rm s m args below meth c Q y K0 S0 pc ls st μ := by
  obtain ⟨rfl, hh1⟩ := ck_some h
  obtain ⟨z, t, rfl, hh2⟩ := pI_some hh1
  obtain ⟨x, t, rfl, hh3⟩ := pI_some hh2
  obtain ⟨tg, ht, hb, rfl, rfl, rfl⟩ := br_some hh3
  intro H locs cells slots A hH hS hK hL hlv hst hls
  rcases hb with ⟨hb, rfl⟩ | ⟨hb, rfl⟩
  · exact lv_icmp_ne F.1 F.2.1 hd ht (fun _ => k H locs cells slots A hH hS hK hL hlv (okS_of hst (fun a ha => List.mem_cons_of_mem _ (List.mem_cons_of_mem _ ha))) hls) (fun hn => absurd hn hb)
  · exact lv_icmp_ne F.1 F.2.1 hd ht (fun hn => absurd hn hb) (fun _ => k H locs cells slots A hH hS hK hL hlv (okS_of hst (fun a ha => List.mem_cons_of_mem _ (List.mem_cons_of_mem _ ha))) hls)
theorem k_if_lt {off : Int} (F : Fr g p s m args meth c y) (hd : decode (bN y) pc = .ok (.ifCond .lt off, len)) (h : exI y (.ifCond .lt off) len pc ls st μ = some (.inl (pc', ls', st', μ'))) (k : KC g p l e Rm s m args below meth c Q y K0 S0 pc' ls' st' μ') : KC g p l e Rm s m args below meth c Q y K0 S0 pc ls st μ := by
  obtain ⟨rfl, hh1⟩ := ck_some h
  obtain ⟨x, t, rfl, hh2⟩ := pI_some hh1
  obtain ⟨tg, ht, hb, rfl, rfl, rfl⟩ := br_some hh2
  intro H locs cells slots A hH hS hK hL hlv hst hls
  rcases hb with ⟨hb, rfl⟩ | ⟨hb, rfl⟩
  · exact lv_if_lt F.1 F.2.1 hd ht (fun _ => k H locs cells slots A hH hS hK hL hlv (okS_of hst (fun a ha => List.mem_cons_of_mem _ ha)) hls) (fun hn => absurd hb hn)
  · exact lv_if_lt F.1 F.2.1 hd ht (fun hn => absurd hn hb) (fun _ => k H locs cells slots A hH hS hK hL hlv (okS_of hst (fun a ha => List.mem_cons_of_mem _ ha)) hls)
theorem k_ic_lt {off : Int} (F : Fr g p s m args meth c y) (hd : decode (bN y) pc = .ok (.if_icmp .lt off, len)) (h : exI y (.if_icmp .lt off) len pc ls st μ = some (.inl (pc', ls', st', μ'))) (k : KC g p l e Rm s m args below meth c Q y K0 S0 pc' ls' st' μ') : KC g p l e Rm s m args below meth c Q y K0 S0 pc ls st μ := by
  obtain ⟨rfl, hh1⟩ := ck_some h
  obtain ⟨z, t, rfl, hh2⟩ := pI_some hh1
  obtain ⟨x, t, rfl, hh3⟩ := pI_some hh2
  obtain ⟨tg, ht, hb, rfl, rfl, rfl⟩ := br_some hh3
  intro H locs cells slots A hH hS hK hL hlv hst hls
  rcases hb with ⟨hb, rfl⟩ | ⟨hb, rfl⟩
  · exact lv_icmp_lt F.1 F.2.1 hd ht (fun _ => k H locs cells slots A hH hS hK hL hlv (okS_of hst (fun a ha => List.mem_cons_of_mem _ (List.mem_cons_of_mem _ ha))) hls) (fun hn => absurd hb hn)
  · exact lv_icmp_lt F.1 F.2.1 hd ht (fun hn => absurd hn hb) (fun _ => k H locs cells slots A hH hS hK hL hlv (okS_of hst (fun a ha => List.mem_cons_of_mem _ (List.mem_cons_of_mem _ ha))) hls)
theorem k_if_ge {off : Int} (F : Fr g p s m args meth c y) (hd : decode (bN y) pc = .ok (.ifCond .ge off, len)) (h : exI y (.ifCond .ge off) len pc ls st μ = some (.inl (pc', ls', st', μ'))) (k : KC g p l e Rm s m args below meth c Q y K0 S0 pc' ls' st' μ') : KC g p l e Rm s m args below meth c Q y K0 S0 pc ls st μ := by
  obtain ⟨rfl, hh1⟩ := ck_some h
  obtain ⟨x, t, rfl, hh2⟩ := pI_some hh1
  obtain ⟨tg, ht, hb, rfl, rfl, rfl⟩ := br_some hh2
  intro H locs cells slots A hH hS hK hL hlv hst hls
  rcases hb with ⟨hb, rfl⟩ | ⟨hb, rfl⟩
  · exact lv_if_ge F.1 F.2.1 hd ht (fun _ => k H locs cells slots A hH hS hK hL hlv (okS_of hst (fun a ha => List.mem_cons_of_mem _ ha)) hls) (fun hn => absurd hb hn)
  · exact lv_if_ge F.1 F.2.1 hd ht (fun hn => absurd hn hb) (fun _ => k H locs cells slots A hH hS hK hL hlv (okS_of hst (fun a ha => List.mem_cons_of_mem _ ha)) hls)
theorem k_ic_ge {off : Int} (F : Fr g p s m args meth c y) (hd : decode (bN y) pc = .ok (.if_icmp .ge off, len)) (h : exI y (.if_icmp .ge off) len pc ls st μ = some (.inl (pc', ls', st', μ'))) (k : KC g p l e Rm s m args below meth c Q y K0 S0 pc' ls' st' μ') : KC g p l e Rm s m args below meth c Q y K0 S0 pc ls st μ := by
  obtain ⟨rfl, hh1⟩ := ck_some h
  obtain ⟨z, t, rfl, hh2⟩ := pI_some hh1
  obtain ⟨x, t, rfl, hh3⟩ := pI_some hh2
  obtain ⟨tg, ht, hb, rfl, rfl, rfl⟩ := br_some hh3
  intro H locs cells slots A hH hS hK hL hlv hst hls
  rcases hb with ⟨hb, rfl⟩ | ⟨hb, rfl⟩
  · exact lv_icmp_ge F.1 F.2.1 hd ht (fun _ => k H locs cells slots A hH hS hK hL hlv (okS_of hst (fun a ha => List.mem_cons_of_mem _ (List.mem_cons_of_mem _ ha))) hls) (fun hn => absurd hb hn)
  · exact lv_icmp_ge F.1 F.2.1 hd ht (fun hn => absurd hn hb) (fun _ => k H locs cells slots A hH hS hK hL hlv (okS_of hst (fun a ha => List.mem_cons_of_mem _ (List.mem_cons_of_mem _ ha))) hls)
theorem k_if_gt {off : Int} (F : Fr g p s m args meth c y) (hd : decode (bN y) pc = .ok (.ifCond .gt off, len)) (h : exI y (.ifCond .gt off) len pc ls st μ = some (.inl (pc', ls', st', μ'))) (k : KC g p l e Rm s m args below meth c Q y K0 S0 pc' ls' st' μ') : KC g p l e Rm s m args below meth c Q y K0 S0 pc ls st μ := by
  obtain ⟨rfl, hh1⟩ := ck_some h
  obtain ⟨x, t, rfl, hh2⟩ := pI_some hh1
  obtain ⟨tg, ht, hb, rfl, rfl, rfl⟩ := br_some hh2
  intro H locs cells slots A hH hS hK hL hlv hst hls
  rcases hb with ⟨hb, rfl⟩ | ⟨hb, rfl⟩
  · exact lv_if_gt F.1 F.2.1 hd ht (fun _ => k H locs cells slots A hH hS hK hL hlv (okS_of hst (fun a ha => List.mem_cons_of_mem _ ha)) hls) (fun hn => absurd hb hn)
  · exact lv_if_gt F.1 F.2.1 hd ht (fun hn => absurd hn hb) (fun _ => k H locs cells slots A hH hS hK hL hlv (okS_of hst (fun a ha => List.mem_cons_of_mem _ ha)) hls)
theorem k_ic_gt {off : Int} (F : Fr g p s m args meth c y) (hd : decode (bN y) pc = .ok (.if_icmp .gt off, len)) (h : exI y (.if_icmp .gt off) len pc ls st μ = some (.inl (pc', ls', st', μ'))) (k : KC g p l e Rm s m args below meth c Q y K0 S0 pc' ls' st' μ') : KC g p l e Rm s m args below meth c Q y K0 S0 pc ls st μ := by
  obtain ⟨rfl, hh1⟩ := ck_some h
  obtain ⟨z, t, rfl, hh2⟩ := pI_some hh1
  obtain ⟨x, t, rfl, hh3⟩ := pI_some hh2
  obtain ⟨tg, ht, hb, rfl, rfl, rfl⟩ := br_some hh3
  intro H locs cells slots A hH hS hK hL hlv hst hls
  rcases hb with ⟨hb, rfl⟩ | ⟨hb, rfl⟩
  · exact lv_icmp_gt F.1 F.2.1 hd ht (fun _ => k H locs cells slots A hH hS hK hL hlv (okS_of hst (fun a ha => List.mem_cons_of_mem _ (List.mem_cons_of_mem _ ha))) hls) (fun hn => absurd hb hn)
  · exact lv_icmp_gt F.1 F.2.1 hd ht (fun hn => absurd hn hb) (fun _ => k H locs cells slots A hH hS hK hL hlv (okS_of hst (fun a ha => List.mem_cons_of_mem _ (List.mem_cons_of_mem _ ha))) hls)
theorem k_if_le {off : Int} (F : Fr g p s m args meth c y) (hd : decode (bN y) pc = .ok (.ifCond .le off, len)) (h : exI y (.ifCond .le off) len pc ls st μ = some (.inl (pc', ls', st', μ'))) (k : KC g p l e Rm s m args below meth c Q y K0 S0 pc' ls' st' μ') : KC g p l e Rm s m args below meth c Q y K0 S0 pc ls st μ := by
  obtain ⟨rfl, hh1⟩ := ck_some h
  obtain ⟨x, t, rfl, hh2⟩ := pI_some hh1
  obtain ⟨tg, ht, hb, rfl, rfl, rfl⟩ := br_some hh2
  intro H locs cells slots A hH hS hK hL hlv hst hls
  rcases hb with ⟨hb, rfl⟩ | ⟨hb, rfl⟩
  · exact lv_if_le F.1 F.2.1 hd ht (fun _ => k H locs cells slots A hH hS hK hL hlv (okS_of hst (fun a ha => List.mem_cons_of_mem _ ha)) hls) (fun hn => absurd hb hn)
  · exact lv_if_le F.1 F.2.1 hd ht (fun hn => absurd hn hb) (fun _ => k H locs cells slots A hH hS hK hL hlv (okS_of hst (fun a ha => List.mem_cons_of_mem _ ha)) hls)
theorem k_ic_le {off : Int} (F : Fr g p s m args meth c y) (hd : decode (bN y) pc = .ok (.if_icmp .le off, len)) (h : exI y (.if_icmp .le off) len pc ls st μ = some (.inl (pc', ls', st', μ'))) (k : KC g p l e Rm s m args below meth c Q y K0 S0 pc' ls' st' μ') : KC g p l e Rm s m args below meth c Q y K0 S0 pc ls st μ := by
  obtain ⟨rfl, hh1⟩ := ck_some h
  obtain ⟨z, t, rfl, hh2⟩ := pI_some hh1
  obtain ⟨x, t, rfl, hh3⟩ := pI_some hh2
  obtain ⟨tg, ht, hb, rfl, rfl, rfl⟩ := br_some hh3
  intro H locs cells slots A hH hS hK hL hlv hst hls
  rcases hb with ⟨hb, rfl⟩ | ⟨hb, rfl⟩
  · exact lv_icmp_le F.1 F.2.1 hd ht (fun _ => k H locs cells slots A hH hS hK hL hlv (okS_of hst (fun a ha => List.mem_cons_of_mem _ (List.mem_cons_of_mem _ ha))) hls) (fun hn => absurd hb hn)
  · exact lv_icmp_le F.1 F.2.1 hd ht (fun hn => absurd hn hb) (fun _ => k H locs cells slots A hH hS hK hL hlv (okS_of hst (fun a ha => List.mem_cons_of_mem _ (List.mem_cons_of_mem _ ha))) hls)
end STP
