/-! steps that read and write the heap -/
theorem lookF_spec {o i c j : Nat} (h : lookF o i = some (c, j)) : Cond.fieldLink (oC o) i (TN c j).1 (TN c j).2.1 (TN c j).2.2.1 ∈ TB ∧ j < NN c ∧ c < 12 := by
  obtain ⟨q, hq, e1⟩ := Option.map_eq_some_iff.mp h
  have hm := List.mem_of_find?_eq_some hq
  have hp := List.find?_some hq
  simp only [Bool.and_eq_true, beq_iff_eq] at hp
  obtain ⟨h1, h2, h3⟩ := tb_field q hm
  have e2 : q.2.2.1 = c := congrArg Prod.fst e1
  have e3 : q.2.2.2.1 = j := congrArg Prod.snd e1
  rw [hp.1, hp.2, e2, e3] at h1
  rw [e2, e3] at h2
  rw [e2] at h3
  exact ⟨tb_of (tb_in h1) rfl, h2, h3⟩
theorem lay_good (C : String) (T : u_T) (k : Nat) : goodWord (u_lay C T k) = true := by
  unfold u_lay
  split <;> rfl
theorem lay_in {c : Nat} (h : c < 12) : ∀ w ∈ u_ws (oC c) (TN c) (NN c), w ∈ TB := by
  intro w hw
  refine tb_of (tb_lay c h w hw) ?_
  obtain ⟨k, -, rfl⟩ := List.mem_map.mp hw
  exact lay_good _ _ _
theorem okr_obj {g : GG} {as : List Nat} {a : Nat} (h : okr g as a) (hc : a % 100 < 12) : a ∈ as := by
  rcases h with h | h | h
  · exact h
  · rw [h] at hc; exact absurd hc (by decide)
  · rw [h, sA_mod] at hc; exact absurd hc (by decide)
theorem okr_big {g : GG} {as : List Nat} {a : Nat} (h : okr g as a) (hg : gL g ≤ 3584) (hc : 2000000 ≤ a) : a ∈ as := by
  rcases h with h | h | h
  · exact h
  · rw [h] at hc; exact absurd hc (by decide)
  · have := sA_div g hg
    rw [h] at hc
    omega
theorem okr_tag {g : GG} {as : List Nat} {a : Nat} (h : okr g as a) (h1 : a % 100 ≠ 20) (h2 : a % 100 ≠ 21) : a ∈ as := by
  rcases h with h | h | h
  · exact h
  · rw [h] at h2; exact absurd rfl h2
  · rw [h, sA_mod] at h1; exact absurd rfl h1
theorem ceO_obj {g : GG} {μ : PM} {a c : Nat} (h : a % 100 = c) (hc : c < 12) : ceO g μ a = .inr (c, fsO g μ a c) := by
  unfold ceO
  rw [h, if_pos hc]
theorem ceO_arr {g : GG} {μ : PM} {a t : Nat} (h : a % 100 = t) (hc : 20 ≤ t) : ceO g μ a = .inl (gT0 g t, arO g μ a t) := by
  unfold ceO
  rw [h, if_neg (by omega)]
theorem fsO_at {g : GG} {μ : PM} {a c j : Nat} (h : j < NN c) : (fsO g μ a c)[j]? = some (tr g (fv μ a (tyN c j) j)) := by
  unfold fsO
  rw [List.getElem?_map, List.getElem?_range h]
  rfl
theorem HF_upd {g : GG} {μ μ' : PM} {H H1 : Heap} {k a : Nat} (hH : HF g μ H) (hk : (aS μ)[k]? = some a) (he : aS μ' = aS μ) (hd : ∀ b, b ≠ a → ceO g μ' b = ceO g μ b)
    (hP : va_P (gD g) vwCl ((wsO g μ).set k (ad g a, ceO g μ' a)) H1) (hD : va_D (gA g) ((wsO g μ).set k (ad g a, ceO g μ' a))) (hM : okM g μ') (hk1 : ∀ j, rL μ' kwA j = rL μ kwA j) (hs1 : ∀ j, rI μ' (sA g) j = rI μ (sA g) j) : HF g μ' H1 := by
  obtain ⟨-, -, h3, -, h5, h6⟩ := hH
  have e := wsO_set h3 hk he hd
  rw [e] at hP hD
  exact ⟨hP, hD, by rw [he]; exact h3, hM, fun j hj => by rw [hk1]; exact h5 j hj, fun j hj => by rw [hs1]; exact h6 j hj⟩
theorem okA_ge {as : List Nat} (h : okA as) {a : Nat} (ha : a ∈ as) : 2000000 ≤ a := by
  obtain ⟨k, hk⟩ := List.getElem?_of_mem ha
  have := (h k a hk).1
  omega
theorem rI_wI {μ : PM} {a j b k : Nat} {x : Int32} : rI (wI μ a j x) b k = if a = b ∧ j = k then x else rI μ b k := rfl
theorem rL_wL {μ : PM} {a j b k : Nat} {x : Int64} : rL (wL μ a j x) b k = if a = b ∧ j = k then x else rL μ b k := rfl
theorem rR_wR {μ : PM} {a j b k : Nat} {x : Option Nat} : rR (wR μ a j x) b k = if a = b ∧ j = k then x else rR μ b k := rfl
theorem rI_wL {μ : PM} {a j b k : Nat} {x : Int64} : rI (wL μ a j x) b k = rI μ b k := rfl
theorem rI_wR {μ : PM} {a j b k : Nat} {x : Option Nat} : rI (wR μ a j x) b k = rI μ b k := rfl
theorem rL_wI {μ : PM} {a j b k : Nat} {x : Int32} : rL (wI μ a j x) b k = rL μ b k := rfl
theorem rL_wR {μ : PM} {a j b k : Nat} {x : Option Nat} : rL (wR μ a j x) b k = rL μ b k := rfl
theorem rR_wI {μ : PM} {a j b k : Nat} {x : Int32} : rR (wI μ a j x) b k = rR μ b k := rfl
theorem rR_wL {μ : PM} {a j b k : Nat} {x : Int64} : rR (wL μ a j x) b k = rR μ b k := rfl
theorem aS_wI {μ : PM} {a j : Nat} {x : Int32} : aS (wI μ a j x) = aS μ := rfl
theorem aS_wL {μ : PM} {a j : Nat} {x : Int64} : aS (wL μ a j x) = aS μ := rfl
theorem aS_wR {μ : PM} {a j : Nat} {x : Option Nat} : aS (wR μ a j x) = aS μ := rfl
theorem aS_cI {μ : PM} {a sp b dp n : Nat} : aS (cI μ a sp b dp n) = aS μ := rfl
theorem aS_nw {μ : PM} {a : Nat} : aS (nw μ a) = aS μ ++ [a] := rfl
theorem nar_bool {x : Int32} (h : x = 0 ∨ x = 1) : narrow .boolean (.int x) = .int x ∧ fits .boolean (.int x) = true := by
  rcases h with rfl | rfl <;> exact ⟨rfl, rfl⟩
/-- what a field's writing does to the memory -/
def putOk (g : GG) (μ μ' : PM) (a j : Nat) (ty : FieldType) (v : Value) : Prop :=
  fv μ' a ty j = v ∧ (∀ i ty', i ≠ j → fv μ' a ty' i = fv μ a ty' i) ∧ (∀ b, b ≠ a → ceO g μ' b = ceO g μ b) ∧ aS μ' = aS μ ∧ (narrow ty (tr g v) = tr g v ∧ fits ty (tr g v) = true) ∧
  (okM g μ → (∀ b, v = .ref b → okr g (aS μ) b) → okM g μ') ∧ (∀ b k, b ≠ a → rL μ' b k = rL μ b k ∧ rI μ' b k = rI μ b k)
theorem put_I {g : GG} {μ : PM} {a j : Nat} {ty : FieldType} {x : Int32} (h1 : fv (wI μ a j x) a ty j = .int (rI (wI μ a j x) a j)) (h2 : narrow ty (.int x) = .int x ∧ fits ty (.int x) = true) : putOk g μ (wI μ a j x) a j ty (.int x) := by
  refine ⟨by rw [h1, rI_wI, if_pos ⟨rfl, rfl⟩], fun i ty' hi => ?_, fun b hb => ceO_wI b hb, rfl, h2, fun hM _ => hM, fun b k hb => ⟨rfl, by rw [rI_wI, if_neg (fun q => hb q.1.symm)]⟩⟩
  have : ¬ (a = a ∧ j = i) := fun q => hi q.2.symm
  cases ty' <;> simp [fv, rI_wI, rL_wI, rR_wI, Ne.symm hi]
theorem put_L {g : GG} {μ : PM} {a j : Nat} {x : Int64} : putOk g μ (wL μ a j x) a j .long (.long x) := by
  refine ⟨by simp only [fv, rL_wL, and_self, if_true], fun i ty' hi => ?_, fun b hb => ceO_wL b hb, rfl, ⟨rfl, rfl⟩, fun hM _ => hM, fun b k hb => ⟨by rw [rL_wL, if_neg (fun q => hb q.1.symm)], rfl⟩⟩
  have : ¬ (a = a ∧ j = i) := fun q => hi q.2.symm
  cases ty' <;> simp [fv, rI_wL, rL_wL, rR_wL, Ne.symm hi]
theorem put_R {g : GG} {μ : PM} {a j : Nat} {ty : FieldType} {o : Option Nat} (h1 : fv (wR μ a j o) a ty j = va_rf (rR (wR μ a j o) a j)) (h2 : narrow ty (va_rf (o.map (ad g))) = va_rf (o.map (ad g)) ∧ fits ty (va_rf (o.map (ad g))) = true) : putOk g μ (wR μ a j o) a j ty (va_rf o) := by
  refine ⟨by rw [h1, rR_wR, if_pos ⟨rfl, rfl⟩], fun i ty' hi => ?_, fun b hb => ceO_wR b hb, rfl, by rw [tr_rf]; exact h2, fun hM hv => ?_, fun b k hb => ⟨rfl, rfl⟩⟩
  · have : ¬ (a = a ∧ j = i) := fun q => hi q.2.symm
    cases ty' <;> simp [fv, rI_wR, rL_wR, rR_wR, Ne.symm hi]
  · intro b k d hd
    rw [rR_wR] at hd
    split at hd
    · subst hd; exact hv d rfl
    · exact hM b k d hd
theorem putV_spec {g : GG} {μ μ' : PM} {a j : Nat} {ty : FieldType} {v : Value} (h : putV μ a j ty v = some μ') : putOk g μ μ' a j ty v := by
  unfold putV at h
  split at h
  · cases h; exact put_I rfl ⟨rfl, rfl⟩
  · split at h
    · cases h; exact put_I rfl (nar_bool (by assumption))
    · cases h
  · cases h; exact put_L
  · cases h; exact put_R (o := some _) rfl ⟨rfl, rfl⟩
  · cases h; exact put_R (o := none) rfl ⟨rfl, rfl⟩
  · cases h; exact put_R (o := some _) rfl ⟨rfl, rfl⟩
  · cases h; exact put_R (o := none) rfl ⟨rfl, rfl⟩
  · cases h
theorem fsO_set {g : GG} {μ μ' : PM} {a c j : Nat} {v : Value} (hj : j < NN c) (h1 : fv μ' a (tyN c j) j = v) (h2 : ∀ i ty', i ≠ j → fv μ' a ty' i = fv μ a ty' i) : (fsO g μ a c).set j (tr g v) = fsO g μ' a c := by
  apply List.ext_getElem?
  intro i
  have hl : (fsO g μ a c).length = NN c := by unfold fsO; rw [List.length_map, List.length_range]
  rw [List.getElem?_set]
  by_cases h : j = i
  · subst h
    rw [if_pos rfl, if_pos (by omega), fsO_at hj, h1]
  · rw [if_neg h]
    by_cases hi : i < NN c
    · rw [fsO_at hi, fsO_at hi, h2 i _ (Ne.symm h)]
    · rw [List.getElem?_eq_none (by omega), List.getElem?_eq_none (by unfold fsO; rw [List.length_map, List.length_range]; omega)]
theorem okM_fv {g : GG} {μ : PM} (h : okM g μ) {a j b : Nat} {ty : FieldType} (hb : Value.ref b = fv μ a ty j) : okr g (aS μ) b := by
  have key : ∀ o : Option Nat, Value.ref b = va_rf o → o = some b := by
    intro o ho
    cases o with
    | none => cases ho
    | some c => cases ho; rfl
  unfold fv at hb
  split at hb
  · cases hb
  · exact h a j b (key _ hb)
  · exact h a j b (key _ hb)
  · cases hb
section STP
variable {g : GG} {p : Program} {l : Launch} {e : Env} {Rm : Room} {s : State} {m : MethodId} {args : Array Value} {below : List Frame} {meth : Method} {c : Code} {Q : State → Prop} {y K0 S0 pc len pc' : Nat} {ls ls' : PL} {st st' : List Value} {μ μ' : PM}
theorem k_getfield {i : Nat} (F : Fr g p s m args meth c y) (hd : decode (bN y) pc = .ok (.getfield i, len)) (h : exI y (.getfield i) len pc ls st μ = some (.inl (pc', ls', st', μ'))) (k : KC g p l e Rm s m args below meth c Q y K0 S0 pc' ls' st' μ') : KC g p l e Rm s m args below meth c Q y K0 S0 pc ls st μ := by
  obtain ⟨rfl, h1⟩ := ck_some h
  split at h1
  · rename_i cc j hl
    obtain ⟨a, t, rfl, h2⟩ := pA_some h1
    obtain ⟨ha, h3⟩ := ck_some h2
    obtain ⟨rfl, rfl, rfl, rfl⟩ := nxt_inj h3
    obtain ⟨f1, f2, f3⟩ := lookF_spec hl
    intro H locs cells slots A hH hS hK hL hlv hst hls
    obtain ⟨q, hq⟩ := List.getElem?_of_mem (okr_obj (hst a List.mem_cons_self) (by omega))
    have he := wsO_get (g := g) hq
    rw [ceO_obj ha f3] at he
    refine va_get (D := gD g) (C := oC cc) (T := TN cc) (N := NN cc) F.1 F.2.1 F.2.2.2.2.1 (lay_in f3) F.2.2.2.1 F.2.2.2.2.2.1.1 hH.1 q he (tb_obj cc f3) j f2 (F.2.2.2.2.1 _ f1) (fun _ z => z) (fsO_at f2) hd ?_
    refine k H locs cells slots A hH hS hK hL hlv (fun b hb => ?_) hls
    rcases List.mem_cons.mp hb with h9 | h9
    · exact okM_fv hH.2.2.2.1 h9
    · exact hst b (List.mem_cons_of_mem _ h9)
  · cases h1
theorem k_putfield {i : Nat} (F : Fr g p s m args meth c y) (hd : decode (bN y) pc = .ok (.putfield i, len)) (h : exI y (.putfield i) len pc ls st μ = some (.inl (pc', ls', st', μ'))) (k : KC g p l e Rm s m args below meth c Q y K0 S0 pc' ls' st' μ') : KC g p l e Rm s m args below meth c Q y K0 S0 pc ls st μ := by
  obtain ⟨rfl, h1⟩ := ck_some h
  split at h1
  · rename_i cc j hl
    obtain ⟨v, t, rfl, h2⟩ := pV_some h1
    obtain ⟨a, t, rfl, h3⟩ := pA_some h2
    obtain ⟨⟨ha, hfin⟩, h4⟩ := ck_some h3
    split at h4
    · rename_i μ2 hput
      obtain ⟨rfl, rfl, rfl, rfl⟩ := nxt_inj h4
      obtain ⟨f1, f2, f3⟩ := lookF_spec hl
      obtain ⟨o1, o2, o3, o4, ⟨o5, o5'⟩, o6, o7⟩ := putV_spec (g := g) hput
      intro H locs cells slots A hH hS hK hL hlv hst hls
      have hma := okr_obj (hst a (by simp)) (by omega)
      have hbig := okA_ge hH.2.2.1 hma
      obtain ⟨q, hq⟩ := List.getElem?_of_mem hma
      have he := wsO_get (g := g) hq
      rw [ceO_obj ha f3] at he
      have hlen : j < (fsO g μ a cc).length := by unfold fsO; rw [List.length_map, List.length_range]; exact f2
      have kk : ∀ (H1 : Heap) (locs1 : List Loc), va_P (gD g) vwCl ((wsO g μ).set q (ad g a, .inr (cc, (fsO g μ a cc).set j (tr g v)))) H1 → va_D (gA g) ((wsO g μ).set q (ad g a, .inr (cc, (fsO g μ a cc).set j (tr g v)))) → va_S (gA g) s.heap H1 locs1 → W p l e Rm s m args below meth c H1 locs1 cells slots Q (F0 m (pc + 3) A (st'.map (tr g))) := by
        intro H1 locs1 hP1 hD1 hS1
        rw [fsO_set f2 o1 o2, ← ceO_obj (μ := μ') ha f3] at hP1 hD1
        have hk0 : a ≠ kwA := fun q => by rw [q] at hbig; exact absurd hbig (by decide)
        have hs0 : a ≠ sA g := fun q => by
          have := sA_div g F.2.2.2.2.2.1.2.2.2.2.2.2.2.2
          rw [← q] at this
          omega
        refine k H1 locs1 cells slots A (HF_upd hH hq o4 o3 hP1 hD1 (o6 hH.2.2.2.1 (fun b hb => hst b (by simp [hb]))) (fun j => (o7 kwA j (Ne.symm hk0)).1) (fun j => (o7 _ j (Ne.symm hs0)).2)) hS1 (by rw [o4]; exact hK) (by unfold slS; rw [o4]; exact hL) hlv (by rw [o4]; exact okS_of hst (fun b hb => List.mem_cons_of_mem _ (List.mem_cons_of_mem _ hb))) (by rw [o4]; exact hls)
      rcases hfin with hfin | ⟨hi1, hi2⟩
      · exact va_put (D := gD g) (C := oC cc) (T := TN cc) (N := NN cc) F.1 F.2.1 F.2.2.2.2.1 (lay_in f3) (tyN cc) (tb_ty cc f3) (tb_nm cc f3) F.2.2.2.1 F.2.2.2.2.2.1.1 hH.1 hH.2.1 hS q he (tb_obj cc f3) j f2 (F.2.2.2.2.1 _ f1) (fun _ z => z) hfin (tb_ty cc f3 j f2) o5 o5' hlen hd kk
      · by_cases hfb : (TN cc j).2.2.2 = false
        · exact va_put (D := gD g) (C := oC cc) (T := TN cc) (N := NN cc) F.1 F.2.1 F.2.2.2.2.1 (lay_in f3) (tyN cc) (tb_ty cc f3) (tb_nm cc f3) F.2.2.2.1 F.2.2.2.2.2.1.1 hH.1 hH.2.1 hS q he (tb_obj cc f3) j f2 (F.2.2.2.2.1 _ f1) (fun _ z => z) hfb (tb_ty cc f3 j f2) o5 o5' hlen hd kk
        · have hft : (TN cc j).2.2.2 = true := by cases hq9 : (TN cc j).2.2.2 with
            | true => rfl
            | false => exact absurd hq9 hfb
          exact va_putF (D := gD g) (C := oC cc) (T := TN cc) (N := NN cc) F.1 F.2.1 F.2.2.2.2.1 (lay_in f3) (tyN cc) (tb_ty cc f3) (tb_nm cc f3) F.2.2.2.1 F.2.2.2.2.2.1.1 hH.1 hH.2.1 hS q he (tb_obj cc f3) j f2 (F.2.2.2.2.1 _ f1) (fun _ z => z) hft (F.2.2.2.2.2.2.1 hi1) (by rw [tb_decl cc f3 j f2, hi2]) (tb_ty cc f3 j f2) o5 o5' hlen hd kk
    · cases h4
  · cases h1
end STP
