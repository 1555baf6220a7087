/-! the main theorem of soundness -/
theorem isOf_spec {c : Nat} {v : Option Value} (h : isOf c v = true) : ∃ a, v = some (.ref a) ∧ a % 100 = c := by
  unfold isOf at h
  split at h
  · exact ⟨_, rfl, by simpa using h⟩
  · cases h
theorem oN_obj : ∀ z, z < 232 → kN z ≠ 1 → oN z < 12 := by decide +kernel
theorem st_split {st : List Value} {n a : Nat} (h : st[n]? = some (.ref a)) : st = (st.take n) ++ .ref a :: st.drop (n + 1) ∧ st.take (n + 1) = st.take n ++ [.ref a] ∧ (st.take n).length = n := by
  have hl : n < st.length := (List.getElem?_eq_some_iff.mp h).1
  have hg : st[n] = .ref a := (List.getElem?_eq_some_iff.mp h).2
  refine ⟨?_, ?_, by rw [List.length_take]; omega⟩
  · conv => lhs; rw [← List.take_append_drop n st, List.drop_eq_getElem_cons hl, hg]
  · rw [List.take_succ, h]; rfl
theorem good : ∀ n, Good n := by
  intro n
  induction n with
  | zero => intro g d y pc ls st μ v μ' h; simp [run] at h
  | succ n ih =>
    intro g d y pc ls st μ v μ' h p l e Rm s m args below meth c Q K0 S0 F hB hfr hlo hc hs fin
    rw [run] at h
    cases hst : st1 y pc ls st μ with
    | none => rw [hst] at h; simp at h
    | some q =>
      rw [hst] at h
      unfold st1 at hst
      split at hst
      · rename_i i len hd
        have hR : 1 ≤ Rm.frames ∧ 100 ≤ Rm.locals := ⟨by omega, by omega⟩
        have hgr : Gr μ q → KC g p l e Rm s m args below meth c Q y K0 S0 pc ls st μ := by
          rintro ⟨pc1, ls1, st1, μ1, rfl, -⟩
          obtain ⟨b1, b2, -⟩ := run_gr _ _ _ _ _ _ _ _ _ h
          exact k_any F hB hR hd hst (by omega) (by omega) (ih g d y pc1 ls1 st1 μ1 v μ' h p l e Rm s m args below meth c Q K0 S0 F hB hfr hlo hc hs fin)
        have hret : (i = .ireturn ∨ i = .lreturn ∨ i = .return_) → KC g p l e Rm s m args below meth c Q y K0 S0 pc ls st μ := by
          intro hi
          obtain ⟨w, rfl, h2, h3⟩ := exI_rt hd hi hst
          simp only [Option.some.injEq, Prod.mk.injEq] at h
          obtain ⟨rfl, rfl⟩ := h
          intro H locs cells slots A hH hS hK hL hlv hok hls
          have hm : st.map (tr g) = (w.map (tr g)).toList := by rw [h3]; cases w <;> rfl
          rw [hm]
          exact fin pc H locs cells slots A h2 hH hS hK hL
        have hcall : ∀ {z : Nat} {as rest : List Value}, q = .inr (.inl (z, as, rest)) → z < 232 → oN z ≠ 13 → okS g (aS μ) as ∨ True → entG z 0 as = true →
            (∀ (d' : Nat) (v1 : Option Value) (μ1 : PM) (H : Heap) (locs : List Loc) (cells slots : Nat) (A : Array Slot), d = d' + 1 → okS g (aS μ) st → (okS g (aS μ) as → MetZ g l d' z as μ v1 μ1) → HF g μ H → va_S (gA g) s.heap H locs → H.size = gB g + (aS μ).length → lvk g y ls A → (cells + mcZ μ μ1 ≤ Rm.cells ∧ slots + msZ μ μ1 ≤ Rm.slots) →
              okS g (aS μ) rest ∧ ∃ a0, va_Run p l e Rm s m args below meth c H locs cells slots (mcZ μ μ1) (msZ μ μ1) (F0 m pc A (st.map (tr g))) (rest.map (tr g)) (Qz g v1 μ1 a0) (gA g)) → KC g p l e Rm s m args below meth c Q y K0 S0 pc ls st μ := by
          intro z as rest hq hz1 hz2 _ hent hrun
          subst hq
          cases d with
          | zero => simp at h
          | succ d =>
            simp only at h
            cases hcr : run n d z 0 (ent z as) [] μ with
            | none => rw [hcr] at h; simp at h
            | some w =>
              rw [hcr] at h
              obtain ⟨v1, μ1⟩ := w
              simp only at h
              obtain ⟨a1, a2, y9, pc9, a3⟩ := run_gr _ _ _ _ _ _ _ _ _ hcr
              obtain ⟨b1, b2, -⟩ := run_gr _ _ _ _ _ _ _ _ _ h
              have kk := ih g (d + 1) y (pc + 3) ls (v1.toList ++ rest) μ1 v μ' h p l e Rm s m args below meth c Q K0 S0 F hB hfr hlo hc hs fin
              intro H locs cells slots A hH hS hK hL hlv hok hls
              intro T hT X
              have hsz := H_size hB hH hS hK (by rw [← hT]; exact X.heapSize)
              have hcc : cells + mcZ μ μ1 ≤ Rm.cells ∧ slots + msZ μ μ1 ≤ Rm.slots := by unfold mcZ msZ; omega
              obtain ⟨r1, a0, r2⟩ := hrun d v1 μ1 H locs cells slots A rfl hok (fun has => met_of ih hcr hz1 hz2 has hent) hH hS hsz hlv hcc
              have hpre : ∃ t, aS μ1 = aS μ ++ t := run_pre _ _ _ _ _ _ _ _ _ hcr
              have up : ∀ b, okr g (aS μ) b → okr g (aS μ1) b := by
                intro b hb
                obtain ⟨t, ht⟩ := hpre
                rw [ht]
                rcases hb with hb | hb
                · exact Or.inl (List.mem_append_left _ hb)
                · exact Or.inr hb
              exact k_back (z := z) (a0 := a0) (v := v1) a1 a2 (RetAt_nr a3) r2 hS hK hL hlv (fun b hb => up b (r1 b hb)) (fun b hb => up b (hls b hb)) kk T hT X
        by_cases hp : isPl i = true
        · exact hgr (exI_pl hp q hst)
        · cases i <;> first | (exact absurd rfl hp) | skip
          · rcases exI_sp hst with hg | ⟨rfl, z, hz, ⟨hk, ho⟩, hcal⟩
            · exact hgr hg
            · obtain ⟨c1, c2, c3, c4⟩ := cal_spec hcal
              rw [if_neg (by omega)] at c1 c2 c3 c4
              obtain ⟨z1, z2, -⟩ := lookM_spec hz
              obtain ⟨a, ha, ham⟩ := isOf_spec ho
              obtain ⟨s1, s2, s3⟩ := st_split ha
              rw [s2, List.reverse_append] at c3 c4
              refine hcall c4 z1 z2 (Or.inr trivial) c3 (fun d' v1 μ1 H locs cells slots A hd' hok hM hH hS hsz hlv hcc => ?_)
              subst hd'
              have hM := hM (okS_of hok (fun b hb => by rw [s1]; simp at hb ⊢; rcases hb with hb | hb; (exact Or.inr (Or.inl hb)); exact Or.inl hb))
              have hr := run_I (a := a) (As := (st.take (aN z)).reverse) (rest := st.drop (aN z + 1)) F (by omega) (by omega) hd hz hk (by rw [List.length_reverse]; exact s3) c2 hM hH hS hsz hlv hcc (e := e) (below := below)
              rw [List.reverse_reverse, ← s1] at hr
              exact ⟨okS_of hok (fun b hb => List.mem_of_mem_drop hb), _, hr⟩
          · rcases exI_st hst with hg | ⟨rfl, z, hz, hk, hcal⟩
            · exact hgr hg
            · obtain ⟨c1, c2, c3, c4⟩ := cal_spec hcal
              rw [if_pos hk] at c1 c2 c3 c4
              obtain ⟨z1, z2, -⟩ := lookM_spec hz
              refine hcall c4 z1 z2 (Or.inr trivial) c3 (fun d' v1 μ1 H locs cells slots A hd' hok hM hH hS hsz hlv hcc => ?_)
              subst hd'
              have hM := hM (okS_of hok (fun b hb => List.mem_of_mem_take (List.mem_reverse.mp hb)))
              have hr := run_S (As := (st.take (aN z)).reverse) (rest := st.drop (aN z)) F (by omega) (by omega) hd hz hk (by rw [List.length_reverse, List.length_take]; omega) c2 hM hH hS hsz hlv hcc (e := e) (below := below)
              rw [List.reverse_reverse, List.take_append_drop] at hr
              exact ⟨okS_of hok (fun b hb => List.mem_of_mem_drop hb), _, hr⟩
          · obtain ⟨rfl, z, hz, ⟨hk, ho⟩, hcal⟩ := exI_vi hst
            obtain ⟨c1, c2, c3, c4⟩ := cal_spec hcal
            rw [if_neg (by omega)] at c1 c2 c3 c4
            obtain ⟨z1, z2, -⟩ := lookM_spec hz
            obtain ⟨a, ha, ham⟩ := isOf_spec ho
            obtain ⟨s1, s2, s3⟩ := st_split ha
            rw [s2, List.reverse_append] at c3 c4
            have hcl := oN_obj z z1 (by omega)
            refine hcall c4 z1 z2 (Or.inr trivial) c3 (fun d' v1 μ1 H locs cells slots A hd' hok hM hH hS hsz hlv hcc => ?_)
            subst hd'
            have hM := hM (okS_of hok (fun b hb => by rw [s1]; simp at hb ⊢; rcases hb with hb | hb; (exact Or.inr (Or.inl hb)); exact Or.inl hb))
            have hr := run_V (a := a) (As := (st.take (aN z)).reverse) (rest := st.drop (aN z + 1)) F (by omega) (by omega) hd hz hk ham (by rw [List.length_reverse]; exact s3) c2 hM hH hS hsz hlv (okr_obj (hok a (by rw [s1]; simp)) (by rw [ham]; exact hcl)) hcl hcc (e := e) (below := below)
            rw [List.reverse_reverse, ← s1] at hr
            exact ⟨okS_of hok (fun b hb => List.mem_of_mem_drop hb), _, hr⟩
          · exact hret (Or.inl rfl)
          · exact hret (Or.inr (Or.inl rfl))
          · exact hret (Or.inr (Or.inr rfl))
      · cases hst
