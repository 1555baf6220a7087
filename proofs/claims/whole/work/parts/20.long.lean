section RQ
variable {d : Nat} {ls : PL} {st : List Value} {μ : PM} {Q : Option Value → PM → Prop}
/-! java/lang/Long.compare(JJ)I: 226 -/
theorem r226_0 {l1 l2 l3 : Option Value} {x : Int64} : R d 226 0 [some (.long x), l1, l2, l3] st μ Q = R d 226 1 [some (.long x), l1, l2, l3] (.long x :: st) μ Q := e_lload_n (show decode (bN 226) 0 = .ok (.lload_n 0, 1) by decide +kernel) rfl
theorem r226_1 {l0 l1 l3 : Option Value} {x : Int64} : R d 226 1 [l0, l1, some (.long x), l3] st μ Q = R d 226 2 [l0, l1, some (.long x), l3] (.long x :: st) μ Q := e_lload_n (show decode (bN 226) 1 = .ok (.lload_n 2, 1) by decide +kernel) rfl
theorem r226_2 {x z : Int64} : R d 226 2 ls (.long z :: .long x :: st) μ Q = R d 226 3 ls (.int (lg_cmp x z) :: st) μ Q := e_lcmp (show decode (bN 226) 2 = .ok (.lcmp, 1) by decide +kernel)
theorem r226_3 {x : Int32} : R d 226 3 ls (.int x :: st) μ Q = if 0 ≤ x then R d 226 10 ls st μ Q else R d 226 6 ls st μ Q := e_if_ge (show decode (bN 226) 3 = .ok (.ifCond .ge 7, 3) by decide +kernel) rfl
theorem r226_6 : R d 226 6 ls st μ Q = R d 226 7 ls (.int (-1) :: st) μ Q := e_iconst (show decode (bN 226) 6 = .ok (.iconst (-1), 1) by decide +kernel) rfl
theorem r226_7 : R d 226 7 ls st μ Q = R d 226 21 ls st μ Q := e_goto (show decode (bN 226) 7 = .ok (.goto 14, 3) by decide +kernel) rfl
theorem r226_10 {l1 l2 l3 : Option Value} {x : Int64} : R d 226 10 [some (.long x), l1, l2, l3] st μ Q = R d 226 11 [some (.long x), l1, l2, l3] (.long x :: st) μ Q := e_lload_n (show decode (bN 226) 10 = .ok (.lload_n 0, 1) by decide +kernel) rfl
theorem r226_11 {l0 l1 l3 : Option Value} {x : Int64} : R d 226 11 [l0, l1, some (.long x), l3] st μ Q = R d 226 12 [l0, l1, some (.long x), l3] (.long x :: st) μ Q := e_lload_n (show decode (bN 226) 11 = .ok (.lload_n 2, 1) by decide +kernel) rfl
theorem r226_12 {x z : Int64} : R d 226 12 ls (.long z :: .long x :: st) μ Q = R d 226 13 ls (.int (lg_cmp x z) :: st) μ Q := e_lcmp (show decode (bN 226) 12 = .ok (.lcmp, 1) by decide +kernel)
theorem r226_13 {x : Int32} : R d 226 13 ls (.int x :: st) μ Q = if ¬ x = 0 then R d 226 20 ls st μ Q else R d 226 16 ls st μ Q := e_if_ne (show decode (bN 226) 13 = .ok (.ifCond .ne 7, 3) by decide +kernel) rfl
theorem r226_16 : R d 226 16 ls st μ Q = R d 226 17 ls (.int 0 :: st) μ Q := e_iconst (show decode (bN 226) 16 = .ok (.iconst 0, 1) by decide +kernel) rfl
theorem r226_17 : R d 226 17 ls st μ Q = R d 226 21 ls st μ Q := e_goto (show decode (bN 226) 17 = .ok (.goto 4, 3) by decide +kernel) rfl
theorem r226_20 : R d 226 20 ls st μ Q = R d 226 21 ls (.int 1 :: st) μ Q := e_iconst (show decode (bN 226) 20 = .ok (.iconst 1, 1) by decide +kernel) rfl
theorem r226_21 {x : Int32} : R d 226 21 ls [.int x] μ Q = Q (some (.int x)) μ := e_ireturn (show decode (bN 226) 21 = .ok (.ireturn, 1) by decide +kernel) rfl
end RQ
