section RQ
variable {d : Nat} {ls : PL} {st : List Value} {μ : PM} {Q : Option Value → PM → Prop}
/-! ChinRow$Lexer.<init>()V: 29 -/
theorem r29_0  {x : Nat} : R d 29 0 [some (.ref x)] st μ Q = R d 29 1 [some (.ref x)] (.ref x :: st) μ Q := e_aload_n (show decode (bN 29) 0 = .ok (.aload_n 0, 1) by decide +kernel) rfl
theorem r29_1 {a : Nat} : R d 29 1 ls (.ref a :: st) μ Q = (sw st ≤ 8 ∧ R d 29 4 ls st μ Q) := e_oinit (show decode (bN 29) 1 = .ok (.invokespecial 3, 3) by decide +kernel) (by decide +kernel) (by decide +kernel)
theorem r29_4  {x : Nat} : R d 29 4 [some (.ref x)] st μ Q = R d 29 5 [some (.ref x)] (.ref x :: st) μ Q := e_aload_n (show decode (bN 29) 4 = .ok (.aload_n 0, 1) by decide +kernel) rfl
theorem r29_5 : R d 29 5 ls st μ Q = R d 29 6 ls (.null :: st) μ Q := e_null (show decode (bN 29) 5 = .ok (.aconst_null, 1) by decide +kernel)
theorem r29_6 {a b : Nat} : R d 29 6 ls (.ref b :: .ref a :: st) μ Q = (a % 100 = 3 ∧ R d 29 9 ls st (wR μ a 0 (some b)) Q) := e_putfield (j := 0) (show decode (bN 29) 6 = .ok (.putfield 9, 3) by decide +kernel) (by decide +kernel) (by decide +kernel) rfl
theorem r29_6n {a : Nat} : R d 29 6 ls (.null :: .ref a :: st) μ Q = (a % 100 = 3 ∧ R d 29 9 ls st (wR μ a 0 none) Q) := e_putfield (j := 0) (show decode (bN 29) 6 = .ok (.putfield 9, 3) by decide +kernel) (by decide +kernel) (by decide +kernel) rfl
theorem r29_9  {x : Nat} : R d 29 9 [some (.ref x)] st μ Q = R d 29 10 [some (.ref x)] (.ref x :: st) μ Q := e_aload_n (show decode (bN 29) 9 = .ok (.aload_n 0, 1) by decide +kernel) rfl
theorem r29_10 : R d 29 10 ls st μ Q = R d 29 11 ls (.int 0 :: st) μ Q := e_iconst (show decode (bN 29) 10 = .ok (.iconst 0, 1) by decide +kernel) rfl
theorem r29_11 {a : Nat} {x : Int32} : R d 29 11 ls (.int x :: .ref a :: st) μ Q = (a % 100 = 3 ∧ R d 29 14 ls st (wI μ a 1 x) Q) := e_putfield (j := 1) (show decode (bN 29) 11 = .ok (.putfield 15, 3) by decide +kernel) (by decide +kernel) (by decide +kernel) rfl
theorem r29_14  {x : Nat} : R d 29 14 [some (.ref x)] st μ Q = R d 29 15 [some (.ref x)] (.ref x :: st) μ Q := e_aload_n (show decode (bN 29) 14 = .ok (.aload_n 0, 1) by decide +kernel) rfl
theorem r29_15 : R d 29 15 ls st μ Q = R d 29 17 ls (.int 30 :: st) μ Q := e_bipush (show decode (bN 29) 15 = .ok (.bipush 30, 2) by decide +kernel) rfl
theorem r29_17 {a : Nat} {x : Int32} : R d 29 17 ls (.int x :: .ref a :: st) μ Q = (a % 100 = 3 ∧ R d 29 20 ls st (wI μ a 2 x) Q) := e_putfield (j := 2) (show decode (bN 29) 17 = .ok (.putfield 19, 3) by decide +kernel) (by decide +kernel) (by decide +kernel) rfl
theorem r29_20  {x : Nat} : R d 29 20 [some (.ref x)] st μ Q = R d 29 21 [some (.ref x)] (.ref x :: st) μ Q := e_aload_n (show decode (bN 29) 20 = .ok (.aload_n 0, 1) by decide +kernel) rfl
theorem r29_21 : R d 29 21 ls st μ Q = R d 29 22 ls (.int 0 :: st) μ Q := e_iconst (show decode (bN 29) 21 = .ok (.iconst 0, 1) by decide +kernel) rfl
theorem r29_22 {a : Nat} {x : Int32} : R d 29 22 ls (.int x :: .ref a :: st) μ Q = (a % 100 = 3 ∧ R d 29 25 ls st (wI μ a 3 x) Q) := e_putfield (j := 3) (show decode (bN 29) 22 = .ok (.putfield 22, 3) by decide +kernel) (by decide +kernel) (by decide +kernel) rfl
theorem r29_25  {x : Nat} : R d 29 25 [some (.ref x)] st μ Q = R d 29 26 [some (.ref x)] (.ref x :: st) μ Q := e_aload_n (show decode (bN 29) 25 = .ok (.aload_n 0, 1) by decide +kernel) rfl
theorem r29_26 : R d 29 26 ls st μ Q = R d 29 27 ls (.int 0 :: st) μ Q := e_iconst (show decode (bN 29) 26 = .ok (.iconst 0, 1) by decide +kernel) rfl
theorem r29_27 {a : Nat} {x : Int32} : R d 29 27 ls (.int x :: .ref a :: st) μ Q = (a % 100 = 3 ∧ R d 29 30 ls st (wI μ a 4 x) Q) := e_putfield (j := 4) (show decode (bN 29) 27 = .ok (.putfield 25, 3) by decide +kernel) (by decide +kernel) (by decide +kernel) rfl
theorem r29_30  {x : Nat} : R d 29 30 [some (.ref x)] st μ Q = R d 29 31 [some (.ref x)] (.ref x :: st) μ Q := e_aload_n (show decode (bN 29) 30 = .ok (.aload_n 0, 1) by decide +kernel) rfl
theorem r29_31 : R d 29 31 ls st μ Q = R d 29 32 ls (.long 0 :: st) μ Q := e_lconst (show decode (bN 29) 31 = .ok (.lconst 0, 1) by decide +kernel) rfl
theorem r29_32 {a : Nat} {x : Int64} : R d 29 32 ls (.long x :: .ref a :: st) μ Q = (a % 100 = 3 ∧ R d 29 35 ls st (wL μ a 5 x) Q) := e_putfield (j := 5) (show decode (bN 29) 32 = .ok (.putfield 28, 3) by decide +kernel) (by decide +kernel) (by decide +kernel) rfl
theorem r29_35 : R d 29 35 ls [] μ Q = Q none μ := e_return (show decode (bN 29) 35 = .ok (.return_, 1) by decide +kernel) rfl
/-! ChinRow$Lexer.start(LChinRow$Tape;)V: 30 -/
theorem r30_0 {l1 : Option Value} {x : Nat} : R d 30 0 [some (.ref x), l1] st μ Q = R d 30 1 [some (.ref x), l1] (.ref x :: st) μ Q := e_aload_n (show decode (bN 30) 0 = .ok (.aload_n 0, 1) by decide +kernel) rfl
theorem r30_1 {l0 : Option Value} {x : Nat} : R d 30 1 [l0, some (.ref x)] st μ Q = R d 30 2 [l0, some (.ref x)] (.ref x :: st) μ Q := e_aload_n (show decode (bN 30) 1 = .ok (.aload_n 1, 1) by decide +kernel) rfl
theorem r30_2 {a b : Nat} : R d 30 2 ls (.ref b :: .ref a :: st) μ Q = (a % 100 = 3 ∧ R d 30 5 ls st (wR μ a 0 (some b)) Q) := e_putfield (j := 0) (show decode (bN 30) 2 = .ok (.putfield 9, 3) by decide +kernel) (by decide +kernel) (by decide +kernel) rfl
theorem r30_2n {a : Nat} : R d 30 2 ls (.null :: .ref a :: st) μ Q = (a % 100 = 3 ∧ R d 30 5 ls st (wR μ a 0 none) Q) := e_putfield (j := 0) (show decode (bN 30) 2 = .ok (.putfield 9, 3) by decide +kernel) (by decide +kernel) (by decide +kernel) rfl
theorem r30_5 {l1 : Option Value} {x : Nat} : R d 30 5 [some (.ref x), l1] st μ Q = R d 30 6 [some (.ref x), l1] (.ref x :: st) μ Q := e_aload_n (show decode (bN 30) 5 = .ok (.aload_n 0, 1) by decide +kernel) rfl
theorem r30_6 : R d 30 6 ls st μ Q = R d 30 7 ls (.int 0 :: st) μ Q := e_iconst (show decode (bN 30) 6 = .ok (.iconst 0, 1) by decide +kernel) rfl
theorem r30_7 {a : Nat} {x : Int32} : R d 30 7 ls (.int x :: .ref a :: st) μ Q = (a % 100 = 3 ∧ R d 30 10 ls st (wI μ a 1 x) Q) := e_putfield (j := 1) (show decode (bN 30) 7 = .ok (.putfield 15, 3) by decide +kernel) (by decide +kernel) (by decide +kernel) rfl
theorem r30_10 {l1 : Option Value} {x : Nat} : R d 30 10 [some (.ref x), l1] st μ Q = R d 30 11 [some (.ref x), l1] (.ref x :: st) μ Q := e_aload_n (show decode (bN 30) 10 = .ok (.aload_n 0, 1) by decide +kernel) rfl
theorem r30_11 {a : Nat}  : R (d + 1) 30 11 ls (.ref a :: st) μ Q = ((a % 100 = 3 ∧ sw st ≤ 8) ∧ R d 31 0 [some (.ref a), none, none] [] μ (fun v μ' => R (d + 1) 30 14 ls (v.toList ++ st) μ' Q)) := e_callV (z := 31) (as := []) (show decode (bN 30) 11 = .ok (.invokevirtual 32, 3) by decide +kernel) (by decide +kernel) rfl rfl rfl rfl
theorem r30_14 : R d 30 14 ls [] μ Q = Q none μ := e_return (show decode (bN 30) 14 = .ok (.return_, 1) by decide +kernel) rfl
/-! ChinRow$Lexer.advance()V: 31 -/
theorem r31_0 {l1 l2 : Option Value} {x : Nat} : R d 31 0 [some (.ref x), l1, l2] st μ Q = R d 31 1 [some (.ref x), l1, l2] (.ref x :: st) μ Q := e_aload_n (show decode (bN 31) 0 = .ok (.aload_n 0, 1) by decide +kernel) rfl
theorem r31_1 {l1 l2 : Option Value} {x : Nat} : R d 31 1 [some (.ref x), l1, l2] st μ Q = R d 31 2 [some (.ref x), l1, l2] (.ref x :: st) μ Q := e_aload_n (show decode (bN 31) 1 = .ok (.aload_n 0, 1) by decide +kernel) rfl
theorem r31_2 {a : Nat} : R d 31 2 ls (.ref a :: st) μ Q = (a % 100 = 3 ∧ R d 31 5 ls (.int (rI μ a 1) :: st) μ Q) := e_getfield (j := 1) (show decode (bN 31) 2 = .ok (.getfield 15, 3) by decide +kernel) (by decide +kernel) rfl
theorem r31_5 {a : Nat} {v0 : Int32} : R (d + 1) 31 5 ls (.int v0 :: .ref a :: st) μ Q = ((a % 100 = 3 ∧ sw st ≤ 8) ∧ R d 34 0 [some (.ref a), some (.int v0)] [] μ (fun v μ' => R (d + 1) 31 8 ls (v.toList ++ st) μ' Q)) := e_callV (z := 34) (as := [.int v0]) (show decode (bN 31) 5 = .ok (.invokevirtual 35, 3) by decide +kernel) (by decide +kernel) rfl rfl rfl rfl
theorem r31_8 {l0 l1 l2 : Option Value} {x : Int32} : R d 31 8 [l0, l1, l2] (.int x :: st) μ Q = R d 31 9 [l0, some (.int x), l2] st μ Q := e_istore_n (show decode (bN 31) 8 = .ok (.istore_n 1, 1) by decide +kernel) (by decide +kernel) rfl
theorem r31_9 : R d 31 9 ls st μ Q = R d 31 10 ls (.int 0 :: st) μ Q := e_iconst (show decode (bN 31) 9 = .ok (.iconst 0, 1) by decide +kernel) rfl
theorem r31_10 {l0 l1 l2 : Option Value} {x : Int32} : R d 31 10 [l0, l1, l2] (.int x :: st) μ Q = R d 31 11 [l0, l1, some (.int x)] st μ Q := e_istore_n (show decode (bN 31) 10 = .ok (.istore_n 2, 1) by decide +kernel) (by decide +kernel) rfl
theorem r31_11 {l0 l1 : Option Value} {x : Int32} : R d 31 11 [l0, l1, some (.int x)] st μ Q = R d 31 12 [l0, l1, some (.int x)] (.int x :: st) μ Q := e_iload_n (show decode (bN 31) 11 = .ok (.iload_n 2, 1) by decide +kernel) rfl
theorem r31_12 : R d 31 12 ls st μ Q = R d 31 15 ls (.int 1000 :: st) μ Q := e_sipush (show decode (bN 31) 12 = .ok (.sipush 1000, 3) by decide +kernel) rfl
theorem r31_15 {x z : Int32} : R d 31 15 ls (.int z :: .int x :: st) μ Q = if z ≤ x then R d 31 55 ls st μ Q else R d 31 18 ls st μ Q := e_ic_ge (show decode (bN 31) 15 = .ok (.if_icmp .ge 40, 3) by decide +kernel) rfl
theorem r31_18 {l0 l2 : Option Value} {x : Int32} : R d 31 18 [l0, some (.int x), l2] st μ Q = R d 31 19 [l0, some (.int x), l2] (.int x :: st) μ Q := e_iload_n (show decode (bN 31) 18 = .ok (.iload_n 1, 1) by decide +kernel) rfl
theorem r31_19 : R d 31 19 ls st μ Q = R d 31 21 ls (.int 10 :: st) μ Q := e_bipush (show decode (bN 31) 19 = .ok (.bipush 10, 2) by decide +kernel) rfl
theorem r31_21 {x z : Int32} : R d 31 21 ls (.int z :: .int x :: st) μ Q = if x = z then R d 31 30 ls st μ Q else R d 31 24 ls st μ Q := e_ic_eq (show decode (bN 31) 21 = .ok (.if_icmp .eq 9, 3) by decide +kernel) rfl
theorem r31_24 {l0 l2 : Option Value} {x : Int32} : R d 31 24 [l0, some (.int x), l2] st μ Q = R d 31 25 [l0, some (.int x), l2] (.int x :: st) μ Q := e_iload_n (show decode (bN 31) 24 = .ok (.iload_n 1, 1) by decide +kernel) rfl
theorem r31_25 : R d 31 25 ls st μ Q = R d 31 27 ls (.int 32 :: st) μ Q := e_bipush (show decode (bN 31) 25 = .ok (.bipush 32, 2) by decide +kernel) rfl
theorem r31_27 {x z : Int32} : R d 31 27 ls (.int z :: .int x :: st) μ Q = if ¬ x = z then R d 31 55 ls st μ Q else R d 31 30 ls st μ Q := e_ic_ne (show decode (bN 31) 27 = .ok (.if_icmp .ne 28, 3) by decide +kernel) rfl
theorem r31_30 {l1 l2 : Option Value} {x : Nat} : R d 31 30 [some (.ref x), l1, l2] st μ Q = R d 31 31 [some (.ref x), l1, l2] (.ref x :: st) μ Q := e_aload_n (show decode (bN 31) 30 = .ok (.aload_n 0, 1) by decide +kernel) rfl
theorem r31_31 {x : Nat} : R d 31 31 ls (.ref x :: st) μ Q = R d 31 32 ls (.ref x :: .ref x :: st) μ Q := e_dupA (show decode (bN 31) 31 = .ok (.dup, 1) by decide +kernel)
theorem r31_31i {x : Int32} : R d 31 31 ls (.int x :: st) μ Q = R d 31 32 ls (.int x :: .int x :: st) μ Q := e_dupI (show decode (bN 31) 31 = .ok (.dup, 1) by decide +kernel)
theorem r31_32 {a : Nat} : R d 31 32 ls (.ref a :: st) μ Q = (a % 100 = 3 ∧ R d 31 35 ls (.int (rI μ a 1) :: st) μ Q) := e_getfield (j := 1) (show decode (bN 31) 32 = .ok (.getfield 15, 3) by decide +kernel) (by decide +kernel) rfl
theorem r31_35 : R d 31 35 ls st μ Q = R d 31 36 ls (.int 1 :: st) μ Q := e_iconst (show decode (bN 31) 35 = .ok (.iconst 1, 1) by decide +kernel) rfl
theorem r31_36 {x z : Int32} : R d 31 36 ls (.int z :: .int x :: st) μ Q = R d 31 37 ls (.int (x + z) :: st) μ Q := e_iadd (show decode (bN 31) 36 = .ok (.iadd, 1) by decide +kernel)
theorem r31_37 {a : Nat} {x : Int32} : R d 31 37 ls (.int x :: .ref a :: st) μ Q = (a % 100 = 3 ∧ R d 31 40 ls st (wI μ a 1 x) Q) := e_putfield (j := 1) (show decode (bN 31) 37 = .ok (.putfield 15, 3) by decide +kernel) (by decide +kernel) (by decide +kernel) rfl
theorem r31_40 {l1 l2 : Option Value} {x : Nat} : R d 31 40 [some (.ref x), l1, l2] st μ Q = R d 31 41 [some (.ref x), l1, l2] (.ref x :: st) μ Q := e_aload_n (show decode (bN 31) 40 = .ok (.aload_n 0, 1) by decide +kernel) rfl
theorem r31_41 {l1 l2 : Option Value} {x : Nat} : R d 31 41 [some (.ref x), l1, l2] st μ Q = R d 31 42 [some (.ref x), l1, l2] (.ref x :: st) μ Q := e_aload_n (show decode (bN 31) 41 = .ok (.aload_n 0, 1) by decide +kernel) rfl
theorem r31_42 {a : Nat} : R d 31 42 ls (.ref a :: st) μ Q = (a % 100 = 3 ∧ R d 31 45 ls (.int (rI μ a 1) :: st) μ Q) := e_getfield (j := 1) (show decode (bN 31) 42 = .ok (.getfield 15, 3) by decide +kernel) (by decide +kernel) rfl
theorem r31_45 {a : Nat} {v0 : Int32} : R (d + 1) 31 45 ls (.int v0 :: .ref a :: st) μ Q = ((a % 100 = 3 ∧ sw st ≤ 8) ∧ R d 34 0 [some (.ref a), some (.int v0)] [] μ (fun v μ' => R (d + 1) 31 48 ls (v.toList ++ st) μ' Q)) := e_callV (z := 34) (as := [.int v0]) (show decode (bN 31) 45 = .ok (.invokevirtual 35, 3) by decide +kernel) (by decide +kernel) rfl rfl rfl rfl
theorem r31_48 {l0 l1 l2 : Option Value} {x : Int32} : R d 31 48 [l0, l1, l2] (.int x :: st) μ Q = R d 31 49 [l0, some (.int x), l2] st μ Q := e_istore_n (show decode (bN 31) 48 = .ok (.istore_n 1, 1) by decide +kernel) (by decide +kernel) rfl
theorem r31_49 {l0 l1 : Option Value} {x : Int32} : R d 31 49 [l0, l1, some (.int x)] st μ Q = R d 31 52 [l0, l1, some (.int (x + 1))] st μ Q := e_iinc (show decode (bN 31) 49 = .ok (.iinc 2 1, 3) by decide +kernel) (by decide +kernel) rfl rfl rfl
theorem r31_52 : R d 31 52 ls st μ Q = R d 31 11 ls st μ Q := e_goto (show decode (bN 31) 52 = .ok (.goto (-41), 3) by decide +kernel) rfl
theorem r31_55 {l1 l2 : Option Value} {x : Nat} : R d 31 55 [some (.ref x), l1, l2] st μ Q = R d 31 56 [some (.ref x), l1, l2] (.ref x :: st) μ Q := e_aload_n (show decode (bN 31) 55 = .ok (.aload_n 0, 1) by decide +kernel) rfl
theorem r31_56 {l1 l2 : Option Value} {x : Nat} : R d 31 56 [some (.ref x), l1, l2] st μ Q = R d 31 57 [some (.ref x), l1, l2] (.ref x :: st) μ Q := e_aload_n (show decode (bN 31) 56 = .ok (.aload_n 0, 1) by decide +kernel) rfl
theorem r31_57 {a : Nat} : R d 31 57 ls (.ref a :: st) μ Q = (a % 100 = 3 ∧ R d 31 60 ls (.int (rI μ a 1) :: st) μ Q) := e_getfield (j := 1) (show decode (bN 31) 57 = .ok (.getfield 15, 3) by decide +kernel) (by decide +kernel) rfl
theorem r31_60 {a : Nat} {x : Int32} : R d 31 60 ls (.int x :: .ref a :: st) μ Q = (a % 100 = 3 ∧ R d 31 63 ls st (wI μ a 3 x) Q) := e_putfield (j := 3) (show decode (bN 31) 60 = .ok (.putfield 22, 3) by decide +kernel) (by decide +kernel) (by decide +kernel) rfl
theorem r31_63 {l0 l2 : Option Value} {x : Int32} : R d 31 63 [l0, some (.int x), l2] st μ Q = R d 31 64 [l0, some (.int x), l2] (.int x :: st) μ Q := e_iload_n (show decode (bN 31) 63 = .ok (.iload_n 1, 1) by decide +kernel) rfl
theorem r31_64 {v0 : Int32} : R (d + 1) 31 64 ls (.int v0 :: st) μ Q = (sw st ≤ 8 ∧ R d 35 0 [some (.int v0)] [] μ (fun v μ' => R (d + 1) 31 67 ls (v.toList ++ st) μ' Q)) := e_callS (z := 35) (as := [.int v0]) (show decode (bN 31) 64 = .ok (.invokestatic 39, 3) by decide +kernel) (by decide +kernel) rfl rfl rfl
theorem r31_67 {x : Int32} : R d 31 67 ls (.int x :: st) μ Q = if x = 0 then R d 31 77 ls st μ Q else R d 31 70 ls st μ Q := e_if_eq (show decode (bN 31) 67 = .ok (.ifCond .eq 10, 3) by decide +kernel) rfl
theorem r31_70 {l1 l2 : Option Value} {x : Nat} : R d 31 70 [some (.ref x), l1, l2] st μ Q = R d 31 71 [some (.ref x), l1, l2] (.ref x :: st) μ Q := e_aload_n (show decode (bN 31) 70 = .ok (.aload_n 0, 1) by decide +kernel) rfl
theorem r31_71 {a : Nat}  : R (d + 1) 31 71 ls (.ref a :: st) μ Q = ((a % 100 = 3 ∧ sw st ≤ 8) ∧ R d 32 0 [some (.ref a), none] [] μ (fun v μ' => R (d + 1) 31 74 ls (v.toList ++ st) μ' Q)) := e_callV (z := 32) (as := []) (show decode (bN 31) 71 = .ok (.invokevirtual 43, 3) by decide +kernel) (by decide +kernel) rfl rfl rfl rfl
theorem r31_74 : R d 31 74 ls st μ Q = R d 31 132 ls st μ Q := e_goto (show decode (bN 31) 74 = .ok (.goto 58, 3) by decide +kernel) rfl
theorem r31_77 {l0 l2 : Option Value} {x : Int32} : R d 31 77 [l0, some (.int x), l2] st μ Q = R d 31 78 [l0, some (.int x), l2] (.int x :: st) μ Q := e_iload_n (show decode (bN 31) 77 = .ok (.iload_n 1, 1) by decide +kernel) rfl
theorem r31_78 {v0 : Int32} : R (d + 1) 31 78 ls (.int v0 :: st) μ Q = (sw st ≤ 8 ∧ R d 36 0 [some (.int v0)] [] μ (fun v μ' => R (d + 1) 31 81 ls (v.toList ++ st) μ' Q)) := e_callS (z := 36) (as := [.int v0]) (show decode (bN 31) 78 = .ok (.invokestatic 46, 3) by decide +kernel) (by decide +kernel) rfl rfl rfl
theorem r31_81 {x : Int32} : R d 31 81 ls (.int x :: st) μ Q = if x = 0 then R d 31 91 ls st μ Q else R d 31 84 ls st μ Q := e_if_eq (show decode (bN 31) 81 = .ok (.ifCond .eq 10, 3) by decide +kernel) rfl
theorem r31_84 {l1 l2 : Option Value} {x : Nat} : R d 31 84 [some (.ref x), l1, l2] st μ Q = R d 31 85 [some (.ref x), l1, l2] (.ref x :: st) μ Q := e_aload_n (show decode (bN 31) 84 = .ok (.aload_n 0, 1) by decide +kernel) rfl
theorem r31_85 {a : Nat}  : R (d + 1) 31 85 ls (.ref a :: st) μ Q = ((a % 100 = 3 ∧ sw st ≤ 8) ∧ R d 33 0 [some (.ref a), none] [] μ (fun v μ' => R (d + 1) 31 88 ls (v.toList ++ st) μ' Q)) := e_callV (z := 33) (as := []) (show decode (bN 31) 85 = .ok (.invokevirtual 49, 3) by decide +kernel) (by decide +kernel) rfl rfl rfl rfl
theorem r31_88 : R d 31 88 ls st μ Q = R d 31 132 ls st μ Q := e_goto (show decode (bN 31) 88 = .ok (.goto 44, 3) by decide +kernel) rfl
theorem r31_91 {l0 l2 : Option Value} {x : Int32} : R d 31 91 [l0, some (.int x), l2] st μ Q = R d 31 92 [l0, some (.int x), l2] (.int x :: st) μ Q := e_iload_n (show decode (bN 31) 91 = .ok (.iload_n 1, 1) by decide +kernel) rfl
theorem r31_92 : R d 31 92 ls st μ Q = R d 31 93 ls (.int (-1) :: st) μ Q := e_iconst (show decode (bN 31) 92 = .ok (.iconst (-1), 1) by decide +kernel) rfl
theorem r31_93 {x z : Int32} : R d 31 93 ls (.int z :: .int x :: st) μ Q = if ¬ x = z then R d 31 105 ls st μ Q else R d 31 96 ls st μ Q := e_ic_ne (show decode (bN 31) 93 = .ok (.if_icmp .ne 12, 3) by decide +kernel) rfl
theorem r31_96 {l1 l2 : Option Value} {x : Nat} : R d 31 96 [some (.ref x), l1, l2] st μ Q = R d 31 97 [some (.ref x), l1, l2] (.ref x :: st) μ Q := e_aload_n (show decode (bN 31) 96 = .ok (.aload_n 0, 1) by decide +kernel) rfl
theorem r31_97 : R d 31 97 ls st μ Q = R d 31 99 ls (.int 30 :: st) μ Q := e_bipush (show decode (bN 31) 97 = .ok (.bipush 30, 2) by decide +kernel) rfl
theorem r31_99 {a : Nat} {x : Int32} : R d 31 99 ls (.int x :: .ref a :: st) μ Q = (a % 100 = 3 ∧ R d 31 102 ls st (wI μ a 2 x) Q) := e_putfield (j := 2) (show decode (bN 31) 99 = .ok (.putfield 19, 3) by decide +kernel) (by decide +kernel) (by decide +kernel) rfl
theorem r31_102 : R d 31 102 ls st μ Q = R d 31 132 ls st μ Q := e_goto (show decode (bN 31) 102 = .ok (.goto 30, 3) by decide +kernel) rfl
theorem r31_105 {l1 l2 : Option Value} {x : Nat} : R d 31 105 [some (.ref x), l1, l2] st μ Q = R d 31 106 [some (.ref x), l1, l2] (.ref x :: st) μ Q := e_aload_n (show decode (bN 31) 105 = .ok (.aload_n 0, 1) by decide +kernel) rfl
theorem r31_106 {x : Nat} : R d 31 106 ls (.ref x :: st) μ Q = R d 31 107 ls (.ref x :: .ref x :: st) μ Q := e_dupA (show decode (bN 31) 106 = .ok (.dup, 1) by decide +kernel)
theorem r31_106i {x : Int32} : R d 31 106 ls (.int x :: st) μ Q = R d 31 107 ls (.int x :: .int x :: st) μ Q := e_dupI (show decode (bN 31) 106 = .ok (.dup, 1) by decide +kernel)
theorem r31_107 {a : Nat} : R d 31 107 ls (.ref a :: st) μ Q = (a % 100 = 3 ∧ R d 31 110 ls (.int (rI μ a 1) :: st) μ Q) := e_getfield (j := 1) (show decode (bN 31) 107 = .ok (.getfield 15, 3) by decide +kernel) (by decide +kernel) rfl
theorem r31_110 : R d 31 110 ls st μ Q = R d 31 111 ls (.int 1 :: st) μ Q := e_iconst (show decode (bN 31) 110 = .ok (.iconst 1, 1) by decide +kernel) rfl
theorem r31_111 {x z : Int32} : R d 31 111 ls (.int z :: .int x :: st) μ Q = R d 31 112 ls (.int (x + z) :: st) μ Q := e_iadd (show decode (bN 31) 111 = .ok (.iadd, 1) by decide +kernel)
theorem r31_112 {a : Nat} {x : Int32} : R d 31 112 ls (.int x :: .ref a :: st) μ Q = (a % 100 = 3 ∧ R d 31 115 ls st (wI μ a 1 x) Q) := e_putfield (j := 1) (show decode (bN 31) 112 = .ok (.putfield 15, 3) by decide +kernel) (by decide +kernel) (by decide +kernel) rfl
theorem r31_115 {l1 l2 : Option Value} {x : Nat} : R d 31 115 [some (.ref x), l1, l2] st μ Q = R d 31 116 [some (.ref x), l1, l2] (.ref x :: st) μ Q := e_aload_n (show decode (bN 31) 115 = .ok (.aload_n 0, 1) by decide +kernel) rfl
theorem r31_116 {l0 l2 : Option Value} {x : Int32} : R d 31 116 [l0, some (.int x), l2] st μ Q = R d 31 117 [l0, some (.int x), l2] (.int x :: st) μ Q := e_iload_n (show decode (bN 31) 116 = .ok (.iload_n 1, 1) by decide +kernel) rfl
theorem r31_117 {v0 : Int32} : R (d + 1) 31 117 ls (.int v0 :: st) μ Q = (sw st ≤ 8 ∧ R d 37 0 [some (.int v0)] [] μ (fun v μ' => R (d + 1) 31 120 ls (v.toList ++ st) μ' Q)) := e_callS (z := 37) (as := [.int v0]) (show decode (bN 31) 117 = .ok (.invokestatic 52, 3) by decide +kernel) (by decide +kernel) rfl rfl rfl
theorem r31_120 {x : Int32} : R d 31 120 ls (.int x :: st) μ Q = if x = 0 then R d 31 127 ls st μ Q else R d 31 123 ls st μ Q := e_if_eq (show decode (bN 31) 120 = .ok (.ifCond .eq 7, 3) by decide +kernel) rfl
theorem r31_123 {l0 l2 : Option Value} {x : Int32} : R d 31 123 [l0, some (.int x), l2] st μ Q = R d 31 124 [l0, some (.int x), l2] (.int x :: st) μ Q := e_iload_n (show decode (bN 31) 123 = .ok (.iload_n 1, 1) by decide +kernel) rfl
theorem r31_124 : R d 31 124 ls st μ Q = R d 31 129 ls st μ Q := e_goto (show decode (bN 31) 124 = .ok (.goto 5, 3) by decide +kernel) rfl
theorem r31_127 : R d 31 127 ls st μ Q = R d 31 129 ls (.int 31 :: st) μ Q := e_bipush (show decode (bN 31) 127 = .ok (.bipush 31, 2) by decide +kernel) rfl
theorem r31_129 {a : Nat} {x : Int32} : R d 31 129 ls (.int x :: .ref a :: st) μ Q = (a % 100 = 3 ∧ R d 31 132 ls st (wI μ a 2 x) Q) := e_putfield (j := 2) (show decode (bN 31) 129 = .ok (.putfield 19, 3) by decide +kernel) (by decide +kernel) (by decide +kernel) rfl
theorem r31_132 : R d 31 132 ls [] μ Q = Q none μ := e_return (show decode (bN 31) 132 = .ok (.return_, 1) by decide +kernel) rfl
/-! ChinRow$Lexer.takeWord()V: 32 -/
theorem r32_0 {l1 : Option Value} {x : Nat} : R d 32 0 [some (.ref x), l1] st μ Q = R d 32 1 [some (.ref x), l1] (.ref x :: st) μ Q := e_aload_n (show decode (bN 32) 0 = .ok (.aload_n 0, 1) by decide +kernel) rfl
theorem r32_1 : R d 32 1 ls st μ Q = R d 32 2 ls (.long 0 :: st) μ Q := e_lconst (show decode (bN 32) 1 = .ok (.lconst 0, 1) by decide +kernel) rfl
theorem r32_2 {a : Nat} {x : Int64} : R d 32 2 ls (.long x :: .ref a :: st) μ Q = (a % 100 = 3 ∧ R d 32 5 ls st (wL μ a 5 x) Q) := e_putfield (j := 5) (show decode (bN 32) 2 = .ok (.putfield 28, 3) by decide +kernel) (by decide +kernel) (by decide +kernel) rfl
theorem r32_5 : R d 32 5 ls st μ Q = R d 32 6 ls (.int 0 :: st) μ Q := e_iconst (show decode (bN 32) 5 = .ok (.iconst 0, 1) by decide +kernel) rfl
theorem r32_6 {l0 l1 : Option Value} {x : Int32} : R d 32 6 [l0, l1] (.int x :: st) μ Q = R d 32 7 [l0, some (.int x)] st μ Q := e_istore_n (show decode (bN 32) 6 = .ok (.istore_n 1, 1) by decide +kernel) (by decide +kernel) rfl
theorem r32_7 {l0 : Option Value} {x : Int32} : R d 32 7 [l0, some (.int x)] st μ Q = R d 32 8 [l0, some (.int x)] (.int x :: st) μ Q := e_iload_n (show decode (bN 32) 7 = .ok (.iload_n 1, 1) by decide +kernel) rfl
theorem r32_8 : R d 32 8 ls st μ Q = R d 32 11 ls (.int 1000 :: st) μ Q := e_sipush (show decode (bN 32) 8 = .ok (.sipush 1000, 3) by decide +kernel) rfl
theorem r32_11 {x z : Int32} : R d 32 11 ls (.int z :: .int x :: st) μ Q = if z ≤ x then R d 32 65 ls st μ Q else R d 32 14 ls st μ Q := e_ic_ge (show decode (bN 32) 11 = .ok (.if_icmp .ge 54, 3) by decide +kernel) rfl
theorem r32_14 {l1 : Option Value} {x : Nat} : R d 32 14 [some (.ref x), l1] st μ Q = R d 32 15 [some (.ref x), l1] (.ref x :: st) μ Q := e_aload_n (show decode (bN 32) 14 = .ok (.aload_n 0, 1) by decide +kernel) rfl
theorem r32_15 {l1 : Option Value} {x : Nat} : R d 32 15 [some (.ref x), l1] st μ Q = R d 32 16 [some (.ref x), l1] (.ref x :: st) μ Q := e_aload_n (show decode (bN 32) 15 = .ok (.aload_n 0, 1) by decide +kernel) rfl
theorem r32_16 {a : Nat} : R d 32 16 ls (.ref a :: st) μ Q = (a % 100 = 3 ∧ R d 32 19 ls (.int (rI μ a 1) :: st) μ Q) := e_getfield (j := 1) (show decode (bN 32) 16 = .ok (.getfield 15, 3) by decide +kernel) (by decide +kernel) rfl
theorem r32_19 {a : Nat} {v0 : Int32} : R (d + 1) 32 19 ls (.int v0 :: .ref a :: st) μ Q = ((a % 100 = 3 ∧ sw st ≤ 8) ∧ R d 34 0 [some (.ref a), some (.int v0)] [] μ (fun v μ' => R (d + 1) 32 22 ls (v.toList ++ st) μ' Q)) := e_callV (z := 34) (as := [.int v0]) (show decode (bN 32) 19 = .ok (.invokevirtual 35, 3) by decide +kernel) (by decide +kernel) rfl rfl rfl rfl
theorem r32_22 {v0 : Int32} : R (d + 1) 32 22 ls (.int v0 :: st) μ Q = (sw st ≤ 8 ∧ R d 35 0 [some (.int v0)] [] μ (fun v μ' => R (d + 1) 32 25 ls (v.toList ++ st) μ' Q)) := e_callS (z := 35) (as := [.int v0]) (show decode (bN 32) 22 = .ok (.invokestatic 39, 3) by decide +kernel) (by decide +kernel) rfl rfl rfl
theorem r32_25 {x : Int32} : R d 32 25 ls (.int x :: st) μ Q = if x = 0 then R d 32 65 ls st μ Q else R d 32 28 ls st μ Q := e_if_eq (show decode (bN 32) 25 = .ok (.ifCond .eq 40, 3) by decide +kernel) rfl
theorem r32_28 {l1 : Option Value} {x : Nat} : R d 32 28 [some (.ref x), l1] st μ Q = R d 32 29 [some (.ref x), l1] (.ref x :: st) μ Q := e_aload_n (show decode (bN 32) 28 = .ok (.aload_n 0, 1) by decide +kernel) rfl
theorem r32_29 {l1 : Option Value} {x : Nat} : R d 32 29 [some (.ref x), l1] st μ Q = R d 32 30 [some (.ref x), l1] (.ref x :: st) μ Q := e_aload_n (show decode (bN 32) 29 = .ok (.aload_n 0, 1) by decide +kernel) rfl
theorem r32_30 {a : Nat} : R d 32 30 ls (.ref a :: st) μ Q = (a % 100 = 3 ∧ R d 32 33 ls (.long (rL μ a 5) :: st) μ Q) := e_getfield (j := 5) (show decode (bN 32) 30 = .ok (.getfield 28, 3) by decide +kernel) (by decide +kernel) rfl
theorem r32_33 : R d 32 33 ls st μ Q = R d 32 35 ls (.int 8 :: st) μ Q := e_bipush (show decode (bN 32) 33 = .ok (.bipush 8, 2) by decide +kernel) rfl
theorem r32_35 {x : Int64} {z : Int32} : R d 32 35 ls (.int z :: .long x :: st) μ Q = R d 32 36 ls (.long (x <<< (z.toInt64 &&& 63)) :: st) μ Q := e_lshl (show decode (bN 32) 35 = .ok (.lshl, 1) by decide +kernel)
theorem r32_36 {l1 : Option Value} {x : Nat} : R d 32 36 [some (.ref x), l1] st μ Q = R d 32 37 [some (.ref x), l1] (.ref x :: st) μ Q := e_aload_n (show decode (bN 32) 36 = .ok (.aload_n 0, 1) by decide +kernel) rfl
theorem r32_37 {l1 : Option Value} {x : Nat} : R d 32 37 [some (.ref x), l1] st μ Q = R d 32 38 [some (.ref x), l1] (.ref x :: st) μ Q := e_aload_n (show decode (bN 32) 37 = .ok (.aload_n 0, 1) by decide +kernel) rfl
theorem r32_38 {a : Nat} : R d 32 38 ls (.ref a :: st) μ Q = (a % 100 = 3 ∧ R d 32 41 ls (.int (rI μ a 1) :: st) μ Q) := e_getfield (j := 1) (show decode (bN 32) 38 = .ok (.getfield 15, 3) by decide +kernel) (by decide +kernel) rfl
theorem r32_41 {a : Nat} {v0 : Int32} : R (d + 1) 32 41 ls (.int v0 :: .ref a :: st) μ Q = ((a % 100 = 3 ∧ sw st ≤ 8) ∧ R d 34 0 [some (.ref a), some (.int v0)] [] μ (fun v μ' => R (d + 1) 32 44 ls (v.toList ++ st) μ' Q)) := e_callV (z := 34) (as := [.int v0]) (show decode (bN 32) 41 = .ok (.invokevirtual 35, 3) by decide +kernel) (by decide +kernel) rfl rfl rfl rfl
theorem r32_44 {x : Int32} : R d 32 44 ls (.int x :: st) μ Q = R d 32 45 ls (.long (x.toInt64) :: st) μ Q := e_i2l (show decode (bN 32) 44 = .ok (.i2l, 1) by decide +kernel)
theorem r32_45 {x z : Int64} : R d 32 45 ls (.long z :: .long x :: st) μ Q = R d 32 46 ls (.long (x ||| z) :: st) μ Q := e_lor (show decode (bN 32) 45 = .ok (.lor, 1) by decide +kernel)
theorem r32_46 {a : Nat} {x : Int64} : R d 32 46 ls (.long x :: .ref a :: st) μ Q = (a % 100 = 3 ∧ R d 32 49 ls st (wL μ a 5 x) Q) := e_putfield (j := 5) (show decode (bN 32) 46 = .ok (.putfield 28, 3) by decide +kernel) (by decide +kernel) (by decide +kernel) rfl
theorem r32_49 {l1 : Option Value} {x : Nat} : R d 32 49 [some (.ref x), l1] st μ Q = R d 32 50 [some (.ref x), l1] (.ref x :: st) μ Q := e_aload_n (show decode (bN 32) 49 = .ok (.aload_n 0, 1) by decide +kernel) rfl
theorem r32_50 {x : Nat} : R d 32 50 ls (.ref x :: st) μ Q = R d 32 51 ls (.ref x :: .ref x :: st) μ Q := e_dupA (show decode (bN 32) 50 = .ok (.dup, 1) by decide +kernel)
theorem r32_50i {x : Int32} : R d 32 50 ls (.int x :: st) μ Q = R d 32 51 ls (.int x :: .int x :: st) μ Q := e_dupI (show decode (bN 32) 50 = .ok (.dup, 1) by decide +kernel)
theorem r32_51 {a : Nat} : R d 32 51 ls (.ref a :: st) μ Q = (a % 100 = 3 ∧ R d 32 54 ls (.int (rI μ a 1) :: st) μ Q) := e_getfield (j := 1) (show decode (bN 32) 51 = .ok (.getfield 15, 3) by decide +kernel) (by decide +kernel) rfl
theorem r32_54 : R d 32 54 ls st μ Q = R d 32 55 ls (.int 1 :: st) μ Q := e_iconst (show decode (bN 32) 54 = .ok (.iconst 1, 1) by decide +kernel) rfl
theorem r32_55 {x z : Int32} : R d 32 55 ls (.int z :: .int x :: st) μ Q = R d 32 56 ls (.int (x + z) :: st) μ Q := e_iadd (show decode (bN 32) 55 = .ok (.iadd, 1) by decide +kernel)
theorem r32_56 {a : Nat} {x : Int32} : R d 32 56 ls (.int x :: .ref a :: st) μ Q = (a % 100 = 3 ∧ R d 32 59 ls st (wI μ a 1 x) Q) := e_putfield (j := 1) (show decode (bN 32) 56 = .ok (.putfield 15, 3) by decide +kernel) (by decide +kernel) (by decide +kernel) rfl
theorem r32_59 {l0 : Option Value} {x : Int32} : R d 32 59 [l0, some (.int x)] st μ Q = R d 32 62 [l0, some (.int (x + 1))] st μ Q := e_iinc (show decode (bN 32) 59 = .ok (.iinc 1 1, 3) by decide +kernel) (by decide +kernel) rfl rfl rfl
theorem r32_62 : R d 32 62 ls st μ Q = R d 32 7 ls st μ Q := e_goto (show decode (bN 32) 62 = .ok (.goto (-55), 3) by decide +kernel) rfl
theorem r32_65 {l1 : Option Value} {x : Nat} : R d 32 65 [some (.ref x), l1] st μ Q = R d 32 66 [some (.ref x), l1] (.ref x :: st) μ Q := e_aload_n (show decode (bN 32) 65 = .ok (.aload_n 0, 1) by decide +kernel) rfl
theorem r32_66 {l1 : Option Value} {x : Nat} : R d 32 66 [some (.ref x), l1] st μ Q = R d 32 67 [some (.ref x), l1] (.ref x :: st) μ Q := e_aload_n (show decode (bN 32) 66 = .ok (.aload_n 0, 1) by decide +kernel) rfl
theorem r32_67 {a : Nat} : R d 32 67 ls (.ref a :: st) μ Q = (a % 100 = 3 ∧ R d 32 70 ls (.int (rI μ a 1) :: st) μ Q) := e_getfield (j := 1) (show decode (bN 32) 67 = .ok (.getfield 15, 3) by decide +kernel) (by decide +kernel) rfl
theorem r32_70 {l1 : Option Value} {x : Nat} : R d 32 70 [some (.ref x), l1] st μ Q = R d 32 71 [some (.ref x), l1] (.ref x :: st) μ Q := e_aload_n (show decode (bN 32) 70 = .ok (.aload_n 0, 1) by decide +kernel) rfl
theorem r32_71 {a : Nat} : R d 32 71 ls (.ref a :: st) μ Q = (a % 100 = 3 ∧ R d 32 74 ls (.int (rI μ a 3) :: st) μ Q) := e_getfield (j := 3) (show decode (bN 32) 71 = .ok (.getfield 22, 3) by decide +kernel) (by decide +kernel) rfl
theorem r32_74 {x z : Int32} : R d 32 74 ls (.int z :: .int x :: st) μ Q = R d 32 75 ls (.int (x - z) :: st) μ Q := e_isub (show decode (bN 32) 74 = .ok (.isub, 1) by decide +kernel)
theorem r32_75 : R d 32 75 ls st μ Q = R d 32 77 ls (.int 8 :: st) μ Q := e_bipush (show decode (bN 32) 75 = .ok (.bipush 8, 2) by decide +kernel) rfl
theorem r32_77 {x z : Int32} : R d 32 77 ls (.int z :: .int x :: st) μ Q = if x ≤ z then R d 32 85 ls st μ Q else R d 32 80 ls st μ Q := e_ic_le (show decode (bN 32) 77 = .ok (.if_icmp .le 8, 3) by decide +kernel) rfl
theorem r32_80 : R d 32 80 ls st μ Q = R d 32 82 ls (.int 31 :: st) μ Q := e_bipush (show decode (bN 32) 80 = .ok (.bipush 31, 2) by decide +kernel) rfl
theorem r32_82 : R d 32 82 ls st μ Q = R d 32 87 ls st μ Q := e_goto (show decode (bN 32) 82 = .ok (.goto 5, 3) by decide +kernel) rfl
theorem r32_85 : R d 32 85 ls st μ Q = R d 32 87 ls (.int 28 :: st) μ Q := e_bipush (show decode (bN 32) 85 = .ok (.bipush 28, 2) by decide +kernel) rfl
theorem r32_87 {a : Nat} {x : Int32} : R d 32 87 ls (.int x :: .ref a :: st) μ Q = (a % 100 = 3 ∧ R d 32 90 ls st (wI μ a 2 x) Q) := e_putfield (j := 2) (show decode (bN 32) 87 = .ok (.putfield 19, 3) by decide +kernel) (by decide +kernel) (by decide +kernel) rfl
theorem r32_90 : R d 32 90 ls st μ Q = R d 32 91 ls (.int 0 :: st) μ Q := e_iconst (show decode (bN 32) 90 = .ok (.iconst 0, 1) by decide +kernel) rfl
theorem r32_91 {l0 l1 : Option Value} {x : Int32} : R d 32 91 [l0, l1] (.int x :: st) μ Q = R d 32 92 [l0, some (.int x)] st μ Q := e_istore_n (show decode (bN 32) 91 = .ok (.istore_n 1, 1) by decide +kernel) (by decide +kernel) rfl
theorem r32_92 {l0 : Option Value} {x : Int32} : R d 32 92 [l0, some (.int x)] st μ Q = R d 32 93 [l0, some (.int x)] (.int x :: st) μ Q := e_iload_n (show decode (bN 32) 92 = .ok (.iload_n 1, 1) by decide +kernel) rfl
theorem r32_93 : R d 32 93 ls st μ Q = R d 32 96 ls (.ref 1002821 :: st) μ Q := e_kw (show decode (bN 32) 93 = .ok (.getstatic 55, 3) by decide +kernel) rfl
theorem r32_96 {a : Nat} : R d 32 96 ls (.ref a :: st) μ Q = ((20 ≤ a % 100 ∧ a % 100 ≤ 24) ∧ R d 32 97 ls (.int (Int32.ofNat (a / 100 % 10000)) :: st) μ Q) := e_alen (show decode (bN 32) 96 = .ok (.arraylength, 1) by decide +kernel)
theorem r32_97 {x z : Int32} : R d 32 97 ls (.int z :: .int x :: st) μ Q = if z ≤ x then R d 32 133 ls st μ Q else R d 32 100 ls st μ Q := e_ic_ge (show decode (bN 32) 97 = .ok (.if_icmp .ge 36, 3) by decide +kernel) rfl
theorem r32_100 {l1 : Option Value} {x : Nat} : R d 32 100 [some (.ref x), l1] st μ Q = R d 32 101 [some (.ref x), l1] (.ref x :: st) μ Q := e_aload_n (show decode (bN 32) 100 = .ok (.aload_n 0, 1) by decide +kernel) rfl
theorem r32_101 {a : Nat} : R d 32 101 ls (.ref a :: st) μ Q = (a % 100 = 3 ∧ R d 32 104 ls (.int (rI μ a 2) :: st) μ Q) := e_getfield (j := 2) (show decode (bN 32) 101 = .ok (.getfield 19, 3) by decide +kernel) (by decide +kernel) rfl
theorem r32_104 : R d 32 104 ls st μ Q = R d 32 106 ls (.int 28 :: st) μ Q := e_bipush (show decode (bN 32) 104 = .ok (.bipush 28, 2) by decide +kernel) rfl
theorem r32_106 {x z : Int32} : R d 32 106 ls (.int z :: .int x :: st) μ Q = if ¬ x = z then R d 32 133 ls st μ Q else R d 32 109 ls st μ Q := e_ic_ne (show decode (bN 32) 106 = .ok (.if_icmp .ne 27, 3) by decide +kernel) rfl
theorem r32_109 : R d 32 109 ls st μ Q = R d 32 112 ls (.ref 1002821 :: st) μ Q := e_kw (show decode (bN 32) 109 = .ok (.getstatic 55, 3) by decide +kernel) rfl
theorem r32_112 {l0 : Option Value} {x : Int32} : R d 32 112 [l0, some (.int x)] st μ Q = R d 32 113 [l0, some (.int x)] (.int x :: st) μ Q := e_iload_n (show decode (bN 32) 112 = .ok (.iload_n 1, 1) by decide +kernel) rfl
theorem r32_113 {a : Nat} {i : Int32} : R d 32 113 ls (.int i :: .ref a :: st) μ Q = ((a % 100 = 21 ∧ ¬ (i < 0 ∨ a / 100 % 10000 ≤ i.toNatClampNeg)) ∧ R d 32 114 ls (.long (rL μ a i.toNatClampNeg) :: st) μ Q) := e_laload (show decode (bN 32) 113 = .ok (.laload, 1) by decide +kernel)
theorem r32_114 {l1 : Option Value} {x : Nat} : R d 32 114 [some (.ref x), l1] st μ Q = R d 32 115 [some (.ref x), l1] (.ref x :: st) μ Q := e_aload_n (show decode (bN 32) 114 = .ok (.aload_n 0, 1) by decide +kernel) rfl
theorem r32_115 {a : Nat} : R d 32 115 ls (.ref a :: st) μ Q = (a % 100 = 3 ∧ R d 32 118 ls (.long (rL μ a 5) :: st) μ Q) := e_getfield (j := 5) (show decode (bN 32) 115 = .ok (.getfield 28, 3) by decide +kernel) (by decide +kernel) rfl
theorem r32_118 {x z : Int64} : R d 32 118 ls (.long z :: .long x :: st) μ Q = R d 32 119 ls (.int (lg_cmp x z) :: st) μ Q := e_lcmp (show decode (bN 32) 118 = .ok (.lcmp, 1) by decide +kernel)
theorem r32_119 {x : Int32} : R d 32 119 ls (.int x :: st) μ Q = if ¬ x = 0 then R d 32 127 ls st μ Q else R d 32 122 ls st μ Q := e_if_ne (show decode (bN 32) 119 = .ok (.ifCond .ne 8, 3) by decide +kernel) rfl
theorem r32_122 {l1 : Option Value} {x : Nat} : R d 32 122 [some (.ref x), l1] st μ Q = R d 32 123 [some (.ref x), l1] (.ref x :: st) μ Q := e_aload_n (show decode (bN 32) 122 = .ok (.aload_n 0, 1) by decide +kernel) rfl
theorem r32_123 {l0 : Option Value} {x : Int32} : R d 32 123 [l0, some (.int x)] st μ Q = R d 32 124 [l0, some (.int x)] (.int x :: st) μ Q := e_iload_n (show decode (bN 32) 123 = .ok (.iload_n 1, 1) by decide +kernel) rfl
theorem r32_124 {a : Nat} {x : Int32} : R d 32 124 ls (.int x :: .ref a :: st) μ Q = (a % 100 = 3 ∧ R d 32 127 ls st (wI μ a 2 x) Q) := e_putfield (j := 2) (show decode (bN 32) 124 = .ok (.putfield 19, 3) by decide +kernel) (by decide +kernel) (by decide +kernel) rfl
theorem r32_127 {l0 : Option Value} {x : Int32} : R d 32 127 [l0, some (.int x)] st μ Q = R d 32 130 [l0, some (.int (x + 1))] st μ Q := e_iinc (show decode (bN 32) 127 = .ok (.iinc 1 1, 3) by decide +kernel) (by decide +kernel) rfl rfl rfl
theorem r32_130 : R d 32 130 ls st μ Q = R d 32 92 ls st μ Q := e_goto (show decode (bN 32) 130 = .ok (.goto (-38), 3) by decide +kernel) rfl
theorem r32_133 : R d 32 133 ls [] μ Q = Q none μ := e_return (show decode (bN 32) 133 = .ok (.return_, 1) by decide +kernel) rfl
/-! ChinRow$Lexer.takeNumber()V: 33 -/
theorem r33_0 {l1 : Option Value} {x : Nat} : R d 33 0 [some (.ref x), l1] st μ Q = R d 33 1 [some (.ref x), l1] (.ref x :: st) μ Q := e_aload_n (show decode (bN 33) 0 = .ok (.aload_n 0, 1) by decide +kernel) rfl
theorem r33_1 : R d 33 1 ls st μ Q = R d 33 2 ls (.int 0 :: st) μ Q := e_iconst (show decode (bN 33) 1 = .ok (.iconst 0, 1) by decide +kernel) rfl
theorem r33_2 {a : Nat} {x : Int32} : R d 33 2 ls (.int x :: .ref a :: st) μ Q = (a % 100 = 3 ∧ R d 33 5 ls st (wI μ a 4 x) Q) := e_putfield (j := 4) (show decode (bN 33) 2 = .ok (.putfield 25, 3) by decide +kernel) (by decide +kernel) (by decide +kernel) rfl
theorem r33_5 : R d 33 5 ls st μ Q = R d 33 6 ls (.int 0 :: st) μ Q := e_iconst (show decode (bN 33) 5 = .ok (.iconst 0, 1) by decide +kernel) rfl
theorem r33_6 {l0 l1 : Option Value} {x : Int32} : R d 33 6 [l0, l1] (.int x :: st) μ Q = R d 33 7 [l0, some (.int x)] st μ Q := e_istore_n (show decode (bN 33) 6 = .ok (.istore_n 1, 1) by decide +kernel) (by decide +kernel) rfl
theorem r33_7 {l0 : Option Value} {x : Int32} : R d 33 7 [l0, some (.int x)] st μ Q = R d 33 8 [l0, some (.int x)] (.int x :: st) μ Q := e_iload_n (show decode (bN 33) 7 = .ok (.iload_n 1, 1) by decide +kernel) rfl
theorem r33_8 : R d 33 8 ls st μ Q = R d 33 11 ls (.int 1000 :: st) μ Q := e_sipush (show decode (bN 33) 8 = .ok (.sipush 1000, 3) by decide +kernel) rfl
theorem r33_11 {x z : Int32} : R d 33 11 ls (.int z :: .int x :: st) μ Q = if z ≤ x then R d 33 67 ls st μ Q else R d 33 14 ls st μ Q := e_ic_ge (show decode (bN 33) 11 = .ok (.if_icmp .ge 56, 3) by decide +kernel) rfl
theorem r33_14 {l1 : Option Value} {x : Nat} : R d 33 14 [some (.ref x), l1] st μ Q = R d 33 15 [some (.ref x), l1] (.ref x :: st) μ Q := e_aload_n (show decode (bN 33) 14 = .ok (.aload_n 0, 1) by decide +kernel) rfl
theorem r33_15 {l1 : Option Value} {x : Nat} : R d 33 15 [some (.ref x), l1] st μ Q = R d 33 16 [some (.ref x), l1] (.ref x :: st) μ Q := e_aload_n (show decode (bN 33) 15 = .ok (.aload_n 0, 1) by decide +kernel) rfl
theorem r33_16 {a : Nat} : R d 33 16 ls (.ref a :: st) μ Q = (a % 100 = 3 ∧ R d 33 19 ls (.int (rI μ a 1) :: st) μ Q) := e_getfield (j := 1) (show decode (bN 33) 16 = .ok (.getfield 15, 3) by decide +kernel) (by decide +kernel) rfl
theorem r33_19 {a : Nat} {v0 : Int32} : R (d + 1) 33 19 ls (.int v0 :: .ref a :: st) μ Q = ((a % 100 = 3 ∧ sw st ≤ 8) ∧ R d 34 0 [some (.ref a), some (.int v0)] [] μ (fun v μ' => R (d + 1) 33 22 ls (v.toList ++ st) μ' Q)) := e_callV (z := 34) (as := [.int v0]) (show decode (bN 33) 19 = .ok (.invokevirtual 35, 3) by decide +kernel) (by decide +kernel) rfl rfl rfl rfl
theorem r33_22 {v0 : Int32} : R (d + 1) 33 22 ls (.int v0 :: st) μ Q = (sw st ≤ 8 ∧ R d 36 0 [some (.int v0)] [] μ (fun v μ' => R (d + 1) 33 25 ls (v.toList ++ st) μ' Q)) := e_callS (z := 36) (as := [.int v0]) (show decode (bN 33) 22 = .ok (.invokestatic 46, 3) by decide +kernel) (by decide +kernel) rfl rfl rfl
theorem r33_25 {x : Int32} : R d 33 25 ls (.int x :: st) μ Q = if x = 0 then R d 33 67 ls st μ Q else R d 33 28 ls st μ Q := e_if_eq (show decode (bN 33) 25 = .ok (.ifCond .eq 42, 3) by decide +kernel) rfl
theorem r33_28 {l1 : Option Value} {x : Nat} : R d 33 28 [some (.ref x), l1] st μ Q = R d 33 29 [some (.ref x), l1] (.ref x :: st) μ Q := e_aload_n (show decode (bN 33) 28 = .ok (.aload_n 0, 1) by decide +kernel) rfl
theorem r33_29 {l1 : Option Value} {x : Nat} : R d 33 29 [some (.ref x), l1] st μ Q = R d 33 30 [some (.ref x), l1] (.ref x :: st) μ Q := e_aload_n (show decode (bN 33) 29 = .ok (.aload_n 0, 1) by decide +kernel) rfl
theorem r33_30 {a : Nat} : R d 33 30 ls (.ref a :: st) μ Q = (a % 100 = 3 ∧ R d 33 33 ls (.int (rI μ a 4) :: st) μ Q) := e_getfield (j := 4) (show decode (bN 33) 30 = .ok (.getfield 25, 3) by decide +kernel) (by decide +kernel) rfl
theorem r33_33 : R d 33 33 ls st μ Q = R d 33 35 ls (.int 10 :: st) μ Q := e_bipush (show decode (bN 33) 33 = .ok (.bipush 10, 2) by decide +kernel) rfl
theorem r33_35 {x z : Int32} : R d 33 35 ls (.int z :: .int x :: st) μ Q = R d 33 36 ls (.int (x * z) :: st) μ Q := e_imul (show decode (bN 33) 35 = .ok (.imul, 1) by decide +kernel)
theorem r33_36 {l1 : Option Value} {x : Nat} : R d 33 36 [some (.ref x), l1] st μ Q = R d 33 37 [some (.ref x), l1] (.ref x :: st) μ Q := e_aload_n (show decode (bN 33) 36 = .ok (.aload_n 0, 1) by decide +kernel) rfl
theorem r33_37 {l1 : Option Value} {x : Nat} : R d 33 37 [some (.ref x), l1] st μ Q = R d 33 38 [some (.ref x), l1] (.ref x :: st) μ Q := e_aload_n (show decode (bN 33) 37 = .ok (.aload_n 0, 1) by decide +kernel) rfl
theorem r33_38 {a : Nat} : R d 33 38 ls (.ref a :: st) μ Q = (a % 100 = 3 ∧ R d 33 41 ls (.int (rI μ a 1) :: st) μ Q) := e_getfield (j := 1) (show decode (bN 33) 38 = .ok (.getfield 15, 3) by decide +kernel) (by decide +kernel) rfl
theorem r33_41 {a : Nat} {v0 : Int32} : R (d + 1) 33 41 ls (.int v0 :: .ref a :: st) μ Q = ((a % 100 = 3 ∧ sw st ≤ 8) ∧ R d 34 0 [some (.ref a), some (.int v0)] [] μ (fun v μ' => R (d + 1) 33 44 ls (v.toList ++ st) μ' Q)) := e_callV (z := 34) (as := [.int v0]) (show decode (bN 33) 41 = .ok (.invokevirtual 35, 3) by decide +kernel) (by decide +kernel) rfl rfl rfl rfl
theorem r33_44 {x z : Int32} : R d 33 44 ls (.int z :: .int x :: st) μ Q = R d 33 45 ls (.int (x + z) :: st) μ Q := e_iadd (show decode (bN 33) 44 = .ok (.iadd, 1) by decide +kernel)
theorem r33_45 : R d 33 45 ls st μ Q = R d 33 47 ls (.int 48 :: st) μ Q := e_bipush (show decode (bN 33) 45 = .ok (.bipush 48, 2) by decide +kernel) rfl
theorem r33_47 {x z : Int32} : R d 33 47 ls (.int z :: .int x :: st) μ Q = R d 33 48 ls (.int (x - z) :: st) μ Q := e_isub (show decode (bN 33) 47 = .ok (.isub, 1) by decide +kernel)
theorem r33_48 {a : Nat} {x : Int32} : R d 33 48 ls (.int x :: .ref a :: st) μ Q = (a % 100 = 3 ∧ R d 33 51 ls st (wI μ a 4 x) Q) := e_putfield (j := 4) (show decode (bN 33) 48 = .ok (.putfield 25, 3) by decide +kernel) (by decide +kernel) (by decide +kernel) rfl
theorem r33_51 {l1 : Option Value} {x : Nat} : R d 33 51 [some (.ref x), l1] st μ Q = R d 33 52 [some (.ref x), l1] (.ref x :: st) μ Q := e_aload_n (show decode (bN 33) 51 = .ok (.aload_n 0, 1) by decide +kernel) rfl
theorem r33_52 {x : Nat} : R d 33 52 ls (.ref x :: st) μ Q = R d 33 53 ls (.ref x :: .ref x :: st) μ Q := e_dupA (show decode (bN 33) 52 = .ok (.dup, 1) by decide +kernel)
theorem r33_52i {x : Int32} : R d 33 52 ls (.int x :: st) μ Q = R d 33 53 ls (.int x :: .int x :: st) μ Q := e_dupI (show decode (bN 33) 52 = .ok (.dup, 1) by decide +kernel)
theorem r33_53 {a : Nat} : R d 33 53 ls (.ref a :: st) μ Q = (a % 100 = 3 ∧ R d 33 56 ls (.int (rI μ a 1) :: st) μ Q) := e_getfield (j := 1) (show decode (bN 33) 53 = .ok (.getfield 15, 3) by decide +kernel) (by decide +kernel) rfl
theorem r33_56 : R d 33 56 ls st μ Q = R d 33 57 ls (.int 1 :: st) μ Q := e_iconst (show decode (bN 33) 56 = .ok (.iconst 1, 1) by decide +kernel) rfl
theorem r33_57 {x z : Int32} : R d 33 57 ls (.int z :: .int x :: st) μ Q = R d 33 58 ls (.int (x + z) :: st) μ Q := e_iadd (show decode (bN 33) 57 = .ok (.iadd, 1) by decide +kernel)
theorem r33_58 {a : Nat} {x : Int32} : R d 33 58 ls (.int x :: .ref a :: st) μ Q = (a % 100 = 3 ∧ R d 33 61 ls st (wI μ a 1 x) Q) := e_putfield (j := 1) (show decode (bN 33) 58 = .ok (.putfield 15, 3) by decide +kernel) (by decide +kernel) (by decide +kernel) rfl
theorem r33_61 {l0 : Option Value} {x : Int32} : R d 33 61 [l0, some (.int x)] st μ Q = R d 33 64 [l0, some (.int (x + 1))] st μ Q := e_iinc (show decode (bN 33) 61 = .ok (.iinc 1 1, 3) by decide +kernel) (by decide +kernel) rfl rfl rfl
theorem r33_64 : R d 33 64 ls st μ Q = R d 33 7 ls st μ Q := e_goto (show decode (bN 33) 64 = .ok (.goto (-57), 3) by decide +kernel) rfl
theorem r33_67 {l1 : Option Value} {x : Nat} : R d 33 67 [some (.ref x), l1] st μ Q = R d 33 68 [some (.ref x), l1] (.ref x :: st) μ Q := e_aload_n (show decode (bN 33) 67 = .ok (.aload_n 0, 1) by decide +kernel) rfl
theorem r33_68 {l1 : Option Value} {x : Nat} : R d 33 68 [some (.ref x), l1] st μ Q = R d 33 69 [some (.ref x), l1] (.ref x :: st) μ Q := e_aload_n (show decode (bN 33) 68 = .ok (.aload_n 0, 1) by decide +kernel) rfl
theorem r33_69 {a : Nat} : R d 33 69 ls (.ref a :: st) μ Q = (a % 100 = 3 ∧ R d 33 72 ls (.int (rI μ a 1) :: st) μ Q) := e_getfield (j := 1) (show decode (bN 33) 69 = .ok (.getfield 15, 3) by decide +kernel) (by decide +kernel) rfl
theorem r33_72 {l1 : Option Value} {x : Nat} : R d 33 72 [some (.ref x), l1] st μ Q = R d 33 73 [some (.ref x), l1] (.ref x :: st) μ Q := e_aload_n (show decode (bN 33) 72 = .ok (.aload_n 0, 1) by decide +kernel) rfl
theorem r33_73 {a : Nat} : R d 33 73 ls (.ref a :: st) μ Q = (a % 100 = 3 ∧ R d 33 76 ls (.int (rI μ a 3) :: st) μ Q) := e_getfield (j := 3) (show decode (bN 33) 73 = .ok (.getfield 22, 3) by decide +kernel) (by decide +kernel) rfl
theorem r33_76 {x z : Int32} : R d 33 76 ls (.int z :: .int x :: st) μ Q = R d 33 77 ls (.int (x - z) :: st) μ Q := e_isub (show decode (bN 33) 76 = .ok (.isub, 1) by decide +kernel)
theorem r33_77 : R d 33 77 ls st μ Q = R d 33 78 ls (.int 4 :: st) μ Q := e_iconst (show decode (bN 33) 77 = .ok (.iconst 4, 1) by decide +kernel) rfl
theorem r33_78 {x z : Int32} : R d 33 78 ls (.int z :: .int x :: st) μ Q = if x ≤ z then R d 33 86 ls st μ Q else R d 33 81 ls st μ Q := e_ic_le (show decode (bN 33) 78 = .ok (.if_icmp .le 8, 3) by decide +kernel) rfl
theorem r33_81 : R d 33 81 ls st μ Q = R d 33 83 ls (.int 31 :: st) μ Q := e_bipush (show decode (bN 33) 81 = .ok (.bipush 31, 2) by decide +kernel) rfl
theorem r33_83 : R d 33 83 ls st μ Q = R d 33 88 ls st μ Q := e_goto (show decode (bN 33) 83 = .ok (.goto 5, 3) by decide +kernel) rfl
theorem r33_86 : R d 33 86 ls st μ Q = R d 33 88 ls (.int 29 :: st) μ Q := e_bipush (show decode (bN 33) 86 = .ok (.bipush 29, 2) by decide +kernel) rfl
theorem r33_88 {a : Nat} {x : Int32} : R d 33 88 ls (.int x :: .ref a :: st) μ Q = (a % 100 = 3 ∧ R d 33 91 ls st (wI μ a 2 x) Q) := e_putfield (j := 2) (show decode (bN 33) 88 = .ok (.putfield 19, 3) by decide +kernel) (by decide +kernel) (by decide +kernel) rfl
theorem r33_91 : R d 33 91 ls [] μ Q = Q none μ := e_return (show decode (bN 33) 91 = .ok (.return_, 1) by decide +kernel) rfl
/-! ChinRow$Lexer.signAt(I)I: 34 -/
theorem r34_0 {l1 : Option Value} {x : Nat} : R d 34 0 [some (.ref x), l1] st μ Q = R d 34 1 [some (.ref x), l1] (.ref x :: st) μ Q := e_aload_n (show decode (bN 34) 0 = .ok (.aload_n 0, 1) by decide +kernel) rfl
theorem r34_1 {a : Nat} : R d 34 1 ls (.ref a :: st) μ Q = (a % 100 = 3 ∧ R d 34 4 ls (va_rf (rR μ a 0) :: st) μ Q) := e_getfield (j := 0) (show decode (bN 34) 1 = .ok (.getfield 9, 3) by decide +kernel) (by decide +kernel) rfl
theorem r34_4 {v : Option Nat} : R d 34 4 ls (va_rf v :: st) μ Q = if v = none then R d 34 41 ls st μ Q else R d 34 7 ls st μ Q := e_ifnull (show decode (bN 34) 4 = .ok (.ifnull 37, 3) by decide +kernel) rfl
theorem r34_7 {l0 : Option Value} {x : Int32} : R d 34 7 [l0, some (.int x)] st μ Q = R d 34 8 [l0, some (.int x)] (.int x :: st) μ Q := e_iload_n (show decode (bN 34) 7 = .ok (.iload_n 1, 1) by decide +kernel) rfl
theorem r34_8 {x : Int32} : R d 34 8 ls (.int x :: st) μ Q = if x < 0 then R d 34 41 ls st μ Q else R d 34 11 ls st μ Q := e_if_lt (show decode (bN 34) 8 = .ok (.ifCond .lt 33, 3) by decide +kernel) rfl
theorem r34_11 {l0 : Option Value} {x : Int32} : R d 34 11 [l0, some (.int x)] st μ Q = R d 34 12 [l0, some (.int x)] (.int x :: st) μ Q := e_iload_n (show decode (bN 34) 11 = .ok (.iload_n 1, 1) by decide +kernel) rfl
theorem r34_12 {l1 : Option Value} {x : Nat} : R d 34 12 [some (.ref x), l1] st μ Q = R d 34 13 [some (.ref x), l1] (.ref x :: st) μ Q := e_aload_n (show decode (bN 34) 12 = .ok (.aload_n 0, 1) by decide +kernel) rfl
theorem r34_13 {a : Nat} : R d 34 13 ls (.ref a :: st) μ Q = (a % 100 = 3 ∧ R d 34 16 ls (va_rf (rR μ a 0) :: st) μ Q) := e_getfield (j := 0) (show decode (bN 34) 13 = .ok (.getfield 9, 3) by decide +kernel) (by decide +kernel) rfl
theorem r34_16 {a : Nat} : R d 34 16 ls (.ref a :: st) μ Q = (a % 100 = 9 ∧ R d 34 19 ls (.int (rI μ a 1) :: st) μ Q) := e_getfield (j := 1) (show decode (bN 34) 16 = .ok (.getfield 59, 3) by decide +kernel) (by decide +kernel) rfl
theorem r34_19 {x z : Int32} : R d 34 19 ls (.int z :: .int x :: st) μ Q = if z ≤ x then R d 34 41 ls st μ Q else R d 34 22 ls st μ Q := e_ic_ge (show decode (bN 34) 19 = .ok (.if_icmp .ge 22, 3) by decide +kernel) rfl
theorem r34_22 {l0 : Option Value} {x : Int32} : R d 34 22 [l0, some (.int x)] st μ Q = R d 34 23 [l0, some (.int x)] (.int x :: st) μ Q := e_iload_n (show decode (bN 34) 22 = .ok (.iload_n 1, 1) by decide +kernel) rfl
theorem r34_23 : R d 34 23 ls st μ Q = R d 34 26 ls (.int 1000 :: st) μ Q := e_sipush (show decode (bN 34) 23 = .ok (.sipush 1000, 3) by decide +kernel) rfl
theorem r34_26 {x z : Int32} : R d 34 26 ls (.int z :: .int x :: st) μ Q = if z ≤ x then R d 34 41 ls st μ Q else R d 34 29 ls st μ Q := e_ic_ge (show decode (bN 34) 26 = .ok (.if_icmp .ge 15, 3) by decide +kernel) rfl
theorem r34_29 {l1 : Option Value} {x : Nat} : R d 34 29 [some (.ref x), l1] st μ Q = R d 34 30 [some (.ref x), l1] (.ref x :: st) μ Q := e_aload_n (show decode (bN 34) 29 = .ok (.aload_n 0, 1) by decide +kernel) rfl
theorem r34_30 {a : Nat} : R d 34 30 ls (.ref a :: st) μ Q = (a % 100 = 3 ∧ R d 34 33 ls (va_rf (rR μ a 0) :: st) μ Q) := e_getfield (j := 0) (show decode (bN 34) 30 = .ok (.getfield 9, 3) by decide +kernel) (by decide +kernel) rfl
theorem r34_33 {a : Nat} : R d 34 33 ls (.ref a :: st) μ Q = (a % 100 = 9 ∧ R d 34 36 ls (va_rf (rR μ a 0) :: st) μ Q) := e_getfield (j := 0) (show decode (bN 34) 33 = .ok (.getfield 64, 3) by decide +kernel) (by decide +kernel) rfl
theorem r34_36 {l0 : Option Value} {x : Int32} : R d 34 36 [l0, some (.int x)] st μ Q = R d 34 37 [l0, some (.int x)] (.int x :: st) μ Q := e_iload_n (show decode (bN 34) 36 = .ok (.iload_n 1, 1) by decide +kernel) rfl
theorem r34_37 {a : Nat} {i : Int32} : R d 34 37 ls (.int i :: .ref a :: st) μ Q = ((a % 100 = 22 ∧ ¬ (i < 0 ∨ a / 100 % 10000 ≤ i.toNatClampNeg)) ∧ R d 34 38 ls (.int (rI μ a i.toNatClampNeg) :: st) μ Q) := e_caload (show decode (bN 34) 37 = .ok (.caload, 1) by decide +kernel)
theorem r34_38 : R d 34 38 ls st μ Q = R d 34 42 ls st μ Q := e_goto (show decode (bN 34) 38 = .ok (.goto 4, 3) by decide +kernel) rfl
theorem r34_41 : R d 34 41 ls st μ Q = R d 34 42 ls (.int (-1) :: st) μ Q := e_iconst (show decode (bN 34) 41 = .ok (.iconst (-1), 1) by decide +kernel) rfl
theorem r34_42 {x : Int32} : R d 34 42 ls [.int x] μ Q = Q (some (.int x)) μ := e_ireturn (show decode (bN 34) 42 = .ok (.ireturn, 1) by decide +kernel) rfl
/-! ChinRow$Lexer.isLetter(I)Z: 35 -/
theorem r35_0  {x : Int32} : R d 35 0 [some (.int x)] st μ Q = R d 35 1 [some (.int x)] (.int x :: st) μ Q := e_iload_n (show decode (bN 35) 0 = .ok (.iload_n 0, 1) by decide +kernel) rfl
theorem r35_1 : R d 35 1 ls st μ Q = R d 35 3 ls (.int 97 :: st) μ Q := e_bipush (show decode (bN 35) 1 = .ok (.bipush 97, 2) by decide +kernel) rfl
theorem r35_3 {x z : Int32} : R d 35 3 ls (.int z :: .int x :: st) μ Q = if x < z then R d 35 16 ls st μ Q else R d 35 6 ls st μ Q := e_ic_lt (show decode (bN 35) 3 = .ok (.if_icmp .lt 13, 3) by decide +kernel) rfl
theorem r35_6  {x : Int32} : R d 35 6 [some (.int x)] st μ Q = R d 35 7 [some (.int x)] (.int x :: st) μ Q := e_iload_n (show decode (bN 35) 6 = .ok (.iload_n 0, 1) by decide +kernel) rfl
theorem r35_7 : R d 35 7 ls st μ Q = R d 35 9 ls (.int 122 :: st) μ Q := e_bipush (show decode (bN 35) 7 = .ok (.bipush 122, 2) by decide +kernel) rfl
theorem r35_9 {x z : Int32} : R d 35 9 ls (.int z :: .int x :: st) μ Q = if z < x then R d 35 16 ls st μ Q else R d 35 12 ls st μ Q := e_ic_gt (show decode (bN 35) 9 = .ok (.if_icmp .gt 7, 3) by decide +kernel) rfl
theorem r35_12 : R d 35 12 ls st μ Q = R d 35 13 ls (.int 1 :: st) μ Q := e_iconst (show decode (bN 35) 12 = .ok (.iconst 1, 1) by decide +kernel) rfl
theorem r35_13 : R d 35 13 ls st μ Q = R d 35 17 ls st μ Q := e_goto (show decode (bN 35) 13 = .ok (.goto 4, 3) by decide +kernel) rfl
theorem r35_16 : R d 35 16 ls st μ Q = R d 35 17 ls (.int 0 :: st) μ Q := e_iconst (show decode (bN 35) 16 = .ok (.iconst 0, 1) by decide +kernel) rfl
theorem r35_17 {x : Int32} : R d 35 17 ls [.int x] μ Q = ((x = 0 ∨ x = 1) ∧ Q (some (.int x)) μ) := e_zreturn (show decode (bN 35) 17 = .ok (.ireturn, 1) by decide +kernel) rfl
/-! ChinRow$Lexer.isDigit(I)Z: 36 -/
theorem r36_0  {x : Int32} : R d 36 0 [some (.int x)] st μ Q = R d 36 1 [some (.int x)] (.int x :: st) μ Q := e_iload_n (show decode (bN 36) 0 = .ok (.iload_n 0, 1) by decide +kernel) rfl
theorem r36_1 : R d 36 1 ls st μ Q = R d 36 3 ls (.int 48 :: st) μ Q := e_bipush (show decode (bN 36) 1 = .ok (.bipush 48, 2) by decide +kernel) rfl
theorem r36_3 {x z : Int32} : R d 36 3 ls (.int z :: .int x :: st) μ Q = if x < z then R d 36 16 ls st μ Q else R d 36 6 ls st μ Q := e_ic_lt (show decode (bN 36) 3 = .ok (.if_icmp .lt 13, 3) by decide +kernel) rfl
theorem r36_6  {x : Int32} : R d 36 6 [some (.int x)] st μ Q = R d 36 7 [some (.int x)] (.int x :: st) μ Q := e_iload_n (show decode (bN 36) 6 = .ok (.iload_n 0, 1) by decide +kernel) rfl
theorem r36_7 : R d 36 7 ls st μ Q = R d 36 9 ls (.int 57 :: st) μ Q := e_bipush (show decode (bN 36) 7 = .ok (.bipush 57, 2) by decide +kernel) rfl
theorem r36_9 {x z : Int32} : R d 36 9 ls (.int z :: .int x :: st) μ Q = if z < x then R d 36 16 ls st μ Q else R d 36 12 ls st μ Q := e_ic_gt (show decode (bN 36) 9 = .ok (.if_icmp .gt 7, 3) by decide +kernel) rfl
theorem r36_12 : R d 36 12 ls st μ Q = R d 36 13 ls (.int 1 :: st) μ Q := e_iconst (show decode (bN 36) 12 = .ok (.iconst 1, 1) by decide +kernel) rfl
theorem r36_13 : R d 36 13 ls st μ Q = R d 36 17 ls st μ Q := e_goto (show decode (bN 36) 13 = .ok (.goto 4, 3) by decide +kernel) rfl
theorem r36_16 : R d 36 16 ls st μ Q = R d 36 17 ls (.int 0 :: st) μ Q := e_iconst (show decode (bN 36) 16 = .ok (.iconst 0, 1) by decide +kernel) rfl
theorem r36_17 {x : Int32} : R d 36 17 ls [.int x] μ Q = ((x = 0 ∨ x = 1) ∧ Q (some (.int x)) μ) := e_zreturn (show decode (bN 36) 17 = .ok (.ireturn, 1) by decide +kernel) rfl
/-! ChinRow$Lexer.isMark(I)Z: 37 -/
theorem r37_0  {x : Int32} : R d 37 0 [some (.int x)] st μ Q = R d 37 1 [some (.int x)] (.int x :: st) μ Q := e_iload_n (show decode (bN 37) 0 = .ok (.iload_n 0, 1) by decide +kernel) rfl
theorem r37_1 : R d 37 1 ls st μ Q = R d 37 3 ls (.int 40 :: st) μ Q := e_bipush (show decode (bN 37) 1 = .ok (.bipush 40, 2) by decide +kernel) rfl
theorem r37_3 {x z : Int32} : R d 37 3 ls (.int z :: .int x :: st) μ Q = if x = z then R d 37 48 ls st μ Q else R d 37 6 ls st μ Q := e_ic_eq (show decode (bN 37) 3 = .ok (.if_icmp .eq 45, 3) by decide +kernel) rfl
theorem r37_6  {x : Int32} : R d 37 6 [some (.int x)] st μ Q = R d 37 7 [some (.int x)] (.int x :: st) μ Q := e_iload_n (show decode (bN 37) 6 = .ok (.iload_n 0, 1) by decide +kernel) rfl
theorem r37_7 : R d 37 7 ls st μ Q = R d 37 9 ls (.int 41 :: st) μ Q := e_bipush (show decode (bN 37) 7 = .ok (.bipush 41, 2) by decide +kernel) rfl
theorem r37_9 {x z : Int32} : R d 37 9 ls (.int z :: .int x :: st) μ Q = if x = z then R d 37 48 ls st μ Q else R d 37 12 ls st μ Q := e_ic_eq (show decode (bN 37) 9 = .ok (.if_icmp .eq 39, 3) by decide +kernel) rfl
theorem r37_12  {x : Int32} : R d 37 12 [some (.int x)] st μ Q = R d 37 13 [some (.int x)] (.int x :: st) μ Q := e_iload_n (show decode (bN 37) 12 = .ok (.iload_n 0, 1) by decide +kernel) rfl
theorem r37_13 : R d 37 13 ls st μ Q = R d 37 15 ls (.int 60 :: st) μ Q := e_bipush (show decode (bN 37) 13 = .ok (.bipush 60, 2) by decide +kernel) rfl
theorem r37_15 {x z : Int32} : R d 37 15 ls (.int z :: .int x :: st) μ Q = if x = z then R d 37 48 ls st μ Q else R d 37 18 ls st μ Q := e_ic_eq (show decode (bN 37) 15 = .ok (.if_icmp .eq 33, 3) by decide +kernel) rfl
theorem r37_18  {x : Int32} : R d 37 18 [some (.int x)] st μ Q = R d 37 19 [some (.int x)] (.int x :: st) μ Q := e_iload_n (show decode (bN 37) 18 = .ok (.iload_n 0, 1) by decide +kernel) rfl
theorem r37_19 : R d 37 19 ls st μ Q = R d 37 21 ls (.int 61 :: st) μ Q := e_bipush (show decode (bN 37) 19 = .ok (.bipush 61, 2) by decide +kernel) rfl
theorem r37_21 {x z : Int32} : R d 37 21 ls (.int z :: .int x :: st) μ Q = if x = z then R d 37 48 ls st μ Q else R d 37 24 ls st μ Q := e_ic_eq (show decode (bN 37) 21 = .ok (.if_icmp .eq 27, 3) by decide +kernel) rfl
theorem r37_24  {x : Int32} : R d 37 24 [some (.int x)] st μ Q = R d 37 25 [some (.int x)] (.int x :: st) μ Q := e_iload_n (show decode (bN 37) 24 = .ok (.iload_n 0, 1) by decide +kernel) rfl
theorem r37_25 : R d 37 25 ls st μ Q = R d 37 27 ls (.int 43 :: st) μ Q := e_bipush (show decode (bN 37) 25 = .ok (.bipush 43, 2) by decide +kernel) rfl
theorem r37_27 {x z : Int32} : R d 37 27 ls (.int z :: .int x :: st) μ Q = if x = z then R d 37 48 ls st μ Q else R d 37 30 ls st μ Q := e_ic_eq (show decode (bN 37) 27 = .ok (.if_icmp .eq 21, 3) by decide +kernel) rfl
theorem r37_30  {x : Int32} : R d 37 30 [some (.int x)] st μ Q = R d 37 31 [some (.int x)] (.int x :: st) μ Q := e_iload_n (show decode (bN 37) 30 = .ok (.iload_n 0, 1) by decide +kernel) rfl
theorem r37_31 : R d 37 31 ls st μ Q = R d 37 33 ls (.int 45 :: st) μ Q := e_bipush (show decode (bN 37) 31 = .ok (.bipush 45, 2) by decide +kernel) rfl
theorem r37_33 {x z : Int32} : R d 37 33 ls (.int z :: .int x :: st) μ Q = if x = z then R d 37 48 ls st μ Q else R d 37 36 ls st μ Q := e_ic_eq (show decode (bN 37) 33 = .ok (.if_icmp .eq 15, 3) by decide +kernel) rfl
theorem r37_36  {x : Int32} : R d 37 36 [some (.int x)] st μ Q = R d 37 37 [some (.int x)] (.int x :: st) μ Q := e_iload_n (show decode (bN 37) 36 = .ok (.iload_n 0, 1) by decide +kernel) rfl
theorem r37_37 : R d 37 37 ls st μ Q = R d 37 39 ls (.int 42 :: st) μ Q := e_bipush (show decode (bN 37) 37 = .ok (.bipush 42, 2) by decide +kernel) rfl
theorem r37_39 {x z : Int32} : R d 37 39 ls (.int z :: .int x :: st) μ Q = if x = z then R d 37 48 ls st μ Q else R d 37 42 ls st μ Q := e_ic_eq (show decode (bN 37) 39 = .ok (.if_icmp .eq 9, 3) by decide +kernel) rfl
theorem r37_42  {x : Int32} : R d 37 42 [some (.int x)] st μ Q = R d 37 43 [some (.int x)] (.int x :: st) μ Q := e_iload_n (show decode (bN 37) 42 = .ok (.iload_n 0, 1) by decide +kernel) rfl
theorem r37_43 : R d 37 43 ls st μ Q = R d 37 45 ls (.int 59 :: st) μ Q := e_bipush (show decode (bN 37) 43 = .ok (.bipush 59, 2) by decide +kernel) rfl
theorem r37_45 {x z : Int32} : R d 37 45 ls (.int z :: .int x :: st) μ Q = if ¬ x = z then R d 37 52 ls st μ Q else R d 37 48 ls st μ Q := e_ic_ne (show decode (bN 37) 45 = .ok (.if_icmp .ne 7, 3) by decide +kernel) rfl
theorem r37_48 : R d 37 48 ls st μ Q = R d 37 49 ls (.int 1 :: st) μ Q := e_iconst (show decode (bN 37) 48 = .ok (.iconst 1, 1) by decide +kernel) rfl
theorem r37_49 : R d 37 49 ls st μ Q = R d 37 53 ls st μ Q := e_goto (show decode (bN 37) 49 = .ok (.goto 4, 3) by decide +kernel) rfl
theorem r37_52 : R d 37 52 ls st μ Q = R d 37 53 ls (.int 0 :: st) μ Q := e_iconst (show decode (bN 37) 52 = .ok (.iconst 0, 1) by decide +kernel) rfl
theorem r37_53 {x : Int32} : R d 37 53 ls [.int x] μ Q = ((x = 0 ∨ x = 1) ∧ Q (some (.int x)) μ) := e_zreturn (show decode (bN 37) 53 = .ok (.ireturn, 1) by decide +kernel) rfl
end RQ
