section RQ
variable {d : Nat} {ls : PL} {st : List Value} {μ : PM} {Q : Option Value → PM → Prop}
/-! ChinRow$LawReader.<init>()V: 7 -/
theorem r7_0  {x : Nat} : R d 7 0 [some (.ref x)] st μ Q = R d 7 1 [some (.ref x)] (.ref x :: st) μ Q := e_aload_n (show decode (bN 7) 0 = .ok (.aload_n 0, 1) by decide +kernel) rfl
theorem r7_1 {a : Nat} : R d 7 1 ls (.ref a :: st) μ Q = (sw st ≤ 8 ∧ R d 7 4 ls st μ Q) := e_oinit (show decode (bN 7) 1 = .ok (.invokespecial 3, 3) by decide +kernel) (by decide +kernel) (by decide +kernel)
theorem r7_4  {x : Nat} : R d 7 4 [some (.ref x)] st μ Q = R d 7 5 [some (.ref x)] (.ref x :: st) μ Q := e_aload_n (show decode (bN 7) 4 = .ok (.aload_n 0, 1) by decide +kernel) rfl
theorem r7_5 : R d 7 5 ls st μ Q = R d 7 7 ls (.int 64 :: st) μ Q := e_bipush (show decode (bN 7) 5 = .ok (.bipush 64, 2) by decide +kernel) rfl
theorem r7_7 {n : Int32} : R d 7 7 ls (.int n :: st) μ Q = ((¬ n < 0 ∧ n.toNatClampNeg < 10000) ∧ R d 7 9 ls (.ref (nx μ n.toNatClampNeg 20) :: st) (nw μ (nx μ n.toNatClampNeg 20)) Q) := e_newa (show decode (bN 7) 7 = .ok (.newarray .int, 2) by decide +kernel) rfl
theorem r7_9 {a b : Nat} : R d 7 9 ls (.ref b :: .ref a :: st) μ Q = (a % 100 = 1 ∧ R d 7 12 ls st (wR μ a 0 (some b)) Q) := e_putfield (j := 0) (show decode (bN 7) 9 = .ok (.putfield 9, 3) by decide +kernel) (by decide +kernel) (by decide +kernel) rfl
theorem r7_9n {a : Nat} : R d 7 9 ls (.null :: .ref a :: st) μ Q = (a % 100 = 1 ∧ R d 7 12 ls st (wR μ a 0 none) Q) := e_putfield (j := 0) (show decode (bN 7) 9 = .ok (.putfield 9, 3) by decide +kernel) (by decide +kernel) (by decide +kernel) rfl
theorem r7_12  {x : Nat} : R d 7 12 [some (.ref x)] st μ Q = R d 7 13 [some (.ref x)] (.ref x :: st) μ Q := e_aload_n (show decode (bN 7) 12 = .ok (.aload_n 0, 1) by decide +kernel) rfl
theorem r7_13 : R d 7 13 ls st μ Q = R d 7 14 ls (.int 0 :: st) μ Q := e_iconst (show decode (bN 7) 13 = .ok (.iconst 0, 1) by decide +kernel) rfl
theorem r7_14 {a : Nat} {x : Int32} : R d 7 14 ls (.int x :: .ref a :: st) μ Q = (a % 100 = 1 ∧ R d 7 17 ls st (wI μ a 1 x) Q) := e_putfield (j := 1) (show decode (bN 7) 14 = .ok (.putfield 15, 3) by decide +kernel) (by decide +kernel) (by decide +kernel) rfl
theorem r7_17  {x : Nat} : R d 7 17 [some (.ref x)] st μ Q = R d 7 18 [some (.ref x)] (.ref x :: st) μ Q := e_aload_n (show decode (bN 7) 17 = .ok (.aload_n 0, 1) by decide +kernel) rfl
theorem r7_18 : R d 7 18 ls st μ Q = R d 7 19 ls (.int 0 :: st) μ Q := e_iconst (show decode (bN 7) 18 = .ok (.iconst 0, 1) by decide +kernel) rfl
theorem r7_19 {a : Nat} {x : Int32} : R d 7 19 ls (.int x :: .ref a :: st) μ Q = (a % 100 = 1 ∧ R d 7 22 ls st (wI μ a 2 x) Q) := e_putfield (j := 2) (show decode (bN 7) 19 = .ok (.putfield 19, 3) by decide +kernel) (by decide +kernel) (by decide +kernel) rfl
theorem r7_22  {x : Nat} : R d 7 22 [some (.ref x)] st μ Q = R d 7 23 [some (.ref x)] (.ref x :: st) μ Q := e_aload_n (show decode (bN 7) 22 = .ok (.aload_n 0, 1) by decide +kernel) rfl
theorem r7_23 : R d 7 23 ls st μ Q = R d 7 24 ls (.int 1 :: st) μ Q := e_iconst (show decode (bN 7) 23 = .ok (.iconst 1, 1) by decide +kernel) rfl
theorem r7_24 {a : Nat} {x : Int32} : R d 7 24 ls (.int x :: .ref a :: st) μ Q = ((a % 100 = 1 ∧ (x = 0 ∨ x = 1)) ∧ R d 7 27 ls st (wI μ a 3 x) Q) := e_putfieldZ (j := 3) (show decode (bN 7) 24 = .ok (.putfield 22, 3) by decide +kernel) (by decide +kernel) (by decide +kernel) rfl
theorem r7_27  {x : Nat} : R d 7 27 [some (.ref x)] st μ Q = R d 7 28 [some (.ref x)] (.ref x :: st) μ Q := e_aload_n (show decode (bN 7) 27 = .ok (.aload_n 0, 1) by decide +kernel) rfl
theorem r7_28 : R d 7 28 ls st μ Q = R d 7 29 ls (.null :: st) μ Q := e_null (show decode (bN 7) 28 = .ok (.aconst_null, 1) by decide +kernel)
theorem r7_29 {a b : Nat} : R d 7 29 ls (.ref b :: .ref a :: st) μ Q = (a % 100 = 1 ∧ R d 7 32 ls st (wR μ a 4 (some b)) Q) := e_putfield (j := 4) (show decode (bN 7) 29 = .ok (.putfield 26, 3) by decide +kernel) (by decide +kernel) (by decide +kernel) rfl
theorem r7_29n {a : Nat} : R d 7 29 ls (.null :: .ref a :: st) μ Q = (a % 100 = 1 ∧ R d 7 32 ls st (wR μ a 4 none) Q) := e_putfield (j := 4) (show decode (bN 7) 29 = .ok (.putfield 26, 3) by decide +kernel) (by decide +kernel) (by decide +kernel) rfl
theorem r7_32 : R d 7 32 ls [] μ Q = Q none μ := e_return (show decode (bN 7) 32 = .ok (.return_, 1) by decide +kernel) rfl
/-! ChinRow$LawReader.readLaw(LChinRow$Lexer;LChinRow$Laws;I)I: 8 -/
theorem r8_0 {l1 l2 l3 l4 l5 : Option Value} {x : Nat} : R d 8 0 [some (.ref x), l1, l2, l3, l4, l5] st μ Q = R d 8 1 [some (.ref x), l1, l2, l3, l4, l5] (.ref x :: st) μ Q := e_aload_n (show decode (bN 8) 0 = .ok (.aload_n 0, 1) by decide +kernel) rfl
theorem r8_1 {l0 l1 l3 l4 l5 : Option Value} {x : Nat} : R d 8 1 [l0, l1, some (.ref x), l3, l4, l5] st μ Q = R d 8 2 [l0, l1, some (.ref x), l3, l4, l5] (.ref x :: st) μ Q := e_aload_n (show decode (bN 8) 1 = .ok (.aload_n 2, 1) by decide +kernel) rfl
theorem r8_2 {a b : Nat} : R d 8 2 ls (.ref b :: .ref a :: st) μ Q = (a % 100 = 1 ∧ R d 8 5 ls st (wR μ a 4 (some b)) Q) := e_putfield (j := 4) (show decode (bN 8) 2 = .ok (.putfield 26, 3) by decide +kernel) (by decide +kernel) (by decide +kernel) rfl
theorem r8_2n {a : Nat} : R d 8 2 ls (.null :: .ref a :: st) μ Q = (a % 100 = 1 ∧ R d 8 5 ls st (wR μ a 4 none) Q) := e_putfield (j := 4) (show decode (bN 8) 2 = .ok (.putfield 26, 3) by decide +kernel) (by decide +kernel) (by decide +kernel) rfl
theorem r8_5 {l1 l2 l3 l4 l5 : Option Value} {x : Nat} : R d 8 5 [some (.ref x), l1, l2, l3, l4, l5] st μ Q = R d 8 6 [some (.ref x), l1, l2, l3, l4, l5] (.ref x :: st) μ Q := e_aload_n (show decode (bN 8) 5 = .ok (.aload_n 0, 1) by decide +kernel) rfl
theorem r8_6 : R d 8 6 ls st μ Q = R d 8 7 ls (.int 0 :: st) μ Q := e_iconst (show decode (bN 8) 6 = .ok (.iconst 0, 1) by decide +kernel) rfl
theorem r8_7 {a : Nat} {x : Int32} : R d 8 7 ls (.int x :: .ref a :: st) μ Q = (a % 100 = 1 ∧ R d 8 10 ls st (wI μ a 1 x) Q) := e_putfield (j := 1) (show decode (bN 8) 7 = .ok (.putfield 15, 3) by decide +kernel) (by decide +kernel) (by decide +kernel) rfl
theorem r8_10 {l1 l2 l3 l4 l5 : Option Value} {x : Nat} : R d 8 10 [some (.ref x), l1, l2, l3, l4, l5] st μ Q = R d 8 11 [some (.ref x), l1, l2, l3, l4, l5] (.ref x :: st) μ Q := e_aload_n (show decode (bN 8) 10 = .ok (.aload_n 0, 1) by decide +kernel) rfl
theorem r8_11 : R d 8 11 ls st μ Q = R d 8 12 ls (.int 0 :: st) μ Q := e_iconst (show decode (bN 8) 11 = .ok (.iconst 0, 1) by decide +kernel) rfl
theorem r8_12 {a : Nat} {x : Int32} : R d 8 12 ls (.int x :: .ref a :: st) μ Q = (a % 100 = 1 ∧ R d 8 15 ls st (wI μ a 2 x) Q) := e_putfield (j := 2) (show decode (bN 8) 12 = .ok (.putfield 19, 3) by decide +kernel) (by decide +kernel) (by decide +kernel) rfl
theorem r8_15 {l1 l2 l3 l4 l5 : Option Value} {x : Nat} : R d 8 15 [some (.ref x), l1, l2, l3, l4, l5] st μ Q = R d 8 16 [some (.ref x), l1, l2, l3, l4, l5] (.ref x :: st) μ Q := e_aload_n (show decode (bN 8) 15 = .ok (.aload_n 0, 1) by decide +kernel) rfl
theorem r8_16 : R d 8 16 ls st μ Q = R d 8 17 ls (.int 1 :: st) μ Q := e_iconst (show decode (bN 8) 16 = .ok (.iconst 1, 1) by decide +kernel) rfl
theorem r8_17 {a : Nat} {x : Int32} : R d 8 17 ls (.int x :: .ref a :: st) μ Q = ((a % 100 = 1 ∧ (x = 0 ∨ x = 1)) ∧ R d 8 20 ls st (wI μ a 3 x) Q) := e_putfieldZ (j := 3) (show decode (bN 8) 17 = .ok (.putfield 22, 3) by decide +kernel) (by decide +kernel) (by decide +kernel) rfl
theorem r8_20 {l1 l2 l3 l4 l5 : Option Value} {x : Nat} : R d 8 20 [some (.ref x), l1, l2, l3, l4, l5] st μ Q = R d 8 21 [some (.ref x), l1, l2, l3, l4, l5] (.ref x :: st) μ Q := e_aload_n (show decode (bN 8) 20 = .ok (.aload_n 0, 1) by decide +kernel) rfl
theorem r8_21 {a : Nat} : R d 8 21 ls (.ref a :: st) μ Q = (a % 100 = 1 ∧ R d 8 24 ls (va_rf (rR μ a 4) :: st) μ Q) := e_getfield (j := 4) (show decode (bN 8) 21 = .ok (.getfield 26, 3) by decide +kernel) (by decide +kernel) rfl
theorem r8_24 {l0 l1 l2 l4 l5 : Option Value} {x : Int32} : R d 8 24 [l0, l1, l2, some (.int x), l4, l5] st μ Q = R d 8 25 [l0, l1, l2, some (.int x), l4, l5] (.int x :: st) μ Q := e_iload_n (show decode (bN 8) 24 = .ok (.iload_n 3, 1) by decide +kernel) rfl
theorem r8_25 {a : Nat} {v0 : Int32} : R (d + 1) 8 25 ls (.int v0 :: .ref a :: st) μ Q = ((a % 100 = 2 ∧ sw st ≤ 8) ∧ R d 19 0 [some (.ref a), some (.int v0)] [] μ (fun v μ' => R (d + 1) 8 28 ls (v.toList ++ st) μ' Q)) := e_callV (z := 19) (as := [.int v0]) (show decode (bN 8) 25 = .ok (.invokevirtual 30, 3) by decide +kernel) (by decide +kernel) rfl rfl rfl rfl
theorem r8_28 : R d 8 28 ls st μ Q = R d 8 29 ls (.int 0 :: st) μ Q := e_iconst (show decode (bN 8) 28 = .ok (.iconst 0, 1) by decide +kernel) rfl
theorem r8_29 {l0 l1 l2 l3 l4 l5 : Option Value} {x : Int32} : R d 8 29 [l0, l1, l2, l3, l4, l5] (.int x :: st) μ Q = R d 8 31 [l0, l1, l2, l3, some (.int x), l5] st μ Q := e_istore (show decode (bN 8) 29 = .ok (.istore 4, 2) by decide +kernel) (by decide +kernel) rfl
theorem r8_31 {l0 l1 l2 l3 l5 : Option Value} {x : Int32} : R d 8 31 [l0, l1, l2, l3, some (.int x), l5] st μ Q = R d 8 33 [l0, l1, l2, l3, some (.int x), l5] (.int x :: st) μ Q := e_iload (show decode (bN 8) 31 = .ok (.iload 4, 2) by decide +kernel) rfl
theorem r8_33 : R d 8 33 ls st μ Q = R d 8 36 ls (.int 1000 :: st) μ Q := e_sipush (show decode (bN 8) 33 = .ok (.sipush 1000, 3) by decide +kernel) rfl
theorem r8_36 {x z : Int32} : R d 8 36 ls (.int z :: .int x :: st) μ Q = if z < x then R d 8 121 ls st μ Q else R d 8 39 ls st μ Q := e_ic_gt (show decode (bN 8) 36 = .ok (.if_icmp .gt 85, 3) by decide +kernel) rfl
theorem r8_39 {l1 l2 l3 l4 l5 : Option Value} {x : Nat} : R d 8 39 [some (.ref x), l1, l2, l3, l4, l5] st μ Q = R d 8 40 [some (.ref x), l1, l2, l3, l4, l5] (.ref x :: st) μ Q := e_aload_n (show decode (bN 8) 39 = .ok (.aload_n 0, 1) by decide +kernel) rfl
theorem r8_40 {a : Nat} : R d 8 40 ls (.ref a :: st) μ Q = (a % 100 = 1 ∧ R d 8 43 ls (.int (rI μ a 3) :: st) μ Q) := e_getfield (j := 3) (show decode (bN 8) 40 = .ok (.getfield 22, 3) by decide +kernel) (by decide +kernel) rfl
theorem r8_43 {x : Int32} : R d 8 43 ls (.int x :: st) μ Q = if ¬ x = 0 then R d 8 77 ls st μ Q else R d 8 46 ls st μ Q := e_if_ne (show decode (bN 8) 43 = .ok (.ifCond .ne 34, 3) by decide +kernel) rfl
theorem r8_46 {l1 l2 l3 l4 l5 : Option Value} {x : Nat} : R d 8 46 [some (.ref x), l1, l2, l3, l4, l5] st μ Q = R d 8 47 [some (.ref x), l1, l2, l3, l4, l5] (.ref x :: st) μ Q := e_aload_n (show decode (bN 8) 46 = .ok (.aload_n 0, 1) by decide +kernel) rfl
theorem r8_47 {a : Nat} : R d 8 47 ls (.ref a :: st) μ Q = (a % 100 = 1 ∧ R d 8 50 ls (.int (rI μ a 2) :: st) μ Q) := e_getfield (j := 2) (show decode (bN 8) 47 = .ok (.getfield 19, 3) by decide +kernel) (by decide +kernel) rfl
theorem r8_50 {x : Int32} : R d 8 50 ls (.int x :: st) μ Q = if ¬ x = 0 then R d 8 77 ls st μ Q else R d 8 53 ls st μ Q := e_if_ne (show decode (bN 8) 50 = .ok (.ifCond .ne 27, 3) by decide +kernel) rfl
theorem r8_53 {l0 l2 l3 l4 l5 : Option Value} {x : Nat} : R d 8 53 [l0, some (.ref x), l2, l3, l4, l5] st μ Q = R d 8 54 [l0, some (.ref x), l2, l3, l4, l5] (.ref x :: st) μ Q := e_aload_n (show decode (bN 8) 53 = .ok (.aload_n 1, 1) by decide +kernel) rfl
theorem r8_54 {a : Nat} : R d 8 54 ls (.ref a :: st) μ Q = (a % 100 = 3 ∧ R d 8 57 ls (.int (rI μ a 2) :: st) μ Q) := e_getfield (j := 2) (show decode (bN 8) 54 = .ok (.getfield 36, 3) by decide +kernel) (by decide +kernel) rfl
theorem r8_57 : R d 8 57 ls st μ Q = R d 8 59 ls (.int 59 :: st) μ Q := e_bipush (show decode (bN 8) 57 = .ok (.bipush 59, 2) by decide +kernel) rfl
theorem r8_59 {x z : Int32} : R d 8 59 ls (.int z :: .int x :: st) μ Q = if ¬ x = z then R d 8 77 ls st μ Q else R d 8 62 ls st μ Q := e_ic_ne (show decode (bN 8) 59 = .ok (.if_icmp .ne 18, 3) by decide +kernel) rfl
theorem r8_62 {l1 l2 l3 l4 l5 : Option Value} {x : Nat} : R d 8 62 [some (.ref x), l1, l2, l3, l4, l5] st μ Q = R d 8 63 [some (.ref x), l1, l2, l3, l4, l5] (.ref x :: st) μ Q := e_aload_n (show decode (bN 8) 62 = .ok (.aload_n 0, 1) by decide +kernel) rfl
theorem r8_63 : R d 8 63 ls st μ Q = R d 8 64 ls (.int 1 :: st) μ Q := e_iconst (show decode (bN 8) 63 = .ok (.iconst 1, 1) by decide +kernel) rfl
theorem r8_64 {a : Nat} {v0 : Int32} : R (d + 1) 8 64 ls (.int v0 :: .ref a :: st) μ Q = ((a % 100 = 1 ∧ sw st ≤ 8) ∧ R d 13 0 [some (.ref a), some (.int v0), none] [] μ (fun v μ' => R (d + 1) 8 67 ls (v.toList ++ st) μ' Q)) := e_callV (z := 13) (as := [.int v0]) (show decode (bN 8) 64 = .ok (.invokevirtual 41, 3) by decide +kernel) (by decide +kernel) rfl rfl rfl rfl
theorem r8_67 {l1 l2 l3 l4 l5 : Option Value} {x : Nat} : R d 8 67 [some (.ref x), l1, l2, l3, l4, l5] st μ Q = R d 8 68 [some (.ref x), l1, l2, l3, l4, l5] (.ref x :: st) μ Q := e_aload_n (show decode (bN 8) 67 = .ok (.aload_n 0, 1) by decide +kernel) rfl
theorem r8_68 {a : Nat} : R d 8 68 ls (.ref a :: st) μ Q = (a % 100 = 1 ∧ R d 8 71 ls (va_rf (rR μ a 4) :: st) μ Q) := e_getfield (j := 4) (show decode (bN 8) 68 = .ok (.getfield 26, 3) by decide +kernel) (by decide +kernel) rfl
theorem r8_71 {l0 l1 l2 l4 l5 : Option Value} {x : Int32} : R d 8 71 [l0, l1, l2, some (.int x), l4, l5] st μ Q = R d 8 72 [l0, l1, l2, some (.int x), l4, l5] (.int x :: st) μ Q := e_iload_n (show decode (bN 8) 71 = .ok (.iload_n 3, 1) by decide +kernel) rfl
theorem r8_72 {a : Nat} {v0 : Int32} : R (d + 1) 8 72 ls (.int v0 :: .ref a :: st) μ Q = ((a % 100 = 2 ∧ sw st ≤ 8) ∧ R d 20 0 [some (.ref a), some (.int v0)] [] μ (fun v μ' => R (d + 1) 8 75 ls (v.toList ++ st) μ' Q)) := e_callV (z := 20) (as := [.int v0]) (show decode (bN 8) 72 = .ok (.invokevirtual 44, 3) by decide +kernel) (by decide +kernel) rfl rfl rfl rfl
theorem r8_75 : R d 8 75 ls st μ Q = R d 8 76 ls (.int 0 :: st) μ Q := e_iconst (show decode (bN 8) 75 = .ok (.iconst 0, 1) by decide +kernel) rfl
theorem r8_76 {x : Int32} : R d 8 76 ls [.int x] μ Q = Q (some (.int x)) μ := e_ireturn (show decode (bN 8) 76 = .ok (.ireturn, 1) by decide +kernel) rfl
theorem r8_77 {l1 l2 l3 l4 l5 : Option Value} {x : Nat} : R d 8 77 [some (.ref x), l1, l2, l3, l4, l5] st μ Q = R d 8 78 [some (.ref x), l1, l2, l3, l4, l5] (.ref x :: st) μ Q := e_aload_n (show decode (bN 8) 77 = .ok (.aload_n 0, 1) by decide +kernel) rfl
theorem r8_78 {a : Nat} : R d 8 78 ls (.ref a :: st) μ Q = (a % 100 = 1 ∧ R d 8 81 ls (.int (rI μ a 3) :: st) μ Q) := e_getfield (j := 3) (show decode (bN 8) 78 = .ok (.getfield 22, 3) by decide +kernel) (by decide +kernel) rfl
theorem r8_81 {x : Int32} : R d 8 81 ls (.int x :: st) μ Q = if x = 0 then R d 8 93 ls st μ Q else R d 8 84 ls st μ Q := e_if_eq (show decode (bN 8) 81 = .ok (.ifCond .eq 12, 3) by decide +kernel) rfl
theorem r8_84 {l1 l2 l3 l4 l5 : Option Value} {x : Nat} : R d 8 84 [some (.ref x), l1, l2, l3, l4, l5] st μ Q = R d 8 85 [some (.ref x), l1, l2, l3, l4, l5] (.ref x :: st) μ Q := e_aload_n (show decode (bN 8) 84 = .ok (.aload_n 0, 1) by decide +kernel) rfl
theorem r8_85 {l0 l2 l3 l4 l5 : Option Value} {x : Nat} : R d 8 85 [l0, some (.ref x), l2, l3, l4, l5] st μ Q = R d 8 86 [l0, some (.ref x), l2, l3, l4, l5] (.ref x :: st) μ Q := e_aload_n (show decode (bN 8) 85 = .ok (.aload_n 1, 1) by decide +kernel) rfl
theorem r8_86 {l0 l1 l2 l4 l5 : Option Value} {x : Int32} : R d 8 86 [l0, l1, l2, some (.int x), l4, l5] st μ Q = R d 8 87 [l0, l1, l2, some (.int x), l4, l5] (.int x :: st) μ Q := e_iload_n (show decode (bN 8) 86 = .ok (.iload_n 3, 1) by decide +kernel) rfl
theorem r8_87 {a : Nat} {v0 : Nat} {v1 : Int32} : R (d + 1) 8 87 ls (.int v1 :: .ref v0 :: .ref a :: st) μ Q = ((a % 100 = 1 ∧ sw st ≤ 8) ∧ R d 9 0 [some (.ref a), some (.ref v0), some (.int v1), none, none] [] μ (fun v μ' => R (d + 1) 8 90 ls (v.toList ++ st) μ' Q)) := e_callV (z := 9) (as := [.int v1, .ref v0]) (show decode (bN 8) 87 = .ok (.invokevirtual 47, 3) by decide +kernel) (by decide +kernel) rfl rfl rfl rfl
theorem r8_90 : R d 8 90 ls st μ Q = R d 8 101 ls st μ Q := e_goto (show decode (bN 8) 90 = .ok (.goto 11, 3) by decide +kernel) rfl
theorem r8_93 {l1 l2 l3 l4 l5 : Option Value} {x : Nat} : R d 8 93 [some (.ref x), l1, l2, l3, l4, l5] st μ Q = R d 8 94 [some (.ref x), l1, l2, l3, l4, l5] (.ref x :: st) μ Q := e_aload_n (show decode (bN 8) 93 = .ok (.aload_n 0, 1) by decide +kernel) rfl
theorem r8_94 {l0 l2 l3 l4 l5 : Option Value} {x : Nat} : R d 8 94 [l0, some (.ref x), l2, l3, l4, l5] st μ Q = R d 8 95 [l0, some (.ref x), l2, l3, l4, l5] (.ref x :: st) μ Q := e_aload_n (show decode (bN 8) 94 = .ok (.aload_n 1, 1) by decide +kernel) rfl
theorem r8_95 {a : Nat} : R d 8 95 ls (.ref a :: st) μ Q = (a % 100 = 3 ∧ R d 8 98 ls (.int (rI μ a 2) :: st) μ Q) := e_getfield (j := 2) (show decode (bN 8) 95 = .ok (.getfield 36, 3) by decide +kernel) (by decide +kernel) rfl
theorem r8_98 {a : Nat} {v0 : Int32} : R (d + 1) 8 98 ls (.int v0 :: .ref a :: st) μ Q = ((a % 100 = 1 ∧ sw st ≤ 8) ∧ R d 11 0 [some (.ref a), some (.int v0), none, none] [] μ (fun v μ' => R (d + 1) 8 101 ls (v.toList ++ st) μ' Q)) := e_callV (z := 11) (as := [.int v0]) (show decode (bN 8) 98 = .ok (.invokevirtual 51, 3) by decide +kernel) (by decide +kernel) rfl rfl rfl rfl
theorem r8_101 {l0 l1 l2 l3 l4 l5 : Option Value} {x : Int32} : R d 8 101 [l0, l1, l2, l3, l4, l5] (.int x :: st) μ Q = R d 8 103 [l0, l1, l2, l3, l4, some (.int x)] st μ Q := e_istore (show decode (bN 8) 101 = .ok (.istore 5, 2) by decide +kernel) (by decide +kernel) rfl
theorem r8_103 {l0 l1 l2 l3 l4 : Option Value} {x : Int32} : R d 8 103 [l0, l1, l2, l3, l4, some (.int x)] st μ Q = R d 8 105 [l0, l1, l2, l3, l4, some (.int x)] (.int x :: st) μ Q := e_iload (show decode (bN 8) 103 = .ok (.iload 5, 2) by decide +kernel) rfl
theorem r8_105 {x : Int32} : R d 8 105 ls (.int x :: st) μ Q = if x = 0 then R d 8 111 ls st μ Q else R d 8 108 ls st μ Q := e_if_eq (show decode (bN 8) 105 = .ok (.ifCond .eq 6, 3) by decide +kernel) rfl
theorem r8_108 {l0 l1 l2 l3 l4 : Option Value} {x : Int32} : R d 8 108 [l0, l1, l2, l3, l4, some (.int x)] st μ Q = R d 8 110 [l0, l1, l2, l3, l4, some (.int x)] (.int x :: st) μ Q := e_iload (show decode (bN 8) 108 = .ok (.iload 5, 2) by decide +kernel) rfl
theorem r8_110 {x : Int32} : R d 8 110 ls [.int x] μ Q = Q (some (.int x)) μ := e_ireturn (show decode (bN 8) 110 = .ok (.ireturn, 1) by decide +kernel) rfl
theorem r8_111 {l0 l2 l3 l4 l5 : Option Value} {x : Nat} : R d 8 111 [l0, some (.ref x), l2, l3, l4, l5] st μ Q = R d 8 112 [l0, some (.ref x), l2, l3, l4, l5] (.ref x :: st) μ Q := e_aload_n (show decode (bN 8) 111 = .ok (.aload_n 1, 1) by decide +kernel) rfl
theorem r8_112 {a : Nat}  : R (d + 1) 8 112 ls (.ref a :: st) μ Q = ((a % 100 = 3 ∧ sw st ≤ 8) ∧ R d 31 0 [some (.ref a), none, none] [] μ (fun v μ' => R (d + 1) 8 115 ls (v.toList ++ st) μ' Q)) := e_callV (z := 31) (as := []) (show decode (bN 8) 112 = .ok (.invokevirtual 55, 3) by decide +kernel) (by decide +kernel) rfl rfl rfl rfl
theorem r8_115 {l0 l1 l2 l3 l5 : Option Value} {x : Int32} : R d 8 115 [l0, l1, l2, l3, some (.int x), l5] st μ Q = R d 8 118 [l0, l1, l2, l3, some (.int (x + 1)), l5] st μ Q := e_iinc (show decode (bN 8) 115 = .ok (.iinc 4 1, 3) by decide +kernel) (by decide +kernel) rfl rfl rfl
theorem r8_118 : R d 8 118 ls st μ Q = R d 8 31 ls st μ Q := e_goto (show decode (bN 8) 118 = .ok (.goto (-87), 3) by decide +kernel) rfl
theorem r8_121 : R d 8 121 ls st μ Q = R d 8 122 ls (.int 1 :: st) μ Q := e_iconst (show decode (bN 8) 121 = .ok (.iconst 1, 1) by decide +kernel) rfl
theorem r8_122 {x : Int32} : R d 8 122 ls [.int x] μ Q = Q (some (.int x)) μ := e_ireturn (show decode (bN 8) 122 = .ok (.ireturn, 1) by decide +kernel) rfl
/-! ChinRow$LawReader.readPart(LChinRow$Lexer;I)I: 9 -/
theorem r9_0 {l0 l2 l3 l4 : Option Value} {x : Nat} : R d 9 0 [l0, some (.ref x), l2, l3, l4] st μ Q = R d 9 1 [l0, some (.ref x), l2, l3, l4] (.ref x :: st) μ Q := e_aload_n (show decode (bN 9) 0 = .ok (.aload_n 1, 1) by decide +kernel) rfl
theorem r9_1 {a : Nat} : R d 9 1 ls (.ref a :: st) μ Q = (a % 100 = 3 ∧ R d 9 4 ls (.int (rI μ a 2) :: st) μ Q) := e_getfield (j := 2) (show decode (bN 9) 1 = .ok (.getfield 36, 3) by decide +kernel) (by decide +kernel) rfl
theorem r9_4 {l0 l1 l2 l3 l4 : Option Value} {x : Int32} : R d 9 4 [l0, l1, l2, l3, l4] (.int x :: st) μ Q = R d 9 5 [l0, l1, l2, some (.int x), l4] st μ Q := e_istore_n (show decode (bN 9) 4 = .ok (.istore_n 3, 1) by decide +kernel) (by decide +kernel) rfl
theorem r9_5 {l0 l1 l2 l4 : Option Value} {x : Int32} : R d 9 5 [l0, l1, l2, some (.int x), l4] st μ Q = R d 9 6 [l0, l1, l2, some (.int x), l4] (.int x :: st) μ Q := e_iload_n (show decode (bN 9) 5 = .ok (.iload_n 3, 1) by decide +kernel) rfl
theorem r9_6 : R d 9 6 ls st μ Q = R d 9 8 ls (.int 23 :: st) μ Q := e_bipush (show decode (bN 9) 6 = .ok (.bipush 23, 2) by decide +kernel) rfl
theorem r9_8 {x z : Int32} : R d 9 8 ls (.int z :: .int x :: st) μ Q = if x = z then R d 9 17 ls st μ Q else R d 9 11 ls st μ Q := e_ic_eq (show decode (bN 9) 8 = .ok (.if_icmp .eq 9, 3) by decide +kernel) rfl
theorem r9_11 {l0 l1 l2 l4 : Option Value} {x : Int32} : R d 9 11 [l0, l1, l2, some (.int x), l4] st μ Q = R d 9 12 [l0, l1, l2, some (.int x), l4] (.int x :: st) μ Q := e_iload_n (show decode (bN 9) 11 = .ok (.iload_n 3, 1) by decide +kernel) rfl
theorem r9_12 : R d 9 12 ls st μ Q = R d 9 14 ls (.int 40 :: st) μ Q := e_bipush (show decode (bN 9) 12 = .ok (.bipush 40, 2) by decide +kernel) rfl
theorem r9_14 {x z : Int32} : R d 9 14 ls (.int z :: .int x :: st) μ Q = if ¬ x = z then R d 9 21 ls st μ Q else R d 9 17 ls st μ Q := e_ic_ne (show decode (bN 9) 14 = .ok (.if_icmp .ne 7, 3) by decide +kernel) rfl
theorem r9_17 : R d 9 17 ls st μ Q = R d 9 18 ls (.int 1 :: st) μ Q := e_iconst (show decode (bN 9) 17 = .ok (.iconst 1, 1) by decide +kernel) rfl
theorem r9_18 : R d 9 18 ls st μ Q = R d 9 22 ls st μ Q := e_goto (show decode (bN 9) 18 = .ok (.goto 4, 3) by decide +kernel) rfl
theorem r9_21 : R d 9 21 ls st μ Q = R d 9 22 ls (.int 0 :: st) μ Q := e_iconst (show decode (bN 9) 21 = .ok (.iconst 0, 1) by decide +kernel) rfl
theorem r9_22 {l0 l1 l2 l3 l4 : Option Value} {x : Int32} : R d 9 22 [l0, l1, l2, l3, l4] (.int x :: st) μ Q = R d 9 24 [l0, l1, l2, l3, some (.int x)] st μ Q := e_istore (show decode (bN 9) 22 = .ok (.istore 4, 2) by decide +kernel) (by decide +kernel) rfl
theorem r9_24 {l0 l1 l2 l3 : Option Value} {x : Int32} : R d 9 24 [l0, l1, l2, l3, some (.int x)] st μ Q = R d 9 26 [l0, l1, l2, l3, some (.int x)] (.int x :: st) μ Q := e_iload (show decode (bN 9) 24 = .ok (.iload 4, 2) by decide +kernel) rfl
theorem r9_26 {x : Int32} : R d 9 26 ls (.int x :: st) μ Q = if ¬ x = 0 then R d 9 45 ls st μ Q else R d 9 29 ls st μ Q := e_if_ne (show decode (bN 9) 26 = .ok (.ifCond .ne 19, 3) by decide +kernel) rfl
theorem r9_29 {l0 l1 l2 l4 : Option Value} {x : Int32} : R d 9 29 [l0, l1, l2, some (.int x), l4] st μ Q = R d 9 30 [l0, l1, l2, some (.int x), l4] (.int x :: st) μ Q := e_iload_n (show decode (bN 9) 29 = .ok (.iload_n 3, 1) by decide +kernel) rfl
theorem r9_30 : R d 9 30 ls st μ Q = R d 9 32 ls (.int 29 :: st) μ Q := e_bipush (show decode (bN 9) 30 = .ok (.bipush 29, 2) by decide +kernel) rfl
theorem r9_32 {x z : Int32} : R d 9 32 ls (.int z :: .int x :: st) μ Q = if x = z then R d 9 45 ls st μ Q else R d 9 35 ls st μ Q := e_ic_eq (show decode (bN 9) 32 = .ok (.if_icmp .eq 13, 3) by decide +kernel) rfl
theorem r9_35 {l0 l1 l2 l4 : Option Value} {x : Int32} : R d 9 35 [l0, l1, l2, some (.int x), l4] st μ Q = R d 9 36 [l0, l1, l2, some (.int x), l4] (.int x :: st) μ Q := e_iload_n (show decode (bN 9) 35 = .ok (.iload_n 3, 1) by decide +kernel) rfl
theorem r9_36 {l0 l1 l3 l4 : Option Value} {x : Int32} : R d 9 36 [l0, l1, some (.int x), l3, l4] st μ Q = R d 9 37 [l0, l1, some (.int x), l3, l4] (.int x :: st) μ Q := e_iload_n (show decode (bN 9) 36 = .ok (.iload_n 2, 1) by decide +kernel) rfl
theorem r9_37 {v0 : Int32} {v1 : Int32} : R (d + 1) 9 37 ls (.int v1 :: .int v0 :: st) μ Q = (sw st ≤ 8 ∧ R d 10 0 [some (.int v0), some (.int v1)] [] μ (fun v μ' => R (d + 1) 9 40 ls (v.toList ++ st) μ' Q)) := e_callS (z := 10) (as := [.int v1, .int v0]) (show decode (bN 9) 37 = .ok (.invokestatic 58, 3) by decide +kernel) (by decide +kernel) rfl rfl rfl
theorem r9_40 {x : Int32} : R d 9 40 ls (.int x :: st) μ Q = if ¬ x = 0 then R d 9 45 ls st μ Q else R d 9 43 ls st μ Q := e_if_ne (show decode (bN 9) 40 = .ok (.ifCond .ne 5, 3) by decide +kernel) rfl
theorem r9_43 : R d 9 43 ls st μ Q = R d 9 44 ls (.int 1 :: st) μ Q := e_iconst (show decode (bN 9) 43 = .ok (.iconst 1, 1) by decide +kernel) rfl
theorem r9_44 {x : Int32} : R d 9 44 ls [.int x] μ Q = Q (some (.int x)) μ := e_ireturn (show decode (bN 9) 44 = .ok (.ireturn, 1) by decide +kernel) rfl
theorem r9_45 {l1 l2 l3 l4 : Option Value} {x : Nat} : R d 9 45 [some (.ref x), l1, l2, l3, l4] st μ Q = R d 9 46 [some (.ref x), l1, l2, l3, l4] (.ref x :: st) μ Q := e_aload_n (show decode (bN 9) 45 = .ok (.aload_n 0, 1) by decide +kernel) rfl
theorem r9_46 {a : Nat} : R d 9 46 ls (.ref a :: st) μ Q = (a % 100 = 1 ∧ R d 9 49 ls (.int (rI μ a 2) :: st) μ Q) := e_getfield (j := 2) (show decode (bN 9) 46 = .ok (.getfield 19, 3) by decide +kernel) (by decide +kernel) rfl
theorem r9_49 : R d 9 49 ls st μ Q = R d 9 50 ls (.int 5 :: st) μ Q := e_iconst (show decode (bN 9) 49 = .ok (.iconst 5, 1) by decide +kernel) rfl
theorem r9_50 {x z : Int32} : R d 9 50 ls (.int z :: .int x :: st) μ Q = if x < z then R d 9 55 ls st μ Q else R d 9 53 ls st μ Q := e_ic_lt (show decode (bN 9) 50 = .ok (.if_icmp .lt 5, 3) by decide +kernel) rfl
theorem r9_53 : R d 9 53 ls st μ Q = R d 9 54 ls (.int 5 :: st) μ Q := e_iconst (show decode (bN 9) 53 = .ok (.iconst 5, 1) by decide +kernel) rfl
theorem r9_54 {x : Int32} : R d 9 54 ls [.int x] μ Q = Q (some (.int x)) μ := e_ireturn (show decode (bN 9) 54 = .ok (.ireturn, 1) by decide +kernel) rfl
theorem r9_55 {l0 l1 l2 l3 : Option Value} {x : Int32} : R d 9 55 [l0, l1, l2, l3, some (.int x)] st μ Q = R d 9 57 [l0, l1, l2, l3, some (.int x)] (.int x :: st) μ Q := e_iload (show decode (bN 9) 55 = .ok (.iload 4, 2) by decide +kernel) rfl
theorem r9_57 {x : Int32} : R d 9 57 ls (.int x :: st) μ Q = if x = 0 then R d 9 78 ls st μ Q else R d 9 60 ls st μ Q := e_if_eq (show decode (bN 9) 57 = .ok (.ifCond .eq 21, 3) by decide +kernel) rfl
theorem r9_60 {l1 l2 l3 l4 : Option Value} {x : Nat} : R d 9 60 [some (.ref x), l1, l2, l3, l4] st μ Q = R d 9 61 [some (.ref x), l1, l2, l3, l4] (.ref x :: st) μ Q := e_aload_n (show decode (bN 9) 60 = .ok (.aload_n 0, 1) by decide +kernel) rfl
theorem r9_61 {x : Nat} : R d 9 61 ls (.ref x :: st) μ Q = R d 9 62 ls (.ref x :: .ref x :: st) μ Q := e_dupA (show decode (bN 9) 61 = .ok (.dup, 1) by decide +kernel)
theorem r9_61i {x : Int32} : R d 9 61 ls (.int x :: st) μ Q = R d 9 62 ls (.int x :: .int x :: st) μ Q := e_dupI (show decode (bN 9) 61 = .ok (.dup, 1) by decide +kernel)
theorem r9_62 {a : Nat} : R d 9 62 ls (.ref a :: st) μ Q = (a % 100 = 1 ∧ R d 9 65 ls (.int (rI μ a 2) :: st) μ Q) := e_getfield (j := 2) (show decode (bN 9) 62 = .ok (.getfield 19, 3) by decide +kernel) (by decide +kernel) rfl
theorem r9_65 : R d 9 65 ls st μ Q = R d 9 66 ls (.int 1 :: st) μ Q := e_iconst (show decode (bN 9) 65 = .ok (.iconst 1, 1) by decide +kernel) rfl
theorem r9_66 {x z : Int32} : R d 9 66 ls (.int z :: .int x :: st) μ Q = R d 9 67 ls (.int (x + z) :: st) μ Q := e_iadd (show decode (bN 9) 66 = .ok (.iadd, 1) by decide +kernel)
theorem r9_67 {a : Nat} {x : Int32} : R d 9 67 ls (.int x :: .ref a :: st) μ Q = (a % 100 = 1 ∧ R d 9 70 ls st (wI μ a 2 x) Q) := e_putfield (j := 2) (show decode (bN 9) 67 = .ok (.putfield 19, 3) by decide +kernel) (by decide +kernel) (by decide +kernel) rfl
theorem r9_70 {l1 l2 l3 l4 : Option Value} {x : Nat} : R d 9 70 [some (.ref x), l1, l2, l3, l4] st μ Q = R d 9 71 [some (.ref x), l1, l2, l3, l4] (.ref x :: st) μ Q := e_aload_n (show decode (bN 9) 70 = .ok (.aload_n 0, 1) by decide +kernel) rfl
theorem r9_71 {l0 l1 l2 l4 : Option Value} {x : Int32} : R d 9 71 [l0, l1, l2, some (.int x), l4] st μ Q = R d 9 72 [l0, l1, l2, some (.int x), l4] (.int x :: st) μ Q := e_iload_n (show decode (bN 9) 71 = .ok (.iload_n 3, 1) by decide +kernel) rfl
theorem r9_72 {a : Nat} {v0 : Int32} : R (d + 1) 9 72 ls (.int v0 :: .ref a :: st) μ Q = ((a % 100 = 1 ∧ sw st ≤ 8) ∧ R d 15 0 [some (.ref a), some (.int v0)] [] μ (fun v μ' => R (d + 1) 9 75 ls (v.toList ++ st) μ' Q)) := e_callV (z := 15) (as := [.int v0]) (show decode (bN 9) 72 = .ok (.invokevirtual 62, 3) by decide +kernel) (by decide +kernel) rfl rfl rfl rfl
theorem r9_75 : R d 9 75 ls st μ Q = R d 9 104 ls st μ Q := e_goto (show decode (bN 9) 75 = .ok (.goto 29, 3) by decide +kernel) rfl
theorem r9_78 {l1 l2 l3 l4 : Option Value} {x : Nat} : R d 9 78 [some (.ref x), l1, l2, l3, l4] st μ Q = R d 9 79 [some (.ref x), l1, l2, l3, l4] (.ref x :: st) μ Q := e_aload_n (show decode (bN 9) 78 = .ok (.aload_n 0, 1) by decide +kernel) rfl
theorem r9_79 {a : Nat} : R d 9 79 ls (.ref a :: st) μ Q = (a % 100 = 1 ∧ R d 9 82 ls (va_rf (rR μ a 4) :: st) μ Q) := e_getfield (j := 4) (show decode (bN 9) 79 = .ok (.getfield 26, 3) by decide +kernel) (by decide +kernel) rfl
theorem r9_82 {l0 l1 l2 l4 : Option Value} {x : Int32} : R d 9 82 [l0, l1, l2, some (.int x), l4] st μ Q = R d 9 83 [l0, l1, l2, some (.int x), l4] (.int x :: st) μ Q := e_iload_n (show decode (bN 9) 82 = .ok (.iload_n 3, 1) by decide +kernel) rfl
theorem r9_83 : R d 9 83 ls st μ Q = R d 9 85 ls (.int 29 :: st) μ Q := e_bipush (show decode (bN 9) 83 = .ok (.bipush 29, 2) by decide +kernel) rfl
theorem r9_85 {x z : Int32} : R d 9 85 ls (.int z :: .int x :: st) μ Q = if ¬ x = z then R d 9 95 ls st μ Q else R d 9 88 ls st μ Q := e_ic_ne (show decode (bN 9) 85 = .ok (.if_icmp .ne 10, 3) by decide +kernel) rfl
theorem r9_88 {l0 l2 l3 l4 : Option Value} {x : Nat} : R d 9 88 [l0, some (.ref x), l2, l3, l4] st μ Q = R d 9 89 [l0, some (.ref x), l2, l3, l4] (.ref x :: st) μ Q := e_aload_n (show decode (bN 9) 88 = .ok (.aload_n 1, 1) by decide +kernel) rfl
theorem r9_89 {a : Nat} : R d 9 89 ls (.ref a :: st) μ Q = (a % 100 = 3 ∧ R d 9 92 ls (.int (rI μ a 4) :: st) μ Q) := e_getfield (j := 4) (show decode (bN 9) 89 = .ok (.getfield 65, 3) by decide +kernel) (by decide +kernel) rfl
theorem r9_92 : R d 9 92 ls st μ Q = R d 9 97 ls st μ Q := e_goto (show decode (bN 9) 92 = .ok (.goto 5, 3) by decide +kernel) rfl
theorem r9_95 {l0 l1 l2 l4 : Option Value} {x : Int32} : R d 9 95 [l0, l1, l2, some (.int x), l4] st μ Q = R d 9 96 [l0, l1, l2, some (.int x), l4] (.int x :: st) μ Q := e_iload_n (show decode (bN 9) 95 = .ok (.iload_n 3, 1) by decide +kernel) rfl
theorem r9_96 {x : Int32} : R d 9 96 ls (.int x :: st) μ Q = R d 9 97 ls (.int (-x) :: st) μ Q := e_ineg (show decode (bN 9) 96 = .ok (.ineg, 1) by decide +kernel)
theorem r9_97 {a : Nat} {v0 : Int32} : R (d + 1) 9 97 ls (.int v0 :: .ref a :: st) μ Q = ((a % 100 = 2 ∧ sw st ≤ 8) ∧ R d 21 0 [some (.ref a), some (.int v0)] [] μ (fun v μ' => R (d + 1) 9 100 ls (v.toList ++ st) μ' Q)) := e_callV (z := 21) (as := [.int v0]) (show decode (bN 9) 97 = .ok (.invokevirtual 68, 3) by decide +kernel) (by decide +kernel) rfl rfl rfl rfl
theorem r9_100 {l1 l2 l3 l4 : Option Value} {x : Nat} : R d 9 100 [some (.ref x), l1, l2, l3, l4] st μ Q = R d 9 101 [some (.ref x), l1, l2, l3, l4] (.ref x :: st) μ Q := e_aload_n (show decode (bN 9) 100 = .ok (.aload_n 0, 1) by decide +kernel) rfl
theorem r9_101 {a : Nat}  : R (d + 1) 9 101 ls (.ref a :: st) μ Q = ((a % 100 = 1 ∧ sw st ≤ 8) ∧ R d 12 0 [some (.ref a), none] [] μ (fun v μ' => R (d + 1) 9 104 ls (v.toList ++ st) μ' Q)) := e_callV (z := 12) (as := []) (show decode (bN 9) 101 = .ok (.invokevirtual 71, 3) by decide +kernel) (by decide +kernel) rfl rfl rfl rfl
theorem r9_104 : R d 9 104 ls st μ Q = R d 9 105 ls (.int 0 :: st) μ Q := e_iconst (show decode (bN 9) 104 = .ok (.iconst 0, 1) by decide +kernel) rfl
theorem r9_105 {x : Int32} : R d 9 105 ls [.int x] μ Q = Q (some (.int x)) μ := e_ireturn (show decode (bN 9) 105 = .ok (.ireturn, 1) by decide +kernel) rfl
/-! ChinRow$LawReader.mayBeFact(II)Z: 10 -/
theorem r10_0 {l0 : Option Value} {x : Int32} : R d 10 0 [l0, some (.int x)] st μ Q = R d 10 1 [l0, some (.int x)] (.int x :: st) μ Q := e_iload_n (show decode (bN 10) 0 = .ok (.iload_n 1, 1) by decide +kernel) rfl
theorem r10_1 : R d 10 1 ls st μ Q = R d 10 3 ls (.int 9 :: st) μ Q := e_bipush (show decode (bN 10) 1 = .ok (.bipush 9, 2) by decide +kernel) rfl
theorem r10_3 {x z : Int32} : R d 10 3 ls (.int z :: .int x :: st) μ Q = if ¬ x = z then R d 10 25 ls st μ Q else R d 10 6 ls st μ Q := e_ic_ne (show decode (bN 10) 3 = .ok (.if_icmp .ne 22, 3) by decide +kernel) rfl
theorem r10_6 {l1 : Option Value} {x : Int32} : R d 10 6 [some (.int x), l1] st μ Q = R d 10 7 [some (.int x), l1] (.int x :: st) μ Q := e_iload_n (show decode (bN 10) 6 = .ok (.iload_n 0, 1) by decide +kernel) rfl
theorem r10_7 : R d 10 7 ls st μ Q = R d 10 9 ls (.int 26 :: st) μ Q := e_bipush (show decode (bN 10) 7 = .ok (.bipush 26, 2) by decide +kernel) rfl
theorem r10_9 {x z : Int32} : R d 10 9 ls (.int z :: .int x :: st) μ Q = if x = z then R d 10 17 ls st μ Q else R d 10 12 ls st μ Q := e_ic_eq (show decode (bN 10) 9 = .ok (.if_icmp .eq 8, 3) by decide +kernel) rfl
theorem r10_12 {l1 : Option Value} {x : Int32} : R d 10 12 [some (.int x), l1] st μ Q = R d 10 13 [some (.int x), l1] (.int x :: st) μ Q := e_iload_n (show decode (bN 10) 12 = .ok (.iload_n 0, 1) by decide +kernel) rfl
theorem r10_13 : R d 10 13 ls st μ Q = R d 10 14 ls (.int 3 :: st) μ Q := e_iconst (show decode (bN 10) 13 = .ok (.iconst 3, 1) by decide +kernel) rfl
theorem r10_14 {x z : Int32} : R d 10 14 ls (.int z :: .int x :: st) μ Q = if ¬ x = z then R d 10 21 ls st μ Q else R d 10 17 ls st μ Q := e_ic_ne (show decode (bN 10) 14 = .ok (.if_icmp .ne 7, 3) by decide +kernel) rfl
theorem r10_17 : R d 10 17 ls st μ Q = R d 10 18 ls (.int 1 :: st) μ Q := e_iconst (show decode (bN 10) 17 = .ok (.iconst 1, 1) by decide +kernel) rfl
theorem r10_18 : R d 10 18 ls st μ Q = R d 10 29 ls st μ Q := e_goto (show decode (bN 10) 18 = .ok (.goto 11, 3) by decide +kernel) rfl
theorem r10_21 : R d 10 21 ls st μ Q = R d 10 22 ls (.int 0 :: st) μ Q := e_iconst (show decode (bN 10) 21 = .ok (.iconst 0, 1) by decide +kernel) rfl
theorem r10_22 : R d 10 22 ls st μ Q = R d 10 29 ls st μ Q := e_goto (show decode (bN 10) 22 = .ok (.goto 7, 3) by decide +kernel) rfl
theorem r10_25 {l1 : Option Value} {x : Int32} : R d 10 25 [some (.int x), l1] st μ Q = R d 10 26 [some (.int x), l1] (.int x :: st) μ Q := e_iload_n (show decode (bN 10) 25 = .ok (.iload_n 0, 1) by decide +kernel) rfl
theorem r10_26 {v0 : Int32} : R (d + 1) 10 26 ls (.int v0 :: st) μ Q = (sw st ≤ 8 ∧ R d 26 0 [some (.int v0)] [] μ (fun v μ' => R (d + 1) 10 29 ls (v.toList ++ st) μ' Q)) := e_callS (z := 26) (as := [.int v0]) (show decode (bN 10) 26 = .ok (.invokestatic 74, 3) by decide +kernel) (by decide +kernel) rfl rfl rfl
theorem r10_29 {x : Int32} : R d 10 29 ls [.int x] μ Q = ((x = 0 ∨ x = 1) ∧ Q (some (.int x)) μ) := e_zreturn (show decode (bN 10) 29 = .ok (.ireturn, 1) by decide +kernel) rfl
/-! ChinRow$LawReader.readOperator(I)I: 11 -/
theorem r11_0 {l0 l2 l3 : Option Value} {x : Int32} : R d 11 0 [l0, some (.int x), l2, l3] st μ Q = R d 11 1 [l0, some (.int x), l2, l3] (.int x :: st) μ Q := e_iload_n (show decode (bN 11) 0 = .ok (.iload_n 1, 1) by decide +kernel) rfl
theorem r11_1 : R d 11 1 ls st μ Q = R d 11 3 ls (.int 41 :: st) μ Q := e_bipush (show decode (bN 11) 1 = .ok (.bipush 41, 2) by decide +kernel) rfl
theorem r11_3 {x z : Int32} : R d 11 3 ls (.int z :: .int x :: st) μ Q = if ¬ x = z then R d 11 44 ls st μ Q else R d 11 6 ls st μ Q := e_ic_ne (show decode (bN 11) 3 = .ok (.if_icmp .ne 41, 3) by decide +kernel) rfl
theorem r11_6 {l1 l2 l3 : Option Value} {x : Nat} : R d 11 6 [some (.ref x), l1, l2, l3] st μ Q = R d 11 7 [some (.ref x), l1, l2, l3] (.ref x :: st) μ Q := e_aload_n (show decode (bN 11) 6 = .ok (.aload_n 0, 1) by decide +kernel) rfl
theorem r11_7 {a : Nat} : R d 11 7 ls (.ref a :: st) μ Q = (a % 100 = 1 ∧ R d 11 10 ls (.int (rI μ a 2) :: st) μ Q) := e_getfield (j := 2) (show decode (bN 11) 7 = .ok (.getfield 19, 3) by decide +kernel) (by decide +kernel) rfl
theorem r11_10 {x : Int32} : R d 11 10 ls (.int x :: st) μ Q = if x ≤ 0 then R d 11 44 ls st μ Q else R d 11 13 ls st μ Q := e_if_le (show decode (bN 11) 10 = .ok (.ifCond .le 34, 3) by decide +kernel) rfl
theorem r11_13 {l1 l2 l3 : Option Value} {x : Nat} : R d 11 13 [some (.ref x), l1, l2, l3] st μ Q = R d 11 14 [some (.ref x), l1, l2, l3] (.ref x :: st) μ Q := e_aload_n (show decode (bN 11) 13 = .ok (.aload_n 0, 1) by decide +kernel) rfl
theorem r11_14 : R d 11 14 ls st μ Q = R d 11 15 ls (.int 1 :: st) μ Q := e_iconst (show decode (bN 11) 14 = .ok (.iconst 1, 1) by decide +kernel) rfl
theorem r11_15 {a : Nat} {v0 : Int32} : R (d + 1) 11 15 ls (.int v0 :: .ref a :: st) μ Q = ((a % 100 = 1 ∧ sw st ≤ 8) ∧ R d 13 0 [some (.ref a), some (.int v0), none] [] μ (fun v μ' => R (d + 1) 11 18 ls (v.toList ++ st) μ' Q)) := e_callV (z := 13) (as := [.int v0]) (show decode (bN 11) 15 = .ok (.invokevirtual 41, 3) by decide +kernel) (by decide +kernel) rfl rfl rfl rfl
theorem r11_18 {l1 l2 l3 : Option Value} {x : Nat} : R d 11 18 [some (.ref x), l1, l2, l3] st μ Q = R d 11 19 [some (.ref x), l1, l2, l3] (.ref x :: st) μ Q := e_aload_n (show decode (bN 11) 18 = .ok (.aload_n 0, 1) by decide +kernel) rfl
theorem r11_19 {x : Nat} : R d 11 19 ls (.ref x :: st) μ Q = R d 11 20 ls (.ref x :: .ref x :: st) μ Q := e_dupA (show decode (bN 11) 19 = .ok (.dup, 1) by decide +kernel)
theorem r11_19i {x : Int32} : R d 11 19 ls (.int x :: st) μ Q = R d 11 20 ls (.int x :: .int x :: st) μ Q := e_dupI (show decode (bN 11) 19 = .ok (.dup, 1) by decide +kernel)
theorem r11_20 {a : Nat} : R d 11 20 ls (.ref a :: st) μ Q = (a % 100 = 1 ∧ R d 11 23 ls (.int (rI μ a 1) :: st) μ Q) := e_getfield (j := 1) (show decode (bN 11) 20 = .ok (.getfield 15, 3) by decide +kernel) (by decide +kernel) rfl
theorem r11_23 : R d 11 23 ls st μ Q = R d 11 24 ls (.int 1 :: st) μ Q := e_iconst (show decode (bN 11) 23 = .ok (.iconst 1, 1) by decide +kernel) rfl
theorem r11_24 {x z : Int32} : R d 11 24 ls (.int z :: .int x :: st) μ Q = R d 11 25 ls (.int (x - z) :: st) μ Q := e_isub (show decode (bN 11) 24 = .ok (.isub, 1) by decide +kernel)
theorem r11_25 {a : Nat} {x : Int32} : R d 11 25 ls (.int x :: .ref a :: st) μ Q = (a % 100 = 1 ∧ R d 11 28 ls st (wI μ a 1 x) Q) := e_putfield (j := 1) (show decode (bN 11) 25 = .ok (.putfield 15, 3) by decide +kernel) (by decide +kernel) (by decide +kernel) rfl
theorem r11_28 {l1 l2 l3 : Option Value} {x : Nat} : R d 11 28 [some (.ref x), l1, l2, l3] st μ Q = R d 11 29 [some (.ref x), l1, l2, l3] (.ref x :: st) μ Q := e_aload_n (show decode (bN 11) 28 = .ok (.aload_n 0, 1) by decide +kernel) rfl
theorem r11_29 {x : Nat} : R d 11 29 ls (.ref x :: st) μ Q = R d 11 30 ls (.ref x :: .ref x :: st) μ Q := e_dupA (show decode (bN 11) 29 = .ok (.dup, 1) by decide +kernel)
theorem r11_29i {x : Int32} : R d 11 29 ls (.int x :: st) μ Q = R d 11 30 ls (.int x :: .int x :: st) μ Q := e_dupI (show decode (bN 11) 29 = .ok (.dup, 1) by decide +kernel)
theorem r11_30 {a : Nat} : R d 11 30 ls (.ref a :: st) μ Q = (a % 100 = 1 ∧ R d 11 33 ls (.int (rI μ a 2) :: st) μ Q) := e_getfield (j := 2) (show decode (bN 11) 30 = .ok (.getfield 19, 3) by decide +kernel) (by decide +kernel) rfl
theorem r11_33 : R d 11 33 ls st μ Q = R d 11 34 ls (.int 1 :: st) μ Q := e_iconst (show decode (bN 11) 33 = .ok (.iconst 1, 1) by decide +kernel) rfl
theorem r11_34 {x z : Int32} : R d 11 34 ls (.int z :: .int x :: st) μ Q = R d 11 35 ls (.int (x - z) :: st) μ Q := e_isub (show decode (bN 11) 34 = .ok (.isub, 1) by decide +kernel)
theorem r11_35 {a : Nat} {x : Int32} : R d 11 35 ls (.int x :: .ref a :: st) μ Q = (a % 100 = 1 ∧ R d 11 38 ls st (wI μ a 2 x) Q) := e_putfield (j := 2) (show decode (bN 11) 35 = .ok (.putfield 19, 3) by decide +kernel) (by decide +kernel) (by decide +kernel) rfl
theorem r11_38 {l1 l2 l3 : Option Value} {x : Nat} : R d 11 38 [some (.ref x), l1, l2, l3] st μ Q = R d 11 39 [some (.ref x), l1, l2, l3] (.ref x :: st) μ Q := e_aload_n (show decode (bN 11) 38 = .ok (.aload_n 0, 1) by decide +kernel) rfl
theorem r11_39 {a : Nat}  : R (d + 1) 11 39 ls (.ref a :: st) μ Q = ((a % 100 = 1 ∧ sw st ≤ 8) ∧ R d 12 0 [some (.ref a), none] [] μ (fun v μ' => R (d + 1) 11 42 ls (v.toList ++ st) μ' Q)) := e_callV (z := 12) (as := []) (show decode (bN 11) 39 = .ok (.invokevirtual 71, 3) by decide +kernel) (by decide +kernel) rfl rfl rfl rfl
theorem r11_42 : R d 11 42 ls st μ Q = R d 11 43 ls (.int 0 :: st) μ Q := e_iconst (show decode (bN 11) 42 = .ok (.iconst 0, 1) by decide +kernel) rfl
theorem r11_43 {x : Int32} : R d 11 43 ls [.int x] μ Q = Q (some (.int x)) μ := e_ireturn (show decode (bN 11) 43 = .ok (.ireturn, 1) by decide +kernel) rfl
theorem r11_44 {l0 l2 l3 : Option Value} {x : Int32} : R d 11 44 [l0, some (.int x), l2, l3] st μ Q = R d 11 45 [l0, some (.int x), l2, l3] (.int x :: st) μ Q := e_iload_n (show decode (bN 11) 44 = .ok (.iload_n 1, 1) by decide +kernel) rfl
theorem r11_45 {v0 : Int32} : R (d + 1) 11 45 ls (.int v0 :: st) μ Q = (sw st ≤ 8 ∧ R d 16 0 [some (.int v0)] [] μ (fun v μ' => R (d + 1) 11 48 ls (v.toList ++ st) μ' Q)) := e_callS (z := 16) (as := [.int v0]) (show decode (bN 11) 45 = .ok (.invokestatic 78, 3) by decide +kernel) (by decide +kernel) rfl rfl rfl
theorem r11_48 {l0 l1 l2 l3 : Option Value} {x : Int32} : R d 11 48 [l0, l1, l2, l3] (.int x :: st) μ Q = R d 11 49 [l0, l1, some (.int x), l3] st μ Q := e_istore_n (show decode (bN 11) 48 = .ok (.istore_n 2, 1) by decide +kernel) (by decide +kernel) rfl
theorem r11_49 {l0 l1 l3 : Option Value} {x : Int32} : R d 11 49 [l0, l1, some (.int x), l3] st μ Q = R d 11 50 [l0, l1, some (.int x), l3] (.int x :: st) μ Q := e_iload_n (show decode (bN 11) 49 = .ok (.iload_n 2, 1) by decide +kernel) rfl
theorem r11_50 {x : Int32} : R d 11 50 ls (.int x :: st) μ Q = if ¬ x = 0 then R d 11 55 ls st μ Q else R d 11 53 ls st μ Q := e_if_ne (show decode (bN 11) 50 = .ok (.ifCond .ne 5, 3) by decide +kernel) rfl
theorem r11_53 : R d 11 53 ls st μ Q = R d 11 54 ls (.int 1 :: st) μ Q := e_iconst (show decode (bN 11) 53 = .ok (.iconst 1, 1) by decide +kernel) rfl
theorem r11_54 {x : Int32} : R d 11 54 ls [.int x] μ Q = Q (some (.int x)) μ := e_ireturn (show decode (bN 11) 54 = .ok (.ireturn, 1) by decide +kernel) rfl
theorem r11_55 {l0 l1 l3 : Option Value} {x : Int32} : R d 11 55 [l0, l1, some (.int x), l3] st μ Q = R d 11 56 [l0, l1, some (.int x), l3] (.int x :: st) μ Q := e_iload_n (show decode (bN 11) 55 = .ok (.iload_n 2, 1) by decide +kernel) rfl
theorem r11_56 : R d 11 56 ls st μ Q = R d 11 58 ls (.int 60 :: st) μ Q := e_bipush (show decode (bN 11) 56 = .ok (.bipush 60, 2) by decide +kernel) rfl
theorem r11_58 {v0 : Int32} : R (d + 1) 11 58 ls (.int v0 :: st) μ Q = (sw st ≤ 8 ∧ R d 16 0 [some (.int v0)] [] μ (fun v μ' => R (d + 1) 11 61 ls (v.toList ++ st) μ' Q)) := e_callS (z := 16) (as := [.int v0]) (show decode (bN 11) 58 = .ok (.invokestatic 78, 3) by decide +kernel) (by decide +kernel) rfl rfl rfl
theorem r11_61 {x z : Int32} : R d 11 61 ls (.int z :: .int x :: st) μ Q = if ¬ x = z then R d 11 68 ls st μ Q else R d 11 64 ls st μ Q := e_ic_ne (show decode (bN 11) 61 = .ok (.if_icmp .ne 7, 3) by decide +kernel) rfl
theorem r11_64 : R d 11 64 ls st μ Q = R d 11 65 ls (.int 1 :: st) μ Q := e_iconst (show decode (bN 11) 64 = .ok (.iconst 1, 1) by decide +kernel) rfl
theorem r11_65 : R d 11 65 ls st μ Q = R d 11 69 ls st μ Q := e_goto (show decode (bN 11) 65 = .ok (.goto 4, 3) by decide +kernel) rfl
theorem r11_68 : R d 11 68 ls st μ Q = R d 11 69 ls (.int 0 :: st) μ Q := e_iconst (show decode (bN 11) 68 = .ok (.iconst 0, 1) by decide +kernel) rfl
theorem r11_69 {l0 l1 l2 l3 : Option Value} {x : Int32} : R d 11 69 [l0, l1, l2, l3] (.int x :: st) μ Q = R d 11 70 [l0, l1, l2, some (.int x)] st μ Q := e_istore_n (show decode (bN 11) 69 = .ok (.istore_n 3, 1) by decide +kernel) (by decide +kernel) rfl
theorem r11_70 {l1 l2 l3 : Option Value} {x : Nat} : R d 11 70 [some (.ref x), l1, l2, l3] st μ Q = R d 11 71 [some (.ref x), l1, l2, l3] (.ref x :: st) μ Q := e_aload_n (show decode (bN 11) 70 = .ok (.aload_n 0, 1) by decide +kernel) rfl
theorem r11_71 {l0 l1 l2 : Option Value} {x : Int32} : R d 11 71 [l0, l1, l2, some (.int x)] st μ Q = R d 11 72 [l0, l1, l2, some (.int x)] (.int x :: st) μ Q := e_iload_n (show decode (bN 11) 71 = .ok (.iload_n 3, 1) by decide +kernel) rfl
theorem r11_72 {x : Int32} : R d 11 72 ls (.int x :: st) μ Q = if x = 0 then R d 11 81 ls st μ Q else R d 11 75 ls st μ Q := e_if_eq (show decode (bN 11) 72 = .ok (.ifCond .eq 9, 3) by decide +kernel) rfl
theorem r11_75 {l0 l1 l3 : Option Value} {x : Int32} : R d 11 75 [l0, l1, some (.int x), l3] st μ Q = R d 11 76 [l0, l1, some (.int x), l3] (.int x :: st) μ Q := e_iload_n (show decode (bN 11) 75 = .ok (.iload_n 2, 1) by decide +kernel) rfl
theorem r11_76 : R d 11 76 ls st μ Q = R d 11 77 ls (.int 1 :: st) μ Q := e_iconst (show decode (bN 11) 76 = .ok (.iconst 1, 1) by decide +kernel) rfl
theorem r11_77 {x z : Int32} : R d 11 77 ls (.int z :: .int x :: st) μ Q = R d 11 78 ls (.int (x + z) :: st) μ Q := e_iadd (show decode (bN 11) 77 = .ok (.iadd, 1) by decide +kernel)
theorem r11_78 : R d 11 78 ls st μ Q = R d 11 82 ls st μ Q := e_goto (show decode (bN 11) 78 = .ok (.goto 4, 3) by decide +kernel) rfl
theorem r11_81 {l0 l1 l3 : Option Value} {x : Int32} : R d 11 81 [l0, l1, some (.int x), l3] st μ Q = R d 11 82 [l0, l1, some (.int x), l3] (.int x :: st) μ Q := e_iload_n (show decode (bN 11) 81 = .ok (.iload_n 2, 1) by decide +kernel) rfl
theorem r11_82 {a : Nat} {v0 : Int32} : R (d + 1) 11 82 ls (.int v0 :: .ref a :: st) μ Q = ((a % 100 = 1 ∧ sw st ≤ 8) ∧ R d 13 0 [some (.ref a), some (.int v0), none] [] μ (fun v μ' => R (d + 1) 11 85 ls (v.toList ++ st) μ' Q)) := e_callV (z := 13) (as := [.int v0]) (show decode (bN 11) 82 = .ok (.invokevirtual 41, 3) by decide +kernel) (by decide +kernel) rfl rfl rfl rfl
theorem r11_85 {l0 l1 l2 : Option Value} {x : Int32} : R d 11 85 [l0, l1, l2, some (.int x)] st μ Q = R d 11 86 [l0, l1, l2, some (.int x)] (.int x :: st) μ Q := e_iload_n (show decode (bN 11) 85 = .ok (.iload_n 3, 1) by decide +kernel) rfl
theorem r11_86 {x : Int32} : R d 11 86 ls (.int x :: st) μ Q = if x = 0 then R d 11 102 ls st μ Q else R d 11 89 ls st μ Q := e_if_eq (show decode (bN 11) 86 = .ok (.ifCond .eq 16, 3) by decide +kernel) rfl
theorem r11_89 {l1 l2 l3 : Option Value} {x : Nat} : R d 11 89 [some (.ref x), l1, l2, l3] st μ Q = R d 11 90 [some (.ref x), l1, l2, l3] (.ref x :: st) μ Q := e_aload_n (show decode (bN 11) 89 = .ok (.aload_n 0, 1) by decide +kernel) rfl
theorem r11_90 {a : Nat}  : R (d + 1) 11 90 ls (.ref a :: st) μ Q = ((a % 100 = 1 ∧ sw st ≤ 8) ∧ R d 14 0 [some (.ref a)] [] μ (fun v μ' => R (d + 1) 11 93 ls (v.toList ++ st) μ' Q)) := e_callV (z := 14) (as := []) (show decode (bN 11) 90 = .ok (.invokevirtual 81, 3) by decide +kernel) (by decide +kernel) rfl rfl rfl rfl
theorem r11_93 {v0 : Int32} : R (d + 1) 11 93 ls (.int v0 :: st) μ Q = (sw st ≤ 8 ∧ R d 16 0 [some (.int v0)] [] μ (fun v μ' => R (d + 1) 11 96 ls (v.toList ++ st) μ' Q)) := e_callS (z := 16) (as := [.int v0]) (show decode (bN 11) 93 = .ok (.invokestatic 78, 3) by decide +kernel) (by decide +kernel) rfl rfl rfl
theorem r11_96 {l0 l1 l3 : Option Value} {x : Int32} : R d 11 96 [l0, l1, some (.int x), l3] st μ Q = R d 11 97 [l0, l1, some (.int x), l3] (.int x :: st) μ Q := e_iload_n (show decode (bN 11) 96 = .ok (.iload_n 2, 1) by decide +kernel) rfl
theorem r11_97 {x z : Int32} : R d 11 97 ls (.int z :: .int x :: st) μ Q = if ¬ x = z then R d 11 102 ls st μ Q else R d 11 100 ls st μ Q := e_ic_ne (show decode (bN 11) 97 = .ok (.if_icmp .ne 5, 3) by decide +kernel) rfl
theorem r11_100 : R d 11 100 ls st μ Q = R d 11 101 ls (.int 1 :: st) μ Q := e_iconst (show decode (bN 11) 100 = .ok (.iconst 1, 1) by decide +kernel) rfl
theorem r11_101 {x : Int32} : R d 11 101 ls [.int x] μ Q = Q (some (.int x)) μ := e_ireturn (show decode (bN 11) 101 = .ok (.ireturn, 1) by decide +kernel) rfl
theorem r11_102 {l1 l2 l3 : Option Value} {x : Nat} : R d 11 102 [some (.ref x), l1, l2, l3] st μ Q = R d 11 103 [some (.ref x), l1, l2, l3] (.ref x :: st) μ Q := e_aload_n (show decode (bN 11) 102 = .ok (.aload_n 0, 1) by decide +kernel) rfl
theorem r11_103 {l0 l2 l3 : Option Value} {x : Int32} : R d 11 103 [l0, some (.int x), l2, l3] st μ Q = R d 11 104 [l0, some (.int x), l2, l3] (.int x :: st) μ Q := e_iload_n (show decode (bN 11) 103 = .ok (.iload_n 1, 1) by decide +kernel) rfl
theorem r11_104 {a : Nat} {v0 : Int32} : R (d + 1) 11 104 ls (.int v0 :: .ref a :: st) μ Q = ((a % 100 = 1 ∧ sw st ≤ 8) ∧ R d 15 0 [some (.ref a), some (.int v0)] [] μ (fun v μ' => R (d + 1) 11 107 ls (v.toList ++ st) μ' Q)) := e_callV (z := 15) (as := [.int v0]) (show decode (bN 11) 104 = .ok (.invokevirtual 62, 3) by decide +kernel) (by decide +kernel) rfl rfl rfl rfl
theorem r11_107 {l1 l2 l3 : Option Value} {x : Nat} : R d 11 107 [some (.ref x), l1, l2, l3] st μ Q = R d 11 108 [some (.ref x), l1, l2, l3] (.ref x :: st) μ Q := e_aload_n (show decode (bN 11) 107 = .ok (.aload_n 0, 1) by decide +kernel) rfl
theorem r11_108 : R d 11 108 ls st μ Q = R d 11 109 ls (.int 1 :: st) μ Q := e_iconst (show decode (bN 11) 108 = .ok (.iconst 1, 1) by decide +kernel) rfl
theorem r11_109 {a : Nat} {x : Int32} : R d 11 109 ls (.int x :: .ref a :: st) μ Q = ((a % 100 = 1 ∧ (x = 0 ∨ x = 1)) ∧ R d 11 112 ls st (wI μ a 3 x) Q) := e_putfieldZ (j := 3) (show decode (bN 11) 109 = .ok (.putfield 22, 3) by decide +kernel) (by decide +kernel) (by decide +kernel) rfl
theorem r11_112 : R d 11 112 ls st μ Q = R d 11 113 ls (.int 0 :: st) μ Q := e_iconst (show decode (bN 11) 112 = .ok (.iconst 0, 1) by decide +kernel) rfl
theorem r11_113 {x : Int32} : R d 11 113 ls [.int x] μ Q = Q (some (.int x)) μ := e_ireturn (show decode (bN 11) 113 = .ok (.ireturn, 1) by decide +kernel) rfl
/-! ChinRow$LawReader.endPart()V: 12 -/
theorem r12_0 : R d 12 0 ls st μ Q = R d 12 1 ls (.int 0 :: st) μ Q := e_iconst (show decode (bN 12) 0 = .ok (.iconst 0, 1) by decide +kernel) rfl
theorem r12_1 {l0 l1 : Option Value} {x : Int32} : R d 12 1 [l0, l1] (.int x :: st) μ Q = R d 12 2 [l0, some (.int x)] st μ Q := e_istore_n (show decode (bN 12) 1 = .ok (.istore_n 1, 1) by decide +kernel) (by decide +kernel) rfl
theorem r12_2 {l0 : Option Value} {x : Int32} : R d 12 2 [l0, some (.int x)] st μ Q = R d 12 3 [l0, some (.int x)] (.int x :: st) μ Q := e_iload_n (show decode (bN 12) 2 = .ok (.iload_n 1, 1) by decide +kernel) rfl
theorem r12_3 : R d 12 3 ls st μ Q = R d 12 4 ls (.int 5 :: st) μ Q := e_iconst (show decode (bN 12) 3 = .ok (.iconst 5, 1) by decide +kernel) rfl
theorem r12_4 {x z : Int32} : R d 12 4 ls (.int z :: .int x :: st) μ Q = if z < x then R d 12 51 ls st μ Q else R d 12 7 ls st μ Q := e_ic_gt (show decode (bN 12) 4 = .ok (.if_icmp .gt 47, 3) by decide +kernel) rfl
theorem r12_7 {l1 : Option Value} {x : Nat} : R d 12 7 [some (.ref x), l1] st μ Q = R d 12 8 [some (.ref x), l1] (.ref x :: st) μ Q := e_aload_n (show decode (bN 12) 7 = .ok (.aload_n 0, 1) by decide +kernel) rfl
theorem r12_8 {a : Nat}  : R (d + 1) 12 8 ls (.ref a :: st) μ Q = ((a % 100 = 1 ∧ sw st ≤ 8) ∧ R d 14 0 [some (.ref a)] [] μ (fun v μ' => R (d + 1) 12 11 ls (v.toList ++ st) μ' Q)) := e_callV (z := 14) (as := []) (show decode (bN 12) 8 = .ok (.invokevirtual 81, 3) by decide +kernel) (by decide +kernel) rfl rfl rfl rfl
theorem r12_11 : R d 12 11 ls st μ Q = R d 12 13 ls (.int 23 :: st) μ Q := e_bipush (show decode (bN 12) 11 = .ok (.bipush 23, 2) by decide +kernel) rfl
theorem r12_13 {x z : Int32} : R d 12 13 ls (.int z :: .int x :: st) μ Q = if ¬ x = z then R d 12 51 ls st μ Q else R d 12 16 ls st μ Q := e_ic_ne (show decode (bN 12) 13 = .ok (.if_icmp .ne 38, 3) by decide +kernel) rfl
theorem r12_16 {l1 : Option Value} {x : Nat} : R d 12 16 [some (.ref x), l1] st μ Q = R d 12 17 [some (.ref x), l1] (.ref x :: st) μ Q := e_aload_n (show decode (bN 12) 16 = .ok (.aload_n 0, 1) by decide +kernel) rfl
theorem r12_17 {a : Nat} : R d 12 17 ls (.ref a :: st) μ Q = (a % 100 = 1 ∧ R d 12 20 ls (va_rf (rR μ a 4) :: st) μ Q) := e_getfield (j := 4) (show decode (bN 12) 17 = .ok (.getfield 26, 3) by decide +kernel) (by decide +kernel) rfl
theorem r12_20 : R d 12 20 ls st μ Q = R d 12 22 ls (.int (-23) :: st) μ Q := e_bipush (show decode (bN 12) 20 = .ok (.bipush (-23), 2) by decide +kernel) rfl
theorem r12_22 {a : Nat} {v0 : Int32} : R (d + 1) 12 22 ls (.int v0 :: .ref a :: st) μ Q = ((a % 100 = 2 ∧ sw st ≤ 8) ∧ R d 21 0 [some (.ref a), some (.int v0)] [] μ (fun v μ' => R (d + 1) 12 25 ls (v.toList ++ st) μ' Q)) := e_callV (z := 21) (as := [.int v0]) (show decode (bN 12) 22 = .ok (.invokevirtual 68, 3) by decide +kernel) (by decide +kernel) rfl rfl rfl rfl
theorem r12_25 {l1 : Option Value} {x : Nat} : R d 12 25 [some (.ref x), l1] st μ Q = R d 12 26 [some (.ref x), l1] (.ref x :: st) μ Q := e_aload_n (show decode (bN 12) 25 = .ok (.aload_n 0, 1) by decide +kernel) rfl
theorem r12_26 {x : Nat} : R d 12 26 ls (.ref x :: st) μ Q = R d 12 27 ls (.ref x :: .ref x :: st) μ Q := e_dupA (show decode (bN 12) 26 = .ok (.dup, 1) by decide +kernel)
theorem r12_26i {x : Int32} : R d 12 26 ls (.int x :: st) μ Q = R d 12 27 ls (.int x :: .int x :: st) μ Q := e_dupI (show decode (bN 12) 26 = .ok (.dup, 1) by decide +kernel)
theorem r12_27 {a : Nat} : R d 12 27 ls (.ref a :: st) μ Q = (a % 100 = 1 ∧ R d 12 30 ls (.int (rI μ a 1) :: st) μ Q) := e_getfield (j := 1) (show decode (bN 12) 27 = .ok (.getfield 15, 3) by decide +kernel) (by decide +kernel) rfl
theorem r12_30 : R d 12 30 ls st μ Q = R d 12 31 ls (.int 1 :: st) μ Q := e_iconst (show decode (bN 12) 30 = .ok (.iconst 1, 1) by decide +kernel) rfl
theorem r12_31 {x z : Int32} : R d 12 31 ls (.int z :: .int x :: st) μ Q = R d 12 32 ls (.int (x - z) :: st) μ Q := e_isub (show decode (bN 12) 31 = .ok (.isub, 1) by decide +kernel)
theorem r12_32 {a : Nat} {x : Int32} : R d 12 32 ls (.int x :: .ref a :: st) μ Q = (a % 100 = 1 ∧ R d 12 35 ls st (wI μ a 1 x) Q) := e_putfield (j := 1) (show decode (bN 12) 32 = .ok (.putfield 15, 3) by decide +kernel) (by decide +kernel) (by decide +kernel) rfl
theorem r12_35 {l1 : Option Value} {x : Nat} : R d 12 35 [some (.ref x), l1] st μ Q = R d 12 36 [some (.ref x), l1] (.ref x :: st) μ Q := e_aload_n (show decode (bN 12) 35 = .ok (.aload_n 0, 1) by decide +kernel) rfl
theorem r12_36 {x : Nat} : R d 12 36 ls (.ref x :: st) μ Q = R d 12 37 ls (.ref x :: .ref x :: st) μ Q := e_dupA (show decode (bN 12) 36 = .ok (.dup, 1) by decide +kernel)
theorem r12_36i {x : Int32} : R d 12 36 ls (.int x :: st) μ Q = R d 12 37 ls (.int x :: .int x :: st) μ Q := e_dupI (show decode (bN 12) 36 = .ok (.dup, 1) by decide +kernel)
theorem r12_37 {a : Nat} : R d 12 37 ls (.ref a :: st) μ Q = (a % 100 = 1 ∧ R d 12 40 ls (.int (rI μ a 2) :: st) μ Q) := e_getfield (j := 2) (show decode (bN 12) 37 = .ok (.getfield 19, 3) by decide +kernel) (by decide +kernel) rfl
theorem r12_40 : R d 12 40 ls st μ Q = R d 12 41 ls (.int 1 :: st) μ Q := e_iconst (show decode (bN 12) 40 = .ok (.iconst 1, 1) by decide +kernel) rfl
theorem r12_41 {x z : Int32} : R d 12 41 ls (.int z :: .int x :: st) μ Q = R d 12 42 ls (.int (x - z) :: st) μ Q := e_isub (show decode (bN 12) 41 = .ok (.isub, 1) by decide +kernel)
theorem r12_42 {a : Nat} {x : Int32} : R d 12 42 ls (.int x :: .ref a :: st) μ Q = (a % 100 = 1 ∧ R d 12 45 ls st (wI μ a 2 x) Q) := e_putfield (j := 2) (show decode (bN 12) 42 = .ok (.putfield 19, 3) by decide +kernel) (by decide +kernel) (by decide +kernel) rfl
theorem r12_45 {l0 : Option Value} {x : Int32} : R d 12 45 [l0, some (.int x)] st μ Q = R d 12 48 [l0, some (.int (x + 1))] st μ Q := e_iinc (show decode (bN 12) 45 = .ok (.iinc 1 1, 3) by decide +kernel) (by decide +kernel) rfl rfl rfl
theorem r12_48 : R d 12 48 ls st μ Q = R d 12 2 ls st μ Q := e_goto (show decode (bN 12) 48 = .ok (.goto (-46), 3) by decide +kernel) rfl
theorem r12_51 {l1 : Option Value} {x : Nat} : R d 12 51 [some (.ref x), l1] st μ Q = R d 12 52 [some (.ref x), l1] (.ref x :: st) μ Q := e_aload_n (show decode (bN 12) 51 = .ok (.aload_n 0, 1) by decide +kernel) rfl
theorem r12_52 : R d 12 52 ls st μ Q = R d 12 53 ls (.int 0 :: st) μ Q := e_iconst (show decode (bN 12) 52 = .ok (.iconst 0, 1) by decide +kernel) rfl
theorem r12_53 {a : Nat} {x : Int32} : R d 12 53 ls (.int x :: .ref a :: st) μ Q = ((a % 100 = 1 ∧ (x = 0 ∨ x = 1)) ∧ R d 12 56 ls st (wI μ a 3 x) Q) := e_putfieldZ (j := 3) (show decode (bN 12) 53 = .ok (.putfield 22, 3) by decide +kernel) (by decide +kernel) (by decide +kernel) rfl
theorem r12_56 : R d 12 56 ls [] μ Q = Q none μ := e_return (show decode (bN 12) 56 = .ok (.return_, 1) by decide +kernel) rfl
/-! ChinRow$LawReader.joinDownTo(I)V: 13 -/
theorem r13_0 : R d 13 0 ls st μ Q = R d 13 1 ls (.int 0 :: st) μ Q := e_iconst (show decode (bN 13) 0 = .ok (.iconst 0, 1) by decide +kernel) rfl
theorem r13_1 {l0 l1 l2 : Option Value} {x : Int32} : R d 13 1 [l0, l1, l2] (.int x :: st) μ Q = R d 13 2 [l0, l1, some (.int x)] st μ Q := e_istore_n (show decode (bN 13) 1 = .ok (.istore_n 2, 1) by decide +kernel) (by decide +kernel) rfl
theorem r13_2 {l0 l1 : Option Value} {x : Int32} : R d 13 2 [l0, l1, some (.int x)] st μ Q = R d 13 3 [l0, l1, some (.int x)] (.int x :: st) μ Q := e_iload_n (show decode (bN 13) 2 = .ok (.iload_n 2, 1) by decide +kernel) rfl
theorem r13_3 {l1 l2 : Option Value} {x : Nat} : R d 13 3 [some (.ref x), l1, l2] st μ Q = R d 13 4 [some (.ref x), l1, l2] (.ref x :: st) μ Q := e_aload_n (show decode (bN 13) 3 = .ok (.aload_n 0, 1) by decide +kernel) rfl
theorem r13_4 {a : Nat} : R d 13 4 ls (.ref a :: st) μ Q = (a % 100 = 1 ∧ R d 13 7 ls (va_rf (rR μ a 0) :: st) μ Q) := e_getfield (j := 0) (show decode (bN 13) 4 = .ok (.getfield 9, 3) by decide +kernel) (by decide +kernel) rfl
theorem r13_7 {a : Nat} : R d 13 7 ls (.ref a :: st) μ Q = ((20 ≤ a % 100 ∧ a % 100 ≤ 24) ∧ R d 13 8 ls (.int (Int32.ofNat (a / 100 % 10000)) :: st) μ Q) := e_alen (show decode (bN 13) 7 = .ok (.arraylength, 1) by decide +kernel)
theorem r13_8 {x z : Int32} : R d 13 8 ls (.int z :: .int x :: st) μ Q = if z ≤ x then R d 13 50 ls st μ Q else R d 13 11 ls st μ Q := e_ic_ge (show decode (bN 13) 8 = .ok (.if_icmp .ge 42, 3) by decide +kernel) rfl
theorem r13_11 {l1 l2 : Option Value} {x : Nat} : R d 13 11 [some (.ref x), l1, l2] st μ Q = R d 13 12 [some (.ref x), l1, l2] (.ref x :: st) μ Q := e_aload_n (show decode (bN 13) 11 = .ok (.aload_n 0, 1) by decide +kernel) rfl
theorem r13_12 {a : Nat}  : R (d + 1) 13 12 ls (.ref a :: st) μ Q = ((a % 100 = 1 ∧ sw st ≤ 8) ∧ R d 14 0 [some (.ref a)] [] μ (fun v μ' => R (d + 1) 13 15 ls (v.toList ++ st) μ' Q)) := e_callV (z := 14) (as := []) (show decode (bN 13) 12 = .ok (.invokevirtual 81, 3) by decide +kernel) (by decide +kernel) rfl rfl rfl rfl
theorem r13_15 {v0 : Int32} : R (d + 1) 13 15 ls (.int v0 :: st) μ Q = (sw st ≤ 8 ∧ R d 16 0 [some (.int v0)] [] μ (fun v μ' => R (d + 1) 13 18 ls (v.toList ++ st) μ' Q)) := e_callS (z := 16) (as := [.int v0]) (show decode (bN 13) 15 = .ok (.invokestatic 78, 3) by decide +kernel) (by decide +kernel) rfl rfl rfl
theorem r13_18 {l0 l2 : Option Value} {x : Int32} : R d 13 18 [l0, some (.int x), l2] st μ Q = R d 13 19 [l0, some (.int x), l2] (.int x :: st) μ Q := e_iload_n (show decode (bN 13) 18 = .ok (.iload_n 1, 1) by decide +kernel) rfl
theorem r13_19 {x z : Int32} : R d 13 19 ls (.int z :: .int x :: st) μ Q = if x < z then R d 13 50 ls st μ Q else R d 13 22 ls st μ Q := e_ic_lt (show decode (bN 13) 19 = .ok (.if_icmp .lt 31, 3) by decide +kernel) rfl
theorem r13_22 {l1 l2 : Option Value} {x : Nat} : R d 13 22 [some (.ref x), l1, l2] st μ Q = R d 13 23 [some (.ref x), l1, l2] (.ref x :: st) μ Q := e_aload_n (show decode (bN 13) 22 = .ok (.aload_n 0, 1) by decide +kernel) rfl
theorem r13_23 {a : Nat} : R d 13 23 ls (.ref a :: st) μ Q = (a % 100 = 1 ∧ R d 13 26 ls (va_rf (rR μ a 4) :: st) μ Q) := e_getfield (j := 4) (show decode (bN 13) 23 = .ok (.getfield 26, 3) by decide +kernel) (by decide +kernel) rfl
theorem r13_26 {l1 l2 : Option Value} {x : Nat} : R d 13 26 [some (.ref x), l1, l2] st μ Q = R d 13 27 [some (.ref x), l1, l2] (.ref x :: st) μ Q := e_aload_n (show decode (bN 13) 26 = .ok (.aload_n 0, 1) by decide +kernel) rfl
theorem r13_27 {a : Nat}  : R (d + 1) 13 27 ls (.ref a :: st) μ Q = ((a % 100 = 1 ∧ sw st ≤ 8) ∧ R d 14 0 [some (.ref a)] [] μ (fun v μ' => R (d + 1) 13 30 ls (v.toList ++ st) μ' Q)) := e_callV (z := 14) (as := []) (show decode (bN 13) 27 = .ok (.invokevirtual 81, 3) by decide +kernel) (by decide +kernel) rfl rfl rfl rfl
theorem r13_30 {x : Int32} : R d 13 30 ls (.int x :: st) μ Q = R d 13 31 ls (.int (-x) :: st) μ Q := e_ineg (show decode (bN 13) 30 = .ok (.ineg, 1) by decide +kernel)
theorem r13_31 {a : Nat} {v0 : Int32} : R (d + 1) 13 31 ls (.int v0 :: .ref a :: st) μ Q = ((a % 100 = 2 ∧ sw st ≤ 8) ∧ R d 21 0 [some (.ref a), some (.int v0)] [] μ (fun v μ' => R (d + 1) 13 34 ls (v.toList ++ st) μ' Q)) := e_callV (z := 21) (as := [.int v0]) (show decode (bN 13) 31 = .ok (.invokevirtual 68, 3) by decide +kernel) (by decide +kernel) rfl rfl rfl rfl
theorem r13_34 {l1 l2 : Option Value} {x : Nat} : R d 13 34 [some (.ref x), l1, l2] st μ Q = R d 13 35 [some (.ref x), l1, l2] (.ref x :: st) μ Q := e_aload_n (show decode (bN 13) 34 = .ok (.aload_n 0, 1) by decide +kernel) rfl
theorem r13_35 {x : Nat} : R d 13 35 ls (.ref x :: st) μ Q = R d 13 36 ls (.ref x :: .ref x :: st) μ Q := e_dupA (show decode (bN 13) 35 = .ok (.dup, 1) by decide +kernel)
theorem r13_35i {x : Int32} : R d 13 35 ls (.int x :: st) μ Q = R d 13 36 ls (.int x :: .int x :: st) μ Q := e_dupI (show decode (bN 13) 35 = .ok (.dup, 1) by decide +kernel)
theorem r13_36 {a : Nat} : R d 13 36 ls (.ref a :: st) μ Q = (a % 100 = 1 ∧ R d 13 39 ls (.int (rI μ a 1) :: st) μ Q) := e_getfield (j := 1) (show decode (bN 13) 36 = .ok (.getfield 15, 3) by decide +kernel) (by decide +kernel) rfl
theorem r13_39 : R d 13 39 ls st μ Q = R d 13 40 ls (.int 1 :: st) μ Q := e_iconst (show decode (bN 13) 39 = .ok (.iconst 1, 1) by decide +kernel) rfl
theorem r13_40 {x z : Int32} : R d 13 40 ls (.int z :: .int x :: st) μ Q = R d 13 41 ls (.int (x - z) :: st) μ Q := e_isub (show decode (bN 13) 40 = .ok (.isub, 1) by decide +kernel)
theorem r13_41 {a : Nat} {x : Int32} : R d 13 41 ls (.int x :: .ref a :: st) μ Q = (a % 100 = 1 ∧ R d 13 44 ls st (wI μ a 1 x) Q) := e_putfield (j := 1) (show decode (bN 13) 41 = .ok (.putfield 15, 3) by decide +kernel) (by decide +kernel) (by decide +kernel) rfl
theorem r13_44 {l0 l1 : Option Value} {x : Int32} : R d 13 44 [l0, l1, some (.int x)] st μ Q = R d 13 47 [l0, l1, some (.int (x + 1))] st μ Q := e_iinc (show decode (bN 13) 44 = .ok (.iinc 2 1, 3) by decide +kernel) (by decide +kernel) rfl rfl rfl
theorem r13_47 : R d 13 47 ls st μ Q = R d 13 2 ls st μ Q := e_goto (show decode (bN 13) 47 = .ok (.goto (-45), 3) by decide +kernel) rfl
theorem r13_50 : R d 13 50 ls [] μ Q = Q none μ := e_return (show decode (bN 13) 50 = .ok (.return_, 1) by decide +kernel) rfl
/-! ChinRow$LawReader.top()I: 14 -/
theorem r14_0  {x : Nat} : R d 14 0 [some (.ref x)] st μ Q = R d 14 1 [some (.ref x)] (.ref x :: st) μ Q := e_aload_n (show decode (bN 14) 0 = .ok (.aload_n 0, 1) by decide +kernel) rfl
theorem r14_1 {a : Nat} : R d 14 1 ls (.ref a :: st) μ Q = (a % 100 = 1 ∧ R d 14 4 ls (.int (rI μ a 1) :: st) μ Q) := e_getfield (j := 1) (show decode (bN 14) 1 = .ok (.getfield 15, 3) by decide +kernel) (by decide +kernel) rfl
theorem r14_4 {x : Int32} : R d 14 4 ls (.int x :: st) μ Q = if x ≤ 0 then R d 14 33 ls st μ Q else R d 14 7 ls st μ Q := e_if_le (show decode (bN 14) 4 = .ok (.ifCond .le 29, 3) by decide +kernel) rfl
theorem r14_7  {x : Nat} : R d 14 7 [some (.ref x)] st μ Q = R d 14 8 [some (.ref x)] (.ref x :: st) μ Q := e_aload_n (show decode (bN 14) 7 = .ok (.aload_n 0, 1) by decide +kernel) rfl
theorem r14_8 {a : Nat} : R d 14 8 ls (.ref a :: st) μ Q = (a % 100 = 1 ∧ R d 14 11 ls (.int (rI μ a 1) :: st) μ Q) := e_getfield (j := 1) (show decode (bN 14) 8 = .ok (.getfield 15, 3) by decide +kernel) (by decide +kernel) rfl
theorem r14_11  {x : Nat} : R d 14 11 [some (.ref x)] st μ Q = R d 14 12 [some (.ref x)] (.ref x :: st) μ Q := e_aload_n (show decode (bN 14) 11 = .ok (.aload_n 0, 1) by decide +kernel) rfl
theorem r14_12 {a : Nat} : R d 14 12 ls (.ref a :: st) μ Q = (a % 100 = 1 ∧ R d 14 15 ls (va_rf (rR μ a 0) :: st) μ Q) := e_getfield (j := 0) (show decode (bN 14) 12 = .ok (.getfield 9, 3) by decide +kernel) (by decide +kernel) rfl
theorem r14_15 {a : Nat} : R d 14 15 ls (.ref a :: st) μ Q = ((20 ≤ a % 100 ∧ a % 100 ≤ 24) ∧ R d 14 16 ls (.int (Int32.ofNat (a / 100 % 10000)) :: st) μ Q) := e_alen (show decode (bN 14) 15 = .ok (.arraylength, 1) by decide +kernel)
theorem r14_16 {x z : Int32} : R d 14 16 ls (.int z :: .int x :: st) μ Q = if z < x then R d 14 33 ls st μ Q else R d 14 19 ls st μ Q := e_ic_gt (show decode (bN 14) 16 = .ok (.if_icmp .gt 17, 3) by decide +kernel) rfl
theorem r14_19  {x : Nat} : R d 14 19 [some (.ref x)] st μ Q = R d 14 20 [some (.ref x)] (.ref x :: st) μ Q := e_aload_n (show decode (bN 14) 19 = .ok (.aload_n 0, 1) by decide +kernel) rfl
theorem r14_20 {a : Nat} : R d 14 20 ls (.ref a :: st) μ Q = (a % 100 = 1 ∧ R d 14 23 ls (va_rf (rR μ a 0) :: st) μ Q) := e_getfield (j := 0) (show decode (bN 14) 20 = .ok (.getfield 9, 3) by decide +kernel) (by decide +kernel) rfl
theorem r14_23  {x : Nat} : R d 14 23 [some (.ref x)] st μ Q = R d 14 24 [some (.ref x)] (.ref x :: st) μ Q := e_aload_n (show decode (bN 14) 23 = .ok (.aload_n 0, 1) by decide +kernel) rfl
theorem r14_24 {a : Nat} : R d 14 24 ls (.ref a :: st) μ Q = (a % 100 = 1 ∧ R d 14 27 ls (.int (rI μ a 1) :: st) μ Q) := e_getfield (j := 1) (show decode (bN 14) 24 = .ok (.getfield 15, 3) by decide +kernel) (by decide +kernel) rfl
theorem r14_27 : R d 14 27 ls st μ Q = R d 14 28 ls (.int 1 :: st) μ Q := e_iconst (show decode (bN 14) 27 = .ok (.iconst 1, 1) by decide +kernel) rfl
theorem r14_28 {x z : Int32} : R d 14 28 ls (.int z :: .int x :: st) μ Q = R d 14 29 ls (.int (x - z) :: st) μ Q := e_isub (show decode (bN 14) 28 = .ok (.isub, 1) by decide +kernel)
theorem r14_29 {a : Nat} {i : Int32} : R d 14 29 ls (.int i :: .ref a :: st) μ Q = ((a % 100 = 20 ∧ ¬ (i < 0 ∨ a / 100 % 10000 ≤ i.toNatClampNeg)) ∧ R d 14 30 ls (.int (rI μ a i.toNatClampNeg) :: st) μ Q) := e_iaload (show decode (bN 14) 29 = .ok (.iaload, 1) by decide +kernel)
theorem r14_30 : R d 14 30 ls st μ Q = R d 14 35 ls st μ Q := e_goto (show decode (bN 14) 30 = .ok (.goto 5, 3) by decide +kernel) rfl
theorem r14_33 : R d 14 33 ls st μ Q = R d 14 35 ls (.int 30 :: st) μ Q := e_bipush (show decode (bN 14) 33 = .ok (.bipush 30, 2) by decide +kernel) rfl
theorem r14_35 {x : Int32} : R d 14 35 ls [.int x] μ Q = Q (some (.int x)) μ := e_ireturn (show decode (bN 14) 35 = .ok (.ireturn, 1) by decide +kernel) rfl
/-! ChinRow$LawReader.push(I)V: 15 -/
theorem r15_0 {l1 : Option Value} {x : Nat} : R d 15 0 [some (.ref x), l1] st μ Q = R d 15 1 [some (.ref x), l1] (.ref x :: st) μ Q := e_aload_n (show decode (bN 15) 0 = .ok (.aload_n 0, 1) by decide +kernel) rfl
theorem r15_1 {a : Nat} : R d 15 1 ls (.ref a :: st) μ Q = (a % 100 = 1 ∧ R d 15 4 ls (.int (rI μ a 1) :: st) μ Q) := e_getfield (j := 1) (show decode (bN 15) 1 = .ok (.getfield 15, 3) by decide +kernel) (by decide +kernel) rfl
theorem r15_4 {l1 : Option Value} {x : Nat} : R d 15 4 [some (.ref x), l1] st μ Q = R d 15 5 [some (.ref x), l1] (.ref x :: st) μ Q := e_aload_n (show decode (bN 15) 4 = .ok (.aload_n 0, 1) by decide +kernel) rfl
theorem r15_5 {a : Nat} : R d 15 5 ls (.ref a :: st) μ Q = (a % 100 = 1 ∧ R d 15 8 ls (va_rf (rR μ a 0) :: st) μ Q) := e_getfield (j := 0) (show decode (bN 15) 5 = .ok (.getfield 9, 3) by decide +kernel) (by decide +kernel) rfl
theorem r15_8 {a : Nat} : R d 15 8 ls (.ref a :: st) μ Q = ((20 ≤ a % 100 ∧ a % 100 ≤ 24) ∧ R d 15 9 ls (.int (Int32.ofNat (a / 100 % 10000)) :: st) μ Q) := e_alen (show decode (bN 15) 8 = .ok (.arraylength, 1) by decide +kernel)
theorem r15_9 {x z : Int32} : R d 15 9 ls (.int z :: .int x :: st) μ Q = if z ≤ x then R d 15 32 ls st μ Q else R d 15 12 ls st μ Q := e_ic_ge (show decode (bN 15) 9 = .ok (.if_icmp .ge 23, 3) by decide +kernel) rfl
theorem r15_12 {l1 : Option Value} {x : Nat} : R d 15 12 [some (.ref x), l1] st μ Q = R d 15 13 [some (.ref x), l1] (.ref x :: st) μ Q := e_aload_n (show decode (bN 15) 12 = .ok (.aload_n 0, 1) by decide +kernel) rfl
theorem r15_13 {a : Nat} : R d 15 13 ls (.ref a :: st) μ Q = (a % 100 = 1 ∧ R d 15 16 ls (va_rf (rR μ a 0) :: st) μ Q) := e_getfield (j := 0) (show decode (bN 15) 13 = .ok (.getfield 9, 3) by decide +kernel) (by decide +kernel) rfl
theorem r15_16 {l1 : Option Value} {x : Nat} : R d 15 16 [some (.ref x), l1] st μ Q = R d 15 17 [some (.ref x), l1] (.ref x :: st) μ Q := e_aload_n (show decode (bN 15) 16 = .ok (.aload_n 0, 1) by decide +kernel) rfl
theorem r15_17 {a : Nat} : R d 15 17 ls (.ref a :: st) μ Q = (a % 100 = 1 ∧ R d 15 20 ls (.int (rI μ a 1) :: st) μ Q) := e_getfield (j := 1) (show decode (bN 15) 17 = .ok (.getfield 15, 3) by decide +kernel) (by decide +kernel) rfl
theorem r15_20 {l0 : Option Value} {x : Int32} : R d 15 20 [l0, some (.int x)] st μ Q = R d 15 21 [l0, some (.int x)] (.int x :: st) μ Q := e_iload_n (show decode (bN 15) 20 = .ok (.iload_n 1, 1) by decide +kernel) rfl
theorem r15_21 {a : Nat} {i : Int32} {x : Int32} : R d 15 21 ls (.int x :: .int i :: .ref a :: st) μ Q = ((a % 100 = 20 ∧ 2000000 ≤ a ∧ ¬ (i < 0 ∨ a / 100 % 10000 ≤ i.toNatClampNeg)) ∧ R d 15 22 ls st (wI μ a i.toNatClampNeg x) Q) := e_iastore (show decode (bN 15) 21 = .ok (.iastore, 1) by decide +kernel)
theorem r15_22 {l1 : Option Value} {x : Nat} : R d 15 22 [some (.ref x), l1] st μ Q = R d 15 23 [some (.ref x), l1] (.ref x :: st) μ Q := e_aload_n (show decode (bN 15) 22 = .ok (.aload_n 0, 1) by decide +kernel) rfl
theorem r15_23 {x : Nat} : R d 15 23 ls (.ref x :: st) μ Q = R d 15 24 ls (.ref x :: .ref x :: st) μ Q := e_dupA (show decode (bN 15) 23 = .ok (.dup, 1) by decide +kernel)
theorem r15_23i {x : Int32} : R d 15 23 ls (.int x :: st) μ Q = R d 15 24 ls (.int x :: .int x :: st) μ Q := e_dupI (show decode (bN 15) 23 = .ok (.dup, 1) by decide +kernel)
theorem r15_24 {a : Nat} : R d 15 24 ls (.ref a :: st) μ Q = (a % 100 = 1 ∧ R d 15 27 ls (.int (rI μ a 1) :: st) μ Q) := e_getfield (j := 1) (show decode (bN 15) 24 = .ok (.getfield 15, 3) by decide +kernel) (by decide +kernel) rfl
theorem r15_27 : R d 15 27 ls st μ Q = R d 15 28 ls (.int 1 :: st) μ Q := e_iconst (show decode (bN 15) 27 = .ok (.iconst 1, 1) by decide +kernel) rfl
theorem r15_28 {x z : Int32} : R d 15 28 ls (.int z :: .int x :: st) μ Q = R d 15 29 ls (.int (x + z) :: st) μ Q := e_iadd (show decode (bN 15) 28 = .ok (.iadd, 1) by decide +kernel)
theorem r15_29 {a : Nat} {x : Int32} : R d 15 29 ls (.int x :: .ref a :: st) μ Q = (a % 100 = 1 ∧ R d 15 32 ls st (wI μ a 1 x) Q) := e_putfield (j := 1) (show decode (bN 15) 29 = .ok (.putfield 15, 3) by decide +kernel) (by decide +kernel) (by decide +kernel) rfl
theorem r15_32 : R d 15 32 ls [] μ Q = Q none μ := e_return (show decode (bN 15) 32 = .ok (.return_, 1) by decide +kernel) rfl
/-! ChinRow$LawReader.rankOf(I)I: 16 -/
theorem r16_0  {x : Int32} : R d 16 0 [some (.int x)] st μ Q = R d 16 1 [some (.int x)] (.int x :: st) μ Q := e_iload_n (show decode (bN 16) 0 = .ok (.iload_n 0, 1) by decide +kernel) rfl
theorem r16_1 {x : Int32} : R d 16 1 ls (.int x :: st) μ Q = if x = 24 then R d 16 68 ls st μ Q else if x = 25 then R d 16 68 ls st μ Q else if x = 42 then R d 16 74 ls st μ Q else if x = 43 then R d 16 72 ls st μ Q else if x = 45 then R d 16 72 ls st μ Q else if x = 60 then R d 16 70 ls st μ Q else if x = 61 then R d 16 70 ls st μ Q else R d 16 76 ls st μ Q := by
  have hd : decode (bN 16) 1 = .ok (.lookupswitch 75 #[(24, 67), (25, 67), (42, 73), (43, 71), (45, 71), (60, 69), (61, 69)], 67) := by decide +kernel
  by_cases h0 : x = 24
  · rw [if_pos h0]; subst h0; exact e_lsw hd (by decide +kernel) (off := 67) (by decide +kernel) rfl
  rw [if_neg h0]
  by_cases h1 : x = 25
  · rw [if_pos h1]; subst h1; exact e_lsw hd (by decide +kernel) (off := 67) (by decide +kernel) rfl
  rw [if_neg h1]
  by_cases h2 : x = 42
  · rw [if_pos h2]; subst h2; exact e_lsw hd (by decide +kernel) (off := 73) (by decide +kernel) rfl
  rw [if_neg h2]
  by_cases h3 : x = 43
  · rw [if_pos h3]; subst h3; exact e_lsw hd (by decide +kernel) (off := 71) (by decide +kernel) rfl
  rw [if_neg h3]
  by_cases h4 : x = 45
  · rw [if_pos h4]; subst h4; exact e_lsw hd (by decide +kernel) (off := 71) (by decide +kernel) rfl
  rw [if_neg h4]
  by_cases h5 : x = 60
  · rw [if_pos h5]; subst h5; exact e_lsw hd (by decide +kernel) (off := 69) (by decide +kernel) rfl
  rw [if_neg h5]
  by_cases h6 : x = 61
  · rw [if_pos h6]; subst h6; exact e_lsw hd (by decide +kernel) (off := 69) (by decide +kernel) rfl
  rw [if_neg h6]
  refine e_lsw hd (by decide +kernel) (off := 75) ?_ rfl
  show Op.lookupswitch.offset [(24, 67), (25, 67), (42, 73), (43, 71), (45, 71), (60, 69), (61, 69)] 75 x.toInt = 75
  rw [lv_osw (a := 24) h0 rfl, lv_osw (a := 25) h1 rfl, lv_osw (a := 42) h2 rfl, lv_osw (a := 43) h3 rfl, lv_osw (a := 45) h4 rfl, lv_osw (a := 60) h5 rfl, lv_osw (a := 61) h6 rfl]
  rfl
theorem r16_68 : R d 16 68 ls st μ Q = R d 16 69 ls (.int 1 :: st) μ Q := e_iconst (show decode (bN 16) 68 = .ok (.iconst 1, 1) by decide +kernel) rfl
theorem r16_69 {x : Int32} : R d 16 69 ls [.int x] μ Q = Q (some (.int x)) μ := e_ireturn (show decode (bN 16) 69 = .ok (.ireturn, 1) by decide +kernel) rfl
theorem r16_70 : R d 16 70 ls st μ Q = R d 16 71 ls (.int 2 :: st) μ Q := e_iconst (show decode (bN 16) 70 = .ok (.iconst 2, 1) by decide +kernel) rfl
theorem r16_71 {x : Int32} : R d 16 71 ls [.int x] μ Q = Q (some (.int x)) μ := e_ireturn (show decode (bN 16) 71 = .ok (.ireturn, 1) by decide +kernel) rfl
theorem r16_72 : R d 16 72 ls st μ Q = R d 16 73 ls (.int 3 :: st) μ Q := e_iconst (show decode (bN 16) 72 = .ok (.iconst 3, 1) by decide +kernel) rfl
theorem r16_73 {x : Int32} : R d 16 73 ls [.int x] μ Q = Q (some (.int x)) μ := e_ireturn (show decode (bN 16) 73 = .ok (.ireturn, 1) by decide +kernel) rfl
theorem r16_74 : R d 16 74 ls st μ Q = R d 16 75 ls (.int 4 :: st) μ Q := e_iconst (show decode (bN 16) 74 = .ok (.iconst 4, 1) by decide +kernel) rfl
theorem r16_75 {x : Int32} : R d 16 75 ls [.int x] μ Q = Q (some (.int x)) μ := e_ireturn (show decode (bN 16) 75 = .ok (.ireturn, 1) by decide +kernel) rfl
theorem r16_76 : R d 16 76 ls st μ Q = R d 16 77 ls (.int 0 :: st) μ Q := e_iconst (show decode (bN 16) 76 = .ok (.iconst 0, 1) by decide +kernel) rfl
theorem r16_77 {x : Int32} : R d 16 77 ls [.int x] μ Q = Q (some (.int x)) μ := e_ireturn (show decode (bN 16) 77 = .ok (.ireturn, 1) by decide +kernel) rfl
end RQ
