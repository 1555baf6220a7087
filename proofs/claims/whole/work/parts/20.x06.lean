section RQ
variable {d : Nat} {ls : PL} {st : List Value} {μ : PM} {Q : Option Value → PM → Prop}
/-! ChinRow$Past.<init>()V: 63 -/
theorem r63_0 {l1 : Option Value} {x : Nat} : R d 63 0 [some (.ref x), l1] st μ Q = R d 63 1 [some (.ref x), l1] (.ref x :: st) μ Q := e_aload_n (show decode (bN 63) 0 = .ok (.aload_n 0, 1) by decide +kernel) rfl
theorem r63_1 {a : Nat} : R d 63 1 ls (.ref a :: st) μ Q = (sw st ≤ 8 ∧ R d 63 4 ls st μ Q) := e_oinit (show decode (bN 63) 1 = .ok (.invokespecial 3, 3) by decide +kernel) (by decide +kernel) (by decide +kernel)
theorem r63_4 {l1 : Option Value} {x : Nat} : R d 63 4 [some (.ref x), l1] st μ Q = R d 63 5 [some (.ref x), l1] (.ref x :: st) μ Q := e_aload_n (show decode (bN 63) 4 = .ok (.aload_n 0, 1) by decide +kernel) rfl
theorem r63_5 : R d 63 5 ls st μ Q = R d 63 7 ls (.int 20 :: st) μ Q := e_bipush (show decode (bN 63) 5 = .ok (.bipush 20, 2) by decide +kernel) rfl
theorem r63_7 {n : Int32} : R d 63 7 ls (.int n :: st) μ Q = ((¬ n < 0 ∧ n.toNatClampNeg < 10000) ∧ R d 63 10 ls (.ref (nx μ n.toNatClampNeg 24) :: st) (nw μ (nx μ n.toNatClampNeg 24)) Q) := e_newq (show decode (bN 63) 7 = .ok (.anewarray 9, 3) by decide +kernel) (by decide +kernel)
theorem r63_10 {a b : Nat} : R d 63 10 ls (.ref b :: .ref a :: st) μ Q = (a % 100 = 6 ∧ R d 63 13 ls st (wR μ a 0 (some b)) Q) := e_putfield (j := 0) (show decode (bN 63) 10 = .ok (.putfield 11, 3) by decide +kernel) (by decide +kernel) (by decide +kernel) rfl
theorem r63_10n {a : Nat} : R d 63 10 ls (.null :: .ref a :: st) μ Q = (a % 100 = 6 ∧ R d 63 13 ls st (wR μ a 0 none) Q) := e_putfield (j := 0) (show decode (bN 63) 10 = .ok (.putfield 11, 3) by decide +kernel) (by decide +kernel) (by decide +kernel) rfl
theorem r63_13 {l1 : Option Value} {x : Nat} : R d 63 13 [some (.ref x), l1] st μ Q = R d 63 14 [some (.ref x), l1] (.ref x :: st) μ Q := e_aload_n (show decode (bN 63) 13 = .ok (.aload_n 0, 1) by decide +kernel) rfl
theorem r63_14 : R d 63 14 ls st μ Q = R d 63 15 ls (.int 0 :: st) μ Q := e_iconst (show decode (bN 63) 14 = .ok (.iconst 0, 1) by decide +kernel) rfl
theorem r63_15 {a : Nat} {x : Int32} : R d 63 15 ls (.int x :: .ref a :: st) μ Q = (a % 100 = 6 ∧ R d 63 18 ls st (wI μ a 1 x) Q) := e_putfield (j := 1) (show decode (bN 63) 15 = .ok (.putfield 17, 3) by decide +kernel) (by decide +kernel) (by decide +kernel) rfl
theorem r63_18 {l1 : Option Value} {x : Nat} : R d 63 18 [some (.ref x), l1] st μ Q = R d 63 19 [some (.ref x), l1] (.ref x :: st) μ Q := e_aload_n (show decode (bN 63) 18 = .ok (.aload_n 0, 1) by decide +kernel) rfl
theorem r63_19 : R d 63 19 ls st μ Q = R d 63 20 ls (.int 0 :: st) μ Q := e_iconst (show decode (bN 63) 19 = .ok (.iconst 0, 1) by decide +kernel) rfl
theorem r63_20 {a : Nat} {x : Int32} : R d 63 20 ls (.int x :: .ref a :: st) μ Q = (a % 100 = 6 ∧ R d 63 23 ls st (wI μ a 2 x) Q) := e_putfield (j := 2) (show decode (bN 63) 20 = .ok (.putfield 21, 3) by decide +kernel) (by decide +kernel) (by decide +kernel) rfl
theorem r63_23 : R d 63 23 ls st μ Q = R d 63 24 ls (.int 0 :: st) μ Q := e_iconst (show decode (bN 63) 23 = .ok (.iconst 0, 1) by decide +kernel) rfl
theorem r63_24 {l0 l1 : Option Value} {x : Int32} : R d 63 24 [l0, l1] (.int x :: st) μ Q = R d 63 25 [l0, some (.int x)] st μ Q := e_istore_n (show decode (bN 63) 24 = .ok (.istore_n 1, 1) by decide +kernel) (by decide +kernel) rfl
theorem r63_25 {l0 : Option Value} {x : Int32} : R d 63 25 [l0, some (.int x)] st μ Q = R d 63 26 [l0, some (.int x)] (.int x :: st) μ Q := e_iload_n (show decode (bN 63) 25 = .ok (.iload_n 1, 1) by decide +kernel) rfl
theorem r63_26 : R d 63 26 ls st μ Q = R d 63 28 ls (.int 20 :: st) μ Q := e_bipush (show decode (bN 63) 26 = .ok (.bipush 20, 2) by decide +kernel) rfl
theorem r63_28 {x z : Int32} : R d 63 28 ls (.int z :: .int x :: st) μ Q = if z ≤ x then R d 63 50 ls st μ Q else R d 63 31 ls st μ Q := e_ic_ge (show decode (bN 63) 28 = .ok (.if_icmp .ge 22, 3) by decide +kernel) rfl
theorem r63_31 {l1 : Option Value} {x : Nat} : R d 63 31 [some (.ref x), l1] st μ Q = R d 63 32 [some (.ref x), l1] (.ref x :: st) μ Q := e_aload_n (show decode (bN 63) 31 = .ok (.aload_n 0, 1) by decide +kernel) rfl
theorem r63_32 {a : Nat} : R d 63 32 ls (.ref a :: st) μ Q = (a % 100 = 6 ∧ R d 63 35 ls (va_rf (rR μ a 0) :: st) μ Q) := e_getfield (j := 0) (show decode (bN 63) 32 = .ok (.getfield 11, 3) by decide +kernel) (by decide +kernel) rfl
theorem r63_35 {l0 : Option Value} {x : Int32} : R d 63 35 [l0, some (.int x)] st μ Q = R d 63 36 [l0, some (.int x)] (.int x :: st) μ Q := e_iload_n (show decode (bN 63) 35 = .ok (.iload_n 1, 1) by decide +kernel) rfl
theorem r63_36 : R d 63 36 ls st μ Q = R d 63 39 ls (.ref (nx μ 0 8) :: st) (nw μ (nx μ 0 8)) Q := e_new (show decode (bN 63) 36 = .ok (.new 9, 3) by decide +kernel) (by decide +kernel)
theorem r63_39 {x : Nat} : R d 63 39 ls (.ref x :: st) μ Q = R d 63 40 ls (.ref x :: .ref x :: st) μ Q := e_dupA (show decode (bN 63) 39 = .ok (.dup, 1) by decide +kernel)
theorem r63_39i {x : Int32} : R d 63 39 ls (.int x :: st) μ Q = R d 63 40 ls (.int x :: .int x :: st) μ Q := e_dupI (show decode (bN 63) 39 = .ok (.dup, 1) by decide +kernel)
theorem r63_40 {a : Nat}  : R (d + 1) 63 40 ls (.ref a :: st) μ Q = ((a % 100 = 8 ∧ sw st ≤ 8) ∧ R d 81 0 [some (.ref a)] [] μ (fun v μ' => R (d + 1) 63 43 ls (v.toList ++ st) μ' Q)) := e_callI (z := 81) (as := []) (show decode (bN 63) 40 = .ok (.invokespecial 24, 3) by decide +kernel) (by decide +kernel) rfl rfl rfl rfl
theorem r63_43 {v a : Nat} {i : Int32} : R d 63 43 ls (.ref v :: .int i :: .ref a :: st) μ Q = ((a % 100 = 24 ∧ v % 100 = 8 ∧ 2000000 ≤ a ∧ ¬ (i < 0 ∨ a / 100 % 10000 ≤ i.toNatClampNeg)) ∧ R d 63 44 ls st (wR μ a i.toNatClampNeg (some v)) Q) := e_aastore (show decode (bN 63) 43 = .ok (.aastore, 1) by decide +kernel)
theorem r63_44 {l0 : Option Value} {x : Int32} : R d 63 44 [l0, some (.int x)] st μ Q = R d 63 47 [l0, some (.int (x + 1))] st μ Q := e_iinc (show decode (bN 63) 44 = .ok (.iinc 1 1, 3) by decide +kernel) (by decide +kernel) rfl rfl rfl
theorem r63_47 : R d 63 47 ls st μ Q = R d 63 25 ls st μ Q := e_goto (show decode (bN 63) 47 = .ok (.goto (-22), 3) by decide +kernel) rfl
theorem r63_50 : R d 63 50 ls [] μ Q = Q none μ := e_return (show decode (bN 63) 50 = .ok (.return_, 1) by decide +kernel) rfl
/-! ChinRow$Past.forget()V: 64 -/
theorem r64_0  {x : Nat} : R d 64 0 [some (.ref x)] st μ Q = R d 64 1 [some (.ref x)] (.ref x :: st) μ Q := e_aload_n (show decode (bN 64) 0 = .ok (.aload_n 0, 1) by decide +kernel) rfl
theorem r64_1 : R d 64 1 ls st μ Q = R d 64 2 ls (.int 0 :: st) μ Q := e_iconst (show decode (bN 64) 1 = .ok (.iconst 0, 1) by decide +kernel) rfl
theorem r64_2 {a : Nat} {x : Int32} : R d 64 2 ls (.int x :: .ref a :: st) μ Q = (a % 100 = 6 ∧ R d 64 5 ls st (wI μ a 2 x) Q) := e_putfield (j := 2) (show decode (bN 64) 2 = .ok (.putfield 21, 3) by decide +kernel) (by decide +kernel) (by decide +kernel) rfl
theorem r64_5 : R d 64 5 ls [] μ Q = Q none μ := e_return (show decode (bN 64) 5 = .ok (.return_, 1) by decide +kernel) rfl
/-! ChinRow$Past.keep(LChinRow$Stand;)V: 65 -/
theorem r65_0 {l1 : Option Value} {x : Nat} : R d 65 0 [some (.ref x), l1] st μ Q = R d 65 1 [some (.ref x), l1] (.ref x :: st) μ Q := e_aload_n (show decode (bN 65) 0 = .ok (.aload_n 0, 1) by decide +kernel) rfl
theorem r65_1 {a : Nat} : R d 65 1 ls (.ref a :: st) μ Q = (a % 100 = 6 ∧ R d 65 4 ls (va_rf (rR μ a 0) :: st) μ Q) := e_getfield (j := 0) (show decode (bN 65) 1 = .ok (.getfield 11, 3) by decide +kernel) (by decide +kernel) rfl
theorem r65_4 {l1 : Option Value} {x : Nat} : R d 65 4 [some (.ref x), l1] st μ Q = R d 65 5 [some (.ref x), l1] (.ref x :: st) μ Q := e_aload_n (show decode (bN 65) 4 = .ok (.aload_n 0, 1) by decide +kernel) rfl
theorem r65_5 {a : Nat} : R d 65 5 ls (.ref a :: st) μ Q = (a % 100 = 6 ∧ R d 65 8 ls (.int (rI μ a 1) :: st) μ Q) := e_getfield (j := 1) (show decode (bN 65) 5 = .ok (.getfield 17, 3) by decide +kernel) (by decide +kernel) rfl
theorem r65_8 {a : Nat} {i : Int32} : R d 65 8 ls (.int i :: .ref a :: st) μ Q = ((a % 100 = 24 ∧ ¬ (i < 0 ∨ a / 100 % 10000 ≤ i.toNatClampNeg)) ∧ R d 65 9 ls (va_rf (rR μ a i.toNatClampNeg) :: st) μ Q) := e_aaload (show decode (bN 65) 8 = .ok (.aaload, 1) by decide +kernel)
theorem r65_9 {l0 : Option Value} {x : Nat} : R d 65 9 [l0, some (.ref x)] st μ Q = R d 65 10 [l0, some (.ref x)] (.ref x :: st) μ Q := e_aload_n (show decode (bN 65) 9 = .ok (.aload_n 1, 1) by decide +kernel) rfl
theorem r65_10 {a : Nat} {v0 : Nat} : R (d + 1) 65 10 ls (.ref v0 :: .ref a :: st) μ Q = ((a % 100 = 8 ∧ sw st ≤ 8) ∧ R d 83 0 [some (.ref a), some (.ref v0)] [] μ (fun v μ' => R (d + 1) 65 13 ls (v.toList ++ st) μ' Q)) := e_callV (z := 83) (as := [.ref v0]) (show decode (bN 65) 10 = .ok (.invokevirtual 25, 3) by decide +kernel) (by decide +kernel) rfl rfl rfl rfl
theorem r65_13 {l1 : Option Value} {x : Nat} : R d 65 13 [some (.ref x), l1] st μ Q = R d 65 14 [some (.ref x), l1] (.ref x :: st) μ Q := e_aload_n (show decode (bN 65) 13 = .ok (.aload_n 0, 1) by decide +kernel) rfl
theorem r65_14 {l1 : Option Value} {x : Nat} : R d 65 14 [some (.ref x), l1] st μ Q = R d 65 15 [some (.ref x), l1] (.ref x :: st) μ Q := e_aload_n (show decode (bN 65) 14 = .ok (.aload_n 0, 1) by decide +kernel) rfl
theorem r65_15 {a : Nat} : R d 65 15 ls (.ref a :: st) μ Q = (a % 100 = 6 ∧ R d 65 18 ls (.int (rI μ a 1) :: st) μ Q) := e_getfield (j := 1) (show decode (bN 65) 15 = .ok (.getfield 17, 3) by decide +kernel) (by decide +kernel) rfl
theorem r65_18 : R d 65 18 ls st μ Q = R d 65 19 ls (.int 1 :: st) μ Q := e_iconst (show decode (bN 65) 18 = .ok (.iconst 1, 1) by decide +kernel) rfl
theorem r65_19 {x z : Int32} : R d 65 19 ls (.int z :: .int x :: st) μ Q = R d 65 20 ls (.int (x + z) :: st) μ Q := e_iadd (show decode (bN 65) 19 = .ok (.iadd, 1) by decide +kernel)
theorem r65_20 : R d 65 20 ls st μ Q = R d 65 22 ls (.int 20 :: st) μ Q := e_bipush (show decode (bN 65) 20 = .ok (.bipush 20, 2) by decide +kernel) rfl
theorem r65_22 {x z : Int32} : R d 65 22 ls (.int z :: .int x :: st) μ Q = (¬ z = 0 ∧ R d 65 23 ls (.int (x - x / z * z) :: st) μ Q) := e_irem (show decode (bN 65) 22 = .ok (.irem, 1) by decide +kernel)
theorem r65_23 {a : Nat} {x : Int32} : R d 65 23 ls (.int x :: .ref a :: st) μ Q = (a % 100 = 6 ∧ R d 65 26 ls st (wI μ a 1 x) Q) := e_putfield (j := 1) (show decode (bN 65) 23 = .ok (.putfield 17, 3) by decide +kernel) (by decide +kernel) (by decide +kernel) rfl
theorem r65_26 {l1 : Option Value} {x : Nat} : R d 65 26 [some (.ref x), l1] st μ Q = R d 65 27 [some (.ref x), l1] (.ref x :: st) μ Q := e_aload_n (show decode (bN 65) 26 = .ok (.aload_n 0, 1) by decide +kernel) rfl
theorem r65_27 {l1 : Option Value} {x : Nat} : R d 65 27 [some (.ref x), l1] st μ Q = R d 65 28 [some (.ref x), l1] (.ref x :: st) μ Q := e_aload_n (show decode (bN 65) 27 = .ok (.aload_n 0, 1) by decide +kernel) rfl
theorem r65_28 {a : Nat} : R d 65 28 ls (.ref a :: st) μ Q = (a % 100 = 6 ∧ R d 65 31 ls (.int (rI μ a 2) :: st) μ Q) := e_getfield (j := 2) (show decode (bN 65) 28 = .ok (.getfield 21, 3) by decide +kernel) (by decide +kernel) rfl
theorem r65_31 : R d 65 31 ls st μ Q = R d 65 32 ls (.int 1 :: st) μ Q := e_iconst (show decode (bN 65) 31 = .ok (.iconst 1, 1) by decide +kernel) rfl
theorem r65_32 {x z : Int32} : R d 65 32 ls (.int z :: .int x :: st) μ Q = R d 65 33 ls (.int (x + z) :: st) μ Q := e_iadd (show decode (bN 65) 32 = .ok (.iadd, 1) by decide +kernel)
theorem r65_33 : R d 65 33 ls st μ Q = R d 65 35 ls (.int 20 :: st) μ Q := e_bipush (show decode (bN 65) 33 = .ok (.bipush 20, 2) by decide +kernel) rfl
theorem r65_35 {x z : Int32} : R d 65 35 ls (.int z :: .int x :: st) μ Q = (sw st ≤ 8 ∧ R d 65 38 ls (.int (if z < x then z else x) :: st) μ Q) := e_min (show decode (bN 65) 35 = .ok (.invokestatic 29, 3) by decide +kernel) (by decide +kernel) (by decide +kernel)
theorem r65_38 {a : Nat} {x : Int32} : R d 65 38 ls (.int x :: .ref a :: st) μ Q = (a % 100 = 6 ∧ R d 65 41 ls st (wI μ a 2 x) Q) := e_putfield (j := 2) (show decode (bN 65) 38 = .ok (.putfield 21, 3) by decide +kernel) (by decide +kernel) (by decide +kernel) rfl
theorem r65_41 : R d 65 41 ls [] μ Q = Q none μ := e_return (show decode (bN 65) 41 = .ok (.return_, 1) by decide +kernel) rfl
/-! ChinRow$Past.giveBack(LChinRow$Stand;)Z: 66 -/
theorem r66_0 {l1 : Option Value} {x : Nat} : R d 66 0 [some (.ref x), l1] st μ Q = R d 66 1 [some (.ref x), l1] (.ref x :: st) μ Q := e_aload_n (show decode (bN 66) 0 = .ok (.aload_n 0, 1) by decide +kernel) rfl
theorem r66_1 {a : Nat} : R d 66 1 ls (.ref a :: st) μ Q = (a % 100 = 6 ∧ R d 66 4 ls (.int (rI μ a 2) :: st) μ Q) := e_getfield (j := 2) (show decode (bN 66) 1 = .ok (.getfield 21, 3) by decide +kernel) (by decide +kernel) rfl
theorem r66_4 {x : Int32} : R d 66 4 ls (.int x :: st) μ Q = if ¬ x = 0 then R d 66 9 ls st μ Q else R d 66 7 ls st μ Q := e_if_ne (show decode (bN 66) 4 = .ok (.ifCond .ne 5, 3) by decide +kernel) rfl
theorem r66_7 : R d 66 7 ls st μ Q = R d 66 8 ls (.int 0 :: st) μ Q := e_iconst (show decode (bN 66) 7 = .ok (.iconst 0, 1) by decide +kernel) rfl
theorem r66_8 {x : Int32} : R d 66 8 ls [.int x] μ Q = ((x = 0 ∨ x = 1) ∧ Q (some (.int x)) μ) := e_zreturn (show decode (bN 66) 8 = .ok (.ireturn, 1) by decide +kernel) rfl
theorem r66_9 {l1 : Option Value} {x : Nat} : R d 66 9 [some (.ref x), l1] st μ Q = R d 66 10 [some (.ref x), l1] (.ref x :: st) μ Q := e_aload_n (show decode (bN 66) 9 = .ok (.aload_n 0, 1) by decide +kernel) rfl
theorem r66_10 {l1 : Option Value} {x : Nat} : R d 66 10 [some (.ref x), l1] st μ Q = R d 66 11 [some (.ref x), l1] (.ref x :: st) μ Q := e_aload_n (show decode (bN 66) 10 = .ok (.aload_n 0, 1) by decide +kernel) rfl
theorem r66_11 {a : Nat} : R d 66 11 ls (.ref a :: st) μ Q = (a % 100 = 6 ∧ R d 66 14 ls (.int (rI μ a 1) :: st) μ Q) := e_getfield (j := 1) (show decode (bN 66) 11 = .ok (.getfield 17, 3) by decide +kernel) (by decide +kernel) rfl
theorem r66_14 : R d 66 14 ls st μ Q = R d 66 16 ls (.int 20 :: st) μ Q := e_bipush (show decode (bN 66) 14 = .ok (.bipush 20, 2) by decide +kernel) rfl
theorem r66_16 {x z : Int32} : R d 66 16 ls (.int z :: .int x :: st) μ Q = R d 66 17 ls (.int (x + z) :: st) μ Q := e_iadd (show decode (bN 66) 16 = .ok (.iadd, 1) by decide +kernel)
theorem r66_17 : R d 66 17 ls st μ Q = R d 66 18 ls (.int 1 :: st) μ Q := e_iconst (show decode (bN 66) 17 = .ok (.iconst 1, 1) by decide +kernel) rfl
theorem r66_18 {x z : Int32} : R d 66 18 ls (.int z :: .int x :: st) μ Q = R d 66 19 ls (.int (x - z) :: st) μ Q := e_isub (show decode (bN 66) 18 = .ok (.isub, 1) by decide +kernel)
theorem r66_19 : R d 66 19 ls st μ Q = R d 66 21 ls (.int 20 :: st) μ Q := e_bipush (show decode (bN 66) 19 = .ok (.bipush 20, 2) by decide +kernel) rfl
theorem r66_21 {x z : Int32} : R d 66 21 ls (.int z :: .int x :: st) μ Q = (¬ z = 0 ∧ R d 66 22 ls (.int (x - x / z * z) :: st) μ Q) := e_irem (show decode (bN 66) 21 = .ok (.irem, 1) by decide +kernel)
theorem r66_22 {a : Nat} {x : Int32} : R d 66 22 ls (.int x :: .ref a :: st) μ Q = (a % 100 = 6 ∧ R d 66 25 ls st (wI μ a 1 x) Q) := e_putfield (j := 1) (show decode (bN 66) 22 = .ok (.putfield 17, 3) by decide +kernel) (by decide +kernel) (by decide +kernel) rfl
theorem r66_25 {l1 : Option Value} {x : Nat} : R d 66 25 [some (.ref x), l1] st μ Q = R d 66 26 [some (.ref x), l1] (.ref x :: st) μ Q := e_aload_n (show decode (bN 66) 25 = .ok (.aload_n 0, 1) by decide +kernel) rfl
theorem r66_26 {x : Nat} : R d 66 26 ls (.ref x :: st) μ Q = R d 66 27 ls (.ref x :: .ref x :: st) μ Q := e_dupA (show decode (bN 66) 26 = .ok (.dup, 1) by decide +kernel)
theorem r66_26i {x : Int32} : R d 66 26 ls (.int x :: st) μ Q = R d 66 27 ls (.int x :: .int x :: st) μ Q := e_dupI (show decode (bN 66) 26 = .ok (.dup, 1) by decide +kernel)
theorem r66_27 {a : Nat} : R d 66 27 ls (.ref a :: st) μ Q = (a % 100 = 6 ∧ R d 66 30 ls (.int (rI μ a 2) :: st) μ Q) := e_getfield (j := 2) (show decode (bN 66) 27 = .ok (.getfield 21, 3) by decide +kernel) (by decide +kernel) rfl
theorem r66_30 : R d 66 30 ls st μ Q = R d 66 31 ls (.int 1 :: st) μ Q := e_iconst (show decode (bN 66) 30 = .ok (.iconst 1, 1) by decide +kernel) rfl
theorem r66_31 {x z : Int32} : R d 66 31 ls (.int z :: .int x :: st) μ Q = R d 66 32 ls (.int (x - z) :: st) μ Q := e_isub (show decode (bN 66) 31 = .ok (.isub, 1) by decide +kernel)
theorem r66_32 {a : Nat} {x : Int32} : R d 66 32 ls (.int x :: .ref a :: st) μ Q = (a % 100 = 6 ∧ R d 66 35 ls st (wI μ a 2 x) Q) := e_putfield (j := 2) (show decode (bN 66) 32 = .ok (.putfield 21, 3) by decide +kernel) (by decide +kernel) (by decide +kernel) rfl
theorem r66_35 {l0 : Option Value} {x : Nat} : R d 66 35 [l0, some (.ref x)] st μ Q = R d 66 36 [l0, some (.ref x)] (.ref x :: st) μ Q := e_aload_n (show decode (bN 66) 35 = .ok (.aload_n 1, 1) by decide +kernel) rfl
theorem r66_36 {l1 : Option Value} {x : Nat} : R d 66 36 [some (.ref x), l1] st μ Q = R d 66 37 [some (.ref x), l1] (.ref x :: st) μ Q := e_aload_n (show decode (bN 66) 36 = .ok (.aload_n 0, 1) by decide +kernel) rfl
theorem r66_37 {a : Nat} : R d 66 37 ls (.ref a :: st) μ Q = (a % 100 = 6 ∧ R d 66 40 ls (va_rf (rR μ a 0) :: st) μ Q) := e_getfield (j := 0) (show decode (bN 66) 37 = .ok (.getfield 11, 3) by decide +kernel) (by decide +kernel) rfl
theorem r66_40 {l1 : Option Value} {x : Nat} : R d 66 40 [some (.ref x), l1] st μ Q = R d 66 41 [some (.ref x), l1] (.ref x :: st) μ Q := e_aload_n (show decode (bN 66) 40 = .ok (.aload_n 0, 1) by decide +kernel) rfl
theorem r66_41 {a : Nat} : R d 66 41 ls (.ref a :: st) μ Q = (a % 100 = 6 ∧ R d 66 44 ls (.int (rI μ a 1) :: st) μ Q) := e_getfield (j := 1) (show decode (bN 66) 41 = .ok (.getfield 17, 3) by decide +kernel) (by decide +kernel) rfl
theorem r66_44 {a : Nat} {i : Int32} : R d 66 44 ls (.int i :: .ref a :: st) μ Q = ((a % 100 = 24 ∧ ¬ (i < 0 ∨ a / 100 % 10000 ≤ i.toNatClampNeg)) ∧ R d 66 45 ls (va_rf (rR μ a i.toNatClampNeg) :: st) μ Q) := e_aaload (show decode (bN 66) 44 = .ok (.aaload, 1) by decide +kernel)
theorem r66_45 {a : Nat} {v0 : Nat} : R (d + 1) 66 45 ls (.ref v0 :: .ref a :: st) μ Q = ((a % 100 = 8 ∧ sw st ≤ 8) ∧ R d 83 0 [some (.ref a), some (.ref v0)] [] μ (fun v μ' => R (d + 1) 66 48 ls (v.toList ++ st) μ' Q)) := e_callV (z := 83) (as := [.ref v0]) (show decode (bN 66) 45 = .ok (.invokevirtual 25, 3) by decide +kernel) (by decide +kernel) rfl rfl rfl rfl
theorem r66_48 : R d 66 48 ls st μ Q = R d 66 49 ls (.int 1 :: st) μ Q := e_iconst (show decode (bN 66) 48 = .ok (.iconst 1, 1) by decide +kernel) rfl
theorem r66_49 {x : Int32} : R d 66 49 ls [.int x] μ Q = ((x = 0 ∨ x = 1) ∧ Q (some (.int x)) μ) := e_zreturn (show decode (bN 66) 49 = .ok (.ireturn, 1) by decide +kernel) rfl
end RQ
