section RQ
variable {d : Nat} {ls : PL} {st : List Value} {μ : PM} {Q : Option Value → PM → Prop}
/-! ChinRow$Tape.<init>()V: 86 -/
theorem r86_0  {x : Nat} : R d 86 0 [some (.ref x)] st μ Q = R d 86 1 [some (.ref x)] (.ref x :: st) μ Q := e_aload_n (show decode (bN 86) 0 = .ok (.aload_n 0, 1) by decide +kernel) rfl
theorem r86_1 {a : Nat} : R d 86 1 ls (.ref a :: st) μ Q = (sw st ≤ 8 ∧ R d 86 4 ls st μ Q) := e_oinit (show decode (bN 86) 1 = .ok (.invokespecial 3, 3) by decide +kernel) (by decide +kernel) (by decide +kernel)
theorem r86_4  {x : Nat} : R d 86 4 [some (.ref x)] st μ Q = R d 86 5 [some (.ref x)] (.ref x :: st) μ Q := e_aload_n (show decode (bN 86) 4 = .ok (.aload_n 0, 1) by decide +kernel) rfl
theorem r86_5 : R d 86 5 ls st μ Q = R d 86 8 ls (.int 1000 :: st) μ Q := e_sipush (show decode (bN 86) 5 = .ok (.sipush 1000, 3) by decide +kernel) rfl
theorem r86_8 {n : Int32} : R d 86 8 ls (.int n :: st) μ Q = ((¬ n < 0 ∧ n.toNatClampNeg < 10000) ∧ R d 86 10 ls (.ref (nx μ n.toNatClampNeg 22) :: st) (nw μ (nx μ n.toNatClampNeg 22)) Q) := e_newa (show decode (bN 86) 8 = .ok (.newarray .char, 2) by decide +kernel) rfl
theorem r86_10 {a b : Nat} : R d 86 10 ls (.ref b :: .ref a :: st) μ Q = (a % 100 = 9 ∧ R d 86 13 ls st (wR μ a 0 (some b)) Q) := e_putfield (j := 0) (show decode (bN 86) 10 = .ok (.putfield 9, 3) by decide +kernel) (by decide +kernel) (by decide +kernel) rfl
theorem r86_10n {a : Nat} : R d 86 10 ls (.null :: .ref a :: st) μ Q = (a % 100 = 9 ∧ R d 86 13 ls st (wR μ a 0 none) Q) := e_putfield (j := 0) (show decode (bN 86) 10 = .ok (.putfield 9, 3) by decide +kernel) (by decide +kernel) (by decide +kernel) rfl
theorem r86_13  {x : Nat} : R d 86 13 [some (.ref x)] st μ Q = R d 86 14 [some (.ref x)] (.ref x :: st) μ Q := e_aload_n (show decode (bN 86) 13 = .ok (.aload_n 0, 1) by decide +kernel) rfl
theorem r86_14 : R d 86 14 ls st μ Q = R d 86 15 ls (.int 0 :: st) μ Q := e_iconst (show decode (bN 86) 14 = .ok (.iconst 0, 1) by decide +kernel) rfl
theorem r86_15 {a : Nat} {x : Int32} : R d 86 15 ls (.int x :: .ref a :: st) μ Q = (a % 100 = 9 ∧ R d 86 18 ls st (wI μ a 1 x) Q) := e_putfield (j := 1) (show decode (bN 86) 15 = .ok (.putfield 15, 3) by decide +kernel) (by decide +kernel) (by decide +kernel) rfl
theorem r86_18 : R d 86 18 ls [] μ Q = Q none μ := e_return (show decode (bN 86) 18 = .ok (.return_, 1) by decide +kernel) rfl
/-! ChinRow$Tape.addBytes(J)V: 87 -/
theorem r87_0 : R d 87 0 ls st μ Q = R d 87 2 ls (.int 56 :: st) μ Q := e_bipush (show decode (bN 87) 0 = .ok (.bipush 56, 2) by decide +kernel) rfl
theorem r87_2 {l0 l1 l2 l3 : Option Value} {x : Int32} : R d 87 2 [l0, l1, l2, l3] (.int x :: st) μ Q = R d 87 3 [l0, l1, l2, some (.int x)] st μ Q := e_istore_n (show decode (bN 87) 2 = .ok (.istore_n 3, 1) by decide +kernel) (by decide +kernel) rfl
theorem r87_3 {l0 l1 l2 : Option Value} {x : Int32} : R d 87 3 [l0, l1, l2, some (.int x)] st μ Q = R d 87 4 [l0, l1, l2, some (.int x)] (.int x :: st) μ Q := e_iload_n (show decode (bN 87) 3 = .ok (.iload_n 3, 1) by decide +kernel) rfl
theorem r87_4 {x : Int32} : R d 87 4 ls (.int x :: st) μ Q = if x < 0 then R d 87 25 ls st μ Q else R d 87 7 ls st μ Q := e_if_lt (show decode (bN 87) 4 = .ok (.ifCond .lt 21, 3) by decide +kernel) rfl
theorem r87_7 {l1 l2 l3 : Option Value} {x : Nat} : R d 87 7 [some (.ref x), l1, l2, l3] st μ Q = R d 87 8 [some (.ref x), l1, l2, l3] (.ref x :: st) μ Q := e_aload_n (show decode (bN 87) 7 = .ok (.aload_n 0, 1) by decide +kernel) rfl
theorem r87_8 {l0 l2 l3 : Option Value} {x : Int64} : R d 87 8 [l0, some (.long x), l2, l3] st μ Q = R d 87 9 [l0, some (.long x), l2, l3] (.long x :: st) μ Q := e_lload_n (show decode (bN 87) 8 = .ok (.lload_n 1, 1) by decide +kernel) rfl
theorem r87_9 {l0 l1 l2 : Option Value} {x : Int32} : R d 87 9 [l0, l1, l2, some (.int x)] st μ Q = R d 87 10 [l0, l1, l2, some (.int x)] (.int x :: st) μ Q := e_iload_n (show decode (bN 87) 9 = .ok (.iload_n 3, 1) by decide +kernel) rfl
theorem r87_10 {x : Int64} {z : Int32} : R d 87 10 ls (.int z :: .long x :: st) μ Q = R d 87 11 ls (.long ((x.toUInt64 >>> (z.toInt64.toUInt64 &&& Int64.toUInt64 63)).toInt64) :: st) μ Q := e_lushr (show decode (bN 87) 10 = .ok (.lushr, 1) by decide +kernel)
theorem r87_11 : R d 87 11 ls st μ Q = R d 87 14 ls (.long 255 :: st) μ Q := e_ldc2 (show decode (bN 87) 11 = .ok (.ldc2_w 19, 3) by decide +kernel) (by decide +kernel)
theorem r87_14 {x z : Int64} : R d 87 14 ls (.long z :: .long x :: st) μ Q = R d 87 15 ls (.long (x &&& z) :: st) μ Q := e_land (show decode (bN 87) 14 = .ok (.land, 1) by decide +kernel)
theorem r87_15 {x : Int64} : R d 87 15 ls (.long x :: st) μ Q = R d 87 16 ls (.int (x.toInt32) :: st) μ Q := e_l2i (show decode (bN 87) 15 = .ok (.l2i, 1) by decide +kernel)
theorem r87_16 {a : Nat} {v0 : Int32} : R (d + 1) 87 16 ls (.int v0 :: .ref a :: st) μ Q = ((a % 100 = 9 ∧ sw st ≤ 8) ∧ R d 88 0 [some (.ref a), some (.int v0), none] [] μ (fun v μ' => R (d + 1) 87 19 ls (v.toList ++ st) μ' Q)) := e_callV (z := 88) (as := [.int v0]) (show decode (bN 87) 16 = .ok (.invokevirtual 21, 3) by decide +kernel) (by decide +kernel) rfl rfl rfl rfl
theorem r87_19 {l0 l1 l2 : Option Value} {x : Int32} : R d 87 19 [l0, l1, l2, some (.int x)] st μ Q = R d 87 22 [l0, l1, l2, some (.int (x + (-8)))] st μ Q := e_iinc (show decode (bN 87) 19 = .ok (.iinc 3 (-8), 3) by decide +kernel) (by decide +kernel) rfl rfl rfl
theorem r87_22 : R d 87 22 ls st μ Q = R d 87 3 ls st μ Q := e_goto (show decode (bN 87) 22 = .ok (.goto (-19), 3) by decide +kernel) rfl
theorem r87_25 : R d 87 25 ls [] μ Q = Q none μ := e_return (show decode (bN 87) 25 = .ok (.return_, 1) by decide +kernel) rfl
/-! ChinRow$Tape.addSign(I)V: 88 -/
theorem r88_0 {l0 l2 : Option Value} {x : Int32} : R d 88 0 [l0, some (.int x), l2] st μ Q = R d 88 1 [l0, some (.int x), l2] (.int x :: st) μ Q := e_iload_n (show decode (bN 88) 0 = .ok (.iload_n 1, 1) by decide +kernel) rfl
theorem r88_1 : R d 88 1 ls st μ Q = R d 88 3 ls (.int 10 :: st) μ Q := e_bipush (show decode (bN 88) 1 = .ok (.bipush 10, 2) by decide +kernel) rfl
theorem r88_3 {x z : Int32} : R d 88 3 ls (.int z :: .int x :: st) μ Q = if x = z then R d 88 18 ls st μ Q else R d 88 6 ls st μ Q := e_ic_eq (show decode (bN 88) 3 = .ok (.if_icmp .eq 15, 3) by decide +kernel) rfl
theorem r88_6 {l0 l2 : Option Value} {x : Int32} : R d 88 6 [l0, some (.int x), l2] st μ Q = R d 88 7 [l0, some (.int x), l2] (.int x :: st) μ Q := e_iload_n (show decode (bN 88) 6 = .ok (.iload_n 1, 1) by decide +kernel) rfl
theorem r88_7 : R d 88 7 ls st μ Q = R d 88 9 ls (.int 32 :: st) μ Q := e_bipush (show decode (bN 88) 7 = .ok (.bipush 32, 2) by decide +kernel) rfl
theorem r88_9 {x z : Int32} : R d 88 9 ls (.int z :: .int x :: st) μ Q = if x < z then R d 88 22 ls st μ Q else R d 88 12 ls st μ Q := e_ic_lt (show decode (bN 88) 9 = .ok (.if_icmp .lt 13, 3) by decide +kernel) rfl
theorem r88_12 {l0 l2 : Option Value} {x : Int32} : R d 88 12 [l0, some (.int x), l2] st μ Q = R d 88 13 [l0, some (.int x), l2] (.int x :: st) μ Q := e_iload_n (show decode (bN 88) 12 = .ok (.iload_n 1, 1) by decide +kernel) rfl
theorem r88_13 : R d 88 13 ls st μ Q = R d 88 15 ls (.int 126 :: st) μ Q := e_bipush (show decode (bN 88) 13 = .ok (.bipush 126, 2) by decide +kernel) rfl
theorem r88_15 {x z : Int32} : R d 88 15 ls (.int z :: .int x :: st) μ Q = if z < x then R d 88 22 ls st μ Q else R d 88 18 ls st μ Q := e_ic_gt (show decode (bN 88) 15 = .ok (.if_icmp .gt 7, 3) by decide +kernel) rfl
theorem r88_18 : R d 88 18 ls st μ Q = R d 88 19 ls (.int 1 :: st) μ Q := e_iconst (show decode (bN 88) 18 = .ok (.iconst 1, 1) by decide +kernel) rfl
theorem r88_19 : R d 88 19 ls st μ Q = R d 88 23 ls st μ Q := e_goto (show decode (bN 88) 19 = .ok (.goto 4, 3) by decide +kernel) rfl
theorem r88_22 : R d 88 22 ls st μ Q = R d 88 23 ls (.int 0 :: st) μ Q := e_iconst (show decode (bN 88) 22 = .ok (.iconst 0, 1) by decide +kernel) rfl
theorem r88_23 {l0 l1 l2 : Option Value} {x : Int32} : R d 88 23 [l0, l1, l2] (.int x :: st) μ Q = R d 88 24 [l0, l1, some (.int x)] st μ Q := e_istore_n (show decode (bN 88) 23 = .ok (.istore_n 2, 1) by decide +kernel) (by decide +kernel) rfl
theorem r88_24 {l0 l1 : Option Value} {x : Int32} : R d 88 24 [l0, l1, some (.int x)] st μ Q = R d 88 25 [l0, l1, some (.int x)] (.int x :: st) μ Q := e_iload_n (show decode (bN 88) 24 = .ok (.iload_n 2, 1) by decide +kernel) rfl
theorem r88_25 {x : Int32} : R d 88 25 ls (.int x :: st) μ Q = if x = 0 then R d 88 59 ls st μ Q else R d 88 28 ls st μ Q := e_if_eq (show decode (bN 88) 25 = .ok (.ifCond .eq 34, 3) by decide +kernel) rfl
theorem r88_28 {l1 l2 : Option Value} {x : Nat} : R d 88 28 [some (.ref x), l1, l2] st μ Q = R d 88 29 [some (.ref x), l1, l2] (.ref x :: st) μ Q := e_aload_n (show decode (bN 88) 28 = .ok (.aload_n 0, 1) by decide +kernel) rfl
theorem r88_29 {a : Nat} : R d 88 29 ls (.ref a :: st) μ Q = (a % 100 = 9 ∧ R d 88 32 ls (.int (rI μ a 1) :: st) μ Q) := e_getfield (j := 1) (show decode (bN 88) 29 = .ok (.getfield 15, 3) by decide +kernel) (by decide +kernel) rfl
theorem r88_32 : R d 88 32 ls st μ Q = R d 88 35 ls (.int 1000 :: st) μ Q := e_sipush (show decode (bN 88) 32 = .ok (.sipush 1000, 3) by decide +kernel) rfl
theorem r88_35 {x z : Int32} : R d 88 35 ls (.int z :: .int x :: st) μ Q = if z ≤ x then R d 88 59 ls st μ Q else R d 88 38 ls st μ Q := e_ic_ge (show decode (bN 88) 35 = .ok (.if_icmp .ge 24, 3) by decide +kernel) rfl
theorem r88_38 {l1 l2 : Option Value} {x : Nat} : R d 88 38 [some (.ref x), l1, l2] st μ Q = R d 88 39 [some (.ref x), l1, l2] (.ref x :: st) μ Q := e_aload_n (show decode (bN 88) 38 = .ok (.aload_n 0, 1) by decide +kernel) rfl
theorem r88_39 {a : Nat} : R d 88 39 ls (.ref a :: st) μ Q = (a % 100 = 9 ∧ R d 88 42 ls (va_rf (rR μ a 0) :: st) μ Q) := e_getfield (j := 0) (show decode (bN 88) 39 = .ok (.getfield 9, 3) by decide +kernel) (by decide +kernel) rfl
theorem r88_42 {l1 l2 : Option Value} {x : Nat} : R d 88 42 [some (.ref x), l1, l2] st μ Q = R d 88 43 [some (.ref x), l1, l2] (.ref x :: st) μ Q := e_aload_n (show decode (bN 88) 42 = .ok (.aload_n 0, 1) by decide +kernel) rfl
theorem r88_43 {a : Nat} : R d 88 43 ls (.ref a :: st) μ Q = (a % 100 = 9 ∧ R d 88 46 ls (.int (rI μ a 1) :: st) μ Q) := e_getfield (j := 1) (show decode (bN 88) 43 = .ok (.getfield 15, 3) by decide +kernel) (by decide +kernel) rfl
theorem r88_46 {l0 l2 : Option Value} {x : Int32} : R d 88 46 [l0, some (.int x), l2] st μ Q = R d 88 47 [l0, some (.int x), l2] (.int x :: st) μ Q := e_iload_n (show decode (bN 88) 46 = .ok (.iload_n 1, 1) by decide +kernel) rfl
theorem r88_47 {x : Int32} : R d 88 47 ls (.int x :: st) μ Q = R d 88 48 ls (.int ((x.toUInt32 % 65536).toInt32) :: st) μ Q := e_i2c (show decode (bN 88) 47 = .ok (.i2c, 1) by decide +kernel)
theorem r88_48 {a : Nat} {i : Int32} {x : Int32} : R d 88 48 ls (.int x :: .int i :: .ref a :: st) μ Q = ((a % 100 = 22 ∧ 2000000 ≤ a ∧ ¬ (i < 0 ∨ a / 100 % 10000 ≤ i.toNatClampNeg)) ∧ R d 88 49 ls st (wI μ a i.toNatClampNeg (vp_nar .char x)) Q) := e_castore (show decode (bN 88) 48 = .ok (.castore, 1) by decide +kernel)
theorem r88_49 {l1 l2 : Option Value} {x : Nat} : R d 88 49 [some (.ref x), l1, l2] st μ Q = R d 88 50 [some (.ref x), l1, l2] (.ref x :: st) μ Q := e_aload_n (show decode (bN 88) 49 = .ok (.aload_n 0, 1) by decide +kernel) rfl
theorem r88_50 {x : Nat} : R d 88 50 ls (.ref x :: st) μ Q = R d 88 51 ls (.ref x :: .ref x :: st) μ Q := e_dupA (show decode (bN 88) 50 = .ok (.dup, 1) by decide +kernel)
theorem r88_50i {x : Int32} : R d 88 50 ls (.int x :: st) μ Q = R d 88 51 ls (.int x :: .int x :: st) μ Q := e_dupI (show decode (bN 88) 50 = .ok (.dup, 1) by decide +kernel)
theorem r88_51 {a : Nat} : R d 88 51 ls (.ref a :: st) μ Q = (a % 100 = 9 ∧ R d 88 54 ls (.int (rI μ a 1) :: st) μ Q) := e_getfield (j := 1) (show decode (bN 88) 51 = .ok (.getfield 15, 3) by decide +kernel) (by decide +kernel) rfl
theorem r88_54 : R d 88 54 ls st μ Q = R d 88 55 ls (.int 1 :: st) μ Q := e_iconst (show decode (bN 88) 54 = .ok (.iconst 1, 1) by decide +kernel) rfl
theorem r88_55 {x z : Int32} : R d 88 55 ls (.int z :: .int x :: st) μ Q = R d 88 56 ls (.int (x + z) :: st) μ Q := e_iadd (show decode (bN 88) 55 = .ok (.iadd, 1) by decide +kernel)
theorem r88_56 {a : Nat} {x : Int32} : R d 88 56 ls (.int x :: .ref a :: st) μ Q = (a % 100 = 9 ∧ R d 88 59 ls st (wI μ a 1 x) Q) := e_putfield (j := 1) (show decode (bN 88) 56 = .ok (.putfield 15, 3) by decide +kernel) (by decide +kernel) (by decide +kernel) rfl
theorem r88_59 : R d 88 59 ls [] μ Q = Q none μ := e_return (show decode (bN 88) 59 = .ok (.return_, 1) by decide +kernel) rfl
end RQ
