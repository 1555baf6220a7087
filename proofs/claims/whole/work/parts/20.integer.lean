section RQ
variable {d : Nat} {ls : PL} {st : List Value} {μ : PM} {Q : Option Value → PM → Prop}
/-! java/lang/Integer.bitCount(I)I: 225 -/
theorem r225_0  {x : Int32} : R d 225 0 [some (.int x)] st μ Q = R d 225 1 [some (.int x)] (.int x :: st) μ Q := e_iload_n (show decode (bN 225) 0 = .ok (.iload_n 0, 1) by decide +kernel) rfl
theorem r225_1  {x : Int32} : R d 225 1 [some (.int x)] st μ Q = R d 225 2 [some (.int x)] (.int x :: st) μ Q := e_iload_n (show decode (bN 225) 1 = .ok (.iload_n 0, 1) by decide +kernel) rfl
theorem r225_2 : R d 225 2 ls st μ Q = R d 225 3 ls (.int 1 :: st) μ Q := e_iconst (show decode (bN 225) 2 = .ok (.iconst 1, 1) by decide +kernel) rfl
theorem r225_3 {x z : Int32} : R d 225 3 ls (.int z :: .int x :: st) μ Q = R d 225 4 ls (.int ((x.toUInt32 >>> (z.toUInt32 &&& Int32.toUInt32 31)).toInt32) :: st) μ Q := e_iushr (show decode (bN 225) 3 = .ok (.iushr, 1) by decide +kernel)
theorem r225_4 : R d 225 4 ls st μ Q = R d 225 7 ls (.int 1431655765 :: st) μ Q := e_ldcw (show decode (bN 225) 4 = .ok (.ldc_w 265, 3) by decide +kernel) (by decide +kernel)
theorem r225_7 {x z : Int32} : R d 225 7 ls (.int z :: .int x :: st) μ Q = R d 225 8 ls (.int (x &&& z) :: st) μ Q := e_iand (show decode (bN 225) 7 = .ok (.iand, 1) by decide +kernel)
theorem r225_8 {x z : Int32} : R d 225 8 ls (.int z :: .int x :: st) μ Q = R d 225 9 ls (.int (x - z) :: st) μ Q := e_isub (show decode (bN 225) 8 = .ok (.isub, 1) by decide +kernel)
theorem r225_9 {l0 : Option Value} {x : Int32} : R d 225 9 [l0] (.int x :: st) μ Q = R d 225 10 [some (.int x)] st μ Q := e_istore_n (show decode (bN 225) 9 = .ok (.istore_n 0, 1) by decide +kernel) (by decide +kernel) rfl
theorem r225_10  {x : Int32} : R d 225 10 [some (.int x)] st μ Q = R d 225 11 [some (.int x)] (.int x :: st) μ Q := e_iload_n (show decode (bN 225) 10 = .ok (.iload_n 0, 1) by decide +kernel) rfl
theorem r225_11 : R d 225 11 ls st μ Q = R d 225 14 ls (.int 858993459 :: st) μ Q := e_ldcw (show decode (bN 225) 11 = .ok (.ldc_w 266, 3) by decide +kernel) (by decide +kernel)
theorem r225_14 {x z : Int32} : R d 225 14 ls (.int z :: .int x :: st) μ Q = R d 225 15 ls (.int (x &&& z) :: st) μ Q := e_iand (show decode (bN 225) 14 = .ok (.iand, 1) by decide +kernel)
theorem r225_15  {x : Int32} : R d 225 15 [some (.int x)] st μ Q = R d 225 16 [some (.int x)] (.int x :: st) μ Q := e_iload_n (show decode (bN 225) 15 = .ok (.iload_n 0, 1) by decide +kernel) rfl
theorem r225_16 : R d 225 16 ls st μ Q = R d 225 17 ls (.int 2 :: st) μ Q := e_iconst (show decode (bN 225) 16 = .ok (.iconst 2, 1) by decide +kernel) rfl
theorem r225_17 {x z : Int32} : R d 225 17 ls (.int z :: .int x :: st) μ Q = R d 225 18 ls (.int ((x.toUInt32 >>> (z.toUInt32 &&& Int32.toUInt32 31)).toInt32) :: st) μ Q := e_iushr (show decode (bN 225) 17 = .ok (.iushr, 1) by decide +kernel)
theorem r225_18 : R d 225 18 ls st μ Q = R d 225 21 ls (.int 858993459 :: st) μ Q := e_ldcw (show decode (bN 225) 18 = .ok (.ldc_w 266, 3) by decide +kernel) (by decide +kernel)
theorem r225_21 {x z : Int32} : R d 225 21 ls (.int z :: .int x :: st) μ Q = R d 225 22 ls (.int (x &&& z) :: st) μ Q := e_iand (show decode (bN 225) 21 = .ok (.iand, 1) by decide +kernel)
theorem r225_22 {x z : Int32} : R d 225 22 ls (.int z :: .int x :: st) μ Q = R d 225 23 ls (.int (x + z) :: st) μ Q := e_iadd (show decode (bN 225) 22 = .ok (.iadd, 1) by decide +kernel)
theorem r225_23 {l0 : Option Value} {x : Int32} : R d 225 23 [l0] (.int x :: st) μ Q = R d 225 24 [some (.int x)] st μ Q := e_istore_n (show decode (bN 225) 23 = .ok (.istore_n 0, 1) by decide +kernel) (by decide +kernel) rfl
theorem r225_24  {x : Int32} : R d 225 24 [some (.int x)] st μ Q = R d 225 25 [some (.int x)] (.int x :: st) μ Q := e_iload_n (show decode (bN 225) 24 = .ok (.iload_n 0, 1) by decide +kernel) rfl
theorem r225_25  {x : Int32} : R d 225 25 [some (.int x)] st μ Q = R d 225 26 [some (.int x)] (.int x :: st) μ Q := e_iload_n (show decode (bN 225) 25 = .ok (.iload_n 0, 1) by decide +kernel) rfl
theorem r225_26 : R d 225 26 ls st μ Q = R d 225 27 ls (.int 4 :: st) μ Q := e_iconst (show decode (bN 225) 26 = .ok (.iconst 4, 1) by decide +kernel) rfl
theorem r225_27 {x z : Int32} : R d 225 27 ls (.int z :: .int x :: st) μ Q = R d 225 28 ls (.int ((x.toUInt32 >>> (z.toUInt32 &&& Int32.toUInt32 31)).toInt32) :: st) μ Q := e_iushr (show decode (bN 225) 27 = .ok (.iushr, 1) by decide +kernel)
theorem r225_28 {x z : Int32} : R d 225 28 ls (.int z :: .int x :: st) μ Q = R d 225 29 ls (.int (x + z) :: st) μ Q := e_iadd (show decode (bN 225) 28 = .ok (.iadd, 1) by decide +kernel)
theorem r225_29 : R d 225 29 ls st μ Q = R d 225 32 ls (.int 252645135 :: st) μ Q := e_ldcw (show decode (bN 225) 29 = .ok (.ldc_w 267, 3) by decide +kernel) (by decide +kernel)
theorem r225_32 {x z : Int32} : R d 225 32 ls (.int z :: .int x :: st) μ Q = R d 225 33 ls (.int (x &&& z) :: st) μ Q := e_iand (show decode (bN 225) 32 = .ok (.iand, 1) by decide +kernel)
theorem r225_33 {l0 : Option Value} {x : Int32} : R d 225 33 [l0] (.int x :: st) μ Q = R d 225 34 [some (.int x)] st μ Q := e_istore_n (show decode (bN 225) 33 = .ok (.istore_n 0, 1) by decide +kernel) (by decide +kernel) rfl
theorem r225_34  {x : Int32} : R d 225 34 [some (.int x)] st μ Q = R d 225 35 [some (.int x)] (.int x :: st) μ Q := e_iload_n (show decode (bN 225) 34 = .ok (.iload_n 0, 1) by decide +kernel) rfl
theorem r225_35  {x : Int32} : R d 225 35 [some (.int x)] st μ Q = R d 225 36 [some (.int x)] (.int x :: st) μ Q := e_iload_n (show decode (bN 225) 35 = .ok (.iload_n 0, 1) by decide +kernel) rfl
theorem r225_36 : R d 225 36 ls st μ Q = R d 225 38 ls (.int 8 :: st) μ Q := e_bipush (show decode (bN 225) 36 = .ok (.bipush 8, 2) by decide +kernel) rfl
theorem r225_38 {x z : Int32} : R d 225 38 ls (.int z :: .int x :: st) μ Q = R d 225 39 ls (.int ((x.toUInt32 >>> (z.toUInt32 &&& Int32.toUInt32 31)).toInt32) :: st) μ Q := e_iushr (show decode (bN 225) 38 = .ok (.iushr, 1) by decide +kernel)
theorem r225_39 {x z : Int32} : R d 225 39 ls (.int z :: .int x :: st) μ Q = R d 225 40 ls (.int (x + z) :: st) μ Q := e_iadd (show decode (bN 225) 39 = .ok (.iadd, 1) by decide +kernel)
theorem r225_40 {l0 : Option Value} {x : Int32} : R d 225 40 [l0] (.int x :: st) μ Q = R d 225 41 [some (.int x)] st μ Q := e_istore_n (show decode (bN 225) 40 = .ok (.istore_n 0, 1) by decide +kernel) (by decide +kernel) rfl
theorem r225_41  {x : Int32} : R d 225 41 [some (.int x)] st μ Q = R d 225 42 [some (.int x)] (.int x :: st) μ Q := e_iload_n (show decode (bN 225) 41 = .ok (.iload_n 0, 1) by decide +kernel) rfl
theorem r225_42  {x : Int32} : R d 225 42 [some (.int x)] st μ Q = R d 225 43 [some (.int x)] (.int x :: st) μ Q := e_iload_n (show decode (bN 225) 42 = .ok (.iload_n 0, 1) by decide +kernel) rfl
theorem r225_43 : R d 225 43 ls st μ Q = R d 225 45 ls (.int 16 :: st) μ Q := e_bipush (show decode (bN 225) 43 = .ok (.bipush 16, 2) by decide +kernel) rfl
theorem r225_45 {x z : Int32} : R d 225 45 ls (.int z :: .int x :: st) μ Q = R d 225 46 ls (.int ((x.toUInt32 >>> (z.toUInt32 &&& Int32.toUInt32 31)).toInt32) :: st) μ Q := e_iushr (show decode (bN 225) 45 = .ok (.iushr, 1) by decide +kernel)
theorem r225_46 {x z : Int32} : R d 225 46 ls (.int z :: .int x :: st) μ Q = R d 225 47 ls (.int (x + z) :: st) μ Q := e_iadd (show decode (bN 225) 46 = .ok (.iadd, 1) by decide +kernel)
theorem r225_47 {l0 : Option Value} {x : Int32} : R d 225 47 [l0] (.int x :: st) μ Q = R d 225 48 [some (.int x)] st μ Q := e_istore_n (show decode (bN 225) 47 = .ok (.istore_n 0, 1) by decide +kernel) (by decide +kernel) rfl
theorem r225_48  {x : Int32} : R d 225 48 [some (.int x)] st μ Q = R d 225 49 [some (.int x)] (.int x :: st) μ Q := e_iload_n (show decode (bN 225) 48 = .ok (.iload_n 0, 1) by decide +kernel) rfl
theorem r225_49 : R d 225 49 ls st μ Q = R d 225 51 ls (.int 63 :: st) μ Q := e_bipush (show decode (bN 225) 49 = .ok (.bipush 63, 2) by decide +kernel) rfl
theorem r225_51 {x z : Int32} : R d 225 51 ls (.int z :: .int x :: st) μ Q = R d 225 52 ls (.int (x &&& z) :: st) μ Q := e_iand (show decode (bN 225) 51 = .ok (.iand, 1) by decide +kernel)
theorem r225_52 {x : Int32} : R d 225 52 ls [.int x] μ Q = Q (some (.int x)) μ := e_ireturn (show decode (bN 225) 52 = .ok (.ireturn, 1) by decide +kernel) rfl
end RQ
