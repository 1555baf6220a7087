section RQ
variable {d : Nat} {ls : PL} {st : List Value} {μ : PM} {Q : Option Value → PM → Prop}
/-! ChinRow$Laws.<init>()V: 17 -/
theorem r17_0  {x : Nat} : R d 17 0 [some (.ref x)] st μ Q = R d 17 1 [some (.ref x)] (.ref x :: st) μ Q := e_aload_n (show decode (bN 17) 0 = .ok (.aload_n 0, 1) by decide +kernel) rfl
theorem r17_1 {a : Nat} : R d 17 1 ls (.ref a :: st) μ Q = (sw st ≤ 8 ∧ R d 17 4 ls st μ Q) := e_oinit (show decode (bN 17) 1 = .ok (.invokespecial 3, 3) by decide +kernel) (by decide +kernel) (by decide +kernel)
theorem r17_4  {x : Nat} : R d 17 4 [some (.ref x)] st μ Q = R d 17 5 [some (.ref x)] (.ref x :: st) μ Q := e_aload_n (show decode (bN 17) 4 = .ok (.aload_n 0, 1) by decide +kernel) rfl
theorem r17_5 : R d 17 5 ls st μ Q = R d 17 8 ls (.int 1000 :: st) μ Q := e_sipush (show decode (bN 17) 5 = .ok (.sipush 1000, 3) by decide +kernel) rfl
theorem r17_8 {n : Int32} : R d 17 8 ls (.int n :: st) μ Q = ((¬ n < 0 ∧ n.toNatClampNeg < 10000) ∧ R d 17 10 ls (.ref (nx μ n.toNatClampNeg 20) :: st) (nw μ (nx μ n.toNatClampNeg 20)) Q) := e_newa (show decode (bN 17) 8 = .ok (.newarray .int, 2) by decide +kernel) rfl
theorem r17_10 {a b : Nat} : R d 17 10 ls (.ref b :: .ref a :: st) μ Q = (a % 100 = 2 ∧ R d 17 13 ls st (wR μ a 0 (some b)) Q) := e_putfield (j := 0) (show decode (bN 17) 10 = .ok (.putfield 9, 3) by decide +kernel) (by decide +kernel) (by decide +kernel) rfl
theorem r17_10n {a : Nat} : R d 17 10 ls (.null :: .ref a :: st) μ Q = (a % 100 = 2 ∧ R d 17 13 ls st (wR μ a 0 none) Q) := e_putfield (j := 0) (show decode (bN 17) 10 = .ok (.putfield 9, 3) by decide +kernel) (by decide +kernel) (by decide +kernel) rfl
theorem r17_13  {x : Nat} : R d 17 13 [some (.ref x)] st μ Q = R d 17 14 [some (.ref x)] (.ref x :: st) μ Q := e_aload_n (show decode (bN 17) 13 = .ok (.aload_n 0, 1) by decide +kernel) rfl
theorem r17_14 : R d 17 14 ls st μ Q = R d 17 15 ls (.int 0 :: st) μ Q := e_iconst (show decode (bN 17) 14 = .ok (.iconst 0, 1) by decide +kernel) rfl
theorem r17_15 {a : Nat} {x : Int32} : R d 17 15 ls (.int x :: .ref a :: st) μ Q = (a % 100 = 2 ∧ R d 17 18 ls st (wI μ a 1 x) Q) := e_putfield (j := 1) (show decode (bN 17) 15 = .ok (.putfield 15, 3) by decide +kernel) (by decide +kernel) (by decide +kernel) rfl
theorem r17_18  {x : Nat} : R d 17 18 [some (.ref x)] st μ Q = R d 17 19 [some (.ref x)] (.ref x :: st) μ Q := e_aload_n (show decode (bN 17) 18 = .ok (.aload_n 0, 1) by decide +kernel) rfl
theorem r17_19 : R d 17 19 ls st μ Q = R d 17 20 ls (.int 3 :: st) μ Q := e_iconst (show decode (bN 17) 19 = .ok (.iconst 3, 1) by decide +kernel) rfl
theorem r17_20 {n : Int32} : R d 17 20 ls (.int n :: st) μ Q = ((¬ n < 0 ∧ n.toNatClampNeg < 10000) ∧ R d 17 22 ls (.ref (nx μ n.toNatClampNeg 20) :: st) (nw μ (nx μ n.toNatClampNeg 20)) Q) := e_newa (show decode (bN 17) 20 = .ok (.newarray .int, 2) by decide +kernel) rfl
theorem r17_22 {a b : Nat} : R d 17 22 ls (.ref b :: .ref a :: st) μ Q = (a % 100 = 2 ∧ R d 17 25 ls st (wR μ a 2 (some b)) Q) := e_putfield (j := 2) (show decode (bN 17) 22 = .ok (.putfield 19, 3) by decide +kernel) (by decide +kernel) (by decide +kernel) rfl
theorem r17_22n {a : Nat} : R d 17 22 ls (.null :: .ref a :: st) μ Q = (a % 100 = 2 ∧ R d 17 25 ls st (wR μ a 2 none) Q) := e_putfield (j := 2) (show decode (bN 17) 22 = .ok (.putfield 19, 3) by decide +kernel) (by decide +kernel) (by decide +kernel) rfl
theorem r17_25  {x : Nat} : R d 17 25 [some (.ref x)] st μ Q = R d 17 26 [some (.ref x)] (.ref x :: st) μ Q := e_aload_n (show decode (bN 17) 25 = .ok (.aload_n 0, 1) by decide +kernel) rfl
theorem r17_26 : R d 17 26 ls st μ Q = R d 17 27 ls (.int 3 :: st) μ Q := e_iconst (show decode (bN 17) 26 = .ok (.iconst 3, 1) by decide +kernel) rfl
theorem r17_27 {n : Int32} : R d 17 27 ls (.int n :: st) μ Q = ((¬ n < 0 ∧ n.toNatClampNeg < 10000) ∧ R d 17 29 ls (.ref (nx μ n.toNatClampNeg 20) :: st) (nw μ (nx μ n.toNatClampNeg 20)) Q) := e_newa (show decode (bN 17) 27 = .ok (.newarray .int, 2) by decide +kernel) rfl
theorem r17_29 {a b : Nat} : R d 17 29 ls (.ref b :: .ref a :: st) μ Q = (a % 100 = 2 ∧ R d 17 32 ls st (wR μ a 3 (some b)) Q) := e_putfield (j := 3) (show decode (bN 17) 29 = .ok (.putfield 22, 3) by decide +kernel) (by decide +kernel) (by decide +kernel) rfl
theorem r17_29n {a : Nat} : R d 17 29 ls (.null :: .ref a :: st) μ Q = (a % 100 = 2 ∧ R d 17 32 ls st (wR μ a 3 none) Q) := e_putfield (j := 3) (show decode (bN 17) 29 = .ok (.putfield 22, 3) by decide +kernel) (by decide +kernel) (by decide +kernel) rfl
theorem r17_32  {x : Nat} : R d 17 32 [some (.ref x)] st μ Q = R d 17 33 [some (.ref x)] (.ref x :: st) μ Q := e_aload_n (show decode (bN 17) 32 = .ok (.aload_n 0, 1) by decide +kernel) rfl
theorem r17_33 : R d 17 33 ls st μ Q = R d 17 35 ls (.int 64 :: st) μ Q := e_bipush (show decode (bN 17) 33 = .ok (.bipush 64, 2) by decide +kernel) rfl
theorem r17_35 {n : Int32} : R d 17 35 ls (.int n :: st) μ Q = ((¬ n < 0 ∧ n.toNatClampNeg < 10000) ∧ R d 17 37 ls (.ref (nx μ n.toNatClampNeg 20) :: st) (nw μ (nx μ n.toNatClampNeg 20)) Q) := e_newa (show decode (bN 17) 35 = .ok (.newarray .int, 2) by decide +kernel) rfl
theorem r17_37 {a b : Nat} : R d 17 37 ls (.ref b :: .ref a :: st) μ Q = (a % 100 = 2 ∧ R d 17 40 ls st (wR μ a 4 (some b)) Q) := e_putfield (j := 4) (show decode (bN 17) 37 = .ok (.putfield 25, 3) by decide +kernel) (by decide +kernel) (by decide +kernel) rfl
theorem r17_37n {a : Nat} : R d 17 37 ls (.null :: .ref a :: st) μ Q = (a % 100 = 2 ∧ R d 17 40 ls st (wR μ a 4 none) Q) := e_putfield (j := 4) (show decode (bN 17) 37 = .ok (.putfield 25, 3) by decide +kernel) (by decide +kernel) (by decide +kernel) rfl
theorem r17_40  {x : Nat} : R d 17 40 [some (.ref x)] st μ Q = R d 17 41 [some (.ref x)] (.ref x :: st) μ Q := e_aload_n (show decode (bN 17) 40 = .ok (.aload_n 0, 1) by decide +kernel) rfl
theorem r17_41 : R d 17 41 ls st μ Q = R d 17 42 ls (.int 0 :: st) μ Q := e_iconst (show decode (bN 17) 41 = .ok (.iconst 0, 1) by decide +kernel) rfl
theorem r17_42 {a : Nat} {x : Int32} : R d 17 42 ls (.int x :: .ref a :: st) μ Q = (a % 100 = 2 ∧ R d 17 45 ls st (wI μ a 5 x) Q) := e_putfield (j := 5) (show decode (bN 17) 42 = .ok (.putfield 28, 3) by decide +kernel) (by decide +kernel) (by decide +kernel) rfl
theorem r17_45  {x : Nat} : R d 17 45 [some (.ref x)] st μ Q = R d 17 46 [some (.ref x)] (.ref x :: st) μ Q := e_aload_n (show decode (bN 17) 45 = .ok (.aload_n 0, 1) by decide +kernel) rfl
theorem r17_46 : R d 17 46 ls st μ Q = R d 17 47 ls (.int 0 :: st) μ Q := e_iconst (show decode (bN 17) 46 = .ok (.iconst 0, 1) by decide +kernel) rfl
theorem r17_47 {a : Nat} {x : Int32} : R d 17 47 ls (.int x :: .ref a :: st) μ Q = (a % 100 = 2 ∧ R d 17 50 ls st (wI μ a 6 x) Q) := e_putfield (j := 6) (show decode (bN 17) 47 = .ok (.putfield 31, 3) by decide +kernel) (by decide +kernel) (by decide +kernel) rfl
theorem r17_50  {x : Nat} : R d 17 50 [some (.ref x)] st μ Q = R d 17 51 [some (.ref x)] (.ref x :: st) μ Q := e_aload_n (show decode (bN 17) 50 = .ok (.aload_n 0, 1) by decide +kernel) rfl
theorem r17_51 : R d 17 51 ls st μ Q = R d 17 52 ls (.int 0 :: st) μ Q := e_iconst (show decode (bN 17) 51 = .ok (.iconst 0, 1) by decide +kernel) rfl
theorem r17_52 {a : Nat} {x : Int32} : R d 17 52 ls (.int x :: .ref a :: st) μ Q = (a % 100 = 2 ∧ R d 17 55 ls st (wI μ a 7 x) Q) := e_putfield (j := 7) (show decode (bN 17) 52 = .ok (.putfield 34, 3) by decide +kernel) (by decide +kernel) (by decide +kernel) rfl
theorem r17_55  {x : Nat} : R d 17 55 [some (.ref x)] st μ Q = R d 17 56 [some (.ref x)] (.ref x :: st) μ Q := e_aload_n (show decode (bN 17) 55 = .ok (.aload_n 0, 1) by decide +kernel) rfl
theorem r17_56 : R d 17 56 ls st μ Q = R d 17 57 ls (.int 0 :: st) μ Q := e_iconst (show decode (bN 17) 56 = .ok (.iconst 0, 1) by decide +kernel) rfl
theorem r17_57 {a : Nat} {x : Int32} : R d 17 57 ls (.int x :: .ref a :: st) μ Q = (a % 100 = 2 ∧ R d 17 60 ls st (wI μ a 8 x) Q) := e_putfield (j := 8) (show decode (bN 17) 57 = .ok (.putfield 37, 3) by decide +kernel) (by decide +kernel) (by decide +kernel) rfl
theorem r17_60  {x : Nat} : R d 17 60 [some (.ref x)] st μ Q = R d 17 61 [some (.ref x)] (.ref x :: st) μ Q := e_aload_n (show decode (bN 17) 60 = .ok (.aload_n 0, 1) by decide +kernel) rfl
theorem r17_61 : R d 17 61 ls st μ Q = R d 17 62 ls (.int 0 :: st) μ Q := e_iconst (show decode (bN 17) 61 = .ok (.iconst 0, 1) by decide +kernel) rfl
theorem r17_62 {a : Nat} {x : Int32} : R d 17 62 ls (.int x :: .ref a :: st) μ Q = (a % 100 = 2 ∧ R d 17 65 ls st (wI μ a 9 x) Q) := e_putfield (j := 9) (show decode (bN 17) 62 = .ok (.putfield 40, 3) by decide +kernel) (by decide +kernel) (by decide +kernel) rfl
theorem r17_65 : R d 17 65 ls [] μ Q = Q none μ := e_return (show decode (bN 17) 65 = .ok (.return_, 1) by decide +kernel) rfl
/-! ChinRow$Laws.clear()V: 18 -/
theorem r18_0  {x : Nat} : R d 18 0 [some (.ref x)] st μ Q = R d 18 1 [some (.ref x)] (.ref x :: st) μ Q := e_aload_n (show decode (bN 18) 0 = .ok (.aload_n 0, 1) by decide +kernel) rfl
theorem r18_1 : R d 18 1 ls st μ Q = R d 18 2 ls (.int 0 :: st) μ Q := e_iconst (show decode (bN 18) 1 = .ok (.iconst 0, 1) by decide +kernel) rfl
theorem r18_2 {a : Nat} {x : Int32} : R d 18 2 ls (.int x :: .ref a :: st) μ Q = (a % 100 = 2 ∧ R d 18 5 ls st (wI μ a 1 x) Q) := e_putfield (j := 1) (show decode (bN 18) 2 = .ok (.putfield 15, 3) by decide +kernel) (by decide +kernel) (by decide +kernel) rfl
theorem r18_5  {x : Nat} : R d 18 5 [some (.ref x)] st μ Q = R d 18 6 [some (.ref x)] (.ref x :: st) μ Q := e_aload_n (show decode (bN 18) 5 = .ok (.aload_n 0, 1) by decide +kernel) rfl
theorem r18_6 {a : Nat} : R d 18 6 ls (.ref a :: st) μ Q = (a % 100 = 2 ∧ R d 18 9 ls (va_rf (rR μ a 2) :: st) μ Q) := e_getfield (j := 2) (show decode (bN 18) 6 = .ok (.getfield 19, 3) by decide +kernel) (by decide +kernel) rfl
theorem r18_9 : R d 18 9 ls st μ Q = R d 18 10 ls (.int 0 :: st) μ Q := e_iconst (show decode (bN 18) 9 = .ok (.iconst 0, 1) by decide +kernel) rfl
theorem r18_10 {v0 : Nat} {v1 : Int32} : R (d + 1) 18 10 ls (.int v1 :: .ref v0 :: st) μ Q = (sw st ≤ 8 ∧ R d 231 0 [some (.ref v0), some (.int v1), none, none] [] μ (fun v μ' => R (d + 1) 18 13 ls (v.toList ++ st) μ' Q)) := e_callS (z := 231) (as := [.int v1, .ref v0]) (show decode (bN 18) 10 = .ok (.invokestatic 43, 3) by decide +kernel) (by decide +kernel) rfl rfl rfl
theorem r18_13  {x : Nat} : R d 18 13 [some (.ref x)] st μ Q = R d 18 14 [some (.ref x)] (.ref x :: st) μ Q := e_aload_n (show decode (bN 18) 13 = .ok (.aload_n 0, 1) by decide +kernel) rfl
theorem r18_14 {a : Nat} : R d 18 14 ls (.ref a :: st) μ Q = (a % 100 = 2 ∧ R d 18 17 ls (va_rf (rR μ a 3) :: st) μ Q) := e_getfield (j := 3) (show decode (bN 18) 14 = .ok (.getfield 22, 3) by decide +kernel) (by decide +kernel) rfl
theorem r18_17 : R d 18 17 ls st μ Q = R d 18 18 ls (.int 0 :: st) μ Q := e_iconst (show decode (bN 18) 17 = .ok (.iconst 0, 1) by decide +kernel) rfl
theorem r18_18 {v0 : Nat} {v1 : Int32} : R (d + 1) 18 18 ls (.int v1 :: .ref v0 :: st) μ Q = (sw st ≤ 8 ∧ R d 231 0 [some (.ref v0), some (.int v1), none, none] [] μ (fun v μ' => R (d + 1) 18 21 ls (v.toList ++ st) μ' Q)) := e_callS (z := 231) (as := [.int v1, .ref v0]) (show decode (bN 18) 18 = .ok (.invokestatic 43, 3) by decide +kernel) (by decide +kernel) rfl rfl rfl
theorem r18_21 : R d 18 21 ls [] μ Q = Q none μ := e_return (show decode (bN 18) 21 = .ok (.return_, 1) by decide +kernel) rfl
/-! ChinRow$Laws.begin(I)V: 19 -/
theorem r19_0 {l1 : Option Value} {x : Nat} : R d 19 0 [some (.ref x), l1] st μ Q = R d 19 1 [some (.ref x), l1] (.ref x :: st) μ Q := e_aload_n (show decode (bN 19) 0 = .ok (.aload_n 0, 1) by decide +kernel) rfl
theorem r19_1 {a : Nat} : R d 19 1 ls (.ref a :: st) μ Q = (a % 100 = 2 ∧ R d 19 4 ls (va_rf (rR μ a 2) :: st) μ Q) := e_getfield (j := 2) (show decode (bN 19) 1 = .ok (.getfield 19, 3) by decide +kernel) (by decide +kernel) rfl
theorem r19_4 {l0 : Option Value} {x : Int32} : R d 19 4 [l0, some (.int x)] st μ Q = R d 19 5 [l0, some (.int x)] (.int x :: st) μ Q := e_iload_n (show decode (bN 19) 4 = .ok (.iload_n 1, 1) by decide +kernel) rfl
theorem r19_5 : R d 19 5 ls st μ Q = R d 19 7 ls (.int 7 :: st) μ Q := e_bipush (show decode (bN 19) 5 = .ok (.bipush 7, 2) by decide +kernel) rfl
theorem r19_7 {x z : Int32} : R d 19 7 ls (.int z :: .int x :: st) μ Q = R d 19 8 ls (.int (x - z) :: st) μ Q := e_isub (show decode (bN 19) 7 = .ok (.isub, 1) by decide +kernel)
theorem r19_8 {l1 : Option Value} {x : Nat} : R d 19 8 [some (.ref x), l1] st μ Q = R d 19 9 [some (.ref x), l1] (.ref x :: st) μ Q := e_aload_n (show decode (bN 19) 8 = .ok (.aload_n 0, 1) by decide +kernel) rfl
theorem r19_9 {a : Nat} : R d 19 9 ls (.ref a :: st) μ Q = (a % 100 = 2 ∧ R d 19 12 ls (.int (rI μ a 1) :: st) μ Q) := e_getfield (j := 1) (show decode (bN 19) 9 = .ok (.getfield 15, 3) by decide +kernel) (by decide +kernel) rfl
theorem r19_12 {a : Nat} {i : Int32} {x : Int32} : R d 19 12 ls (.int x :: .int i :: .ref a :: st) μ Q = ((a % 100 = 20 ∧ 2000000 ≤ a ∧ ¬ (i < 0 ∨ a / 100 % 10000 ≤ i.toNatClampNeg)) ∧ R d 19 13 ls st (wI μ a i.toNatClampNeg x) Q) := e_iastore (show decode (bN 19) 12 = .ok (.iastore, 1) by decide +kernel)
theorem r19_13 : R d 19 13 ls [] μ Q = Q none μ := e_return (show decode (bN 19) 13 = .ok (.return_, 1) by decide +kernel) rfl
/-! ChinRow$Laws.end(I)V: 20 -/
theorem r20_0 {l1 : Option Value} {x : Nat} : R d 20 0 [some (.ref x), l1] st μ Q = R d 20 1 [some (.ref x), l1] (.ref x :: st) μ Q := e_aload_n (show decode (bN 20) 0 = .ok (.aload_n 0, 1) by decide +kernel) rfl
theorem r20_1 {a : Nat} : R d 20 1 ls (.ref a :: st) μ Q = (a % 100 = 2 ∧ R d 20 4 ls (va_rf (rR μ a 3) :: st) μ Q) := e_getfield (j := 3) (show decode (bN 20) 1 = .ok (.getfield 22, 3) by decide +kernel) (by decide +kernel) rfl
theorem r20_4 {l0 : Option Value} {x : Int32} : R d 20 4 [l0, some (.int x)] st μ Q = R d 20 5 [l0, some (.int x)] (.int x :: st) μ Q := e_iload_n (show decode (bN 20) 4 = .ok (.iload_n 1, 1) by decide +kernel) rfl
theorem r20_5 : R d 20 5 ls st μ Q = R d 20 7 ls (.int 7 :: st) μ Q := e_bipush (show decode (bN 20) 5 = .ok (.bipush 7, 2) by decide +kernel) rfl
theorem r20_7 {x z : Int32} : R d 20 7 ls (.int z :: .int x :: st) μ Q = R d 20 8 ls (.int (x - z) :: st) μ Q := e_isub (show decode (bN 20) 7 = .ok (.isub, 1) by decide +kernel)
theorem r20_8 {l1 : Option Value} {x : Nat} : R d 20 8 [some (.ref x), l1] st μ Q = R d 20 9 [some (.ref x), l1] (.ref x :: st) μ Q := e_aload_n (show decode (bN 20) 8 = .ok (.aload_n 0, 1) by decide +kernel) rfl
theorem r20_9 {a : Nat} : R d 20 9 ls (.ref a :: st) μ Q = (a % 100 = 2 ∧ R d 20 12 ls (.int (rI μ a 1) :: st) μ Q) := e_getfield (j := 1) (show decode (bN 20) 9 = .ok (.getfield 15, 3) by decide +kernel) (by decide +kernel) rfl
theorem r20_12 {a : Nat} {i : Int32} {x : Int32} : R d 20 12 ls (.int x :: .int i :: .ref a :: st) μ Q = ((a % 100 = 20 ∧ 2000000 ≤ a ∧ ¬ (i < 0 ∨ a / 100 % 10000 ≤ i.toNatClampNeg)) ∧ R d 20 13 ls st (wI μ a i.toNatClampNeg x) Q) := e_iastore (show decode (bN 20) 12 = .ok (.iastore, 1) by decide +kernel)
theorem r20_13 : R d 20 13 ls [] μ Q = Q none μ := e_return (show decode (bN 20) 13 = .ok (.return_, 1) by decide +kernel) rfl
/-! ChinRow$Laws.add(I)V: 21 -/
theorem r21_0 {l1 : Option Value} {x : Nat} : R d 21 0 [some (.ref x), l1] st μ Q = R d 21 1 [some (.ref x), l1] (.ref x :: st) μ Q := e_aload_n (show decode (bN 21) 0 = .ok (.aload_n 0, 1) by decide +kernel) rfl
theorem r21_1 {a : Nat} : R d 21 1 ls (.ref a :: st) μ Q = (a % 100 = 2 ∧ R d 21 4 ls (.int (rI μ a 1) :: st) μ Q) := e_getfield (j := 1) (show decode (bN 21) 1 = .ok (.getfield 15, 3) by decide +kernel) (by decide +kernel) rfl
theorem r21_4 : R d 21 4 ls st μ Q = R d 21 7 ls (.int 1000 :: st) μ Q := e_sipush (show decode (bN 21) 4 = .ok (.sipush 1000, 3) by decide +kernel) rfl
theorem r21_7 {x z : Int32} : R d 21 7 ls (.int z :: .int x :: st) μ Q = if z ≤ x then R d 21 30 ls st μ Q else R d 21 10 ls st μ Q := e_ic_ge (show decode (bN 21) 7 = .ok (.if_icmp .ge 23, 3) by decide +kernel) rfl
theorem r21_10 {l1 : Option Value} {x : Nat} : R d 21 10 [some (.ref x), l1] st μ Q = R d 21 11 [some (.ref x), l1] (.ref x :: st) μ Q := e_aload_n (show decode (bN 21) 10 = .ok (.aload_n 0, 1) by decide +kernel) rfl
theorem r21_11 {a : Nat} : R d 21 11 ls (.ref a :: st) μ Q = (a % 100 = 2 ∧ R d 21 14 ls (va_rf (rR μ a 0) :: st) μ Q) := e_getfield (j := 0) (show decode (bN 21) 11 = .ok (.getfield 9, 3) by decide +kernel) (by decide +kernel) rfl
theorem r21_14 {l1 : Option Value} {x : Nat} : R d 21 14 [some (.ref x), l1] st μ Q = R d 21 15 [some (.ref x), l1] (.ref x :: st) μ Q := e_aload_n (show decode (bN 21) 14 = .ok (.aload_n 0, 1) by decide +kernel) rfl
theorem r21_15 {a : Nat} : R d 21 15 ls (.ref a :: st) μ Q = (a % 100 = 2 ∧ R d 21 18 ls (.int (rI μ a 1) :: st) μ Q) := e_getfield (j := 1) (show decode (bN 21) 15 = .ok (.getfield 15, 3) by decide +kernel) (by decide +kernel) rfl
theorem r21_18 {l0 : Option Value} {x : Int32} : R d 21 18 [l0, some (.int x)] st μ Q = R d 21 19 [l0, some (.int x)] (.int x :: st) μ Q := e_iload_n (show decode (bN 21) 18 = .ok (.iload_n 1, 1) by decide +kernel) rfl
theorem r21_19 {a : Nat} {i : Int32} {x : Int32} : R d 21 19 ls (.int x :: .int i :: .ref a :: st) μ Q = ((a % 100 = 20 ∧ 2000000 ≤ a ∧ ¬ (i < 0 ∨ a / 100 % 10000 ≤ i.toNatClampNeg)) ∧ R d 21 20 ls st (wI μ a i.toNatClampNeg x) Q) := e_iastore (show decode (bN 21) 19 = .ok (.iastore, 1) by decide +kernel)
theorem r21_20 {l1 : Option Value} {x : Nat} : R d 21 20 [some (.ref x), l1] st μ Q = R d 21 21 [some (.ref x), l1] (.ref x :: st) μ Q := e_aload_n (show decode (bN 21) 20 = .ok (.aload_n 0, 1) by decide +kernel) rfl
theorem r21_21 {x : Nat} : R d 21 21 ls (.ref x :: st) μ Q = R d 21 22 ls (.ref x :: .ref x :: st) μ Q := e_dupA (show decode (bN 21) 21 = .ok (.dup, 1) by decide +kernel)
theorem r21_21i {x : Int32} : R d 21 21 ls (.int x :: st) μ Q = R d 21 22 ls (.int x :: .int x :: st) μ Q := e_dupI (show decode (bN 21) 21 = .ok (.dup, 1) by decide +kernel)
theorem r21_22 {a : Nat} : R d 21 22 ls (.ref a :: st) μ Q = (a % 100 = 2 ∧ R d 21 25 ls (.int (rI μ a 1) :: st) μ Q) := e_getfield (j := 1) (show decode (bN 21) 22 = .ok (.getfield 15, 3) by decide +kernel) (by decide +kernel) rfl
theorem r21_25 : R d 21 25 ls st μ Q = R d 21 26 ls (.int 1 :: st) μ Q := e_iconst (show decode (bN 21) 25 = .ok (.iconst 1, 1) by decide +kernel) rfl
theorem r21_26 {x z : Int32} : R d 21 26 ls (.int z :: .int x :: st) μ Q = R d 21 27 ls (.int (x + z) :: st) μ Q := e_iadd (show decode (bN 21) 26 = .ok (.iadd, 1) by decide +kernel)
theorem r21_27 {a : Nat} {x : Int32} : R d 21 27 ls (.int x :: .ref a :: st) μ Q = (a % 100 = 2 ∧ R d 21 30 ls st (wI μ a 1 x) Q) := e_putfield (j := 1) (show decode (bN 21) 27 = .ok (.putfield 15, 3) by decide +kernel) (by decide +kernel) (by decide +kernel) rfl
theorem r21_30 : R d 21 30 ls [] μ Q = Q none μ := e_return (show decode (bN 21) 30 = .ok (.return_, 1) by decide +kernel) rfl
/-! ChinRow$Laws.look(II)V: 22 -/
theorem r22_0 {l1 l2 : Option Value} {x : Nat} : R d 22 0 [some (.ref x), l1, l2] st μ Q = R d 22 1 [some (.ref x), l1, l2] (.ref x :: st) μ Q := e_aload_n (show decode (bN 22) 0 = .ok (.aload_n 0, 1) by decide +kernel) rfl
theorem r22_1 {l0 l2 : Option Value} {x : Int32} : R d 22 1 [l0, some (.int x), l2] st μ Q = R d 22 2 [l0, some (.int x), l2] (.int x :: st) μ Q := e_iload_n (show decode (bN 22) 1 = .ok (.iload_n 1, 1) by decide +kernel) rfl
theorem r22_2 {a : Nat} {x : Int32} : R d 22 2 ls (.int x :: .ref a :: st) μ Q = (a % 100 = 2 ∧ R d 22 5 ls st (wI μ a 5 x) Q) := e_putfield (j := 5) (show decode (bN 22) 2 = .ok (.putfield 28, 3) by decide +kernel) (by decide +kernel) (by decide +kernel) rfl
theorem r22_5 {l1 l2 : Option Value} {x : Nat} : R d 22 5 [some (.ref x), l1, l2] st μ Q = R d 22 6 [some (.ref x), l1, l2] (.ref x :: st) μ Q := e_aload_n (show decode (bN 22) 5 = .ok (.aload_n 0, 1) by decide +kernel) rfl
theorem r22_6 {l0 l1 : Option Value} {x : Int32} : R d 22 6 [l0, l1, some (.int x)] st μ Q = R d 22 7 [l0, l1, some (.int x)] (.int x :: st) μ Q := e_iload_n (show decode (bN 22) 6 = .ok (.iload_n 2, 1) by decide +kernel) rfl
theorem r22_7 {a : Nat} {x : Int32} : R d 22 7 ls (.int x :: .ref a :: st) μ Q = (a % 100 = 2 ∧ R d 22 10 ls st (wI μ a 6 x) Q) := e_putfield (j := 6) (show decode (bN 22) 7 = .ok (.putfield 31, 3) by decide +kernel) (by decide +kernel) (by decide +kernel) rfl
theorem r22_10 : R d 22 10 ls [] μ Q = Q none μ := e_return (show decode (bN 22) 10 = .ok (.return_, 1) by decide +kernel) rfl
/-! ChinRow$Laws.lookAtFruit(III)V: 23 -/
theorem r23_0 {l1 l2 l3 : Option Value} {x : Nat} : R d 23 0 [some (.ref x), l1, l2, l3] st μ Q = R d 23 1 [some (.ref x), l1, l2, l3] (.ref x :: st) μ Q := e_aload_n (show decode (bN 23) 0 = .ok (.aload_n 0, 1) by decide +kernel) rfl
theorem r23_1 {l0 l2 l3 : Option Value} {x : Int32} : R d 23 1 [l0, some (.int x), l2, l3] st μ Q = R d 23 2 [l0, some (.int x), l2, l3] (.int x :: st) μ Q := e_iload_n (show decode (bN 23) 1 = .ok (.iload_n 1, 1) by decide +kernel) rfl
theorem r23_2 {a : Nat} {x : Int32} : R d 23 2 ls (.int x :: .ref a :: st) μ Q = (a % 100 = 2 ∧ R d 23 5 ls st (wI μ a 7 x) Q) := e_putfield (j := 7) (show decode (bN 23) 2 = .ok (.putfield 34, 3) by decide +kernel) (by decide +kernel) (by decide +kernel) rfl
theorem r23_5 {l1 l2 l3 : Option Value} {x : Nat} : R d 23 5 [some (.ref x), l1, l2, l3] st μ Q = R d 23 6 [some (.ref x), l1, l2, l3] (.ref x :: st) μ Q := e_aload_n (show decode (bN 23) 5 = .ok (.aload_n 0, 1) by decide +kernel) rfl
theorem r23_6 {l0 l1 l3 : Option Value} {x : Int32} : R d 23 6 [l0, l1, some (.int x), l3] st μ Q = R d 23 7 [l0, l1, some (.int x), l3] (.int x :: st) μ Q := e_iload_n (show decode (bN 23) 6 = .ok (.iload_n 2, 1) by decide +kernel) rfl
theorem r23_7 {a : Nat} {x : Int32} : R d 23 7 ls (.int x :: .ref a :: st) μ Q = (a % 100 = 2 ∧ R d 23 10 ls st (wI μ a 8 x) Q) := e_putfield (j := 8) (show decode (bN 23) 7 = .ok (.putfield 37, 3) by decide +kernel) (by decide +kernel) (by decide +kernel) rfl
theorem r23_10 {l1 l2 l3 : Option Value} {x : Nat} : R d 23 10 [some (.ref x), l1, l2, l3] st μ Q = R d 23 11 [some (.ref x), l1, l2, l3] (.ref x :: st) μ Q := e_aload_n (show decode (bN 23) 10 = .ok (.aload_n 0, 1) by decide +kernel) rfl
theorem r23_11 {l0 l1 l2 : Option Value} {x : Int32} : R d 23 11 [l0, l1, l2, some (.int x)] st μ Q = R d 23 12 [l0, l1, l2, some (.int x)] (.int x :: st) μ Q := e_iload_n (show decode (bN 23) 11 = .ok (.iload_n 3, 1) by decide +kernel) rfl
theorem r23_12 {a : Nat} {x : Int32} : R d 23 12 ls (.int x :: .ref a :: st) μ Q = (a % 100 = 2 ∧ R d 23 15 ls st (wI μ a 9 x) Q) := e_putfield (j := 9) (show decode (bN 23) 12 = .ok (.putfield 40, 3) by decide +kernel) (by decide +kernel) (by decide +kernel) rfl
theorem r23_15 : R d 23 15 ls [] μ Q = Q none μ := e_return (show decode (bN 23) 15 = .ok (.return_, 1) by decide +kernel) rfl
/-! ChinRow$Laws.value(I)I: 24 -/
theorem r24_0 {l1 l2 l3 l4 l5 : Option Value} {x : Nat} : R d 24 0 [some (.ref x), l1, l2, l3, l4, l5] st μ Q = R d 24 1 [some (.ref x), l1, l2, l3, l4, l5] (.ref x :: st) μ Q := e_aload_n (show decode (bN 24) 0 = .ok (.aload_n 0, 1) by decide +kernel) rfl
theorem r24_1 {a : Nat} : R d 24 1 ls (.ref a :: st) μ Q = (a % 100 = 2 ∧ R d 24 4 ls (va_rf (rR μ a 2) :: st) μ Q) := e_getfield (j := 2) (show decode (bN 24) 1 = .ok (.getfield 19, 3) by decide +kernel) (by decide +kernel) rfl
theorem r24_4 {l0 l2 l3 l4 l5 : Option Value} {x : Int32} : R d 24 4 [l0, some (.int x), l2, l3, l4, l5] st μ Q = R d 24 5 [l0, some (.int x), l2, l3, l4, l5] (.int x :: st) μ Q := e_iload_n (show decode (bN 24) 4 = .ok (.iload_n 1, 1) by decide +kernel) rfl
theorem r24_5 : R d 24 5 ls st μ Q = R d 24 7 ls (.int 7 :: st) μ Q := e_bipush (show decode (bN 24) 5 = .ok (.bipush 7, 2) by decide +kernel) rfl
theorem r24_7 {x z : Int32} : R d 24 7 ls (.int z :: .int x :: st) μ Q = R d 24 8 ls (.int (x - z) :: st) μ Q := e_isub (show decode (bN 24) 7 = .ok (.isub, 1) by decide +kernel)
theorem r24_8 {a : Nat} {i : Int32} : R d 24 8 ls (.int i :: .ref a :: st) μ Q = ((a % 100 = 20 ∧ ¬ (i < 0 ∨ a / 100 % 10000 ≤ i.toNatClampNeg)) ∧ R d 24 9 ls (.int (rI μ a i.toNatClampNeg) :: st) μ Q) := e_iaload (show decode (bN 24) 8 = .ok (.iaload, 1) by decide +kernel)
theorem r24_9 {l0 l1 l2 l3 l4 l5 : Option Value} {x : Int32} : R d 24 9 [l0, l1, l2, l3, l4, l5] (.int x :: st) μ Q = R d 24 10 [l0, l1, some (.int x), l3, l4, l5] st μ Q := e_istore_n (show decode (bN 24) 9 = .ok (.istore_n 2, 1) by decide +kernel) (by decide +kernel) rfl
theorem r24_10 {l1 l2 l3 l4 l5 : Option Value} {x : Nat} : R d 24 10 [some (.ref x), l1, l2, l3, l4, l5] st μ Q = R d 24 11 [some (.ref x), l1, l2, l3, l4, l5] (.ref x :: st) μ Q := e_aload_n (show decode (bN 24) 10 = .ok (.aload_n 0, 1) by decide +kernel) rfl
theorem r24_11 {a : Nat} : R d 24 11 ls (.ref a :: st) μ Q = (a % 100 = 2 ∧ R d 24 14 ls (va_rf (rR μ a 3) :: st) μ Q) := e_getfield (j := 3) (show decode (bN 24) 11 = .ok (.getfield 22, 3) by decide +kernel) (by decide +kernel) rfl
theorem r24_14 {l0 l2 l3 l4 l5 : Option Value} {x : Int32} : R d 24 14 [l0, some (.int x), l2, l3, l4, l5] st μ Q = R d 24 15 [l0, some (.int x), l2, l3, l4, l5] (.int x :: st) μ Q := e_iload_n (show decode (bN 24) 14 = .ok (.iload_n 1, 1) by decide +kernel) rfl
theorem r24_15 : R d 24 15 ls st μ Q = R d 24 17 ls (.int 7 :: st) μ Q := e_bipush (show decode (bN 24) 15 = .ok (.bipush 7, 2) by decide +kernel) rfl
theorem r24_17 {x z : Int32} : R d 24 17 ls (.int z :: .int x :: st) μ Q = R d 24 18 ls (.int (x - z) :: st) μ Q := e_isub (show decode (bN 24) 17 = .ok (.isub, 1) by decide +kernel)
theorem r24_18 {a : Nat} {i : Int32} : R d 24 18 ls (.int i :: .ref a :: st) μ Q = ((a % 100 = 20 ∧ ¬ (i < 0 ∨ a / 100 % 10000 ≤ i.toNatClampNeg)) ∧ R d 24 19 ls (.int (rI μ a i.toNatClampNeg) :: st) μ Q) := e_iaload (show decode (bN 24) 18 = .ok (.iaload, 1) by decide +kernel)
theorem r24_19 {l0 l1 l2 l3 l4 l5 : Option Value} {x : Int32} : R d 24 19 [l0, l1, l2, l3, l4, l5] (.int x :: st) μ Q = R d 24 20 [l0, l1, l2, some (.int x), l4, l5] st μ Q := e_istore_n (show decode (bN 24) 19 = .ok (.istore_n 3, 1) by decide +kernel) (by decide +kernel) rfl
theorem r24_20 {l0 l1 l3 l4 l5 : Option Value} {x : Int32} : R d 24 20 [l0, l1, some (.int x), l3, l4, l5] st μ Q = R d 24 21 [l0, l1, some (.int x), l3, l4, l5] (.int x :: st) μ Q := e_iload_n (show decode (bN 24) 20 = .ok (.iload_n 2, 1) by decide +kernel) rfl
theorem r24_21 {l0 l1 l2 l4 l5 : Option Value} {x : Int32} : R d 24 21 [l0, l1, l2, some (.int x), l4, l5] st μ Q = R d 24 22 [l0, l1, l2, some (.int x), l4, l5] (.int x :: st) μ Q := e_iload_n (show decode (bN 24) 21 = .ok (.iload_n 3, 1) by decide +kernel) rfl
theorem r24_22 {x z : Int32} : R d 24 22 ls (.int z :: .int x :: st) μ Q = if ¬ x = z then R d 24 61 ls st μ Q else R d 24 25 ls st μ Q := e_ic_ne (show decode (bN 24) 22 = .ok (.if_icmp .ne 39, 3) by decide +kernel) rfl
theorem r24_25 {l0 l2 l3 l4 l5 : Option Value} {x : Int32} : R d 24 25 [l0, some (.int x), l2, l3, l4, l5] st μ Q = R d 24 26 [l0, some (.int x), l2, l3, l4, l5] (.int x :: st) μ Q := e_iload_n (show decode (bN 24) 25 = .ok (.iload_n 1, 1) by decide +kernel) rfl
theorem r24_26 : R d 24 26 ls st μ Q = R d 24 28 ls (.int 7 :: st) μ Q := e_bipush (show decode (bN 24) 26 = .ok (.bipush 7, 2) by decide +kernel) rfl
theorem r24_28 {x z : Int32} : R d 24 28 ls (.int z :: .int x :: st) μ Q = if ¬ x = z then R d 24 41 ls st μ Q else R d 24 31 ls st μ Q := e_ic_ne (show decode (bN 24) 28 = .ok (.if_icmp .ne 13, 3) by decide +kernel) rfl
theorem r24_31 : R d 24 31 ls st μ Q = R d 24 33 ls (.int 8 :: st) μ Q := e_bipush (show decode (bN 24) 31 = .ok (.bipush 8, 2) by decide +kernel) rfl
theorem r24_33 {l1 l2 l3 l4 l5 : Option Value} {x : Nat} : R d 24 33 [some (.ref x), l1, l2, l3, l4, l5] st μ Q = R d 24 34 [some (.ref x), l1, l2, l3, l4, l5] (.ref x :: st) μ Q := e_aload_n (show decode (bN 24) 33 = .ok (.aload_n 0, 1) by decide +kernel) rfl
theorem r24_34 {a : Nat} : R d 24 34 ls (.ref a :: st) μ Q = (a % 100 = 2 ∧ R d 24 37 ls (.int (rI μ a 9) :: st) μ Q) := e_getfield (j := 9) (show decode (bN 24) 34 = .ok (.getfield 40, 3) by decide +kernel) (by decide +kernel) rfl
theorem r24_37 {x z : Int32} : R d 24 37 ls (.int z :: .int x :: st) μ Q = R d 24 38 ls (.int (x - z) :: st) μ Q := e_isub (show decode (bN 24) 37 = .ok (.isub, 1) by decide +kernel)
theorem r24_38 : R d 24 38 ls st μ Q = R d 24 60 ls st μ Q := e_goto (show decode (bN 24) 38 = .ok (.goto 22, 3) by decide +kernel) rfl
theorem r24_41 {l0 l2 l3 l4 l5 : Option Value} {x : Int32} : R d 24 41 [l0, some (.int x), l2, l3, l4, l5] st μ Q = R d 24 42 [l0, some (.int x), l2, l3, l4, l5] (.int x :: st) μ Q := e_iload_n (show decode (bN 24) 41 = .ok (.iload_n 1, 1) by decide +kernel) rfl
theorem r24_42 : R d 24 42 ls st μ Q = R d 24 44 ls (.int 8 :: st) μ Q := e_bipush (show decode (bN 24) 42 = .ok (.bipush 8, 2) by decide +kernel) rfl
theorem r24_44 {x z : Int32} : R d 24 44 ls (.int z :: .int x :: st) μ Q = if ¬ x = z then R d 24 59 ls st μ Q else R d 24 47 ls st μ Q := e_ic_ne (show decode (bN 24) 44 = .ok (.if_icmp .ne 15, 3) by decide +kernel) rfl
theorem r24_47 : R d 24 47 ls st μ Q = R d 24 49 ls (.int 9 :: st) μ Q := e_bipush (show decode (bN 24) 47 = .ok (.bipush 9, 2) by decide +kernel) rfl
theorem r24_49 {l1 l2 l3 l4 l5 : Option Value} {x : Nat} : R d 24 49 [some (.ref x), l1, l2, l3, l4, l5] st μ Q = R d 24 50 [some (.ref x), l1, l2, l3, l4, l5] (.ref x :: st) μ Q := e_aload_n (show decode (bN 24) 49 = .ok (.aload_n 0, 1) by decide +kernel) rfl
theorem r24_50 {a : Nat} : R d 24 50 ls (.ref a :: st) μ Q = (a % 100 = 2 ∧ R d 24 53 ls (.int (rI μ a 9) :: st) μ Q) := e_getfield (j := 9) (show decode (bN 24) 50 = .ok (.getfield 40, 3) by decide +kernel) (by decide +kernel) rfl
theorem r24_53 : R d 24 53 ls st μ Q = R d 24 54 ls (.int 2 :: st) μ Q := e_iconst (show decode (bN 24) 53 = .ok (.iconst 2, 1) by decide +kernel) rfl
theorem r24_54 {x z : Int32} : R d 24 54 ls (.int z :: .int x :: st) μ Q = R d 24 55 ls (.int (x * z) :: st) μ Q := e_imul (show decode (bN 24) 54 = .ok (.imul, 1) by decide +kernel)
theorem r24_55 {x z : Int32} : R d 24 55 ls (.int z :: .int x :: st) μ Q = R d 24 56 ls (.int (x - z) :: st) μ Q := e_isub (show decode (bN 24) 55 = .ok (.isub, 1) by decide +kernel)
theorem r24_56 : R d 24 56 ls st μ Q = R d 24 60 ls st μ Q := e_goto (show decode (bN 24) 56 = .ok (.goto 4, 3) by decide +kernel) rfl
theorem r24_59 : R d 24 59 ls st μ Q = R d 24 60 ls (.int 1 :: st) μ Q := e_iconst (show decode (bN 24) 59 = .ok (.iconst 1, 1) by decide +kernel) rfl
theorem r24_60 {x : Int32} : R d 24 60 ls [.int x] μ Q = Q (some (.int x)) μ := e_ireturn (show decode (bN 24) 60 = .ok (.ireturn, 1) by decide +kernel) rfl
theorem r24_61 : R d 24 61 ls st μ Q = R d 24 62 ls (.int 0 :: st) μ Q := e_iconst (show decode (bN 24) 61 = .ok (.iconst 0, 1) by decide +kernel) rfl
theorem r24_62 {l0 l1 l2 l3 l4 l5 : Option Value} {x : Int32} : R d 24 62 [l0, l1, l2, l3, l4, l5] (.int x :: st) μ Q = R d 24 64 [l0, l1, l2, l3, some (.int x), l5] st μ Q := e_istore (show decode (bN 24) 62 = .ok (.istore 4, 2) by decide +kernel) (by decide +kernel) rfl
theorem r24_64 {l0 l1 l3 l4 l5 : Option Value} {x : Int32} : R d 24 64 [l0, l1, some (.int x), l3, l4, l5] st μ Q = R d 24 65 [l0, l1, some (.int x), l3, l4, l5] (.int x :: st) μ Q := e_iload_n (show decode (bN 24) 64 = .ok (.iload_n 2, 1) by decide +kernel) rfl
theorem r24_65 {l0 l1 l2 l3 l4 l5 : Option Value} {x : Int32} : R d 24 65 [l0, l1, l2, l3, l4, l5] (.int x :: st) μ Q = R d 24 67 [l0, l1, l2, l3, l4, some (.int x)] st μ Q := e_istore (show decode (bN 24) 65 = .ok (.istore 5, 2) by decide +kernel) (by decide +kernel) rfl
theorem r24_67 {l0 l1 l2 l3 l4 : Option Value} {x : Int32} : R d 24 67 [l0, l1, l2, l3, l4, some (.int x)] st μ Q = R d 24 69 [l0, l1, l2, l3, l4, some (.int x)] (.int x :: st) μ Q := e_iload (show decode (bN 24) 67 = .ok (.iload 5, 2) by decide +kernel) rfl
theorem r24_69 {l0 l1 l2 l4 l5 : Option Value} {x : Int32} : R d 24 69 [l0, l1, l2, some (.int x), l4, l5] st μ Q = R d 24 70 [l0, l1, l2, some (.int x), l4, l5] (.int x :: st) μ Q := e_iload_n (show decode (bN 24) 69 = .ok (.iload_n 3, 1) by decide +kernel) rfl
theorem r24_70 {x z : Int32} : R d 24 70 ls (.int z :: .int x :: st) μ Q = if z ≤ x then R d 24 102 ls st μ Q else R d 24 73 ls st μ Q := e_ic_ge (show decode (bN 24) 70 = .ok (.if_icmp .ge 32, 3) by decide +kernel) rfl
theorem r24_73 {l0 l1 l2 l3 l4 : Option Value} {x : Int32} : R d 24 73 [l0, l1, l2, l3, l4, some (.int x)] st μ Q = R d 24 75 [l0, l1, l2, l3, l4, some (.int x)] (.int x :: st) μ Q := e_iload (show decode (bN 24) 73 = .ok (.iload 5, 2) by decide +kernel) rfl
theorem r24_75 : R d 24 75 ls st μ Q = R d 24 78 ls (.int 1000 :: st) μ Q := e_sipush (show decode (bN 24) 75 = .ok (.sipush 1000, 3) by decide +kernel) rfl
theorem r24_78 {x z : Int32} : R d 24 78 ls (.int z :: .int x :: st) μ Q = if z ≤ x then R d 24 102 ls st μ Q else R d 24 81 ls st μ Q := e_ic_ge (show decode (bN 24) 78 = .ok (.if_icmp .ge 24, 3) by decide +kernel) rfl
theorem r24_81 {l1 l2 l3 l4 l5 : Option Value} {x : Nat} : R d 24 81 [some (.ref x), l1, l2, l3, l4, l5] st μ Q = R d 24 82 [some (.ref x), l1, l2, l3, l4, l5] (.ref x :: st) μ Q := e_aload_n (show decode (bN 24) 81 = .ok (.aload_n 0, 1) by decide +kernel) rfl
theorem r24_82 {l1 l2 l3 l4 l5 : Option Value} {x : Nat} : R d 24 82 [some (.ref x), l1, l2, l3, l4, l5] st μ Q = R d 24 83 [some (.ref x), l1, l2, l3, l4, l5] (.ref x :: st) μ Q := e_aload_n (show decode (bN 24) 82 = .ok (.aload_n 0, 1) by decide +kernel) rfl
theorem r24_83 {a : Nat} : R d 24 83 ls (.ref a :: st) μ Q = (a % 100 = 2 ∧ R d 24 86 ls (va_rf (rR μ a 0) :: st) μ Q) := e_getfield (j := 0) (show decode (bN 24) 83 = .ok (.getfield 9, 3) by decide +kernel) (by decide +kernel) rfl
theorem r24_86 {l0 l1 l2 l3 l4 : Option Value} {x : Int32} : R d 24 86 [l0, l1, l2, l3, l4, some (.int x)] st μ Q = R d 24 88 [l0, l1, l2, l3, l4, some (.int x)] (.int x :: st) μ Q := e_iload (show decode (bN 24) 86 = .ok (.iload 5, 2) by decide +kernel) rfl
theorem r24_88 {a : Nat} {i : Int32} : R d 24 88 ls (.int i :: .ref a :: st) μ Q = ((a % 100 = 20 ∧ ¬ (i < 0 ∨ a / 100 % 10000 ≤ i.toNatClampNeg)) ∧ R d 24 89 ls (.int (rI μ a i.toNatClampNeg) :: st) μ Q) := e_iaload (show decode (bN 24) 88 = .ok (.iaload, 1) by decide +kernel)
theorem r24_89 {l0 l1 l2 l3 l5 : Option Value} {x : Int32} : R d 24 89 [l0, l1, l2, l3, some (.int x), l5] st μ Q = R d 24 91 [l0, l1, l2, l3, some (.int x), l5] (.int x :: st) μ Q := e_iload (show decode (bN 24) 89 = .ok (.iload 4, 2) by decide +kernel) rfl
theorem r24_91 {a : Nat} {v0 : Int32} {v1 : Int32} : R (d + 1) 24 91 ls (.int v1 :: .int v0 :: .ref a :: st) μ Q = ((a % 100 = 2 ∧ sw st ≤ 8) ∧ R d 25 0 [some (.ref a), some (.int v0), some (.int v1)] [] μ (fun v μ' => R (d + 1) 24 94 ls (v.toList ++ st) μ' Q)) := e_callV (z := 25) (as := [.int v1, .int v0]) (show decode (bN 24) 91 = .ok (.invokevirtual 49, 3) by decide +kernel) (by decide +kernel) rfl rfl rfl rfl
theorem r24_94 {l0 l1 l2 l3 l4 l5 : Option Value} {x : Int32} : R d 24 94 [l0, l1, l2, l3, l4, l5] (.int x :: st) μ Q = R d 24 96 [l0, l1, l2, l3, some (.int x), l5] st μ Q := e_istore (show decode (bN 24) 94 = .ok (.istore 4, 2) by decide +kernel) (by decide +kernel) rfl
theorem r24_96 {l0 l1 l2 l3 l4 : Option Value} {x : Int32} : R d 24 96 [l0, l1, l2, l3, l4, some (.int x)] st μ Q = R d 24 99 [l0, l1, l2, l3, l4, some (.int (x + 1))] st μ Q := e_iinc (show decode (bN 24) 96 = .ok (.iinc 5 1, 3) by decide +kernel) (by decide +kernel) rfl rfl rfl
theorem r24_99 : R d 24 99 ls st μ Q = R d 24 67 ls st μ Q := e_goto (show decode (bN 24) 99 = .ok (.goto (-32), 3) by decide +kernel) rfl
theorem r24_102 {l1 l2 l3 l4 l5 : Option Value} {x : Nat} : R d 24 102 [some (.ref x), l1, l2, l3, l4, l5] st μ Q = R d 24 103 [some (.ref x), l1, l2, l3, l4, l5] (.ref x :: st) μ Q := e_aload_n (show decode (bN 24) 102 = .ok (.aload_n 0, 1) by decide +kernel) rfl
theorem r24_103 {a : Nat} : R d 24 103 ls (.ref a :: st) μ Q = (a % 100 = 2 ∧ R d 24 106 ls (va_rf (rR μ a 4) :: st) μ Q) := e_getfield (j := 4) (show decode (bN 24) 103 = .ok (.getfield 25, 3) by decide +kernel) (by decide +kernel) rfl
theorem r24_106 : R d 24 106 ls st μ Q = R d 24 107 ls (.int 0 :: st) μ Q := e_iconst (show decode (bN 24) 106 = .ok (.iconst 0, 1) by decide +kernel) rfl
theorem r24_107 {a : Nat} {i : Int32} : R d 24 107 ls (.int i :: .ref a :: st) μ Q = ((a % 100 = 20 ∧ ¬ (i < 0 ∨ a / 100 % 10000 ≤ i.toNatClampNeg)) ∧ R d 24 108 ls (.int (rI μ a i.toNatClampNeg) :: st) μ Q) := e_iaload (show decode (bN 24) 107 = .ok (.iaload, 1) by decide +kernel)
theorem r24_108 {x : Int32} : R d 24 108 ls [.int x] μ Q = Q (some (.int x)) μ := e_ireturn (show decode (bN 24) 108 = .ok (.ireturn, 1) by decide +kernel) rfl
/-! ChinRow$Laws.follow(II)I: 25 -/
theorem r25_0 {l0 l2 : Option Value} {x : Int32} : R d 25 0 [l0, some (.int x), l2] st μ Q = R d 25 1 [l0, some (.int x), l2] (.int x :: st) μ Q := e_iload_n (show decode (bN 25) 0 = .ok (.iload_n 1, 1) by decide +kernel) rfl
theorem r25_1 : R d 25 1 ls st μ Q = R d 25 3 ls (.int (-23) :: st) μ Q := e_bipush (show decode (bN 25) 1 = .ok (.bipush (-23), 2) by decide +kernel) rfl
theorem r25_3 {x z : Int32} : R d 25 3 ls (.int z :: .int x :: st) μ Q = if ¬ x = z then R d 25 36 ls st μ Q else R d 25 6 ls st μ Q := e_ic_ne (show decode (bN 25) 3 = .ok (.if_icmp .ne 33, 3) by decide +kernel) rfl
theorem r25_6 {l0 l1 : Option Value} {x : Int32} : R d 25 6 [l0, l1, some (.int x)] st μ Q = R d 25 7 [l0, l1, some (.int x)] (.int x :: st) μ Q := e_iload_n (show decode (bN 25) 6 = .ok (.iload_n 2, 1) by decide +kernel) rfl
theorem r25_7 {x : Int32} : R d 25 7 ls (.int x :: st) μ Q = if x ≤ 0 then R d 25 34 ls st μ Q else R d 25 10 ls st μ Q := e_if_le (show decode (bN 25) 7 = .ok (.ifCond .le 27, 3) by decide +kernel) rfl
theorem r25_10 {l1 l2 : Option Value} {x : Nat} : R d 25 10 [some (.ref x), l1, l2] st μ Q = R d 25 11 [some (.ref x), l1, l2] (.ref x :: st) μ Q := e_aload_n (show decode (bN 25) 10 = .ok (.aload_n 0, 1) by decide +kernel) rfl
theorem r25_11 {a : Nat} : R d 25 11 ls (.ref a :: st) μ Q = (a % 100 = 2 ∧ R d 25 14 ls (va_rf (rR μ a 4) :: st) μ Q) := e_getfield (j := 4) (show decode (bN 25) 11 = .ok (.getfield 25, 3) by decide +kernel) (by decide +kernel) rfl
theorem r25_14 {l0 l1 : Option Value} {x : Int32} : R d 25 14 [l0, l1, some (.int x)] st μ Q = R d 25 15 [l0, l1, some (.int x)] (.int x :: st) μ Q := e_iload_n (show decode (bN 25) 14 = .ok (.iload_n 2, 1) by decide +kernel) rfl
theorem r25_15 : R d 25 15 ls st μ Q = R d 25 16 ls (.int 1 :: st) μ Q := e_iconst (show decode (bN 25) 15 = .ok (.iconst 1, 1) by decide +kernel) rfl
theorem r25_16 {x z : Int32} : R d 25 16 ls (.int z :: .int x :: st) μ Q = R d 25 17 ls (.int (x - z) :: st) μ Q := e_isub (show decode (bN 25) 16 = .ok (.isub, 1) by decide +kernel)
theorem r25_17 {l1 l2 : Option Value} {x : Nat} : R d 25 17 [some (.ref x), l1, l2] st μ Q = R d 25 18 [some (.ref x), l1, l2] (.ref x :: st) μ Q := e_aload_n (show decode (bN 25) 17 = .ok (.aload_n 0, 1) by decide +kernel) rfl
theorem r25_18 {a : Nat} : R d 25 18 ls (.ref a :: st) μ Q = (a % 100 = 2 ∧ R d 25 21 ls (va_rf (rR μ a 4) :: st) μ Q) := e_getfield (j := 4) (show decode (bN 25) 18 = .ok (.getfield 25, 3) by decide +kernel) (by decide +kernel) rfl
theorem r25_21 {l0 l1 : Option Value} {x : Int32} : R d 25 21 [l0, l1, some (.int x)] st μ Q = R d 25 22 [l0, l1, some (.int x)] (.int x :: st) μ Q := e_iload_n (show decode (bN 25) 21 = .ok (.iload_n 2, 1) by decide +kernel) rfl
theorem r25_22 : R d 25 22 ls st μ Q = R d 25 23 ls (.int 1 :: st) μ Q := e_iconst (show decode (bN 25) 22 = .ok (.iconst 1, 1) by decide +kernel) rfl
theorem r25_23 {x z : Int32} : R d 25 23 ls (.int z :: .int x :: st) μ Q = R d 25 24 ls (.int (x - z) :: st) μ Q := e_isub (show decode (bN 25) 23 = .ok (.isub, 1) by decide +kernel)
theorem r25_24 {a : Nat} {i : Int32} : R d 25 24 ls (.int i :: .ref a :: st) μ Q = ((a % 100 = 20 ∧ ¬ (i < 0 ∨ a / 100 % 10000 ≤ i.toNatClampNeg)) ∧ R d 25 25 ls (.int (rI μ a i.toNatClampNeg) :: st) μ Q) := e_iaload (show decode (bN 25) 24 = .ok (.iaload, 1) by decide +kernel)
theorem r25_25 {x : Int32} : R d 25 25 ls (.int x :: st) μ Q = if ¬ x = 0 then R d 25 32 ls st μ Q else R d 25 28 ls st μ Q := e_if_ne (show decode (bN 25) 25 = .ok (.ifCond .ne 7, 3) by decide +kernel) rfl
theorem r25_28 : R d 25 28 ls st μ Q = R d 25 29 ls (.int 1 :: st) μ Q := e_iconst (show decode (bN 25) 28 = .ok (.iconst 1, 1) by decide +kernel) rfl
theorem r25_29 : R d 25 29 ls st μ Q = R d 25 33 ls st μ Q := e_goto (show decode (bN 25) 29 = .ok (.goto 4, 3) by decide +kernel) rfl
theorem r25_32 : R d 25 32 ls st μ Q = R d 25 33 ls (.int 0 :: st) μ Q := e_iconst (show decode (bN 25) 32 = .ok (.iconst 0, 1) by decide +kernel) rfl
theorem r25_33 {a : Nat} {i : Int32} {x : Int32} : R d 25 33 ls (.int x :: .int i :: .ref a :: st) μ Q = ((a % 100 = 20 ∧ 2000000 ≤ a ∧ ¬ (i < 0 ∨ a / 100 % 10000 ≤ i.toNatClampNeg)) ∧ R d 25 34 ls st (wI μ a i.toNatClampNeg x) Q) := e_iastore (show decode (bN 25) 33 = .ok (.iastore, 1) by decide +kernel)
theorem r25_34 {l0 l1 : Option Value} {x : Int32} : R d 25 34 [l0, l1, some (.int x)] st μ Q = R d 25 35 [l0, l1, some (.int x)] (.int x :: st) μ Q := e_iload_n (show decode (bN 25) 34 = .ok (.iload_n 2, 1) by decide +kernel) rfl
theorem r25_35 {x : Int32} : R d 25 35 ls [.int x] μ Q = Q (some (.int x)) μ := e_ireturn (show decode (bN 25) 35 = .ok (.ireturn, 1) by decide +kernel) rfl
theorem r25_36 {l0 l2 : Option Value} {x : Int32} : R d 25 36 [l0, some (.int x), l2] st μ Q = R d 25 37 [l0, some (.int x), l2] (.int x :: st) μ Q := e_iload_n (show decode (bN 25) 36 = .ok (.iload_n 1, 1) by decide +kernel) rfl
theorem r25_37 {x : Int32} : R d 25 37 ls (.int x :: st) μ Q = if 0 ≤ x then R d 25 48 ls st μ Q else R d 25 40 ls st μ Q := e_if_ge (show decode (bN 25) 37 = .ok (.ifCond .ge 11, 3) by decide +kernel) rfl
theorem r25_40 {l0 l2 : Option Value} {x : Int32} : R d 25 40 [l0, some (.int x), l2] st μ Q = R d 25 41 [l0, some (.int x), l2] (.int x :: st) μ Q := e_iload_n (show decode (bN 25) 40 = .ok (.iload_n 1, 1) by decide +kernel) rfl
theorem r25_41 {x : Int32} : R d 25 41 ls (.int x :: st) μ Q = R d 25 42 ls (.int (-x) :: st) μ Q := e_ineg (show decode (bN 25) 41 = .ok (.ineg, 1) by decide +kernel)
theorem r25_42 {v0 : Int32} : R (d + 1) 25 42 ls (.int v0 :: st) μ Q = (sw st ≤ 8 ∧ R d 26 0 [some (.int v0)] [] μ (fun v μ' => R (d + 1) 25 45 ls (v.toList ++ st) μ' Q)) := e_callS (z := 26) (as := [.int v0]) (show decode (bN 25) 42 = .ok (.invokestatic 53, 3) by decide +kernel) (by decide +kernel) rfl rfl rfl
theorem r25_45 {x : Int32} : R d 25 45 ls (.int x :: st) μ Q = if x = 0 then R d 25 83 ls st μ Q else R d 25 48 ls st μ Q := e_if_eq (show decode (bN 25) 45 = .ok (.ifCond .eq 38, 3) by decide +kernel) rfl
theorem r25_48 {l0 l1 : Option Value} {x : Int32} : R d 25 48 [l0, l1, some (.int x)] st μ Q = R d 25 49 [l0, l1, some (.int x)] (.int x :: st) μ Q := e_iload_n (show decode (bN 25) 48 = .ok (.iload_n 2, 1) by decide +kernel) rfl
theorem r25_49 {l1 l2 : Option Value} {x : Nat} : R d 25 49 [some (.ref x), l1, l2] st μ Q = R d 25 50 [some (.ref x), l1, l2] (.ref x :: st) μ Q := e_aload_n (show decode (bN 25) 49 = .ok (.aload_n 0, 1) by decide +kernel) rfl
theorem r25_50 {a : Nat} : R d 25 50 ls (.ref a :: st) μ Q = (a % 100 = 2 ∧ R d 25 53 ls (va_rf (rR μ a 4) :: st) μ Q) := e_getfield (j := 4) (show decode (bN 25) 50 = .ok (.getfield 25, 3) by decide +kernel) (by decide +kernel) rfl
theorem r25_53 {a : Nat} : R d 25 53 ls (.ref a :: st) μ Q = ((20 ≤ a % 100 ∧ a % 100 ≤ 24) ∧ R d 25 54 ls (.int (Int32.ofNat (a / 100 % 10000)) :: st) μ Q) := e_alen (show decode (bN 25) 53 = .ok (.arraylength, 1) by decide +kernel)
theorem r25_54 {x z : Int32} : R d 25 54 ls (.int z :: .int x :: st) μ Q = if x < z then R d 25 59 ls st μ Q else R d 25 57 ls st μ Q := e_ic_lt (show decode (bN 25) 54 = .ok (.if_icmp .lt 5, 3) by decide +kernel) rfl
theorem r25_57 {l0 l1 : Option Value} {x : Int32} : R d 25 57 [l0, l1, some (.int x)] st μ Q = R d 25 58 [l0, l1, some (.int x)] (.int x :: st) μ Q := e_iload_n (show decode (bN 25) 57 = .ok (.iload_n 2, 1) by decide +kernel) rfl
theorem r25_58 {x : Int32} : R d 25 58 ls [.int x] μ Q = Q (some (.int x)) μ := e_ireturn (show decode (bN 25) 58 = .ok (.ireturn, 1) by decide +kernel) rfl
theorem r25_59 {l1 l2 : Option Value} {x : Nat} : R d 25 59 [some (.ref x), l1, l2] st μ Q = R d 25 60 [some (.ref x), l1, l2] (.ref x :: st) μ Q := e_aload_n (show decode (bN 25) 59 = .ok (.aload_n 0, 1) by decide +kernel) rfl
theorem r25_60 {a : Nat} : R d 25 60 ls (.ref a :: st) μ Q = (a % 100 = 2 ∧ R d 25 63 ls (va_rf (rR μ a 4) :: st) μ Q) := e_getfield (j := 4) (show decode (bN 25) 60 = .ok (.getfield 25, 3) by decide +kernel) (by decide +kernel) rfl
theorem r25_63 {l0 l1 : Option Value} {x : Int32} : R d 25 63 [l0, l1, some (.int x)] st μ Q = R d 25 64 [l0, l1, some (.int x)] (.int x :: st) μ Q := e_iload_n (show decode (bN 25) 63 = .ok (.iload_n 2, 1) by decide +kernel) rfl
theorem r25_64 {l0 l2 : Option Value} {x : Int32} : R d 25 64 [l0, some (.int x), l2] st μ Q = R d 25 65 [l0, some (.int x), l2] (.int x :: st) μ Q := e_iload_n (show decode (bN 25) 64 = .ok (.iload_n 1, 1) by decide +kernel) rfl
theorem r25_65 {x : Int32} : R d 25 65 ls (.int x :: st) μ Q = if x < 0 then R d 25 72 ls st μ Q else R d 25 68 ls st μ Q := e_if_lt (show decode (bN 25) 65 = .ok (.ifCond .lt 7, 3) by decide +kernel) rfl
theorem r25_68 {l0 l2 : Option Value} {x : Int32} : R d 25 68 [l0, some (.int x), l2] st μ Q = R d 25 69 [l0, some (.int x), l2] (.int x :: st) μ Q := e_iload_n (show decode (bN 25) 68 = .ok (.iload_n 1, 1) by decide +kernel) rfl
theorem r25_69 : R d 25 69 ls st μ Q = R d 25 78 ls st μ Q := e_goto (show decode (bN 25) 69 = .ok (.goto 9, 3) by decide +kernel) rfl
theorem r25_72 {l1 l2 : Option Value} {x : Nat} : R d 25 72 [some (.ref x), l1, l2] st μ Q = R d 25 73 [some (.ref x), l1, l2] (.ref x :: st) μ Q := e_aload_n (show decode (bN 25) 72 = .ok (.aload_n 0, 1) by decide +kernel) rfl
theorem r25_73 {l0 l2 : Option Value} {x : Int32} : R d 25 73 [l0, some (.int x), l2] st μ Q = R d 25 74 [l0, some (.int x), l2] (.int x :: st) μ Q := e_iload_n (show decode (bN 25) 73 = .ok (.iload_n 1, 1) by decide +kernel) rfl
theorem r25_74 {x : Int32} : R d 25 74 ls (.int x :: st) μ Q = R d 25 75 ls (.int (-x) :: st) μ Q := e_ineg (show decode (bN 25) 74 = .ok (.ineg, 1) by decide +kernel)
theorem r25_75 {a : Nat} {v0 : Int32} : R (d + 1) 25 75 ls (.int v0 :: .ref a :: st) μ Q = ((a % 100 = 2 ∧ sw st ≤ 8) ∧ R d 27 0 [some (.ref a), some (.int v0)] [] μ (fun v μ' => R (d + 1) 25 78 ls (v.toList ++ st) μ' Q)) := e_callV (z := 27) (as := [.int v0]) (show decode (bN 25) 75 = .ok (.invokevirtual 57, 3) by decide +kernel) (by decide +kernel) rfl rfl rfl rfl
theorem r25_78 {a : Nat} {i : Int32} {x : Int32} : R d 25 78 ls (.int x :: .int i :: .ref a :: st) μ Q = ((a % 100 = 20 ∧ 2000000 ≤ a ∧ ¬ (i < 0 ∨ a / 100 % 10000 ≤ i.toNatClampNeg)) ∧ R d 25 79 ls st (wI μ a i.toNatClampNeg x) Q) := e_iastore (show decode (bN 25) 78 = .ok (.iastore, 1) by decide +kernel)
theorem r25_79 {l0 l1 : Option Value} {x : Int32} : R d 25 79 [l0, l1, some (.int x)] st μ Q = R d 25 80 [l0, l1, some (.int x)] (.int x :: st) μ Q := e_iload_n (show decode (bN 25) 79 = .ok (.iload_n 2, 1) by decide +kernel) rfl
theorem r25_80 : R d 25 80 ls st μ Q = R d 25 81 ls (.int 1 :: st) μ Q := e_iconst (show decode (bN 25) 80 = .ok (.iconst 1, 1) by decide +kernel) rfl
theorem r25_81 {x z : Int32} : R d 25 81 ls (.int z :: .int x :: st) μ Q = R d 25 82 ls (.int (x + z) :: st) μ Q := e_iadd (show decode (bN 25) 81 = .ok (.iadd, 1) by decide +kernel)
theorem r25_82 {x : Int32} : R d 25 82 ls [.int x] μ Q = Q (some (.int x)) μ := e_ireturn (show decode (bN 25) 82 = .ok (.ireturn, 1) by decide +kernel) rfl
theorem r25_83 {l0 l1 : Option Value} {x : Int32} : R d 25 83 [l0, l1, some (.int x)] st μ Q = R d 25 84 [l0, l1, some (.int x)] (.int x :: st) μ Q := e_iload_n (show decode (bN 25) 83 = .ok (.iload_n 2, 1) by decide +kernel) rfl
theorem r25_84 : R d 25 84 ls st μ Q = R d 25 85 ls (.int 2 :: st) μ Q := e_iconst (show decode (bN 25) 84 = .ok (.iconst 2, 1) by decide +kernel) rfl
theorem r25_85 {x z : Int32} : R d 25 85 ls (.int z :: .int x :: st) μ Q = if z ≤ x then R d 25 90 ls st μ Q else R d 25 88 ls st μ Q := e_ic_ge (show decode (bN 25) 85 = .ok (.if_icmp .ge 5, 3) by decide +kernel) rfl
theorem r25_88 {l0 l1 : Option Value} {x : Int32} : R d 25 88 [l0, l1, some (.int x)] st μ Q = R d 25 89 [l0, l1, some (.int x)] (.int x :: st) μ Q := e_iload_n (show decode (bN 25) 88 = .ok (.iload_n 2, 1) by decide +kernel) rfl
theorem r25_89 {x : Int32} : R d 25 89 ls [.int x] μ Q = Q (some (.int x)) μ := e_ireturn (show decode (bN 25) 89 = .ok (.ireturn, 1) by decide +kernel) rfl
theorem r25_90 {l1 l2 : Option Value} {x : Nat} : R d 25 90 [some (.ref x), l1, l2] st μ Q = R d 25 91 [some (.ref x), l1, l2] (.ref x :: st) μ Q := e_aload_n (show decode (bN 25) 90 = .ok (.aload_n 0, 1) by decide +kernel) rfl
theorem r25_91 {a : Nat} : R d 25 91 ls (.ref a :: st) μ Q = (a % 100 = 2 ∧ R d 25 94 ls (va_rf (rR μ a 4) :: st) μ Q) := e_getfield (j := 4) (show decode (bN 25) 91 = .ok (.getfield 25, 3) by decide +kernel) (by decide +kernel) rfl
theorem r25_94 {l0 l1 : Option Value} {x : Int32} : R d 25 94 [l0, l1, some (.int x)] st μ Q = R d 25 95 [l0, l1, some (.int x)] (.int x :: st) μ Q := e_iload_n (show decode (bN 25) 94 = .ok (.iload_n 2, 1) by decide +kernel) rfl
theorem r25_95 : R d 25 95 ls st μ Q = R d 25 96 ls (.int 2 :: st) μ Q := e_iconst (show decode (bN 25) 95 = .ok (.iconst 2, 1) by decide +kernel) rfl
theorem r25_96 {x z : Int32} : R d 25 96 ls (.int z :: .int x :: st) μ Q = R d 25 97 ls (.int (x - z) :: st) μ Q := e_isub (show decode (bN 25) 96 = .ok (.isub, 1) by decide +kernel)
theorem r25_97 {l0 l2 : Option Value} {x : Int32} : R d 25 97 [l0, some (.int x), l2] st μ Q = R d 25 98 [l0, some (.int x), l2] (.int x :: st) μ Q := e_iload_n (show decode (bN 25) 97 = .ok (.iload_n 1, 1) by decide +kernel) rfl
theorem r25_98 {x : Int32} : R d 25 98 ls (.int x :: st) μ Q = R d 25 99 ls (.int (-x) :: st) μ Q := e_ineg (show decode (bN 25) 98 = .ok (.ineg, 1) by decide +kernel)
theorem r25_99 {l1 l2 : Option Value} {x : Nat} : R d 25 99 [some (.ref x), l1, l2] st μ Q = R d 25 100 [some (.ref x), l1, l2] (.ref x :: st) μ Q := e_aload_n (show decode (bN 25) 99 = .ok (.aload_n 0, 1) by decide +kernel) rfl
theorem r25_100 {a : Nat} : R d 25 100 ls (.ref a :: st) μ Q = (a % 100 = 2 ∧ R d 25 103 ls (va_rf (rR μ a 4) :: st) μ Q) := e_getfield (j := 4) (show decode (bN 25) 100 = .ok (.getfield 25, 3) by decide +kernel) (by decide +kernel) rfl
theorem r25_103 {l0 l1 : Option Value} {x : Int32} : R d 25 103 [l0, l1, some (.int x)] st μ Q = R d 25 104 [l0, l1, some (.int x)] (.int x :: st) μ Q := e_iload_n (show decode (bN 25) 103 = .ok (.iload_n 2, 1) by decide +kernel) rfl
theorem r25_104 : R d 25 104 ls st μ Q = R d 25 105 ls (.int 2 :: st) μ Q := e_iconst (show decode (bN 25) 104 = .ok (.iconst 2, 1) by decide +kernel) rfl
theorem r25_105 {x z : Int32} : R d 25 105 ls (.int z :: .int x :: st) μ Q = R d 25 106 ls (.int (x - z) :: st) μ Q := e_isub (show decode (bN 25) 105 = .ok (.isub, 1) by decide +kernel)
theorem r25_106 {a : Nat} {i : Int32} : R d 25 106 ls (.int i :: .ref a :: st) μ Q = ((a % 100 = 20 ∧ ¬ (i < 0 ∨ a / 100 % 10000 ≤ i.toNatClampNeg)) ∧ R d 25 107 ls (.int (rI μ a i.toNatClampNeg) :: st) μ Q) := e_iaload (show decode (bN 25) 106 = .ok (.iaload, 1) by decide +kernel)
theorem r25_107 {l1 l2 : Option Value} {x : Nat} : R d 25 107 [some (.ref x), l1, l2] st μ Q = R d 25 108 [some (.ref x), l1, l2] (.ref x :: st) μ Q := e_aload_n (show decode (bN 25) 107 = .ok (.aload_n 0, 1) by decide +kernel) rfl
theorem r25_108 {a : Nat} : R d 25 108 ls (.ref a :: st) μ Q = (a % 100 = 2 ∧ R d 25 111 ls (va_rf (rR μ a 4) :: st) μ Q) := e_getfield (j := 4) (show decode (bN 25) 108 = .ok (.getfield 25, 3) by decide +kernel) (by decide +kernel) rfl
theorem r25_111 {l0 l1 : Option Value} {x : Int32} : R d 25 111 [l0, l1, some (.int x)] st μ Q = R d 25 112 [l0, l1, some (.int x)] (.int x :: st) μ Q := e_iload_n (show decode (bN 25) 111 = .ok (.iload_n 2, 1) by decide +kernel) rfl
theorem r25_112 : R d 25 112 ls st μ Q = R d 25 113 ls (.int 1 :: st) μ Q := e_iconst (show decode (bN 25) 112 = .ok (.iconst 1, 1) by decide +kernel) rfl
theorem r25_113 {x z : Int32} : R d 25 113 ls (.int z :: .int x :: st) μ Q = R d 25 114 ls (.int (x - z) :: st) μ Q := e_isub (show decode (bN 25) 113 = .ok (.isub, 1) by decide +kernel)
theorem r25_114 {a : Nat} {i : Int32} : R d 25 114 ls (.int i :: .ref a :: st) μ Q = ((a % 100 = 20 ∧ ¬ (i < 0 ∨ a / 100 % 10000 ≤ i.toNatClampNeg)) ∧ R d 25 115 ls (.int (rI μ a i.toNatClampNeg) :: st) μ Q) := e_iaload (show decode (bN 25) 114 = .ok (.iaload, 1) by decide +kernel)
theorem r25_115 {v0 : Int32} {v1 : Int32} {v2 : Int32} : R (d + 1) 25 115 ls (.int v2 :: .int v1 :: .int v0 :: st) μ Q = (sw st ≤ 8 ∧ R d 28 0 [some (.int v0), some (.int v1), some (.int v2)] [] μ (fun v μ' => R (d + 1) 25 118 ls (v.toList ++ st) μ' Q)) := e_callS (z := 28) (as := [.int v2, .int v1, .int v0]) (show decode (bN 25) 115 = .ok (.invokestatic 61, 3) by decide +kernel) (by decide +kernel) rfl rfl rfl
theorem r25_118 {a : Nat} {i : Int32} {x : Int32} : R d 25 118 ls (.int x :: .int i :: .ref a :: st) μ Q = ((a % 100 = 20 ∧ 2000000 ≤ a ∧ ¬ (i < 0 ∨ a / 100 % 10000 ≤ i.toNatClampNeg)) ∧ R d 25 119 ls st (wI μ a i.toNatClampNeg x) Q) := e_iastore (show decode (bN 25) 118 = .ok (.iastore, 1) by decide +kernel)
theorem r25_119 {l0 l1 : Option Value} {x : Int32} : R d 25 119 [l0, l1, some (.int x)] st μ Q = R d 25 120 [l0, l1, some (.int x)] (.int x :: st) μ Q := e_iload_n (show decode (bN 25) 119 = .ok (.iload_n 2, 1) by decide +kernel) rfl
theorem r25_120 : R d 25 120 ls st μ Q = R d 25 121 ls (.int 1 :: st) μ Q := e_iconst (show decode (bN 25) 120 = .ok (.iconst 1, 1) by decide +kernel) rfl
theorem r25_121 {x z : Int32} : R d 25 121 ls (.int z :: .int x :: st) μ Q = R d 25 122 ls (.int (x - z) :: st) μ Q := e_isub (show decode (bN 25) 121 = .ok (.isub, 1) by decide +kernel)
theorem r25_122 {x : Int32} : R d 25 122 ls [.int x] μ Q = Q (some (.int x)) μ := e_ireturn (show decode (bN 25) 122 = .ok (.ireturn, 1) by decide +kernel) rfl
/-! ChinRow$Laws.isFact(I)Z: 26 -/
theorem r26_0  {x : Int32} : R d 26 0 [some (.int x)] st μ Q = R d 26 1 [some (.int x)] (.int x :: st) μ Q := e_iload_n (show decode (bN 26) 0 = .ok (.iload_n 0, 1) by decide +kernel) rfl
theorem r26_1 : R d 26 1 ls st μ Q = R d 26 3 ls (.int 26 :: st) μ Q := e_bipush (show decode (bN 26) 1 = .ok (.bipush 26, 2) by decide +kernel) rfl
theorem r26_3 {x z : Int32} : R d 26 3 ls (.int z :: .int x :: st) μ Q = if x = z then R d 26 28 ls st μ Q else R d 26 6 ls st μ Q := e_ic_eq (show decode (bN 26) 3 = .ok (.if_icmp .eq 25, 3) by decide +kernel) rfl
theorem r26_6  {x : Int32} : R d 26 6 [some (.int x)] st μ Q = R d 26 7 [some (.int x)] (.int x :: st) μ Q := e_iload_n (show decode (bN 26) 6 = .ok (.iload_n 0, 1) by decide +kernel) rfl
theorem r26_7 : R d 26 7 ls st μ Q = R d 26 8 ls (.int 3 :: st) μ Q := e_iconst (show decode (bN 26) 7 = .ok (.iconst 3, 1) by decide +kernel) rfl
theorem r26_8 {x z : Int32} : R d 26 8 ls (.int z :: .int x :: st) μ Q = if x = z then R d 26 28 ls st μ Q else R d 26 11 ls st μ Q := e_ic_eq (show decode (bN 26) 8 = .ok (.if_icmp .eq 20, 3) by decide +kernel) rfl
theorem r26_11  {x : Int32} : R d 26 11 [some (.int x)] st μ Q = R d 26 12 [some (.int x)] (.int x :: st) μ Q := e_iload_n (show decode (bN 26) 11 = .ok (.iload_n 0, 1) by decide +kernel) rfl
theorem r26_12 : R d 26 12 ls st μ Q = R d 26 13 ls (.int 5 :: st) μ Q := e_iconst (show decode (bN 26) 12 = .ok (.iconst 5, 1) by decide +kernel) rfl
theorem r26_13 {x z : Int32} : R d 26 13 ls (.int z :: .int x :: st) μ Q = if x = z then R d 26 28 ls st μ Q else R d 26 16 ls st μ Q := e_ic_eq (show decode (bN 26) 13 = .ok (.if_icmp .eq 15, 3) by decide +kernel) rfl
theorem r26_16  {x : Int32} : R d 26 16 [some (.int x)] st μ Q = R d 26 17 [some (.int x)] (.int x :: st) μ Q := e_iload_n (show decode (bN 26) 16 = .ok (.iload_n 0, 1) by decide +kernel) rfl
theorem r26_17 : R d 26 17 ls st μ Q = R d 26 19 ls (.int 6 :: st) μ Q := e_bipush (show decode (bN 26) 17 = .ok (.bipush 6, 2) by decide +kernel) rfl
theorem r26_19 {x z : Int32} : R d 26 19 ls (.int z :: .int x :: st) μ Q = if x = z then R d 26 28 ls st μ Q else R d 26 22 ls st μ Q := e_ic_eq (show decode (bN 26) 19 = .ok (.if_icmp .eq 9, 3) by decide +kernel) rfl
theorem r26_22  {x : Int32} : R d 26 22 [some (.int x)] st μ Q = R d 26 23 [some (.int x)] (.int x :: st) μ Q := e_iload_n (show decode (bN 26) 22 = .ok (.iload_n 0, 1) by decide +kernel) rfl
theorem r26_23 : R d 26 23 ls st μ Q = R d 26 25 ls (.int 27 :: st) μ Q := e_bipush (show decode (bN 26) 23 = .ok (.bipush 27, 2) by decide +kernel) rfl
theorem r26_25 {x z : Int32} : R d 26 25 ls (.int z :: .int x :: st) μ Q = if ¬ x = z then R d 26 32 ls st μ Q else R d 26 28 ls st μ Q := e_ic_ne (show decode (bN 26) 25 = .ok (.if_icmp .ne 7, 3) by decide +kernel) rfl
theorem r26_28 : R d 26 28 ls st μ Q = R d 26 29 ls (.int 1 :: st) μ Q := e_iconst (show decode (bN 26) 28 = .ok (.iconst 1, 1) by decide +kernel) rfl
theorem r26_29 : R d 26 29 ls st μ Q = R d 26 33 ls st μ Q := e_goto (show decode (bN 26) 29 = .ok (.goto 4, 3) by decide +kernel) rfl
theorem r26_32 : R d 26 32 ls st μ Q = R d 26 33 ls (.int 0 :: st) μ Q := e_iconst (show decode (bN 26) 32 = .ok (.iconst 0, 1) by decide +kernel) rfl
theorem r26_33 {x : Int32} : R d 26 33 ls [.int x] μ Q = ((x = 0 ∨ x = 1) ∧ Q (some (.int x)) μ) := e_zreturn (show decode (bN 26) 33 = .ok (.ireturn, 1) by decide +kernel) rfl
/-! ChinRow$Laws.fact(I)I: 27 -/
theorem r27_0 {l0 : Option Value} {x : Int32} : R d 27 0 [l0, some (.int x)] st μ Q = R d 27 1 [l0, some (.int x)] (.int x :: st) μ Q := e_iload_n (show decode (bN 27) 0 = .ok (.iload_n 1, 1) by decide +kernel) rfl
theorem r27_1 {x : Int32} : R d 27 1 ls (.int x :: st) μ Q = if x = 3 then R d 27 49 ls st μ Q else if x = 5 then R d 27 54 ls st μ Q else if x = 6 then R d 27 59 ls st μ Q else if x = 26 then R d 27 44 ls st μ Q else R d 27 64 ls st μ Q := by
  have hd : decode (bN 27) 1 = .ok (.lookupswitch 63 #[(3, 48), (5, 53), (6, 58), (26, 43)], 43) := by decide +kernel
  by_cases h0 : x = 3
  · rw [if_pos h0]; subst h0; exact e_lsw hd (by decide +kernel) (off := 48) (by decide +kernel) rfl
  rw [if_neg h0]
  by_cases h1 : x = 5
  · rw [if_pos h1]; subst h1; exact e_lsw hd (by decide +kernel) (off := 53) (by decide +kernel) rfl
  rw [if_neg h1]
  by_cases h2 : x = 6
  · rw [if_pos h2]; subst h2; exact e_lsw hd (by decide +kernel) (off := 58) (by decide +kernel) rfl
  rw [if_neg h2]
  by_cases h3 : x = 26
  · rw [if_pos h3]; subst h3; exact e_lsw hd (by decide +kernel) (off := 43) (by decide +kernel) rfl
  rw [if_neg h3]
  refine e_lsw hd (by decide +kernel) (off := 63) ?_ rfl
  show Op.lookupswitch.offset [(3, 48), (5, 53), (6, 58), (26, 43)] 63 x.toInt = 63
  rw [lv_osw (a := 3) h0 rfl, lv_osw (a := 5) h1 rfl, lv_osw (a := 6) h2 rfl, lv_osw (a := 26) h3 rfl]
  rfl
theorem r27_44 {l1 : Option Value} {x : Nat} : R d 27 44 [some (.ref x), l1] st μ Q = R d 27 45 [some (.ref x), l1] (.ref x :: st) μ Q := e_aload_n (show decode (bN 27) 44 = .ok (.aload_n 0, 1) by decide +kernel) rfl
theorem r27_45 {a : Nat} : R d 27 45 ls (.ref a :: st) μ Q = (a % 100 = 2 ∧ R d 27 48 ls (.int (rI μ a 5) :: st) μ Q) := e_getfield (j := 5) (show decode (bN 27) 45 = .ok (.getfield 28, 3) by decide +kernel) (by decide +kernel) rfl
theorem r27_48 {x : Int32} : R d 27 48 ls [.int x] μ Q = Q (some (.int x)) μ := e_ireturn (show decode (bN 27) 48 = .ok (.ireturn, 1) by decide +kernel) rfl
theorem r27_49 {l1 : Option Value} {x : Nat} : R d 27 49 [some (.ref x), l1] st μ Q = R d 27 50 [some (.ref x), l1] (.ref x :: st) μ Q := e_aload_n (show decode (bN 27) 49 = .ok (.aload_n 0, 1) by decide +kernel) rfl
theorem r27_50 {a : Nat} : R d 27 50 ls (.ref a :: st) μ Q = (a % 100 = 2 ∧ R d 27 53 ls (.int (rI μ a 6) :: st) μ Q) := e_getfield (j := 6) (show decode (bN 27) 50 = .ok (.getfield 31, 3) by decide +kernel) (by decide +kernel) rfl
theorem r27_53 {x : Int32} : R d 27 53 ls [.int x] μ Q = Q (some (.int x)) μ := e_ireturn (show decode (bN 27) 53 = .ok (.ireturn, 1) by decide +kernel) rfl
theorem r27_54 {l1 : Option Value} {x : Nat} : R d 27 54 [some (.ref x), l1] st μ Q = R d 27 55 [some (.ref x), l1] (.ref x :: st) μ Q := e_aload_n (show decode (bN 27) 54 = .ok (.aload_n 0, 1) by decide +kernel) rfl
theorem r27_55 {a : Nat} : R d 27 55 ls (.ref a :: st) μ Q = (a % 100 = 2 ∧ R d 27 58 ls (.int (rI μ a 7) :: st) μ Q) := e_getfield (j := 7) (show decode (bN 27) 55 = .ok (.getfield 34, 3) by decide +kernel) (by decide +kernel) rfl
theorem r27_58 {x : Int32} : R d 27 58 ls [.int x] μ Q = Q (some (.int x)) μ := e_ireturn (show decode (bN 27) 58 = .ok (.ireturn, 1) by decide +kernel) rfl
theorem r27_59 {l1 : Option Value} {x : Nat} : R d 27 59 [some (.ref x), l1] st μ Q = R d 27 60 [some (.ref x), l1] (.ref x :: st) μ Q := e_aload_n (show decode (bN 27) 59 = .ok (.aload_n 0, 1) by decide +kernel) rfl
theorem r27_60 {a : Nat} : R d 27 60 ls (.ref a :: st) μ Q = (a % 100 = 2 ∧ R d 27 63 ls (.int (rI μ a 8) :: st) μ Q) := e_getfield (j := 8) (show decode (bN 27) 60 = .ok (.getfield 37, 3) by decide +kernel) (by decide +kernel) rfl
theorem r27_63 {x : Int32} : R d 27 63 ls [.int x] μ Q = Q (some (.int x)) μ := e_ireturn (show decode (bN 27) 63 = .ok (.ireturn, 1) by decide +kernel) rfl
theorem r27_64 {l1 : Option Value} {x : Nat} : R d 27 64 [some (.ref x), l1] st μ Q = R d 27 65 [some (.ref x), l1] (.ref x :: st) μ Q := e_aload_n (show decode (bN 27) 64 = .ok (.aload_n 0, 1) by decide +kernel) rfl
theorem r27_65 {a : Nat} : R d 27 65 ls (.ref a :: st) μ Q = (a % 100 = 2 ∧ R d 27 68 ls (.int (rI μ a 9) :: st) μ Q) := e_getfield (j := 9) (show decode (bN 27) 65 = .ok (.getfield 40, 3) by decide +kernel) (by decide +kernel) rfl
theorem r27_68 {x : Int32} : R d 27 68 ls [.int x] μ Q = Q (some (.int x)) μ := e_ireturn (show decode (bN 27) 68 = .ok (.ireturn, 1) by decide +kernel) rfl
/-! ChinRow$Laws.joined(III)I: 28 -/
theorem r28_0 {l1 l2 : Option Value} {x : Int32} : R d 28 0 [some (.int x), l1, l2] st μ Q = R d 28 1 [some (.int x), l1, l2] (.int x :: st) μ Q := e_iload_n (show decode (bN 28) 0 = .ok (.iload_n 0, 1) by decide +kernel) rfl
theorem r28_1 {x : Int32} : R d 28 1 ls (.int x :: st) μ Q = if x = 24 then R d 28 94 ls st μ Q else if x = 42 then R d 28 68 ls st μ Q else if x = 43 then R d 28 60 ls st μ Q else if x = 45 then R d 28 64 ls st μ Q else if x = 60 then R d 28 72 ls st μ Q else if x = 61 then R d 28 83 ls st μ Q else R d 28 108 ls st μ Q := by
  have hd : decode (bN 28) 1 = .ok (.lookupswitch 107 #[(24, 93), (42, 67), (43, 59), (45, 63), (60, 71), (61, 82)], 59) := by decide +kernel
  by_cases h0 : x = 24
  · rw [if_pos h0]; subst h0; exact e_lsw hd (by decide +kernel) (off := 93) (by decide +kernel) rfl
  rw [if_neg h0]
  by_cases h1 : x = 42
  · rw [if_pos h1]; subst h1; exact e_lsw hd (by decide +kernel) (off := 67) (by decide +kernel) rfl
  rw [if_neg h1]
  by_cases h2 : x = 43
  · rw [if_pos h2]; subst h2; exact e_lsw hd (by decide +kernel) (off := 59) (by decide +kernel) rfl
  rw [if_neg h2]
  by_cases h3 : x = 45
  · rw [if_pos h3]; subst h3; exact e_lsw hd (by decide +kernel) (off := 63) (by decide +kernel) rfl
  rw [if_neg h3]
  by_cases h4 : x = 60
  · rw [if_pos h4]; subst h4; exact e_lsw hd (by decide +kernel) (off := 71) (by decide +kernel) rfl
  rw [if_neg h4]
  by_cases h5 : x = 61
  · rw [if_pos h5]; subst h5; exact e_lsw hd (by decide +kernel) (off := 82) (by decide +kernel) rfl
  rw [if_neg h5]
  refine e_lsw hd (by decide +kernel) (off := 107) ?_ rfl
  show Op.lookupswitch.offset [(24, 93), (42, 67), (43, 59), (45, 63), (60, 71), (61, 82)] 107 x.toInt = 107
  rw [lv_osw (a := 24) h0 rfl, lv_osw (a := 42) h1 rfl, lv_osw (a := 43) h2 rfl, lv_osw (a := 45) h3 rfl, lv_osw (a := 60) h4 rfl, lv_osw (a := 61) h5 rfl]
  rfl
theorem r28_60 {l0 l2 : Option Value} {x : Int32} : R d 28 60 [l0, some (.int x), l2] st μ Q = R d 28 61 [l0, some (.int x), l2] (.int x :: st) μ Q := e_iload_n (show decode (bN 28) 60 = .ok (.iload_n 1, 1) by decide +kernel) rfl
theorem r28_61 {l0 l1 : Option Value} {x : Int32} : R d 28 61 [l0, l1, some (.int x)] st μ Q = R d 28 62 [l0, l1, some (.int x)] (.int x :: st) μ Q := e_iload_n (show decode (bN 28) 61 = .ok (.iload_n 2, 1) by decide +kernel) rfl
theorem r28_62 {x z : Int32} : R d 28 62 ls (.int z :: .int x :: st) μ Q = R d 28 63 ls (.int (x + z) :: st) μ Q := e_iadd (show decode (bN 28) 62 = .ok (.iadd, 1) by decide +kernel)
theorem r28_63 {x : Int32} : R d 28 63 ls [.int x] μ Q = Q (some (.int x)) μ := e_ireturn (show decode (bN 28) 63 = .ok (.ireturn, 1) by decide +kernel) rfl
theorem r28_64 {l0 l2 : Option Value} {x : Int32} : R d 28 64 [l0, some (.int x), l2] st μ Q = R d 28 65 [l0, some (.int x), l2] (.int x :: st) μ Q := e_iload_n (show decode (bN 28) 64 = .ok (.iload_n 1, 1) by decide +kernel) rfl
theorem r28_65 {l0 l1 : Option Value} {x : Int32} : R d 28 65 [l0, l1, some (.int x)] st μ Q = R d 28 66 [l0, l1, some (.int x)] (.int x :: st) μ Q := e_iload_n (show decode (bN 28) 65 = .ok (.iload_n 2, 1) by decide +kernel) rfl
theorem r28_66 {x z : Int32} : R d 28 66 ls (.int z :: .int x :: st) μ Q = R d 28 67 ls (.int (x - z) :: st) μ Q := e_isub (show decode (bN 28) 66 = .ok (.isub, 1) by decide +kernel)
theorem r28_67 {x : Int32} : R d 28 67 ls [.int x] μ Q = Q (some (.int x)) μ := e_ireturn (show decode (bN 28) 67 = .ok (.ireturn, 1) by decide +kernel) rfl
theorem r28_68 {l0 l2 : Option Value} {x : Int32} : R d 28 68 [l0, some (.int x), l2] st μ Q = R d 28 69 [l0, some (.int x), l2] (.int x :: st) μ Q := e_iload_n (show decode (bN 28) 68 = .ok (.iload_n 1, 1) by decide +kernel) rfl
theorem r28_69 {l0 l1 : Option Value} {x : Int32} : R d 28 69 [l0, l1, some (.int x)] st μ Q = R d 28 70 [l0, l1, some (.int x)] (.int x :: st) μ Q := e_iload_n (show decode (bN 28) 69 = .ok (.iload_n 2, 1) by decide +kernel) rfl
theorem r28_70 {x z : Int32} : R d 28 70 ls (.int z :: .int x :: st) μ Q = R d 28 71 ls (.int (x * z) :: st) μ Q := e_imul (show decode (bN 28) 70 = .ok (.imul, 1) by decide +kernel)
theorem r28_71 {x : Int32} : R d 28 71 ls [.int x] μ Q = Q (some (.int x)) μ := e_ireturn (show decode (bN 28) 71 = .ok (.ireturn, 1) by decide +kernel) rfl
theorem r28_72 {l0 l2 : Option Value} {x : Int32} : R d 28 72 [l0, some (.int x), l2] st μ Q = R d 28 73 [l0, some (.int x), l2] (.int x :: st) μ Q := e_iload_n (show decode (bN 28) 72 = .ok (.iload_n 1, 1) by decide +kernel) rfl
theorem r28_73 {l0 l1 : Option Value} {x : Int32} : R d 28 73 [l0, l1, some (.int x)] st μ Q = R d 28 74 [l0, l1, some (.int x)] (.int x :: st) μ Q := e_iload_n (show decode (bN 28) 73 = .ok (.iload_n 2, 1) by decide +kernel) rfl
theorem r28_74 {x z : Int32} : R d 28 74 ls (.int z :: .int x :: st) μ Q = if z ≤ x then R d 28 81 ls st μ Q else R d 28 77 ls st μ Q := e_ic_ge (show decode (bN 28) 74 = .ok (.if_icmp .ge 7, 3) by decide +kernel) rfl
theorem r28_77 : R d 28 77 ls st μ Q = R d 28 78 ls (.int 1 :: st) μ Q := e_iconst (show decode (bN 28) 77 = .ok (.iconst 1, 1) by decide +kernel) rfl
theorem r28_78 : R d 28 78 ls st μ Q = R d 28 82 ls st μ Q := e_goto (show decode (bN 28) 78 = .ok (.goto 4, 3) by decide +kernel) rfl
theorem r28_81 : R d 28 81 ls st μ Q = R d 28 82 ls (.int 0 :: st) μ Q := e_iconst (show decode (bN 28) 81 = .ok (.iconst 0, 1) by decide +kernel) rfl
theorem r28_82 {x : Int32} : R d 28 82 ls [.int x] μ Q = Q (some (.int x)) μ := e_ireturn (show decode (bN 28) 82 = .ok (.ireturn, 1) by decide +kernel) rfl
theorem r28_83 {l0 l2 : Option Value} {x : Int32} : R d 28 83 [l0, some (.int x), l2] st μ Q = R d 28 84 [l0, some (.int x), l2] (.int x :: st) μ Q := e_iload_n (show decode (bN 28) 83 = .ok (.iload_n 1, 1) by decide +kernel) rfl
theorem r28_84 {l0 l1 : Option Value} {x : Int32} : R d 28 84 [l0, l1, some (.int x)] st μ Q = R d 28 85 [l0, l1, some (.int x)] (.int x :: st) μ Q := e_iload_n (show decode (bN 28) 84 = .ok (.iload_n 2, 1) by decide +kernel) rfl
theorem r28_85 {x z : Int32} : R d 28 85 ls (.int z :: .int x :: st) μ Q = if ¬ x = z then R d 28 92 ls st μ Q else R d 28 88 ls st μ Q := e_ic_ne (show decode (bN 28) 85 = .ok (.if_icmp .ne 7, 3) by decide +kernel) rfl
theorem r28_88 : R d 28 88 ls st μ Q = R d 28 89 ls (.int 1 :: st) μ Q := e_iconst (show decode (bN 28) 88 = .ok (.iconst 1, 1) by decide +kernel) rfl
theorem r28_89 : R d 28 89 ls st μ Q = R d 28 93 ls st μ Q := e_goto (show decode (bN 28) 89 = .ok (.goto 4, 3) by decide +kernel) rfl
theorem r28_92 : R d 28 92 ls st μ Q = R d 28 93 ls (.int 0 :: st) μ Q := e_iconst (show decode (bN 28) 92 = .ok (.iconst 0, 1) by decide +kernel) rfl
theorem r28_93 {x : Int32} : R d 28 93 ls [.int x] μ Q = Q (some (.int x)) μ := e_ireturn (show decode (bN 28) 93 = .ok (.ireturn, 1) by decide +kernel) rfl
theorem r28_94 {l0 l2 : Option Value} {x : Int32} : R d 28 94 [l0, some (.int x), l2] st μ Q = R d 28 95 [l0, some (.int x), l2] (.int x :: st) μ Q := e_iload_n (show decode (bN 28) 94 = .ok (.iload_n 1, 1) by decide +kernel) rfl
theorem r28_95 {x : Int32} : R d 28 95 ls (.int x :: st) μ Q = if x = 0 then R d 28 106 ls st μ Q else R d 28 98 ls st μ Q := e_if_eq (show decode (bN 28) 95 = .ok (.ifCond .eq 11, 3) by decide +kernel) rfl
theorem r28_98 {l0 l1 : Option Value} {x : Int32} : R d 28 98 [l0, l1, some (.int x)] st μ Q = R d 28 99 [l0, l1, some (.int x)] (.int x :: st) μ Q := e_iload_n (show decode (bN 28) 98 = .ok (.iload_n 2, 1) by decide +kernel) rfl
theorem r28_99 {x : Int32} : R d 28 99 ls (.int x :: st) μ Q = if x = 0 then R d 28 106 ls st μ Q else R d 28 102 ls st μ Q := e_if_eq (show decode (bN 28) 99 = .ok (.ifCond .eq 7, 3) by decide +kernel) rfl
theorem r28_102 : R d 28 102 ls st μ Q = R d 28 103 ls (.int 1 :: st) μ Q := e_iconst (show decode (bN 28) 102 = .ok (.iconst 1, 1) by decide +kernel) rfl
theorem r28_103 : R d 28 103 ls st μ Q = R d 28 107 ls st μ Q := e_goto (show decode (bN 28) 103 = .ok (.goto 4, 3) by decide +kernel) rfl
theorem r28_106 : R d 28 106 ls st μ Q = R d 28 107 ls (.int 0 :: st) μ Q := e_iconst (show decode (bN 28) 106 = .ok (.iconst 0, 1) by decide +kernel) rfl
theorem r28_107 {x : Int32} : R d 28 107 ls [.int x] μ Q = Q (some (.int x)) μ := e_ireturn (show decode (bN 28) 107 = .ok (.ireturn, 1) by decide +kernel) rfl
theorem r28_108 {l0 l2 : Option Value} {x : Int32} : R d 28 108 [l0, some (.int x), l2] st μ Q = R d 28 109 [l0, some (.int x), l2] (.int x :: st) μ Q := e_iload_n (show decode (bN 28) 108 = .ok (.iload_n 1, 1) by decide +kernel) rfl
theorem r28_109 {x : Int32} : R d 28 109 ls (.int x :: st) μ Q = if ¬ x = 0 then R d 28 116 ls st μ Q else R d 28 112 ls st μ Q := e_if_ne (show decode (bN 28) 109 = .ok (.ifCond .ne 7, 3) by decide +kernel) rfl
theorem r28_112 {l0 l1 : Option Value} {x : Int32} : R d 28 112 [l0, l1, some (.int x)] st μ Q = R d 28 113 [l0, l1, some (.int x)] (.int x :: st) μ Q := e_iload_n (show decode (bN 28) 112 = .ok (.iload_n 2, 1) by decide +kernel) rfl
theorem r28_113 {x : Int32} : R d 28 113 ls (.int x :: st) μ Q = if x = 0 then R d 28 120 ls st μ Q else R d 28 116 ls st μ Q := e_if_eq (show decode (bN 28) 113 = .ok (.ifCond .eq 7, 3) by decide +kernel) rfl
theorem r28_116 : R d 28 116 ls st μ Q = R d 28 117 ls (.int 1 :: st) μ Q := e_iconst (show decode (bN 28) 116 = .ok (.iconst 1, 1) by decide +kernel) rfl
theorem r28_117 : R d 28 117 ls st μ Q = R d 28 121 ls st μ Q := e_goto (show decode (bN 28) 117 = .ok (.goto 4, 3) by decide +kernel) rfl
theorem r28_120 : R d 28 120 ls st μ Q = R d 28 121 ls (.int 0 :: st) μ Q := e_iconst (show decode (bN 28) 120 = .ok (.iconst 0, 1) by decide +kernel) rfl
theorem r28_121 {x : Int32} : R d 28 121 ls [.int x] μ Q = Q (some (.int x)) μ := e_ireturn (show decode (bN 28) 121 = .ok (.ireturn, 1) by decide +kernel) rfl
end RQ
