/-! cond ? const : const, in one step -/
section RQ
variable {d : Nat} {ls : PL} {st : List Value} {μ : PM} {Q : Option Value → PM → Prop}
theorem j9_14 {x z : Int32} : R d 9 14 ls (.int z :: .int x :: st) μ Q = R d 9 22 ls (.int (if ¬ x = z then 0 else 1) :: st) μ Q := by
  by_cases h : ¬ x = z
  · simp only [r9_14, r9_17, r9_18, r9_21, eq_true h, if_true]
  · simp only [r9_14, r9_17, r9_18, r9_21, eq_false h, if_false]
theorem j11_61 {x z : Int32} : R d 11 61 ls (.int z :: .int x :: st) μ Q = R d 11 69 ls (.int (if ¬ x = z then 0 else 1) :: st) μ Q := by
  by_cases h : ¬ x = z
  · simp only [r11_61, r11_64, r11_65, r11_68, eq_true h, if_true]
  · simp only [r11_61, r11_64, r11_65, r11_68, eq_false h, if_false]
theorem j25_25 {x : Int32} : R d 25 25 ls (.int x :: st) μ Q = R d 25 33 ls (.int (if ¬ x = 0 then 0 else 1) :: st) μ Q := by
  by_cases h : ¬ x = 0
  · simp only [r25_25, r25_28, r25_29, r25_32, eq_true h, if_true]
  · simp only [r25_25, r25_28, r25_29, r25_32, eq_false h, if_false]
theorem j26_25 {x z : Int32} : R d 26 25 ls (.int z :: .int x :: st) μ Q = R d 26 33 ls (.int (if ¬ x = z then 0 else 1) :: st) μ Q := by
  by_cases h : ¬ x = z
  · simp only [r26_25, r26_28, r26_29, r26_32, eq_true h, if_true]
  · simp only [r26_25, r26_28, r26_29, r26_32, eq_false h, if_false]
theorem j28_74 {x z : Int32} : R d 28 74 ls (.int z :: .int x :: st) μ Q = R d 28 82 ls (.int (if z ≤ x then 0 else 1) :: st) μ Q := by
  by_cases h : z ≤ x
  · simp only [r28_74, r28_77, r28_78, r28_81, eq_true h, if_true]
  · simp only [r28_74, r28_77, r28_78, r28_81, eq_false h, if_false]
theorem j28_85 {x z : Int32} : R d 28 85 ls (.int z :: .int x :: st) μ Q = R d 28 93 ls (.int (if ¬ x = z then 0 else 1) :: st) μ Q := by
  by_cases h : ¬ x = z
  · simp only [r28_85, r28_88, r28_89, r28_92, eq_true h, if_true]
  · simp only [r28_85, r28_88, r28_89, r28_92, eq_false h, if_false]
theorem j28_99 {x : Int32} : R d 28 99 ls (.int x :: st) μ Q = R d 28 107 ls (.int (if x = 0 then 0 else 1) :: st) μ Q := by
  by_cases h : x = 0
  · simp only [r28_99, r28_102, r28_103, r28_106, eq_true h, if_true]
  · simp only [r28_99, r28_102, r28_103, r28_106, eq_false h, if_false]
theorem j28_113 {x : Int32} : R d 28 113 ls (.int x :: st) μ Q = R d 28 121 ls (.int (if x = 0 then 0 else 1) :: st) μ Q := by
  by_cases h : x = 0
  · simp only [r28_113, r28_116, r28_117, r28_120, eq_true h, if_true]
  · simp only [r28_113, r28_116, r28_117, r28_120, eq_false h, if_false]
theorem j32_77 {x z : Int32} : R d 32 77 ls (.int z :: .int x :: st) μ Q = R d 32 87 ls (.int (if x ≤ z then 28 else 31) :: st) μ Q := by
  by_cases h : x ≤ z
  · simp only [r32_77, r32_80, r32_82, r32_85, eq_true h, if_true]
  · simp only [r32_77, r32_80, r32_82, r32_85, eq_false h, if_false]
theorem j33_78 {x z : Int32} : R d 33 78 ls (.int z :: .int x :: st) μ Q = R d 33 88 ls (.int (if x ≤ z then 29 else 31) :: st) μ Q := by
  by_cases h : x ≤ z
  · simp only [r33_78, r33_81, r33_83, r33_86, eq_true h, if_true]
  · simp only [r33_78, r33_81, r33_83, r33_86, eq_false h, if_false]
theorem j35_9 {x z : Int32} : R d 35 9 ls (.int z :: .int x :: st) μ Q = R d 35 17 ls (.int (if z < x then 0 else 1) :: st) μ Q := by
  by_cases h : z < x
  · simp only [r35_9, r35_12, r35_13, r35_16, eq_true h, if_true]
  · simp only [r35_9, r35_12, r35_13, r35_16, eq_false h, if_false]
theorem j36_9 {x z : Int32} : R d 36 9 ls (.int z :: .int x :: st) μ Q = R d 36 17 ls (.int (if z < x then 0 else 1) :: st) μ Q := by
  by_cases h : z < x
  · simp only [r36_9, r36_12, r36_13, r36_16, eq_true h, if_true]
  · simp only [r36_9, r36_12, r36_13, r36_16, eq_false h, if_false]
theorem j37_45 {x z : Int32} : R d 37 45 ls (.int z :: .int x :: st) μ Q = R d 37 53 ls (.int (if ¬ x = z then 0 else 1) :: st) μ Q := by
  by_cases h : ¬ x = z
  · simp only [r37_45, r37_48, r37_49, r37_52, eq_true h, if_true]
  · simp only [r37_45, r37_48, r37_49, r37_52, eq_false h, if_false]
theorem j39_16 {x : Int32} : R d 39 16 ls (.int x :: st) μ Q = R d 39 24 ls (.int (if ¬ x = 0 then 0 else 1) :: st) μ Q := by
  by_cases h : ¬ x = 0
  · simp only [r39_16, r39_19, r39_20, r39_23, eq_true h, if_true]
  · simp only [r39_16, r39_19, r39_20, r39_23, eq_false h, if_false]
theorem j39_30 {x : Int32} : R d 39 30 ls (.int x :: st) μ Q = R d 39 38 ls (.int (if ¬ x = 0 then 0 else 1) :: st) μ Q := by
  by_cases h : ¬ x = 0
  · simp only [r39_30, r39_33, r39_34, r39_37, eq_true h, if_true]
  · simp only [r39_30, r39_33, r39_34, r39_37, eq_false h, if_false]
theorem j43_49 {x : Int32} : R d 43 49 ls (.int x :: st) μ Q = R d 43 57 ls (.int (if x = 0 then 0 else 1) :: st) μ Q := by
  by_cases h : x = 0
  · simp only [r43_49, r43_52, r43_53, r43_56, eq_true h, if_true]
  · simp only [r43_49, r43_52, r43_53, r43_56, eq_false h, if_false]
theorem j50_17 {x : Int32} : R d 50 17 ls (.int x :: st) μ Q = R d 50 25 ls (.int (if x = 0 then 0 else 1) :: st) μ Q := by
  by_cases h : x = 0
  · simp only [r50_17, r50_20, r50_21, r50_24, eq_true h, if_true]
  · simp only [r50_17, r50_20, r50_21, r50_24, eq_false h, if_false]
theorem j52_17 {x z : Int32} : R d 52 17 ls (.int z :: .int x :: st) μ Q = R d 52 25 ls (.int (if ¬ x = z then 0 else 1) :: st) μ Q := by
  by_cases h : ¬ x = z
  · simp only [r52_17, r52_20, r52_21, r52_24, eq_true h, if_true]
  · simp only [r52_17, r52_20, r52_21, r52_24, eq_false h, if_false]
theorem j54_9 {x z : Int32} : R d 54 9 ls (.int z :: .int x :: st) μ Q = R d 54 17 ls (.int (if z ≤ x then 0 else 1) :: st) μ Q := by
  by_cases h : z ≤ x
  · simp only [r54_9, r54_12, r54_13, r54_16, eq_true h, if_true]
  · simp only [r54_9, r54_12, r54_13, r54_16, eq_false h, if_false]
theorem j55_88 {x : Int32} : R d 55 88 ls (.int x :: st) μ Q = R d 55 96 ls (.int (if x = 0 then 0 else 2) :: st) μ Q := by
  by_cases h : x = 0
  · simp only [r55_88, r55_91, r55_92, r55_95, eq_true h, if_true]
  · simp only [r55_88, r55_91, r55_92, r55_95, eq_false h, if_false]
theorem j55_108 {x : Int32} : R d 55 108 ls (.int x :: st) μ Q = R d 55 116 ls (.int (if x = 0 then 0 else 2) :: st) μ Q := by
  by_cases h : x = 0
  · simp only [r55_108, r55_111, r55_112, r55_115, eq_true h, if_true]
  · simp only [r55_108, r55_111, r55_112, r55_115, eq_false h, if_false]
theorem j55_128 {x : Int32} : R d 55 128 ls (.int x :: st) μ Q = R d 55 136 ls (.int (if x = 0 then 0 else 1) :: st) μ Q := by
  by_cases h : x = 0
  · simp only [r55_128, r55_131, r55_132, r55_135, eq_true h, if_true]
  · simp only [r55_128, r55_131, r55_132, r55_135, eq_false h, if_false]
theorem j55_148 {x z : Int32} : R d 55 148 ls (.int z :: .int x :: st) μ Q = R d 55 156 ls (.int (if ¬ x = z then 0 else 1) :: st) μ Q := by
  by_cases h : ¬ x = z
  · simp only [r55_148, r55_151, r55_152, r55_155, eq_true h, if_true]
  · simp only [r55_148, r55_151, r55_152, r55_155, eq_false h, if_false]
theorem j58_14 {x : Int32} : R d 58 14 ls (.int x :: st) μ Q = R d 58 22 ls (.int (if x = 0 then 0 else 1) :: st) μ Q := by
  by_cases h : x = 0
  · simp only [r58_14, r58_17, r58_18, r58_21, eq_true h, if_true]
  · simp only [r58_14, r58_17, r58_18, r58_21, eq_false h, if_false]
theorem j58_34 {x : Int32} : R d 58 34 ls (.int x :: st) μ Q = R d 58 42 ls (.int (if x = 0 then 0 else 1) :: st) μ Q := by
  by_cases h : x = 0
  · simp only [r58_34, r58_37, r58_38, r58_41, eq_true h, if_true]
  · simp only [r58_34, r58_37, r58_38, r58_41, eq_false h, if_false]
theorem j58_63 {x z : Int32} : R d 58 63 ls (.int z :: .int x :: st) μ Q = R d 58 71 ls (.int (if ¬ x = z then 0 else 1) :: st) μ Q := by
  by_cases h : ¬ x = z
  · simp only [r58_63, r58_66, r58_67, r58_70, eq_true h, if_true]
  · simp only [r58_63, r58_66, r58_67, r58_70, eq_false h, if_false]
theorem j58_85 {x : Int32} : R d 58 85 ls (.int x :: st) μ Q = R d 58 93 ls (.int (if ¬ x = 0 then 0 else 1) :: st) μ Q := by
  by_cases h : ¬ x = 0
  · simp only [r58_85, r58_88, r58_89, r58_92, eq_true h, if_true]
  · simp only [r58_85, r58_88, r58_89, r58_92, eq_false h, if_false]
theorem j62_40 {x : Int32} : R d 62 40 ls (.int x :: st) μ Q = R d 62 48 ls (.int (if x = 0 then 0 else 1) :: st) μ Q := by
  by_cases h : x = 0
  · simp only [r62_40, r62_43, r62_44, r62_47, eq_true h, if_true]
  · simp only [r62_40, r62_43, r62_44, r62_47, eq_false h, if_false]
theorem j68_156 {x z : Int32} : R d 68 156 ls (.int z :: .int x :: st) μ Q = R d 68 164 ls (.int (if ¬ x = z then 0 else 1) :: st) μ Q := by
  by_cases h : ¬ x = z
  · simp only [r68_156, r68_159, r68_160, r68_163, eq_true h, if_true]
  · simp only [r68_156, r68_159, r68_160, r68_163, eq_false h, if_false]
theorem j68_182 {x z : Int32} : R d 68 182 ls (.int z :: .int x :: st) μ Q = R d 68 190 ls (.int (if ¬ x = z then 0 else 1) :: st) μ Q := by
  by_cases h : ¬ x = z
  · simp only [r68_182, r68_185, r68_186, r68_189, eq_true h, if_true]
  · simp only [r68_182, r68_185, r68_186, r68_189, eq_false h, if_false]
theorem j72_55 {x z : Int32} : R d 72 55 ls (.int z :: .int x :: st) μ Q = R d 72 63 ls (.int (if ¬ x = z then 0 else 1) :: st) μ Q := by
  by_cases h : ¬ x = z
  · simp only [r72_55, r72_58, r72_59, r72_62, eq_true h, if_true]
  · simp only [r72_55, r72_58, r72_59, r72_62, eq_false h, if_false]
theorem j72_76 {x z : Int32} : R d 72 76 ls (.int z :: .int x :: st) μ Q = R d 72 86 ls (.int (if ¬ x = z then 13 else 14) :: st) μ Q := by
  by_cases h : ¬ x = z
  · simp only [r72_76, r72_79, r72_81, r72_84, eq_true h, if_true]
  · simp only [r72_76, r72_79, r72_81, r72_84, eq_false h, if_false]
theorem j79_33 {x z : Int32} : R d 79 33 ls (.int z :: .int x :: st) μ Q = R d 79 41 ls (.int (if ¬ x = z then 0 else 1) :: st) μ Q := by
  by_cases h : ¬ x = z
  · simp only [r79_33, r79_36, r79_37, r79_40, eq_true h, if_true]
  · simp only [r79_33, r79_36, r79_37, r79_40, eq_false h, if_false]
theorem j84_8 {x : Int32} : R d 84 8 ls (.int x :: st) μ Q = R d 84 16 ls (.int (if x = 0 then 0 else 1) :: st) μ Q := by
  by_cases h : x = 0
  · simp only [r84_8, r84_11, r84_12, r84_15, eq_true h, if_true]
  · simp only [r84_8, r84_11, r84_12, r84_15, eq_false h, if_false]
theorem j88_15 {x z : Int32} : R d 88 15 ls (.int z :: .int x :: st) μ Q = R d 88 23 ls (.int (if z < x then 0 else 1) :: st) μ Q := by
  by_cases h : z < x
  · simp only [r88_15, r88_18, r88_19, r88_22, eq_true h, if_true]
  · simp only [r88_15, r88_18, r88_19, r88_22, eq_false h, if_false]
theorem j91_59 {x : Int32} : R d 91 59 ls (.int x :: st) μ Q = R d 91 67 ls (.int (if x ≤ 0 then (-1) else 0) :: st) μ Q := by
  by_cases h : x ≤ 0
  · simp only [r91_59, r91_62, r91_63, r91_66, eq_true h, if_true]
  · simp only [r91_59, r91_62, r91_63, r91_66, eq_false h, if_false]
theorem j92_63 {x : Int32} : R d 92 63 ls (.int x :: st) μ Q = R d 92 71 ls (.int (if x = 0 then 0 else 1) :: st) μ Q := by
  by_cases h : x = 0
  · simp only [r92_63, r92_66, r92_67, r92_70, eq_true h, if_true]
  · simp only [r92_63, r92_66, r92_67, r92_70, eq_false h, if_false]
theorem j111_19 {x z : Int32} : R d 111 19 ls (.int z :: .int x :: st) μ Q = R d 111 27 ls (.int (if z < x then 0 else 1) :: st) μ Q := by
  by_cases h : z < x
  · simp only [r111_19, r111_22, r111_23, r111_26, eq_true h, if_true]
  · simp only [r111_19, r111_22, r111_23, r111_26, eq_false h, if_false]
theorem j114_112 {x : Int32} : R d 114 112 ls (.int x :: st) μ Q = R d 114 120 ls (.int (if x = 0 then 0 else 1) :: st) μ Q := by
  by_cases h : x = 0
  · simp only [r114_112, r114_115, r114_116, r114_119, eq_true h, if_true]
  · simp only [r114_112, r114_115, r114_116, r114_119, eq_false h, if_false]
theorem j116_12 {x z : Int32} : R d 116 12 ls (.int z :: .int x :: st) μ Q = R d 116 20 ls (.int (if z ≤ x then 0 else 1) :: st) μ Q := by
  by_cases h : z ≤ x
  · simp only [r116_12, r116_15, r116_16, r116_19, eq_true h, if_true]
  · simp only [r116_12, r116_15, r116_16, r116_19, eq_false h, if_false]
theorem j117_18 {x z : Int32} : R d 117 18 ls (.int z :: .int x :: st) μ Q = R d 117 26 ls (.int (if x = z then 0 else 1) :: st) μ Q := by
  by_cases h : x = z
  · simp only [r117_18, r117_21, r117_22, r117_25, eq_true h, if_true]
  · simp only [r117_18, r117_21, r117_22, r117_25, eq_false h, if_false]
theorem j118_6 {x z : Int32} : R d 118 6 ls (.int z :: .int x :: st) μ Q = R d 118 14 ls (.int (if z ≤ x then 0 else 1) :: st) μ Q := by
  by_cases h : z ≤ x
  · simp only [r118_6, r118_9, r118_10, r118_13, eq_true h, if_true]
  · simp only [r118_6, r118_9, r118_10, r118_13, eq_false h, if_false]
theorem j135_9 {x z : Int32} : R d 135 9 ls (.int z :: .int x :: st) μ Q = R d 135 17 ls (.int (if z < x then 0 else 1) :: st) μ Q := by
  by_cases h : z < x
  · simp only [r135_9, r135_12, r135_13, r135_16, eq_true h, if_true]
  · simp only [r135_9, r135_12, r135_13, r135_16, eq_false h, if_false]
theorem j136_9 {x z : Int32} : R d 136 9 ls (.int z :: .int x :: st) μ Q = R d 136 17 ls (.int (if z < x then 0 else 1) :: st) μ Q := by
  by_cases h : z < x
  · simp only [r136_9, r136_12, r136_13, r136_16, eq_true h, if_true]
  · simp only [r136_9, r136_12, r136_13, r136_16, eq_false h, if_false]
theorem j138_45 {x z : Int32} : R d 138 45 ls (.int z :: .int x :: st) μ Q = R d 138 53 ls (.int (if ¬ x = z then 0 else 1) :: st) μ Q := by
  by_cases h : ¬ x = z
  · simp only [r138_45, r138_48, r138_49, r138_52, eq_true h, if_true]
  · simp only [r138_45, r138_48, r138_49, r138_52, eq_false h, if_false]
theorem j139_140 {x z : Int32} : R d 139 140 ls (.int z :: .int x :: st) μ Q = R d 139 148 ls (.int (if x ≤ z then 1 else 4) :: st) μ Q := by
  by_cases h : x ≤ z
  · simp only [r139_140, r139_143, r139_144, r139_147, eq_true h, if_true]
  · simp only [r139_140, r139_143, r139_144, r139_147, eq_false h, if_false]
theorem j139_228 {x z : Int32} : R d 139 228 ls (.int z :: .int x :: st) μ Q = R d 139 236 ls (.int (if x ≤ z then 2 else 4) :: st) μ Q := by
  by_cases h : x ≤ z
  · simp only [r139_228, r139_231, r139_232, r139_235, eq_true h, if_true]
  · simp only [r139_228, r139_231, r139_232, r139_235, eq_false h, if_false]
theorem j139_253 {x : Int32} : R d 139 253 ls (.int x :: st) μ Q = R d 139 261 ls (.int (if x = 0 then 4 else 3) :: st) μ Q := by
  by_cases h : x = 0
  · simp only [r139_253, r139_256, r139_257, r139_260, eq_true h, if_true]
  · simp only [r139_253, r139_256, r139_257, r139_260, eq_false h, if_false]
theorem j141_32 {x : Int32} : R d 141 32 ls (.int x :: st) μ Q = R d 141 40 ls (.int (if ¬ x = 0 then 0 else 1) :: st) μ Q := by
  by_cases h : ¬ x = 0
  · simp only [r141_32, r141_35, r141_36, r141_39, eq_true h, if_true]
  · simp only [r141_32, r141_35, r141_36, r141_39, eq_false h, if_false]
theorem j142_36 {x : Int32} : R d 142 36 ls (.int x :: st) μ Q = R d 142 44 ls (.int (if ¬ x = 0 then 0 else 1) :: st) μ Q := by
  by_cases h : ¬ x = 0
  · simp only [r142_36, r142_39, r142_40, r142_43, eq_true h, if_true]
  · simp only [r142_36, r142_39, r142_40, r142_43, eq_false h, if_false]
theorem j144_12 {x : Int32} : R d 144 12 ls (.int x :: st) μ Q = R d 144 20 ls (.int (if x = 0 then 0 else 1) :: st) μ Q := by
  by_cases h : x = 0
  · simp only [r144_12, r144_15, r144_16, r144_19, eq_true h, if_true]
  · simp only [r144_12, r144_15, r144_16, r144_19, eq_false h, if_false]
theorem j145_12 {x : Int32} : R d 145 12 ls (.int x :: st) μ Q = R d 145 20 ls (.int (if x = 0 then 0 else 1) :: st) μ Q := by
  by_cases h : x = 0
  · simp only [r145_12, r145_15, r145_16, r145_19, eq_true h, if_true]
  · simp only [r145_12, r145_15, r145_16, r145_19, eq_false h, if_false]
theorem j147_7 {x z : Int32} : R d 147 7 ls (.int z :: .int x :: st) μ Q = R d 147 15 ls (.int (if z < x then 0 else 1) :: st) μ Q := by
  by_cases h : z < x
  · simp only [r147_7, r147_10, r147_11, r147_14, eq_true h, if_true]
  · simp only [r147_7, r147_10, r147_11, r147_14, eq_false h, if_false]
theorem j151_17 {x z : Int32} : R d 151 17 ls (.int z :: .int x :: st) μ Q = R d 151 25 ls (.int (if ¬ x = z then 0 else 1) :: st) μ Q := by
  by_cases h : ¬ x = z
  · simp only [r151_17, r151_20, r151_21, r151_24, eq_true h, if_true]
  · simp only [r151_17, r151_20, r151_21, r151_24, eq_false h, if_false]
theorem j151_54 {x : Int32} : R d 151 54 ls (.int x :: st) μ Q = R d 151 62 ls (.int (if x = 0 then 0 else 1) :: st) μ Q := by
  by_cases h : x = 0
  · simp only [r151_54, r151_57, r151_58, r151_61, eq_true h, if_true]
  · simp only [r151_54, r151_57, r151_58, r151_61, eq_false h, if_false]
theorem j154_41 {x : Int32} : R d 154 41 ls (.int x :: st) μ Q = R d 154 49 ls (.int (if x ≤ 0 then (-1) else 0) :: st) μ Q := by
  by_cases h : x ≤ 0
  · simp only [r154_41, r154_44, r154_45, r154_48, eq_true h, if_true]
  · simp only [r154_41, r154_44, r154_45, r154_48, eq_false h, if_false]
theorem j157_39 {x : Int32} : R d 157 39 ls (.int x :: st) μ Q = R d 157 47 ls (.int (if x = 0 then 0 else 1) :: st) μ Q := by
  by_cases h : x = 0
  · simp only [r157_39, r157_42, r157_43, r157_46, eq_true h, if_true]
  · simp only [r157_39, r157_42, r157_43, r157_46, eq_false h, if_false]
theorem j160_6 {x : Int32} : R d 160 6 ls (.int x :: st) μ Q = R d 160 14 ls (.int (if x = 0 then 2 else 1) :: st) μ Q := by
  by_cases h : x = 0
  · simp only [r160_6, r160_9, r160_10, r160_13, eq_true h, if_true]
  · simp only [r160_6, r160_9, r160_10, r160_13, eq_false h, if_false]
theorem j160_39 {x : Int32} : R d 160 39 ls (.int x :: st) μ Q = R d 160 47 ls (.int (if x ≤ 0 then 1 else 0) :: st) μ Q := by
  by_cases h : x ≤ 0
  · simp only [r160_39, r160_42, r160_43, r160_46, eq_true h, if_true]
  · simp only [r160_39, r160_42, r160_43, r160_46, eq_false h, if_false]
theorem j161_64 {x : Int32} : R d 161 64 ls (.int x :: st) μ Q = R d 161 72 ls (.int (if x = 0 then 0 else 1) :: st) μ Q := by
  by_cases h : x = 0
  · simp only [r161_64, r161_67, r161_68, r161_71, eq_true h, if_true]
  · simp only [r161_64, r161_67, r161_68, r161_71, eq_false h, if_false]
theorem j165_47 {x : Int32} : R d 165 47 ls (.int x :: st) μ Q = R d 165 57 ls (.int (if x = 0 then 10 else 9) :: st) μ Q := by
  by_cases h : x = 0
  · simp only [r165_47, r165_50, r165_52, r165_55, eq_true h, if_true]
  · simp only [r165_47, r165_50, r165_52, r165_55, eq_false h, if_false]
theorem j166_37 {x : Int32} : R d 166 37 ls (.int x :: st) μ Q = R d 166 47 ls (.int (if x = 0 then 8 else 7) :: st) μ Q := by
  by_cases h : x = 0
  · simp only [r166_37, r166_40, r166_42, r166_45, eq_true h, if_true]
  · simp only [r166_37, r166_40, r166_42, r166_45, eq_false h, if_false]
theorem j167_47 {x : Int32} : R d 167 47 ls (.int x :: st) μ Q = R d 167 55 ls (.int (if x = 0 then 5 else 4) :: st) μ Q := by
  by_cases h : x = 0
  · simp only [r167_47, r167_50, r167_51, r167_54, eq_true h, if_true]
  · simp only [r167_47, r167_50, r167_51, r167_54, eq_false h, if_false]
theorem j169_18 {x z : Int32} : R d 169 18 ls (.int z :: .int x :: st) μ Q = R d 169 26 ls (.int (if ¬ x = z then 0 else 1) :: st) μ Q := by
  by_cases h : ¬ x = z
  · simp only [r169_18, r169_21, r169_22, r169_25, eq_true h, if_true]
  · simp only [r169_18, r169_21, r169_22, r169_25, eq_false h, if_false]
theorem j169_39 {x z : Int32} : R d 169 39 ls (.int z :: .int x :: st) μ Q = R d 169 47 ls (.int (if ¬ x = z then 5 else 2) :: st) μ Q := by
  by_cases h : ¬ x = z
  · simp only [r169_39, r169_42, r169_43, r169_46, eq_true h, if_true]
  · simp only [r169_39, r169_42, r169_43, r169_46, eq_false h, if_false]
theorem j169_181 {x : Int32} : R d 169 181 ls (.int x :: st) μ Q = R d 169 189 ls (.int (if x = 0 then 2 else 1) :: st) μ Q := by
  by_cases h : x = 0
  · simp only [r169_181, r169_184, r169_185, r169_188, eq_true h, if_true]
  · simp only [r169_181, r169_184, r169_185, r169_188, eq_false h, if_false]
theorem j170_92 {x : Int32} : R d 170 92 ls (.int x :: st) μ Q = R d 170 100 ls (.int (if ¬ x = 0 then 0 else 1) :: st) μ Q := by
  by_cases h : ¬ x = 0
  · simp only [r170_92, r170_95, r170_96, r170_99, eq_true h, if_true]
  · simp only [r170_92, r170_95, r170_96, r170_99, eq_false h, if_false]
theorem j171_54 {x z : Int32} : R d 171 54 ls (.int z :: .int x :: st) μ Q = R d 171 62 ls (.int (if z ≤ x then 0 else 1) :: st) μ Q := by
  by_cases h : z ≤ x
  · simp only [r171_54, r171_57, r171_58, r171_61, eq_true h, if_true]
  · simp only [r171_54, r171_57, r171_58, r171_61, eq_false h, if_false]
theorem j171_65 {x z : Int32} : R d 171 65 ls (.int z :: .int x :: st) μ Q = R d 171 73 ls (.int (if ¬ x = z then 0 else 1) :: st) μ Q := by
  by_cases h : ¬ x = z
  · simp only [r171_65, r171_68, r171_69, r171_72, eq_true h, if_true]
  · simp only [r171_65, r171_68, r171_69, r171_72, eq_false h, if_false]
theorem j171_79 {x : Int32} : R d 171 79 ls (.int x :: st) μ Q = R d 171 87 ls (.int (if x = 0 then 0 else 1) :: st) μ Q := by
  by_cases h : x = 0
  · simp only [r171_79, r171_82, r171_83, r171_86, eq_true h, if_true]
  · simp only [r171_79, r171_82, r171_83, r171_86, eq_false h, if_false]
theorem j171_93 {x : Int32} : R d 171 93 ls (.int x :: st) μ Q = R d 171 101 ls (.int (if x = 0 then 0 else 1) :: st) μ Q := by
  by_cases h : x = 0
  · simp only [r171_93, r171_96, r171_97, r171_100, eq_true h, if_true]
  · simp only [r171_93, r171_96, r171_97, r171_100, eq_false h, if_false]
theorem j175_9 {x z : Int32} : R d 175 9 ls (.int z :: .int x :: st) μ Q = R d 175 17 ls (.int (if z ≤ x then 0 else 1) :: st) μ Q := by
  by_cases h : z ≤ x
  · simp only [r175_9, r175_12, r175_13, r175_16, eq_true h, if_true]
  · simp only [r175_9, r175_12, r175_13, r175_16, eq_false h, if_false]
theorem j176_12 {x z : Int32} : R d 176 12 ls (.int z :: .int x :: st) μ Q = R d 176 20 ls (.int (if ¬ x = z then 0 else 1) :: st) μ Q := by
  by_cases h : ¬ x = z
  · simp only [r176_12, r176_15, r176_16, r176_19, eq_true h, if_true]
  · simp only [r176_12, r176_15, r176_16, r176_19, eq_false h, if_false]
theorem j192_15 {x z : Int32} : R d 192 15 ls (.int z :: .int x :: st) μ Q = R d 192 23 ls (.int (if ¬ x = z then 0 else 1) :: st) μ Q := by
  by_cases h : ¬ x = z
  · simp only [r192_15, r192_18, r192_19, r192_22, eq_true h, if_true]
  · simp only [r192_15, r192_18, r192_19, r192_22, eq_false h, if_false]
theorem j193_69 {x : Int32} : R d 193 69 ls (.int x :: st) μ Q = R d 193 77 ls (.int (if x = 0 then 0 else 2) :: st) μ Q := by
  by_cases h : x = 0
  · simp only [r193_69, r193_72, r193_73, r193_76, eq_true h, if_true]
  · simp only [r193_69, r193_72, r193_73, r193_76, eq_false h, if_false]
theorem j193_89 {x : Int32} : R d 193 89 ls (.int x :: st) μ Q = R d 193 97 ls (.int (if x = 0 then 0 else 2) :: st) μ Q := by
  by_cases h : x = 0
  · simp only [r193_89, r193_92, r193_93, r193_96, eq_true h, if_true]
  · simp only [r193_89, r193_92, r193_93, r193_96, eq_false h, if_false]
theorem j193_109 {x : Int32} : R d 193 109 ls (.int x :: st) μ Q = R d 193 117 ls (.int (if x = 0 then 0 else 1) :: st) μ Q := by
  by_cases h : x = 0
  · simp only [r193_109, r193_112, r193_113, r193_116, eq_true h, if_true]
  · simp only [r193_109, r193_112, r193_113, r193_116, eq_false h, if_false]
theorem j193_128 {x z : Int32} : R d 193 128 ls (.int z :: .int x :: st) μ Q = R d 193 136 ls (.int (if ¬ x = z then 0 else 1) :: st) μ Q := by
  by_cases h : ¬ x = z
  · simp only [r193_128, r193_131, r193_132, r193_135, eq_true h, if_true]
  · simp only [r193_128, r193_131, r193_132, r193_135, eq_false h, if_false]
theorem j198_25 {x z : Int32} : R d 198 25 ls (.int z :: .int x :: st) μ Q = R d 198 33 ls (.int (if ¬ x = z then 0 else 1) :: st) μ Q := by
  by_cases h : ¬ x = z
  · simp only [r198_25, r198_28, r198_29, r198_32, eq_true h, if_true]
  · simp only [r198_25, r198_28, r198_29, r198_32, eq_false h, if_false]
theorem j201_31 {x z : Int32} : R d 201 31 ls (.int z :: .int x :: st) μ Q = R d 201 39 ls (.int (if x = z then 0 else 1) :: st) μ Q := by
  by_cases h : x = z
  · simp only [r201_31, r201_34, r201_35, r201_38, eq_true h, if_true]
  · simp only [r201_31, r201_34, r201_35, r201_38, eq_false h, if_false]
theorem j202_45 {x z : Int32} : R d 202 45 ls (.int z :: .int x :: st) μ Q = R d 202 53 ls (.int (if x = z then 0 else 1) :: st) μ Q := by
  by_cases h : x = z
  · simp only [r202_45, r202_48, r202_49, r202_52, eq_true h, if_true]
  · simp only [r202_45, r202_48, r202_49, r202_52, eq_false h, if_false]
theorem j211_56 {x : Int32} : R d 211 56 ls (.int x :: st) μ Q = R d 211 64 ls (.int (if x = 0 then 0 else 1) :: st) μ Q := by
  by_cases h : x = 0
  · simp only [r211_56, r211_59, r211_60, r211_63, eq_true h, if_true]
  · simp only [r211_56, r211_59, r211_60, r211_63, eq_false h, if_false]
theorem j216_32 {x z : Int32} : R d 216 32 ls (.int z :: .int x :: st) μ Q = R d 216 40 ls (.int (if ¬ x = z then 0 else 1) :: st) μ Q := by
  by_cases h : ¬ x = z
  · simp only [r216_32, r216_35, r216_36, r216_39, eq_true h, if_true]
  · simp only [r216_32, r216_35, r216_36, r216_39, eq_false h, if_false]
theorem j216_75 {x : Int32} : R d 216 75 ls (.int x :: st) μ Q = R d 216 83 ls (.int (if ¬ x = 0 then 0 else 1) :: st) μ Q := by
  by_cases h : ¬ x = 0
  · simp only [r216_75, r216_78, r216_79, r216_82, eq_true h, if_true]
  · simp only [r216_75, r216_78, r216_79, r216_82, eq_false h, if_false]
theorem j223_30 {x z : Int32} : R d 223 30 ls (.int z :: .int x :: st) μ Q = R d 223 38 ls (.int (if ¬ x = z then 0 else 1) :: st) μ Q := by
  by_cases h : ¬ x = z
  · simp only [r223_30, r223_33, r223_34, r223_37, eq_true h, if_true]
  · simp only [r223_30, r223_33, r223_34, r223_37, eq_false h, if_false]
theorem j226_13 {x : Int32} : R d 226 13 ls (.int x :: st) μ Q = R d 226 21 ls (.int (if ¬ x = 0 then 1 else 0) :: st) μ Q := by
  by_cases h : ¬ x = 0
  · simp only [r226_13, r226_16, r226_17, r226_20, eq_true h, if_true]
  · simp only [r226_13, r226_16, r226_17, r226_20, eq_false h, if_false]
theorem j232_396 {x : Int32} : R d 232 396 ls (.int x :: st) μ Q = R d 232 404 ls (.int (if x = 0 then 0 else 1) :: st) μ Q := by
  by_cases h : x = 0
  · simp only [r232_396, r232_399, r232_400, r232_403, eq_true h, if_true]
  · simp only [r232_396, r232_399, r232_400, r232_403, eq_false h, if_false]
theorem j232_418 {x : Int32} : R d 232 418 ls (.int x :: st) μ Q = R d 232 426 ls (.int (if x = 0 then 0 else 1) :: st) μ Q := by
  by_cases h : x = 0
  · simp only [r232_418, r232_421, r232_422, r232_425, eq_true h, if_true]
  · simp only [r232_418, r232_421, r232_422, r232_425, eq_false h, if_false]
theorem j232_731 {x : Int32} : R d 232 731 ls (.int x :: st) μ Q = R d 232 739 ls (.int (if x = 0 then 0 else 1) :: st) μ Q := by
  by_cases h : x = 0
  · simp only [r232_731, r232_734, r232_735, r232_738, eq_true h, if_true]
  · simp only [r232_731, r232_734, r232_735, r232_738, eq_false h, if_false]
theorem j232_763 {x : Int32} : R d 232 763 ls (.int x :: st) μ Q = R d 232 771 ls (.int (if x = 0 then 0 else 1) :: st) μ Q := by
  by_cases h : x = 0
  · simp only [r232_763, r232_766, r232_767, r232_770, eq_true h, if_true]
  · simp only [r232_763, r232_766, r232_767, r232_770, eq_false h, if_false]
theorem j232_956 {x : Int32} : R d 232 956 ls (.int x :: st) μ Q = R d 232 964 ls (.int (if x = 0 then 0 else 1) :: st) μ Q := by
  by_cases h : x = 0
  · simp only [r232_956, r232_959, r232_960, r232_963, eq_true h, if_true]
  · simp only [r232_956, r232_959, r232_960, r232_963, eq_false h, if_false]
theorem j232_978 {x : Int32} : R d 232 978 ls (.int x :: st) μ Q = R d 232 986 ls (.int (if x = 0 then 0 else 1) :: st) μ Q := by
  by_cases h : x = 0
  · simp only [r232_978, r232_981, r232_982, r232_985, eq_true h, if_true]
  · simp only [r232_978, r232_981, r232_982, r232_985, eq_false h, if_false]
end RQ
/-! references that never change -/
def fxL : List (Nat × Nat × Nat) := [(2000010, 0, 3000009), (2000010, 1, 5000007), (2000010, 4, 39000008), (2000010, 5, 41000006), (2000010, 6, 83000424), (2000010, 8, 84000720), (2000010, 10, 85000004), (2000010, 11, 94000000), (2000010, 12, 95000000), (2000010, 13, 96000720), (2000010, 14, 97000720), (2000010, 15, 98000720), (2000010, 16, 99000720), (2000010, 17, 100007020), (2000010, 18, 101000720), (3000009, 0, 4100022), (5000007, 0, 6000003), (5000007, 1, 7000001), (5000007, 2, 9000721), (5000007, 3, 10000421), (7000001, 0, 8006420), (11000005, 1, 12000720), (11000005, 2, 13000723), (11000005, 3, 14000720), (11000005, 4, 15000720), (11000005, 5, 16000720), (11000005, 6, 17000720), (11000005, 10, 18000420), (11000005, 11, 19000420), (11000005, 12, 20000002), (20000002, 0, 21100020), (20000002, 2, 22000320), (20000002, 3, 23000320), (20000002, 4, 24006420), (25000005, 1, 26000720), (25000005, 2, 27000723), (25000005, 3, 28000720), (25000005, 4, 29000720), (25000005, 5, 30000720), (25000005, 6, 31000720), (25000005, 10, 32000420), (25000005, 11, 33000420), (25000005, 12, 34000002), (34000002, 0, 35100020), (34000002, 2, 36000320), (34000002, 3, 37000320), (34000002, 4, 38006420), (39000008, 0, 40000720), (41000006, 0, 42002024), (42002024, 0, 43000008), (42002024, 1, 45000008), (42002024, 2, 47000008), (42002024, 3, 49000008), (42002024, 4, 51000008), (42002024, 5, 53000008), (42002024, 6, 55000008), (42002024, 7, 57000008), (42002024, 8, 59000008), (42002024, 9, 61000008), (42002024, 10, 63000008), (42002024, 11, 65000008), (42002024, 12, 67000008), (42002024, 13, 69000008), (42002024, 14, 71000008), (42002024, 15, 73000008), (42002024, 16, 75000008), (42002024, 17, 77000008), (42002024, 18, 79000008), (42002024, 19, 81000008), (43000008, 0, 44000720), (45000008, 0, 46000720), (47000008, 0, 48000720), (49000008, 0, 50000720), (51000008, 0, 52000720), (53000008, 0, 54000720), (55000008, 0, 56000720), (57000008, 0, 58000720), (59000008, 0, 60000720), (61000008, 0, 62000720), (63000008, 0, 64000720), (65000008, 0, 66000720), (67000008, 0, 68000720), (69000008, 0, 70000720), (71000008, 0, 72000720), (73000008, 0, 74000720), (75000008, 0, 76000720), (77000008, 0, 78000720), (79000008, 0, 80000720), (81000008, 0, 82000720), (83000424, 0, 102000008), (83000424, 1, 104000008), (83000424, 2, 106000008), (83000424, 3, 108000008), (85000004, 0, 86089620), (85000004, 1, 87089621), (85000004, 2, 88089621), (85000004, 3, 89089620), (85000004, 4, 90004920), (85000004, 5, 91004920), (85000004, 6, 92000000), (85000004, 10, 93000000), (102000008, 0, 103000720), (104000008, 0, 105000720), (106000008, 0, 107000720), (108000008, 0, 109000720), (110000011, 1, 111100020), (110000011, 4, 112100220), (110000011, 5, 113100220), (110000011, 6, 114100221), (110000011, 9, 115002821), (110000011, 10, 116018820), (110000011, 11, 117220020), (110000011, 12, 118220020), (110000011, 14, 119001121), (110000011, 15, 120001120), (110000011, 20, 121000520), (110000011, 21, 122000520), (110000011, 22, 123110020), (110000011, 23, 124025020), (110000011, 25, 125000423), (110000011, 26, 126000820), (110000011, 31, 127000820), (110000011, 32, 128000820), (110000011, 37, 129000820), (110000011, 38, 130000820), (110000011, 39, 131008020), (110000011, 40, 132008020)]
def FX (μ : PM) : Prop := ∀ q ∈ fxL, rR μ q.1 q.2.1 = some q.2.2
theorem fx_2000010_0 {μ : PM} (h : FX μ) : rR μ 2000010 0 = some 3000009 := h (2000010, 0, 3000009) (List.mem_of_getElem? (i := 0) rfl)
theorem fx_2000010_1 {μ : PM} (h : FX μ) : rR μ 2000010 1 = some 5000007 := h (2000010, 1, 5000007) (List.mem_of_getElem? (i := 1) rfl)
theorem fx_2000010_4 {μ : PM} (h : FX μ) : rR μ 2000010 4 = some 39000008 := h (2000010, 4, 39000008) (List.mem_of_getElem? (i := 2) rfl)
theorem fx_2000010_5 {μ : PM} (h : FX μ) : rR μ 2000010 5 = some 41000006 := h (2000010, 5, 41000006) (List.mem_of_getElem? (i := 3) rfl)
theorem fx_2000010_6 {μ : PM} (h : FX μ) : rR μ 2000010 6 = some 83000424 := h (2000010, 6, 83000424) (List.mem_of_getElem? (i := 4) rfl)
theorem fx_2000010_8 {μ : PM} (h : FX μ) : rR μ 2000010 8 = some 84000720 := h (2000010, 8, 84000720) (List.mem_of_getElem? (i := 5) rfl)
theorem fx_2000010_10 {μ : PM} (h : FX μ) : rR μ 2000010 10 = some 85000004 := h (2000010, 10, 85000004) (List.mem_of_getElem? (i := 6) rfl)
theorem fx_2000010_11 {μ : PM} (h : FX μ) : rR μ 2000010 11 = some 94000000 := h (2000010, 11, 94000000) (List.mem_of_getElem? (i := 7) rfl)
theorem fx_2000010_12 {μ : PM} (h : FX μ) : rR μ 2000010 12 = some 95000000 := h (2000010, 12, 95000000) (List.mem_of_getElem? (i := 8) rfl)
theorem fx_2000010_13 {μ : PM} (h : FX μ) : rR μ 2000010 13 = some 96000720 := h (2000010, 13, 96000720) (List.mem_of_getElem? (i := 9) rfl)
theorem fx_2000010_14 {μ : PM} (h : FX μ) : rR μ 2000010 14 = some 97000720 := h (2000010, 14, 97000720) (List.mem_of_getElem? (i := 10) rfl)
theorem fx_2000010_15 {μ : PM} (h : FX μ) : rR μ 2000010 15 = some 98000720 := h (2000010, 15, 98000720) (List.mem_of_getElem? (i := 11) rfl)
theorem fx_2000010_16 {μ : PM} (h : FX μ) : rR μ 2000010 16 = some 99000720 := h (2000010, 16, 99000720) (List.mem_of_getElem? (i := 12) rfl)
theorem fx_2000010_17 {μ : PM} (h : FX μ) : rR μ 2000010 17 = some 100007020 := h (2000010, 17, 100007020) (List.mem_of_getElem? (i := 13) rfl)
theorem fx_2000010_18 {μ : PM} (h : FX μ) : rR μ 2000010 18 = some 101000720 := h (2000010, 18, 101000720) (List.mem_of_getElem? (i := 14) rfl)
theorem fx_3000009_0 {μ : PM} (h : FX μ) : rR μ 3000009 0 = some 4100022 := h (3000009, 0, 4100022) (List.mem_of_getElem? (i := 15) rfl)
theorem fx_5000007_0 {μ : PM} (h : FX μ) : rR μ 5000007 0 = some 6000003 := h (5000007, 0, 6000003) (List.mem_of_getElem? (i := 16) rfl)
theorem fx_5000007_1 {μ : PM} (h : FX μ) : rR μ 5000007 1 = some 7000001 := h (5000007, 1, 7000001) (List.mem_of_getElem? (i := 17) rfl)
theorem fx_5000007_2 {μ : PM} (h : FX μ) : rR μ 5000007 2 = some 9000721 := h (5000007, 2, 9000721) (List.mem_of_getElem? (i := 18) rfl)
theorem fx_5000007_3 {μ : PM} (h : FX μ) : rR μ 5000007 3 = some 10000421 := h (5000007, 3, 10000421) (List.mem_of_getElem? (i := 19) rfl)
theorem fx_7000001_0 {μ : PM} (h : FX μ) : rR μ 7000001 0 = some 8006420 := h (7000001, 0, 8006420) (List.mem_of_getElem? (i := 20) rfl)
theorem fx_11000005_1 {μ : PM} (h : FX μ) : rR μ 11000005 1 = some 12000720 := h (11000005, 1, 12000720) (List.mem_of_getElem? (i := 21) rfl)
theorem fx_11000005_2 {μ : PM} (h : FX μ) : rR μ 11000005 2 = some 13000723 := h (11000005, 2, 13000723) (List.mem_of_getElem? (i := 22) rfl)
theorem fx_11000005_3 {μ : PM} (h : FX μ) : rR μ 11000005 3 = some 14000720 := h (11000005, 3, 14000720) (List.mem_of_getElem? (i := 23) rfl)
theorem fx_11000005_4 {μ : PM} (h : FX μ) : rR μ 11000005 4 = some 15000720 := h (11000005, 4, 15000720) (List.mem_of_getElem? (i := 24) rfl)
theorem fx_11000005_5 {μ : PM} (h : FX μ) : rR μ 11000005 5 = some 16000720 := h (11000005, 5, 16000720) (List.mem_of_getElem? (i := 25) rfl)
theorem fx_11000005_6 {μ : PM} (h : FX μ) : rR μ 11000005 6 = some 17000720 := h (11000005, 6, 17000720) (List.mem_of_getElem? (i := 26) rfl)
theorem fx_11000005_10 {μ : PM} (h : FX μ) : rR μ 11000005 10 = some 18000420 := h (11000005, 10, 18000420) (List.mem_of_getElem? (i := 27) rfl)
theorem fx_11000005_11 {μ : PM} (h : FX μ) : rR μ 11000005 11 = some 19000420 := h (11000005, 11, 19000420) (List.mem_of_getElem? (i := 28) rfl)
theorem fx_11000005_12 {μ : PM} (h : FX μ) : rR μ 11000005 12 = some 20000002 := h (11000005, 12, 20000002) (List.mem_of_getElem? (i := 29) rfl)
theorem fx_20000002_0 {μ : PM} (h : FX μ) : rR μ 20000002 0 = some 21100020 := h (20000002, 0, 21100020) (List.mem_of_getElem? (i := 30) rfl)
theorem fx_20000002_2 {μ : PM} (h : FX μ) : rR μ 20000002 2 = some 22000320 := h (20000002, 2, 22000320) (List.mem_of_getElem? (i := 31) rfl)
theorem fx_20000002_3 {μ : PM} (h : FX μ) : rR μ 20000002 3 = some 23000320 := h (20000002, 3, 23000320) (List.mem_of_getElem? (i := 32) rfl)
theorem fx_20000002_4 {μ : PM} (h : FX μ) : rR μ 20000002 4 = some 24006420 := h (20000002, 4, 24006420) (List.mem_of_getElem? (i := 33) rfl)
theorem fx_25000005_1 {μ : PM} (h : FX μ) : rR μ 25000005 1 = some 26000720 := h (25000005, 1, 26000720) (List.mem_of_getElem? (i := 34) rfl)
theorem fx_25000005_2 {μ : PM} (h : FX μ) : rR μ 25000005 2 = some 27000723 := h (25000005, 2, 27000723) (List.mem_of_getElem? (i := 35) rfl)
theorem fx_25000005_3 {μ : PM} (h : FX μ) : rR μ 25000005 3 = some 28000720 := h (25000005, 3, 28000720) (List.mem_of_getElem? (i := 36) rfl)
theorem fx_25000005_4 {μ : PM} (h : FX μ) : rR μ 25000005 4 = some 29000720 := h (25000005, 4, 29000720) (List.mem_of_getElem? (i := 37) rfl)
theorem fx_25000005_5 {μ : PM} (h : FX μ) : rR μ 25000005 5 = some 30000720 := h (25000005, 5, 30000720) (List.mem_of_getElem? (i := 38) rfl)
theorem fx_25000005_6 {μ : PM} (h : FX μ) : rR μ 25000005 6 = some 31000720 := h (25000005, 6, 31000720) (List.mem_of_getElem? (i := 39) rfl)
theorem fx_25000005_10 {μ : PM} (h : FX μ) : rR μ 25000005 10 = some 32000420 := h (25000005, 10, 32000420) (List.mem_of_getElem? (i := 40) rfl)
theorem fx_25000005_11 {μ : PM} (h : FX μ) : rR μ 25000005 11 = some 33000420 := h (25000005, 11, 33000420) (List.mem_of_getElem? (i := 41) rfl)
theorem fx_25000005_12 {μ : PM} (h : FX μ) : rR μ 25000005 12 = some 34000002 := h (25000005, 12, 34000002) (List.mem_of_getElem? (i := 42) rfl)
theorem fx_34000002_0 {μ : PM} (h : FX μ) : rR μ 34000002 0 = some 35100020 := h (34000002, 0, 35100020) (List.mem_of_getElem? (i := 43) rfl)
theorem fx_34000002_2 {μ : PM} (h : FX μ) : rR μ 34000002 2 = some 36000320 := h (34000002, 2, 36000320) (List.mem_of_getElem? (i := 44) rfl)
theorem fx_34000002_3 {μ : PM} (h : FX μ) : rR μ 34000002 3 = some 37000320 := h (34000002, 3, 37000320) (List.mem_of_getElem? (i := 45) rfl)
theorem fx_34000002_4 {μ : PM} (h : FX μ) : rR μ 34000002 4 = some 38006420 := h (34000002, 4, 38006420) (List.mem_of_getElem? (i := 46) rfl)
theorem fx_39000008_0 {μ : PM} (h : FX μ) : rR μ 39000008 0 = some 40000720 := h (39000008, 0, 40000720) (List.mem_of_getElem? (i := 47) rfl)
theorem fx_41000006_0 {μ : PM} (h : FX μ) : rR μ 41000006 0 = some 42002024 := h (41000006, 0, 42002024) (List.mem_of_getElem? (i := 48) rfl)
theorem fx_42002024_0 {μ : PM} (h : FX μ) : rR μ 42002024 0 = some 43000008 := h (42002024, 0, 43000008) (List.mem_of_getElem? (i := 49) rfl)
theorem fx_42002024_1 {μ : PM} (h : FX μ) : rR μ 42002024 1 = some 45000008 := h (42002024, 1, 45000008) (List.mem_of_getElem? (i := 50) rfl)
theorem fx_42002024_2 {μ : PM} (h : FX μ) : rR μ 42002024 2 = some 47000008 := h (42002024, 2, 47000008) (List.mem_of_getElem? (i := 51) rfl)
theorem fx_42002024_3 {μ : PM} (h : FX μ) : rR μ 42002024 3 = some 49000008 := h (42002024, 3, 49000008) (List.mem_of_getElem? (i := 52) rfl)
theorem fx_42002024_4 {μ : PM} (h : FX μ) : rR μ 42002024 4 = some 51000008 := h (42002024, 4, 51000008) (List.mem_of_getElem? (i := 53) rfl)
theorem fx_42002024_5 {μ : PM} (h : FX μ) : rR μ 42002024 5 = some 53000008 := h (42002024, 5, 53000008) (List.mem_of_getElem? (i := 54) rfl)
theorem fx_42002024_6 {μ : PM} (h : FX μ) : rR μ 42002024 6 = some 55000008 := h (42002024, 6, 55000008) (List.mem_of_getElem? (i := 55) rfl)
theorem fx_42002024_7 {μ : PM} (h : FX μ) : rR μ 42002024 7 = some 57000008 := h (42002024, 7, 57000008) (List.mem_of_getElem? (i := 56) rfl)
theorem fx_42002024_8 {μ : PM} (h : FX μ) : rR μ 42002024 8 = some 59000008 := h (42002024, 8, 59000008) (List.mem_of_getElem? (i := 57) rfl)
theorem fx_42002024_9 {μ : PM} (h : FX μ) : rR μ 42002024 9 = some 61000008 := h (42002024, 9, 61000008) (List.mem_of_getElem? (i := 58) rfl)
theorem fx_42002024_10 {μ : PM} (h : FX μ) : rR μ 42002024 10 = some 63000008 := h (42002024, 10, 63000008) (List.mem_of_getElem? (i := 59) rfl)
theorem fx_42002024_11 {μ : PM} (h : FX μ) : rR μ 42002024 11 = some 65000008 := h (42002024, 11, 65000008) (List.mem_of_getElem? (i := 60) rfl)
theorem fx_42002024_12 {μ : PM} (h : FX μ) : rR μ 42002024 12 = some 67000008 := h (42002024, 12, 67000008) (List.mem_of_getElem? (i := 61) rfl)
theorem fx_42002024_13 {μ : PM} (h : FX μ) : rR μ 42002024 13 = some 69000008 := h (42002024, 13, 69000008) (List.mem_of_getElem? (i := 62) rfl)
theorem fx_42002024_14 {μ : PM} (h : FX μ) : rR μ 42002024 14 = some 71000008 := h (42002024, 14, 71000008) (List.mem_of_getElem? (i := 63) rfl)
theorem fx_42002024_15 {μ : PM} (h : FX μ) : rR μ 42002024 15 = some 73000008 := h (42002024, 15, 73000008) (List.mem_of_getElem? (i := 64) rfl)
theorem fx_42002024_16 {μ : PM} (h : FX μ) : rR μ 42002024 16 = some 75000008 := h (42002024, 16, 75000008) (List.mem_of_getElem? (i := 65) rfl)
theorem fx_42002024_17 {μ : PM} (h : FX μ) : rR μ 42002024 17 = some 77000008 := h (42002024, 17, 77000008) (List.mem_of_getElem? (i := 66) rfl)
theorem fx_42002024_18 {μ : PM} (h : FX μ) : rR μ 42002024 18 = some 79000008 := h (42002024, 18, 79000008) (List.mem_of_getElem? (i := 67) rfl)
theorem fx_42002024_19 {μ : PM} (h : FX μ) : rR μ 42002024 19 = some 81000008 := h (42002024, 19, 81000008) (List.mem_of_getElem? (i := 68) rfl)
theorem fx_43000008_0 {μ : PM} (h : FX μ) : rR μ 43000008 0 = some 44000720 := h (43000008, 0, 44000720) (List.mem_of_getElem? (i := 69) rfl)
theorem fx_45000008_0 {μ : PM} (h : FX μ) : rR μ 45000008 0 = some 46000720 := h (45000008, 0, 46000720) (List.mem_of_getElem? (i := 70) rfl)
theorem fx_47000008_0 {μ : PM} (h : FX μ) : rR μ 47000008 0 = some 48000720 := h (47000008, 0, 48000720) (List.mem_of_getElem? (i := 71) rfl)
theorem fx_49000008_0 {μ : PM} (h : FX μ) : rR μ 49000008 0 = some 50000720 := h (49000008, 0, 50000720) (List.mem_of_getElem? (i := 72) rfl)
theorem fx_51000008_0 {μ : PM} (h : FX μ) : rR μ 51000008 0 = some 52000720 := h (51000008, 0, 52000720) (List.mem_of_getElem? (i := 73) rfl)
theorem fx_53000008_0 {μ : PM} (h : FX μ) : rR μ 53000008 0 = some 54000720 := h (53000008, 0, 54000720) (List.mem_of_getElem? (i := 74) rfl)
theorem fx_55000008_0 {μ : PM} (h : FX μ) : rR μ 55000008 0 = some 56000720 := h (55000008, 0, 56000720) (List.mem_of_getElem? (i := 75) rfl)
theorem fx_57000008_0 {μ : PM} (h : FX μ) : rR μ 57000008 0 = some 58000720 := h (57000008, 0, 58000720) (List.mem_of_getElem? (i := 76) rfl)
theorem fx_59000008_0 {μ : PM} (h : FX μ) : rR μ 59000008 0 = some 60000720 := h (59000008, 0, 60000720) (List.mem_of_getElem? (i := 77) rfl)
theorem fx_61000008_0 {μ : PM} (h : FX μ) : rR μ 61000008 0 = some 62000720 := h (61000008, 0, 62000720) (List.mem_of_getElem? (i := 78) rfl)
theorem fx_63000008_0 {μ : PM} (h : FX μ) : rR μ 63000008 0 = some 64000720 := h (63000008, 0, 64000720) (List.mem_of_getElem? (i := 79) rfl)
theorem fx_65000008_0 {μ : PM} (h : FX μ) : rR μ 65000008 0 = some 66000720 := h (65000008, 0, 66000720) (List.mem_of_getElem? (i := 80) rfl)
theorem fx_67000008_0 {μ : PM} (h : FX μ) : rR μ 67000008 0 = some 68000720 := h (67000008, 0, 68000720) (List.mem_of_getElem? (i := 81) rfl)
theorem fx_69000008_0 {μ : PM} (h : FX μ) : rR μ 69000008 0 = some 70000720 := h (69000008, 0, 70000720) (List.mem_of_getElem? (i := 82) rfl)
theorem fx_71000008_0 {μ : PM} (h : FX μ) : rR μ 71000008 0 = some 72000720 := h (71000008, 0, 72000720) (List.mem_of_getElem? (i := 83) rfl)
theorem fx_73000008_0 {μ : PM} (h : FX μ) : rR μ 73000008 0 = some 74000720 := h (73000008, 0, 74000720) (List.mem_of_getElem? (i := 84) rfl)
theorem fx_75000008_0 {μ : PM} (h : FX μ) : rR μ 75000008 0 = some 76000720 := h (75000008, 0, 76000720) (List.mem_of_getElem? (i := 85) rfl)
theorem fx_77000008_0 {μ : PM} (h : FX μ) : rR μ 77000008 0 = some 78000720 := h (77000008, 0, 78000720) (List.mem_of_getElem? (i := 86) rfl)
theorem fx_79000008_0 {μ : PM} (h : FX μ) : rR μ 79000008 0 = some 80000720 := h (79000008, 0, 80000720) (List.mem_of_getElem? (i := 87) rfl)
theorem fx_81000008_0 {μ : PM} (h : FX μ) : rR μ 81000008 0 = some 82000720 := h (81000008, 0, 82000720) (List.mem_of_getElem? (i := 88) rfl)
theorem fx_83000424_0 {μ : PM} (h : FX μ) : rR μ 83000424 0 = some 102000008 := h (83000424, 0, 102000008) (List.mem_of_getElem? (i := 89) rfl)
theorem fx_83000424_1 {μ : PM} (h : FX μ) : rR μ 83000424 1 = some 104000008 := h (83000424, 1, 104000008) (List.mem_of_getElem? (i := 90) rfl)
theorem fx_83000424_2 {μ : PM} (h : FX μ) : rR μ 83000424 2 = some 106000008 := h (83000424, 2, 106000008) (List.mem_of_getElem? (i := 91) rfl)
theorem fx_83000424_3 {μ : PM} (h : FX μ) : rR μ 83000424 3 = some 108000008 := h (83000424, 3, 108000008) (List.mem_of_getElem? (i := 92) rfl)
theorem fx_85000004_0 {μ : PM} (h : FX μ) : rR μ 85000004 0 = some 86089620 := h (85000004, 0, 86089620) (List.mem_of_getElem? (i := 93) rfl)
theorem fx_85000004_1 {μ : PM} (h : FX μ) : rR μ 85000004 1 = some 87089621 := h (85000004, 1, 87089621) (List.mem_of_getElem? (i := 94) rfl)
theorem fx_85000004_2 {μ : PM} (h : FX μ) : rR μ 85000004 2 = some 88089621 := h (85000004, 2, 88089621) (List.mem_of_getElem? (i := 95) rfl)
theorem fx_85000004_3 {μ : PM} (h : FX μ) : rR μ 85000004 3 = some 89089620 := h (85000004, 3, 89089620) (List.mem_of_getElem? (i := 96) rfl)
theorem fx_85000004_4 {μ : PM} (h : FX μ) : rR μ 85000004 4 = some 90004920 := h (85000004, 4, 90004920) (List.mem_of_getElem? (i := 97) rfl)
theorem fx_85000004_5 {μ : PM} (h : FX μ) : rR μ 85000004 5 = some 91004920 := h (85000004, 5, 91004920) (List.mem_of_getElem? (i := 98) rfl)
theorem fx_85000004_6 {μ : PM} (h : FX μ) : rR μ 85000004 6 = some 92000000 := h (85000004, 6, 92000000) (List.mem_of_getElem? (i := 99) rfl)
theorem fx_85000004_10 {μ : PM} (h : FX μ) : rR μ 85000004 10 = some 93000000 := h (85000004, 10, 93000000) (List.mem_of_getElem? (i := 100) rfl)
theorem fx_102000008_0 {μ : PM} (h : FX μ) : rR μ 102000008 0 = some 103000720 := h (102000008, 0, 103000720) (List.mem_of_getElem? (i := 101) rfl)
theorem fx_104000008_0 {μ : PM} (h : FX μ) : rR μ 104000008 0 = some 105000720 := h (104000008, 0, 105000720) (List.mem_of_getElem? (i := 102) rfl)
theorem fx_106000008_0 {μ : PM} (h : FX μ) : rR μ 106000008 0 = some 107000720 := h (106000008, 0, 107000720) (List.mem_of_getElem? (i := 103) rfl)
theorem fx_108000008_0 {μ : PM} (h : FX μ) : rR μ 108000008 0 = some 109000720 := h (108000008, 0, 109000720) (List.mem_of_getElem? (i := 104) rfl)
theorem fx_110000011_1 {μ : PM} (h : FX μ) : rR μ 110000011 1 = some 111100020 := h (110000011, 1, 111100020) (List.mem_of_getElem? (i := 105) rfl)
theorem fx_110000011_4 {μ : PM} (h : FX μ) : rR μ 110000011 4 = some 112100220 := h (110000011, 4, 112100220) (List.mem_of_getElem? (i := 106) rfl)
theorem fx_110000011_5 {μ : PM} (h : FX μ) : rR μ 110000011 5 = some 113100220 := h (110000011, 5, 113100220) (List.mem_of_getElem? (i := 107) rfl)
theorem fx_110000011_6 {μ : PM} (h : FX μ) : rR μ 110000011 6 = some 114100221 := h (110000011, 6, 114100221) (List.mem_of_getElem? (i := 108) rfl)
theorem fx_110000011_9 {μ : PM} (h : FX μ) : rR μ 110000011 9 = some 115002821 := h (110000011, 9, 115002821) (List.mem_of_getElem? (i := 109) rfl)
theorem fx_110000011_10 {μ : PM} (h : FX μ) : rR μ 110000011 10 = some 116018820 := h (110000011, 10, 116018820) (List.mem_of_getElem? (i := 110) rfl)
theorem fx_110000011_11 {μ : PM} (h : FX μ) : rR μ 110000011 11 = some 117220020 := h (110000011, 11, 117220020) (List.mem_of_getElem? (i := 111) rfl)
theorem fx_110000011_12 {μ : PM} (h : FX μ) : rR μ 110000011 12 = some 118220020 := h (110000011, 12, 118220020) (List.mem_of_getElem? (i := 112) rfl)
theorem fx_110000011_14 {μ : PM} (h : FX μ) : rR μ 110000011 14 = some 119001121 := h (110000011, 14, 119001121) (List.mem_of_getElem? (i := 113) rfl)
theorem fx_110000011_15 {μ : PM} (h : FX μ) : rR μ 110000011 15 = some 120001120 := h (110000011, 15, 120001120) (List.mem_of_getElem? (i := 114) rfl)
theorem fx_110000011_20 {μ : PM} (h : FX μ) : rR μ 110000011 20 = some 121000520 := h (110000011, 20, 121000520) (List.mem_of_getElem? (i := 115) rfl)
theorem fx_110000011_21 {μ : PM} (h : FX μ) : rR μ 110000011 21 = some 122000520 := h (110000011, 21, 122000520) (List.mem_of_getElem? (i := 116) rfl)
theorem fx_110000011_22 {μ : PM} (h : FX μ) : rR μ 110000011 22 = some 123110020 := h (110000011, 22, 123110020) (List.mem_of_getElem? (i := 117) rfl)
theorem fx_110000011_23 {μ : PM} (h : FX μ) : rR μ 110000011 23 = some 124025020 := h (110000011, 23, 124025020) (List.mem_of_getElem? (i := 118) rfl)
theorem fx_110000011_25 {μ : PM} (h : FX μ) : rR μ 110000011 25 = some 125000423 := h (110000011, 25, 125000423) (List.mem_of_getElem? (i := 119) rfl)
theorem fx_110000011_26 {μ : PM} (h : FX μ) : rR μ 110000011 26 = some 126000820 := h (110000011, 26, 126000820) (List.mem_of_getElem? (i := 120) rfl)
theorem fx_110000011_31 {μ : PM} (h : FX μ) : rR μ 110000011 31 = some 127000820 := h (110000011, 31, 127000820) (List.mem_of_getElem? (i := 121) rfl)
theorem fx_110000011_32 {μ : PM} (h : FX μ) : rR μ 110000011 32 = some 128000820 := h (110000011, 32, 128000820) (List.mem_of_getElem? (i := 122) rfl)
theorem fx_110000011_37 {μ : PM} (h : FX μ) : rR μ 110000011 37 = some 129000820 := h (110000011, 37, 129000820) (List.mem_of_getElem? (i := 123) rfl)
theorem fx_110000011_38 {μ : PM} (h : FX μ) : rR μ 110000011 38 = some 130000820 := h (110000011, 38, 130000820) (List.mem_of_getElem? (i := 124) rfl)
theorem fx_110000011_39 {μ : PM} (h : FX μ) : rR μ 110000011 39 = some 131008020 := h (110000011, 39, 131008020) (List.mem_of_getElem? (i := 125) rfl)
theorem fx_110000011_40 {μ : PM} (h : FX μ) : rR μ 110000011 40 = some 132008020 := h (110000011, 40, 132008020) (List.mem_of_getElem? (i := 126) rfl)
