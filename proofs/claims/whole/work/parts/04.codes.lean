set_option maxRecDepth 100000 in
theorem tc_0 : lw_tbl[395]? = some (Cond.code (yN 0) (bN 0) (xN 0) (tN 0)) := by rfl
set_option maxRecDepth 100000 in
theorem tc_1 : lw_tbl[841]? = some (Cond.code (yN 1) (bN 1) (xN 1) (tN 1)) := by rfl
set_option maxRecDepth 100000 in
theorem tc_2 : lw_tbl[875]? = some (Cond.code (yN 2) (bN 2) (xN 2) (tN 2)) := by rfl
set_option maxRecDepth 100000 in
theorem tc_3 : lw_tbl[853]? = some (Cond.code (yN 3) (bN 3) (xN 3) (tN 3)) := by rfl
set_option maxRecDepth 100000 in
theorem tc_4 : lw_tbl[916]? = some (Cond.code (yN 4) (bN 4) (xN 4) (tN 4)) := by rfl
set_option maxRecDepth 100000 in
theorem tc_5 : lw_tbl[857]? = some (Cond.code (yN 5) (bN 5) (xN 5) (tN 5)) := by rfl
set_option maxRecDepth 100000 in
theorem tc_6 : lw_tbl[861]? = some (Cond.code (yN 6) (bN 6) (xN 6) (tN 6)) := by rfl
set_option maxRecDepth 100000 in
theorem tc_7 : lw_tbl[188]? = some (Cond.code (yN 7) (bN 7) (xN 7) (tN 7)) := by rfl
set_option maxRecDepth 100000 in
theorem tc_8 : lw_tbl[640]? = some (Cond.code (yN 8) (bN 8) (xN 8) (tN 8)) := by rfl
set_option maxRecDepth 100000 in
theorem tc_9 : lw_tbl[667]? = some (Cond.code (yN 9) (bN 9) (xN 9) (tN 9)) := by rfl
set_option maxRecDepth 100000 in
theorem tc_10 : lw_tbl[670]? = some (Cond.code (yN 10) (bN 10) (xN 10) (tN 10)) := by rfl
set_option maxRecDepth 100000 in
theorem tc_11 : lw_tbl[685]? = some (Cond.code (yN 11) (bN 11) (xN 11) (tN 11)) := by rfl
set_option maxRecDepth 100000 in
theorem tc_12 : lw_tbl[681]? = some (Cond.code (yN 12) (bN 12) (xN 12) (tN 12)) := by rfl
set_option maxRecDepth 100000 in
theorem tc_13 : lw_tbl[648]? = some (Cond.code (yN 13) (bN 13) (xN 13) (tN 13)) := by rfl
set_option maxRecDepth 100000 in
theorem tc_14 : lw_tbl[652]? = some (Cond.code (yN 14) (bN 14) (xN 14) (tN 14)) := by rfl
set_option maxRecDepth 100000 in
theorem tc_15 : lw_tbl[677]? = some (Cond.code (yN 15) (bN 15) (xN 15) (tN 15)) := by rfl
set_option maxRecDepth 100000 in
theorem tc_16 : lw_tbl[655]? = some (Cond.code (yN 16) (bN 16) (xN 16) (tN 16)) := by rfl
set_option maxRecDepth 100000 in
theorem tc_17 : lw_tbl[240]? = some (Cond.code (yN 17) (bN 17) (xN 17) (tN 17)) := by rfl
set_option maxRecDepth 100000 in
theorem tc_18 : lw_tbl[540]? = some (Cond.code (yN 18) (bN 18) (xN 18) (tN 18)) := by rfl
set_option maxRecDepth 100000 in
theorem tc_19 : lw_tbl[644]? = some (Cond.code (yN 19) (bN 19) (xN 19) (tN 19)) := by rfl
set_option maxRecDepth 100000 in
theorem tc_20 : lw_tbl[663]? = some (Cond.code (yN 20) (bN 20) (xN 20) (tN 20)) := by rfl
set_option maxRecDepth 100000 in
theorem tc_21 : lw_tbl[659]? = some (Cond.code (yN 21) (bN 21) (xN 21) (tN 21)) := by rfl
set_option maxRecDepth 100000 in
theorem tc_22 : lw_tbl[790]? = some (Cond.code (yN 22) (bN 22) (xN 22) (tN 22)) := by rfl
set_option maxRecDepth 100000 in
theorem tc_23 : lw_tbl[798]? = some (Cond.code (yN 23) (bN 23) (xN 23) (tN 23)) := by rfl
set_option maxRecDepth 100000 in
theorem tc_24 : lw_tbl[802]? = some (Cond.code (yN 24) (bN 24) (xN 24) (tN 24)) := by rfl
set_option maxRecDepth 100000 in
theorem tc_25 : lw_tbl[806]? = some (Cond.code (yN 25) (bN 25) (xN 25) (tN 25)) := by rfl
set_option maxRecDepth 100000 in
theorem tc_26 : lw_tbl[673]? = some (Cond.code (yN 26) (bN 26) (xN 26) (tN 26)) := by rfl
set_option maxRecDepth 100000 in
theorem tc_27 : lw_tbl[811]? = some (Cond.code (yN 27) (bN 27) (xN 27) (tN 27)) := by rfl
set_option maxRecDepth 100000 in
theorem tc_28 : lw_tbl[814]? = some (Cond.code (yN 28) (bN 28) (xN 28) (tN 28)) := by rfl
set_option maxRecDepth 100000 in
theorem tc_29 : lw_tbl[157]? = some (Cond.code (yN 29) (bN 29) (xN 29) (tN 29)) := by rfl
set_option maxRecDepth 100000 in
theorem tc_30 : lw_tbl[545]? = some (Cond.code (yN 30) (bN 30) (xN 30) (tN 30)) := by rfl
set_option maxRecDepth 100000 in
theorem tc_31 : lw_tbl[549]? = some (Cond.code (yN 31) (bN 31) (xN 31) (tN 31)) := by rfl
set_option maxRecDepth 100000 in
theorem tc_32 : lw_tbl[560]? = some (Cond.code (yN 32) (bN 32) (xN 32) (tN 32)) := by rfl
set_option maxRecDepth 100000 in
theorem tc_33 : lw_tbl[569]? = some (Cond.code (yN 33) (bN 33) (xN 33) (tN 33)) := by rfl
set_option maxRecDepth 100000 in
theorem tc_34 : lw_tbl[553]? = some (Cond.code (yN 34) (bN 34) (xN 34) (tN 34)) := by rfl
set_option maxRecDepth 100000 in
theorem tc_35 : lw_tbl[556]? = some (Cond.code (yN 35) (bN 35) (xN 35) (tN 35)) := by rfl
set_option maxRecDepth 100000 in
theorem tc_36 : lw_tbl[565]? = some (Cond.code (yN 36) (bN 36) (xN 36) (tN 36)) := by rfl
set_option maxRecDepth 100000 in
theorem tc_37 : lw_tbl[572]? = some (Cond.code (yN 37) (bN 37) (xN 37) (tN 37)) := by rfl
set_option maxRecDepth 100000 in
theorem tc_38 : lw_tbl[389]? = some (Cond.code (yN 38) (bN 38) (xN 38) (tN 38)) := by rfl
set_option maxRecDepth 100000 in
theorem tc_39 : lw_tbl[883]? = some (Cond.code (yN 39) (bN 39) (xN 39) (tN 39)) := by rfl
set_option maxRecDepth 100000 in
theorem tc_40 : lw_tbl[928]? = some (Cond.code (yN 40) (bN 40) (xN 40) (tN 40)) := by rfl
set_option maxRecDepth 100000 in
theorem tc_41 : lw_tbl[888]? = some (Cond.code (yN 41) (bN 41) (xN 41) (tN 41)) := by rfl
set_option maxRecDepth 100000 in
theorem tc_42 : lw_tbl[895]? = some (Cond.code (yN 42) (bN 42) (xN 42) (tN 42)) := by rfl
set_option maxRecDepth 100000 in
theorem tc_43 : lw_tbl[903]? = some (Cond.code (yN 43) (bN 43) (xN 43) (tN 43)) := by rfl
set_option maxRecDepth 100000 in
theorem tc_44 : lw_tbl[911]? = some (Cond.code (yN 44) (bN 44) (xN 44) (tN 44)) := by rfl
set_option maxRecDepth 100000 in
theorem tc_45 : lw_tbl[923]? = some (Cond.code (yN 45) (bN 45) (xN 45) (tN 45)) := by rfl
set_option maxRecDepth 100000 in
theorem tc_46 : lw_tbl[234]? = some (Cond.code (yN 46) (bN 46) (xN 46) (tN 46)) := by rfl
set_option maxRecDepth 100000 in
theorem tc_47 : lw_tbl[533]? = some (Cond.code (yN 47) (bN 47) (xN 47) (tN 47)) := by rfl
set_option maxRecDepth 100000 in
theorem tc_48 : lw_tbl[608]? = some (Cond.code (yN 48) (bN 48) (xN 48) (tN 48)) := by rfl
set_option maxRecDepth 100000 in
theorem tc_49 : lw_tbl[616]? = some (Cond.code (yN 49) (bN 49) (xN 49) (tN 49)) := by rfl
set_option maxRecDepth 100000 in
theorem tc_50 : lw_tbl[628]? = some (Cond.code (yN 50) (bN 50) (xN 50) (tN 50)) := by rfl
set_option maxRecDepth 100000 in
theorem tc_51 : lw_tbl[632]? = some (Cond.code (yN 51) (bN 51) (xN 51) (tN 51)) := by rfl
set_option maxRecDepth 100000 in
theorem tc_52 : lw_tbl[779]? = some (Cond.code (yN 52) (bN 52) (xN 52) (tN 52)) := by rfl
set_option maxRecDepth 100000 in
theorem tc_53 : lw_tbl[783]? = some (Cond.code (yN 53) (bN 53) (xN 53) (tN 53)) := by rfl
set_option maxRecDepth 100000 in
theorem tc_54 : lw_tbl[794]? = some (Cond.code (yN 54) (bN 54) (xN 54) (tN 54)) := by rfl
set_option maxRecDepth 100000 in
theorem tc_55 : lw_tbl[775]? = some (Cond.code (yN 55) (bN 55) (xN 55) (tN 55)) := by rfl
set_option maxRecDepth 100000 in
theorem tc_56 : lw_tbl[829]? = some (Cond.code (yN 56) (bN 56) (xN 56) (tN 56)) := by rfl
set_option maxRecDepth 100000 in
theorem tc_57 : lw_tbl[849]? = some (Cond.code (yN 57) (bN 57) (xN 57) (tN 57)) := by rfl
set_option maxRecDepth 100000 in
theorem tc_58 : lw_tbl[907]? = some (Cond.code (yN 58) (bN 58) (xN 58) (tN 58)) := by rfl
set_option maxRecDepth 100000 in
theorem tc_59 : lw_tbl[1003]? = some (Cond.code (yN 59) (bN 59) (xN 59) (tN 59)) := by rfl
set_option maxRecDepth 100000 in
theorem tc_60 : lw_tbl[1007]? = some (Cond.code (yN 60) (bN 60) (xN 60) (tN 60)) := by rfl
set_option maxRecDepth 100000 in
theorem tc_61 : lw_tbl[973]? = some (Cond.code (yN 61) (bN 61) (xN 61) (tN 61)) := by rfl
set_option maxRecDepth 100000 in
theorem tc_62 : lw_tbl[977]? = some (Cond.code (yN 62) (bN 62) (xN 62) (tN 62)) := by rfl
set_option maxRecDepth 100000 in
theorem tc_63 : lw_tbl[369]? = some (Cond.code (yN 63) (bN 63) (xN 63) (tN 63)) := by rfl
set_option maxRecDepth 100000 in
theorem tc_64 : lw_tbl[694]? = some (Cond.code (yN 64) (bN 64) (xN 64) (tN 64)) := by rfl
set_option maxRecDepth 100000 in
theorem tc_65 : lw_tbl[726]? = some (Cond.code (yN 65) (bN 65) (xN 65) (tN 65)) := by rfl
set_option maxRecDepth 100000 in
theorem tc_66 : lw_tbl[763]? = some (Cond.code (yN 66) (bN 66) (xN 66) (tN 66)) := by rfl
set_option maxRecDepth 100000 in
theorem tc_67 : lw_tbl[151]? = some (Cond.code (yN 67) (bN 67) (xN 67) (tN 67)) := by rfl
set_option maxRecDepth 100000 in
theorem tc_68 : lw_tbl[529]? = some (Cond.code (yN 68) (bN 68) (xN 68) (tN 68)) := by rfl
set_option maxRecDepth 100000 in
theorem tc_69 : lw_tbl[576]? = some (Cond.code (yN 69) (bN 69) (xN 69) (tN 69)) := by rfl
set_option maxRecDepth 100000 in
theorem tc_70 : lw_tbl[612]? = some (Cond.code (yN 70) (bN 70) (xN 70) (tN 70)) := by rfl
set_option maxRecDepth 100000 in
theorem tc_71 : lw_tbl[620]? = some (Cond.code (yN 71) (bN 71) (xN 71) (tN 71)) := by rfl
set_option maxRecDepth 100000 in
theorem tc_72 : lw_tbl[636]? = some (Cond.code (yN 72) (bN 72) (xN 72) (tN 72)) := by rfl
set_option maxRecDepth 100000 in
theorem tc_73 : lw_tbl[580]? = some (Cond.code (yN 73) (bN 73) (xN 73) (tN 73)) := by rfl
set_option maxRecDepth 100000 in
theorem tc_74 : lw_tbl[600]? = some (Cond.code (yN 74) (bN 74) (xN 74) (tN 74)) := by rfl
set_option maxRecDepth 100000 in
theorem tc_75 : lw_tbl[604]? = some (Cond.code (yN 75) (bN 75) (xN 75) (tN 75)) := by rfl
set_option maxRecDepth 100000 in
theorem tc_76 : lw_tbl[596]? = some (Cond.code (yN 76) (bN 76) (xN 76) (tN 76)) := by rfl
set_option maxRecDepth 100000 in
theorem tc_77 : lw_tbl[585]? = some (Cond.code (yN 77) (bN 77) (xN 77) (tN 77)) := by rfl
set_option maxRecDepth 100000 in
theorem tc_78 : lw_tbl[624]? = some (Cond.code (yN 78) (bN 78) (xN 78) (tN 78)) := by rfl
set_option maxRecDepth 100000 in
theorem tc_79 : lw_tbl[589]? = some (Cond.code (yN 79) (bN 79) (xN 79) (tN 79)) := by rfl
set_option maxRecDepth 100000 in
theorem tc_80 : lw_tbl[592]? = some (Cond.code (yN 80) (bN 80) (xN 80) (tN 80)) := by rfl
set_option maxRecDepth 100000 in
theorem tc_81 : lw_tbl[344]? = some (Cond.code (yN 81) (bN 81) (xN 81) (tN 81)) := by rfl
set_option maxRecDepth 100000 in
theorem tc_82 : lw_tbl[690]? = some (Cond.code (yN 82) (bN 82) (xN 82) (tN 82)) := by rfl
set_option maxRecDepth 100000 in
theorem tc_83 : lw_tbl[730]? = some (Cond.code (yN 83) (bN 83) (xN 83) (tN 83)) := by rfl
set_option maxRecDepth 100000 in
theorem tc_84 : lw_tbl[702]? = some (Cond.code (yN 84) (bN 84) (xN 84) (tN 84)) := by rfl
set_option maxRecDepth 100000 in
theorem tc_85 : lw_tbl[740]? = some (Cond.code (yN 85) (bN 85) (xN 85) (tN 85)) := by rfl
set_option maxRecDepth 100000 in
theorem tc_86 : lw_tbl[134]? = some (Cond.code (yN 86) (bN 86) (xN 86) (tN 86)) := by rfl
set_option maxRecDepth 100000 in
theorem tc_87 : lw_tbl[516]? = some (Cond.code (yN 87) (bN 87) (xN 87) (tN 87)) := by rfl
set_option maxRecDepth 100000 in
theorem tc_88 : lw_tbl[521]? = some (Cond.code (yN 88) (bN 88) (xN 88) (tN 88)) := by rfl
set_option maxRecDepth 100000 in
theorem tc_89 : lw_tbl[126]? = some (Cond.code (yN 89) (bN 89) (xN 89) (tN 89)) := by rfl
set_option maxRecDepth 100000 in
theorem tc_90 : lw_tbl[512]? = some (Cond.code (yN 90) (bN 90) (xN 90) (tN 90)) := by rfl
set_option maxRecDepth 100000 in
theorem tc_91 : lw_tbl[525]? = some (Cond.code (yN 91) (bN 91) (xN 91) (tN 91)) := by rfl
set_option maxRecDepth 100000 in
theorem tc_92 : lw_tbl[706]? = some (Cond.code (yN 92) (bN 92) (xN 92) (tN 92)) := by rfl
set_option maxRecDepth 100000 in
theorem tc_93 : lw_tbl[718]? = some (Cond.code (yN 93) (bN 93) (xN 93) (tN 93)) := by rfl
set_option maxRecDepth 100000 in
theorem tc_94 : lw_tbl[722]? = some (Cond.code (yN 94) (bN 94) (xN 94) (tN 94)) := by rfl
set_option maxRecDepth 100000 in
theorem tc_95 : lw_tbl[744]? = some (Cond.code (yN 95) (bN 95) (xN 95) (tN 95)) := by rfl
set_option maxRecDepth 100000 in
theorem tc_96 : lw_tbl[748]? = some (Cond.code (yN 96) (bN 96) (xN 96) (tN 96)) := by rfl
set_option maxRecDepth 100000 in
theorem tc_97 : lw_tbl[752]? = some (Cond.code (yN 97) (bN 97) (xN 97) (tN 97)) := by rfl
set_option maxRecDepth 100000 in
theorem tc_98 : lw_tbl[759]? = some (Cond.code (yN 98) (bN 98) (xN 98) (tN 98)) := by rfl
set_option maxRecDepth 100000 in
theorem tc_99 : lw_tbl[767]? = some (Cond.code (yN 99) (bN 99) (xN 99) (tN 99)) := by rfl
set_option maxRecDepth 100000 in
theorem tc_100 : lw_tbl[825]? = some (Cond.code (yN 100) (bN 100) (xN 100) (tN 100)) := by rfl
set_option maxRecDepth 100000 in
theorem tc_101 : lw_tbl[833]? = some (Cond.code (yN 101) (bN 101) (xN 101) (tN 101)) := by rfl
set_option maxRecDepth 100000 in
theorem tc_102 : lw_tbl[867]? = some (Cond.code (yN 102) (bN 102) (xN 102) (tN 102)) := by rfl
set_option maxRecDepth 100000 in
theorem tc_103 : lw_tbl[879]? = some (Cond.code (yN 103) (bN 103) (xN 103) (tN 103)) := by rfl
set_option maxRecDepth 100000 in
theorem tc_104 : lw_tbl[932]? = some (Cond.code (yN 104) (bN 104) (xN 104) (tN 104)) := by rfl
set_option maxRecDepth 100000 in
theorem tc_105 : lw_tbl[936]? = some (Cond.code (yN 105) (bN 105) (xN 105) (tN 105)) := by rfl
set_option maxRecDepth 100000 in
theorem tc_106 : lw_tbl[941]? = some (Cond.code (yN 106) (bN 106) (xN 106) (tN 106)) := by rfl
set_option maxRecDepth 100000 in
theorem tc_107 : lw_tbl[956]? = some (Cond.code (yN 107) (bN 107) (xN 107) (tN 107)) := by rfl
set_option maxRecDepth 100000 in
theorem tc_108 : lw_tbl[969]? = some (Cond.code (yN 108) (bN 108) (xN 108) (tN 108)) := by rfl
set_option maxRecDepth 100000 in
theorem tc_109 : lw_tbl[981]? = some (Cond.code (yN 109) (bN 109) (xN 109) (tN 109)) := by rfl
set_option maxRecDepth 100000 in
theorem tc_110 : lw_tbl[995]? = some (Cond.code (yN 110) (bN 110) (xN 110) (tN 110)) := by rfl
set_option maxRecDepth 100000 in
theorem tc_111 : lw_tbl[1011]? = some (Cond.code (yN 111) (bN 111) (xN 111) (tN 111)) := by rfl
set_option maxRecDepth 100000 in
theorem tc_112 : lw_tbl[1018]? = some (Cond.code (yN 112) (bN 112) (xN 112) (tN 112)) := by rfl
set_option maxRecDepth 100000 in
theorem tc_113 : lw_tbl[1031]? = some (Cond.code (yN 113) (bN 113) (xN 113) (tN 113)) := by rfl
set_option maxRecDepth 100000 in
theorem tc_114 : lw_tbl[1036]? = some (Cond.code (yN 114) (bN 114) (xN 114) (tN 114)) := by rfl
set_option maxRecDepth 100000 in
theorem tc_115 : lw_tbl[698]? = some (Cond.code (yN 115) (bN 115) (xN 115) (tN 115)) := by rfl
set_option maxRecDepth 100000 in
theorem tc_116 : lw_tbl[710]? = some (Cond.code (yN 116) (bN 116) (xN 116) (tN 116)) := by rfl
set_option maxRecDepth 100000 in
theorem tc_117 : lw_tbl[771]? = some (Cond.code (yN 117) (bN 117) (xN 117) (tN 117)) := by rfl
set_option maxRecDepth 100000 in
theorem tc_118 : lw_tbl[755]? = some (Cond.code (yN 118) (bN 118) (xN 118) (tN 118)) := by rfl
set_option maxRecDepth 100000 in
theorem tc_119 : lw_tbl[714]? = some (Cond.code (yN 119) (bN 119) (xN 119) (tN 119)) := by rfl
set_option maxRecDepth 100000 in
theorem tc_120 : lw_tbl[845]? = some (Cond.code (yN 120) (bN 120) (xN 120) (tN 120)) := by rfl
set_option maxRecDepth 100000 in
theorem tc_121 : lw_tbl[871]? = some (Cond.code (yN 121) (bN 121) (xN 121) (tN 121)) := by rfl
set_option maxRecDepth 100000 in
theorem tc_122 : lw_tbl[946]? = some (Cond.code (yN 122) (bN 122) (xN 122) (tN 122)) := by rfl
set_option maxRecDepth 100000 in
theorem tc_123 : lw_tbl[1022]? = some (Cond.code (yN 123) (bN 123) (xN 123) (tN 123)) := by rfl
set_option maxRecDepth 100000 in
theorem tc_124 : lw_tbl[837]? = some (Cond.code (yN 124) (bN 124) (xN 124) (tN 124)) := by rfl
set_option maxRecDepth 100000 in
theorem tc_125 : lw_tbl[951]? = some (Cond.code (yN 125) (bN 125) (xN 125) (tN 125)) := by rfl
set_option maxRecDepth 100000 in
theorem tc_126 : lw_tbl[960]? = some (Cond.code (yN 126) (bN 126) (xN 126) (tN 126)) := by rfl
set_option maxRecDepth 100000 in
theorem tc_127 : lw_tbl[964]? = some (Cond.code (yN 127) (bN 127) (xN 127) (tN 127)) := by rfl
set_option maxRecDepth 100000 in
theorem tc_128 : lw_tbl[985]? = some (Cond.code (yN 128) (bN 128) (xN 128) (tN 128)) := by rfl
set_option maxRecDepth 100000 in
theorem tc_129 : lw_tbl[999]? = some (Cond.code (yN 129) (bN 129) (xN 129) (tN 129)) := by rfl
set_option maxRecDepth 100000 in
theorem tc_130 : lw_tbl[1014]? = some (Cond.code (yN 130) (bN 130) (xN 130) (tN 130)) := by rfl
set_option maxRecDepth 100000 in
theorem tc_131 : lw_tbl[817]? = some (Cond.code (yN 131) (bN 131) (xN 131) (tN 131)) := by rfl
set_option maxRecDepth 100000 in
theorem tc_132 : lw_tbl[1040]? = some (Cond.code (yN 132) (bN 132) (xN 132) (tN 132)) := by rfl
set_option maxRecDepth 100000 in
theorem tc_133 : lw_tbl[1045]? = some (Cond.code (yN 133) (bN 133) (xN 133) (tN 133)) := by rfl
set_option maxRecDepth 100000 in
theorem tc_134 : lw_tbl[1049]? = some (Cond.code (yN 134) (bN 134) (xN 134) (tN 134)) := by rfl
set_option maxRecDepth 100000 in
theorem tc_135 : lw_tbl[1224]? = some (Cond.code (yN 135) (bN 135) (xN 135) (tN 135)) := by rfl
set_option maxRecDepth 100000 in
theorem tc_136 : lw_tbl[1231]? = some (Cond.code (yN 136) (bN 136) (xN 136) (tN 136)) := by rfl
set_option maxRecDepth 100000 in
theorem tc_137 : lw_tbl[1228]? = some (Cond.code (yN 137) (bN 137) (xN 137) (tN 137)) := by rfl
set_option maxRecDepth 100000 in
theorem tc_138 : lw_tbl[1236]? = some (Cond.code (yN 138) (bN 138) (xN 138) (tN 138)) := by rfl
set_option maxRecDepth 100000 in
theorem tc_139 : lw_tbl[1221]? = some (Cond.code (yN 139) (bN 139) (xN 139) (tN 139)) := by rfl
set_option maxRecDepth 100000 in
theorem tc_140 : lw_tbl[1252]? = some (Cond.code (yN 140) (bN 140) (xN 140) (tN 140)) := by rfl
set_option maxRecDepth 100000 in
theorem tc_141 : lw_tbl[1328]? = some (Cond.code (yN 141) (bN 141) (xN 141) (tN 141)) := by rfl
set_option maxRecDepth 100000 in
theorem tc_142 : lw_tbl[1244]? = some (Cond.code (yN 142) (bN 142) (xN 142) (tN 142)) := by rfl
set_option maxRecDepth 100000 in
theorem tc_143 : lw_tbl[1340]? = some (Cond.code (yN 143) (bN 143) (xN 143) (tN 143)) := by rfl
set_option maxRecDepth 100000 in
theorem tc_144 : lw_tbl[1336]? = some (Cond.code (yN 144) (bN 144) (xN 144) (tN 144)) := by rfl
set_option maxRecDepth 100000 in
theorem tc_145 : lw_tbl[1276]? = some (Cond.code (yN 145) (bN 145) (xN 145) (tN 145)) := by rfl
set_option maxRecDepth 100000 in
theorem tc_146 : lw_tbl[1272]? = some (Cond.code (yN 146) (bN 146) (xN 146) (tN 146)) := by rfl
set_option maxRecDepth 100000 in
theorem tc_147 : lw_tbl[1355]? = some (Cond.code (yN 147) (bN 147) (xN 147) (tN 147)) := by rfl
set_option maxRecDepth 100000 in
theorem tc_148 : lw_tbl[1082]? = some (Cond.code (yN 148) (bN 148) (xN 148) (tN 148)) := by rfl
set_option maxRecDepth 100000 in
theorem tc_149 : lw_tbl[1280]? = some (Cond.code (yN 149) (bN 149) (xN 149) (tN 149)) := by rfl
set_option maxRecDepth 100000 in
theorem tc_150 : lw_tbl[1268]? = some (Cond.code (yN 150) (bN 150) (xN 150) (tN 150)) := by rfl
set_option maxRecDepth 100000 in
theorem tc_151 : lw_tbl[1260]? = some (Cond.code (yN 151) (bN 151) (xN 151) (tN 151)) := by rfl
set_option maxRecDepth 100000 in
theorem tc_152 : lw_tbl[1264]? = some (Cond.code (yN 152) (bN 152) (xN 152) (tN 152)) := by rfl
set_option maxRecDepth 100000 in
theorem tc_153 : lw_tbl[1217]? = some (Cond.code (yN 153) (bN 153) (xN 153) (tN 153)) := by rfl
set_option maxRecDepth 100000 in
theorem tc_154 : lw_tbl[1086]? = some (Cond.code (yN 154) (bN 154) (xN 154) (tN 154)) := by rfl
set_option maxRecDepth 100000 in
theorem tc_155 : lw_tbl[1240]? = some (Cond.code (yN 155) (bN 155) (xN 155) (tN 155)) := by rfl
set_option maxRecDepth 100000 in
theorem tc_156 : lw_tbl[1256]? = some (Cond.code (yN 156) (bN 156) (xN 156) (tN 156)) := by rfl
set_option maxRecDepth 100000 in
theorem tc_157 : lw_tbl[1248]? = some (Cond.code (yN 157) (bN 157) (xN 157) (tN 157)) := by rfl
set_option maxRecDepth 100000 in
theorem tc_158 : lw_tbl[1284]? = some (Cond.code (yN 158) (bN 158) (xN 158) (tN 158)) := by rfl
set_option maxRecDepth 100000 in
theorem tc_159 : lw_tbl[1292]? = some (Cond.code (yN 159) (bN 159) (xN 159) (tN 159)) := by rfl
set_option maxRecDepth 100000 in
theorem tc_160 : lw_tbl[1288]? = some (Cond.code (yN 160) (bN 160) (xN 160) (tN 160)) := by rfl
set_option maxRecDepth 100000 in
theorem tc_161 : lw_tbl[1296]? = some (Cond.code (yN 161) (bN 161) (xN 161) (tN 161)) := by rfl
set_option maxRecDepth 100000 in
theorem tc_162 : lw_tbl[1300]? = some (Cond.code (yN 162) (bN 162) (xN 162) (tN 162)) := by rfl
set_option maxRecDepth 100000 in
theorem tc_163 : lw_tbl[1304]? = some (Cond.code (yN 163) (bN 163) (xN 163) (tN 163)) := by rfl
set_option maxRecDepth 100000 in
theorem tc_164 : lw_tbl[1332]? = some (Cond.code (yN 164) (bN 164) (xN 164) (tN 164)) := by rfl
set_option maxRecDepth 100000 in
theorem tc_165 : lw_tbl[1308]? = some (Cond.code (yN 165) (bN 165) (xN 165) (tN 165)) := by rfl
set_option maxRecDepth 100000 in
theorem tc_166 : lw_tbl[1312]? = some (Cond.code (yN 166) (bN 166) (xN 166) (tN 166)) := by rfl
set_option maxRecDepth 100000 in
theorem tc_167 : lw_tbl[1316]? = some (Cond.code (yN 167) (bN 167) (xN 167) (tN 167)) := by rfl
set_option maxRecDepth 100000 in
theorem tc_168 : lw_tbl[1320]? = some (Cond.code (yN 168) (bN 168) (xN 168) (tN 168)) := by rfl
set_option maxRecDepth 100000 in
theorem tc_169 : lw_tbl[1324]? = some (Cond.code (yN 169) (bN 169) (xN 169) (tN 169)) := by rfl
set_option maxRecDepth 100000 in
theorem tc_170 : lw_tbl[1431]? = some (Cond.code (yN 170) (bN 170) (xN 170) (tN 170)) := by rfl
set_option maxRecDepth 100000 in
theorem tc_171 : lw_tbl[1434]? = some (Cond.code (yN 171) (bN 171) (xN 171) (tN 171)) := by rfl
set_option maxRecDepth 100000 in
theorem tc_172 : lw_tbl[1387]? = some (Cond.code (yN 172) (bN 172) (xN 172) (tN 172)) := by rfl
set_option maxRecDepth 100000 in
theorem tc_173 : lw_tbl[1383]? = some (Cond.code (yN 173) (bN 173) (xN 173) (tN 173)) := by rfl
set_option maxRecDepth 100000 in
theorem tc_174 : lw_tbl[1352]? = some (Cond.code (yN 174) (bN 174) (xN 174) (tN 174)) := by rfl
set_option maxRecDepth 100000 in
theorem tc_175 : lw_tbl[1348]? = some (Cond.code (yN 175) (bN 175) (xN 175) (tN 175)) := by rfl
set_option maxRecDepth 100000 in
theorem tc_176 : lw_tbl[1371]? = some (Cond.code (yN 176) (bN 176) (xN 176) (tN 176)) := by rfl
set_option maxRecDepth 100000 in
theorem tc_177 : lw_tbl[1359]? = some (Cond.code (yN 177) (bN 177) (xN 177) (tN 177)) := by rfl
set_option maxRecDepth 100000 in
theorem tc_178 : lw_tbl[1419]? = some (Cond.code (yN 178) (bN 178) (xN 178) (tN 178)) := by rfl
set_option maxRecDepth 100000 in
theorem tc_179 : lw_tbl[1482]? = some (Cond.code (yN 179) (bN 179) (xN 179) (tN 179)) := by rfl
set_option maxRecDepth 100000 in
theorem tc_180 : lw_tbl[1367]? = some (Cond.code (yN 180) (bN 180) (xN 180) (tN 180)) := by rfl
set_option maxRecDepth 100000 in
theorem tc_181 : lw_tbl[1363]? = some (Cond.code (yN 181) (bN 181) (xN 181) (tN 181)) := by rfl
set_option maxRecDepth 100000 in
theorem tc_182 : lw_tbl[1344]? = some (Cond.code (yN 182) (bN 182) (xN 182) (tN 182)) := by rfl
set_option maxRecDepth 100000 in
theorem tc_183 : lw_tbl[1375]? = some (Cond.code (yN 183) (bN 183) (xN 183) (tN 183)) := by rfl
set_option maxRecDepth 100000 in
theorem tc_184 : lw_tbl[1379]? = some (Cond.code (yN 184) (bN 184) (xN 184) (tN 184)) := by rfl
set_option maxRecDepth 100000 in
theorem tc_185 : lw_tbl[1391]? = some (Cond.code (yN 185) (bN 185) (xN 185) (tN 185)) := by rfl
set_option maxRecDepth 100000 in
theorem tc_186 : lw_tbl[1395]? = some (Cond.code (yN 186) (bN 186) (xN 186) (tN 186)) := by rfl
set_option maxRecDepth 100000 in
theorem tc_187 : lw_tbl[1399]? = some (Cond.code (yN 187) (bN 187) (xN 187) (tN 187)) := by rfl
set_option maxRecDepth 100000 in
theorem tc_188 : lw_tbl[1403]? = some (Cond.code (yN 188) (bN 188) (xN 188) (tN 188)) := by rfl
set_option maxRecDepth 100000 in
theorem tc_189 : lw_tbl[1437]? = some (Cond.code (yN 189) (bN 189) (xN 189) (tN 189)) := by rfl
set_option maxRecDepth 100000 in
theorem tc_190 : lw_tbl[1423]? = some (Cond.code (yN 190) (bN 190) (xN 190) (tN 190)) := by rfl
set_option maxRecDepth 100000 in
theorem tc_191 : lw_tbl[1427]? = some (Cond.code (yN 191) (bN 191) (xN 191) (tN 191)) := by rfl
set_option maxRecDepth 100000 in
theorem tc_192 : lw_tbl[1415]? = some (Cond.code (yN 192) (bN 192) (xN 192) (tN 192)) := by rfl
set_option maxRecDepth 100000 in
theorem tc_193 : lw_tbl[1411]? = some (Cond.code (yN 193) (bN 193) (xN 193) (tN 193)) := by rfl
set_option maxRecDepth 100000 in
theorem tc_194 : lw_tbl[1445]? = some (Cond.code (yN 194) (bN 194) (xN 194) (tN 194)) := by rfl
set_option maxRecDepth 100000 in
theorem tc_195 : lw_tbl[1407]? = some (Cond.code (yN 195) (bN 195) (xN 195) (tN 195)) := by rfl
set_option maxRecDepth 100000 in
theorem tc_196 : lw_tbl[1441]? = some (Cond.code (yN 196) (bN 196) (xN 196) (tN 196)) := by rfl
set_option maxRecDepth 100000 in
theorem tc_197 : lw_tbl[1457]? = some (Cond.code (yN 197) (bN 197) (xN 197) (tN 197)) := by rfl
set_option maxRecDepth 100000 in
theorem tc_198 : lw_tbl[1453]? = some (Cond.code (yN 198) (bN 198) (xN 198) (tN 198)) := by rfl
set_option maxRecDepth 100000 in
theorem tc_199 : lw_tbl[1449]? = some (Cond.code (yN 199) (bN 199) (xN 199) (tN 199)) := by rfl
set_option maxRecDepth 100000 in
theorem tc_200 : lw_tbl[1462]? = some (Cond.code (yN 200) (bN 200) (xN 200) (tN 200)) := by rfl
set_option maxRecDepth 100000 in
theorem tc_201 : lw_tbl[1486]? = some (Cond.code (yN 201) (bN 201) (xN 201) (tN 201)) := by rfl
set_option maxRecDepth 100000 in
theorem tc_202 : lw_tbl[1478]? = some (Cond.code (yN 202) (bN 202) (xN 202) (tN 202)) := by rfl
set_option maxRecDepth 100000 in
theorem tc_203 : lw_tbl[1474]? = some (Cond.code (yN 203) (bN 203) (xN 203) (tN 203)) := by rfl
set_option maxRecDepth 100000 in
theorem tc_204 : lw_tbl[1470]? = some (Cond.code (yN 204) (bN 204) (xN 204) (tN 204)) := by rfl
set_option maxRecDepth 100000 in
theorem tc_205 : lw_tbl[1466]? = some (Cond.code (yN 205) (bN 205) (xN 205) (tN 205)) := by rfl
set_option maxRecDepth 100000 in
theorem tc_206 : lw_tbl[1490]? = some (Cond.code (yN 206) (bN 206) (xN 206) (tN 206)) := by rfl
set_option maxRecDepth 100000 in
theorem tc_207 : lw_tbl[1494]? = some (Cond.code (yN 207) (bN 207) (xN 207) (tN 207)) := by rfl
set_option maxRecDepth 100000 in
theorem tc_208 : lw_tbl[1498]? = some (Cond.code (yN 208) (bN 208) (xN 208) (tN 208)) := by rfl
set_option maxRecDepth 100000 in
theorem tc_209 : lw_tbl[1507]? = some (Cond.code (yN 209) (bN 209) (xN 209) (tN 209)) := by rfl
set_option maxRecDepth 100000 in
theorem tc_210 : lw_tbl[1503]? = some (Cond.code (yN 210) (bN 210) (xN 210) (tN 210)) := by rfl
set_option maxRecDepth 100000 in
theorem tc_211 : lw_tbl[1521]? = some (Cond.code (yN 211) (bN 211) (xN 211) (tN 211)) := by rfl
set_option maxRecDepth 100000 in
theorem tc_212 : lw_tbl[1517]? = some (Cond.code (yN 212) (bN 212) (xN 212) (tN 212)) := by rfl
set_option maxRecDepth 100000 in
theorem tc_213 : lw_tbl[1513]? = some (Cond.code (yN 213) (bN 213) (xN 213) (tN 213)) := by rfl
set_option maxRecDepth 100000 in
theorem tc_214 : lw_tbl[1528]? = some (Cond.code (yN 214) (bN 214) (xN 214) (tN 214)) := by rfl
set_option maxRecDepth 100000 in
theorem tc_215 : lw_tbl[1525]? = some (Cond.code (yN 215) (bN 215) (xN 215) (tN 215)) := by rfl
set_option maxRecDepth 100000 in
theorem tc_216 : lw_tbl[1536]? = some (Cond.code (yN 216) (bN 216) (xN 216) (tN 216)) := by rfl
set_option maxRecDepth 100000 in
theorem tc_217 : lw_tbl[1532]? = some (Cond.code (yN 217) (bN 217) (xN 217) (tN 217)) := by rfl
set_option maxRecDepth 100000 in
theorem tc_218 : lw_tbl[1543]? = some (Cond.code (yN 218) (bN 218) (xN 218) (tN 218)) := by rfl
set_option maxRecDepth 100000 in
theorem tc_219 : lw_tbl[1540]? = some (Cond.code (yN 219) (bN 219) (xN 219) (tN 219)) := by rfl
set_option maxRecDepth 100000 in
theorem tc_220 : lw_tbl[1551]? = some (Cond.code (yN 220) (bN 220) (xN 220) (tN 220)) := by rfl
set_option maxRecDepth 100000 in
theorem tc_221 : lw_tbl[1547]? = some (Cond.code (yN 221) (bN 221) (xN 221) (tN 221)) := by rfl
set_option maxRecDepth 100000 in
theorem tc_222 : lw_tbl[1559]? = some (Cond.code (yN 222) (bN 222) (xN 222) (tN 222)) := by rfl
set_option maxRecDepth 100000 in
theorem tc_223 : lw_tbl[1567]? = some (Cond.code (yN 223) (bN 223) (xN 223) (tN 223)) := by rfl
set_option maxRecDepth 100000 in
theorem tc_224 : lw_tbl[1563]? = some (Cond.code (yN 224) (bN 224) (xN 224) (tN 224)) := by rfl
set_option maxRecDepth 100000 in
theorem tc_225 : lw_tbl[988]? = some (Cond.code (yN 225) (bN 225) (xN 225) (tN 225)) := by rfl
set_option maxRecDepth 100000 in
theorem tc_226 : lw_tbl[919]? = some (Cond.code (yN 226) (bN 226) (xN 226) (tN 226)) := by rfl
set_option maxRecDepth 100000 in
theorem tc_227 : lw_tbl[786]? = some (Cond.code (yN 227) (bN 227) (xN 227) (tN 227)) := by rfl
set_option maxRecDepth 100000 in
theorem tc_228 : lw_tbl[821]? = some (Cond.code (yN 228) (bN 228) (xN 228) (tN 228)) := by rfl
set_option maxRecDepth 100000 in
theorem tc_229 : lw_tbl[736]? = some (Cond.code (yN 229) (bN 229) (xN 229) (tN 229)) := by rfl
set_option maxRecDepth 100000 in
theorem tc_230 : lw_tbl[899]? = some (Cond.code (yN 230) (bN 230) (xN 230) (tN 230)) := by rfl
set_option maxRecDepth 100000 in
theorem tc_231 : lw_tbl[536]? = some (Cond.code (yN 231) (bN 231) (xN 231) (tN 231)) := by rfl
theorem tb_code : ∀ y, y < 232 → Cond.code (yN y) (bN y) (xN y) (tN y) ∈ lw_tbl := by
  intro y hy
  match y, hy with
  | 0, _ => exact tb_in tc_0
  | 1, _ => exact tb_in tc_1
  | 2, _ => exact tb_in tc_2
  | 3, _ => exact tb_in tc_3
  | 4, _ => exact tb_in tc_4
  | 5, _ => exact tb_in tc_5
  | 6, _ => exact tb_in tc_6
  | 7, _ => exact tb_in tc_7
  | 8, _ => exact tb_in tc_8
  | 9, _ => exact tb_in tc_9
  | 10, _ => exact tb_in tc_10
  | 11, _ => exact tb_in tc_11
  | 12, _ => exact tb_in tc_12
  | 13, _ => exact tb_in tc_13
  | 14, _ => exact tb_in tc_14
  | 15, _ => exact tb_in tc_15
  | 16, _ => exact tb_in tc_16
  | 17, _ => exact tb_in tc_17
  | 18, _ => exact tb_in tc_18
  | 19, _ => exact tb_in tc_19
  | 20, _ => exact tb_in tc_20
  | 21, _ => exact tb_in tc_21
  | 22, _ => exact tb_in tc_22
  | 23, _ => exact tb_in tc_23
  | 24, _ => exact tb_in tc_24
  | 25, _ => exact tb_in tc_25
  | 26, _ => exact tb_in tc_26
  | 27, _ => exact tb_in tc_27
  | 28, _ => exact tb_in tc_28
  | 29, _ => exact tb_in tc_29
  | 30, _ => exact tb_in tc_30
  | 31, _ => exact tb_in tc_31
  | 32, _ => exact tb_in tc_32
  | 33, _ => exact tb_in tc_33
  | 34, _ => exact tb_in tc_34
  | 35, _ => exact tb_in tc_35
  | 36, _ => exact tb_in tc_36
  | 37, _ => exact tb_in tc_37
  | 38, _ => exact tb_in tc_38
  | 39, _ => exact tb_in tc_39
  | 40, _ => exact tb_in tc_40
  | 41, _ => exact tb_in tc_41
  | 42, _ => exact tb_in tc_42
  | 43, _ => exact tb_in tc_43
  | 44, _ => exact tb_in tc_44
  | 45, _ => exact tb_in tc_45
  | 46, _ => exact tb_in tc_46
  | 47, _ => exact tb_in tc_47
  | 48, _ => exact tb_in tc_48
  | 49, _ => exact tb_in tc_49
  | 50, _ => exact tb_in tc_50
  | 51, _ => exact tb_in tc_51
  | 52, _ => exact tb_in tc_52
  | 53, _ => exact tb_in tc_53
  | 54, _ => exact tb_in tc_54
  | 55, _ => exact tb_in tc_55
  | 56, _ => exact tb_in tc_56
  | 57, _ => exact tb_in tc_57
  | 58, _ => exact tb_in tc_58
  | 59, _ => exact tb_in tc_59
  | 60, _ => exact tb_in tc_60
  | 61, _ => exact tb_in tc_61
  | 62, _ => exact tb_in tc_62
  | 63, _ => exact tb_in tc_63
  | 64, _ => exact tb_in tc_64
  | 65, _ => exact tb_in tc_65
  | 66, _ => exact tb_in tc_66
  | 67, _ => exact tb_in tc_67
  | 68, _ => exact tb_in tc_68
  | 69, _ => exact tb_in tc_69
  | 70, _ => exact tb_in tc_70
  | 71, _ => exact tb_in tc_71
  | 72, _ => exact tb_in tc_72
  | 73, _ => exact tb_in tc_73
  | 74, _ => exact tb_in tc_74
  | 75, _ => exact tb_in tc_75
  | 76, _ => exact tb_in tc_76
  | 77, _ => exact tb_in tc_77
  | 78, _ => exact tb_in tc_78
  | 79, _ => exact tb_in tc_79
  | 80, _ => exact tb_in tc_80
  | 81, _ => exact tb_in tc_81
  | 82, _ => exact tb_in tc_82
  | 83, _ => exact tb_in tc_83
  | 84, _ => exact tb_in tc_84
  | 85, _ => exact tb_in tc_85
  | 86, _ => exact tb_in tc_86
  | 87, _ => exact tb_in tc_87
  | 88, _ => exact tb_in tc_88
  | 89, _ => exact tb_in tc_89
  | 90, _ => exact tb_in tc_90
  | 91, _ => exact tb_in tc_91
  | 92, _ => exact tb_in tc_92
  | 93, _ => exact tb_in tc_93
  | 94, _ => exact tb_in tc_94
  | 95, _ => exact tb_in tc_95
  | 96, _ => exact tb_in tc_96
  | 97, _ => exact tb_in tc_97
  | 98, _ => exact tb_in tc_98
  | 99, _ => exact tb_in tc_99
  | 100, _ => exact tb_in tc_100
  | 101, _ => exact tb_in tc_101
  | 102, _ => exact tb_in tc_102
  | 103, _ => exact tb_in tc_103
  | 104, _ => exact tb_in tc_104
  | 105, _ => exact tb_in tc_105
  | 106, _ => exact tb_in tc_106
  | 107, _ => exact tb_in tc_107
  | 108, _ => exact tb_in tc_108
  | 109, _ => exact tb_in tc_109
  | 110, _ => exact tb_in tc_110
  | 111, _ => exact tb_in tc_111
  | 112, _ => exact tb_in tc_112
  | 113, _ => exact tb_in tc_113
  | 114, _ => exact tb_in tc_114
  | 115, _ => exact tb_in tc_115
  | 116, _ => exact tb_in tc_116
  | 117, _ => exact tb_in tc_117
  | 118, _ => exact tb_in tc_118
  | 119, _ => exact tb_in tc_119
  | 120, _ => exact tb_in tc_120
  | 121, _ => exact tb_in tc_121
  | 122, _ => exact tb_in tc_122
  | 123, _ => exact tb_in tc_123
  | 124, _ => exact tb_in tc_124
  | 125, _ => exact tb_in tc_125
  | 126, _ => exact tb_in tc_126
  | 127, _ => exact tb_in tc_127
  | 128, _ => exact tb_in tc_128
  | 129, _ => exact tb_in tc_129
  | 130, _ => exact tb_in tc_130
  | 131, _ => exact tb_in tc_131
  | 132, _ => exact tb_in tc_132
  | 133, _ => exact tb_in tc_133
  | 134, _ => exact tb_in tc_134
  | 135, _ => exact tb_in tc_135
  | 136, _ => exact tb_in tc_136
  | 137, _ => exact tb_in tc_137
  | 138, _ => exact tb_in tc_138
  | 139, _ => exact tb_in tc_139
  | 140, _ => exact tb_in tc_140
  | 141, _ => exact tb_in tc_141
  | 142, _ => exact tb_in tc_142
  | 143, _ => exact tb_in tc_143
  | 144, _ => exact tb_in tc_144
  | 145, _ => exact tb_in tc_145
  | 146, _ => exact tb_in tc_146
  | 147, _ => exact tb_in tc_147
  | 148, _ => exact tb_in tc_148
  | 149, _ => exact tb_in tc_149
  | 150, _ => exact tb_in tc_150
  | 151, _ => exact tb_in tc_151
  | 152, _ => exact tb_in tc_152
  | 153, _ => exact tb_in tc_153
  | 154, _ => exact tb_in tc_154
  | 155, _ => exact tb_in tc_155
  | 156, _ => exact tb_in tc_156
  | 157, _ => exact tb_in tc_157
  | 158, _ => exact tb_in tc_158
  | 159, _ => exact tb_in tc_159
  | 160, _ => exact tb_in tc_160
  | 161, _ => exact tb_in tc_161
  | 162, _ => exact tb_in tc_162
  | 163, _ => exact tb_in tc_163
  | 164, _ => exact tb_in tc_164
  | 165, _ => exact tb_in tc_165
  | 166, _ => exact tb_in tc_166
  | 167, _ => exact tb_in tc_167
  | 168, _ => exact tb_in tc_168
  | 169, _ => exact tb_in tc_169
  | 170, _ => exact tb_in tc_170
  | 171, _ => exact tb_in tc_171
  | 172, _ => exact tb_in tc_172
  | 173, _ => exact tb_in tc_173
  | 174, _ => exact tb_in tc_174
  | 175, _ => exact tb_in tc_175
  | 176, _ => exact tb_in tc_176
  | 177, _ => exact tb_in tc_177
  | 178, _ => exact tb_in tc_178
  | 179, _ => exact tb_in tc_179
  | 180, _ => exact tb_in tc_180
  | 181, _ => exact tb_in tc_181
  | 182, _ => exact tb_in tc_182
  | 183, _ => exact tb_in tc_183
  | 184, _ => exact tb_in tc_184
  | 185, _ => exact tb_in tc_185
  | 186, _ => exact tb_in tc_186
  | 187, _ => exact tb_in tc_187
  | 188, _ => exact tb_in tc_188
  | 189, _ => exact tb_in tc_189
  | 190, _ => exact tb_in tc_190
  | 191, _ => exact tb_in tc_191
  | 192, _ => exact tb_in tc_192
  | 193, _ => exact tb_in tc_193
  | 194, _ => exact tb_in tc_194
  | 195, _ => exact tb_in tc_195
  | 196, _ => exact tb_in tc_196
  | 197, _ => exact tb_in tc_197
  | 198, _ => exact tb_in tc_198
  | 199, _ => exact tb_in tc_199
  | 200, _ => exact tb_in tc_200
  | 201, _ => exact tb_in tc_201
  | 202, _ => exact tb_in tc_202
  | 203, _ => exact tb_in tc_203
  | 204, _ => exact tb_in tc_204
  | 205, _ => exact tb_in tc_205
  | 206, _ => exact tb_in tc_206
  | 207, _ => exact tb_in tc_207
  | 208, _ => exact tb_in tc_208
  | 209, _ => exact tb_in tc_209
  | 210, _ => exact tb_in tc_210
  | 211, _ => exact tb_in tc_211
  | 212, _ => exact tb_in tc_212
  | 213, _ => exact tb_in tc_213
  | 214, _ => exact tb_in tc_214
  | 215, _ => exact tb_in tc_215
  | 216, _ => exact tb_in tc_216
  | 217, _ => exact tb_in tc_217
  | 218, _ => exact tb_in tc_218
  | 219, _ => exact tb_in tc_219
  | 220, _ => exact tb_in tc_220
  | 221, _ => exact tb_in tc_221
  | 222, _ => exact tb_in tc_222
  | 223, _ => exact tb_in tc_223
  | 224, _ => exact tb_in tc_224
  | 225, _ => exact tb_in tc_225
  | 226, _ => exact tb_in tc_226
  | 227, _ => exact tb_in tc_227
  | 228, _ => exact tb_in tc_228
  | 229, _ => exact tb_in tc_229
  | 230, _ => exact tb_in tc_230
  | 231, _ => exact tb_in tc_231
  | y + 232, hy => exact absurd hy (by omega)
