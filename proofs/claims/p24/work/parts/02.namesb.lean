theorem dX0_init_0 : decode cX0_init 0 = .ok (.aload_n 0, 1) := by decide +kernel
theorem dX0_init_1 : decode cX0_init 1 = .ok (.invokespecial 3, 3) := by decide +kernel
theorem dX0_init_4 : decode cX0_init 4 = .ok (.aload_n 0, 1) := by decide +kernel
theorem dX0_init_5 : decode cX0_init 5 = .ok (.bipush 60, 2) := by decide +kernel
theorem dX0_init_7 : decode cX0_init 7 = .ok (.newarray .char, 2) := by decide +kernel
theorem dX0_init_9 : decode cX0_init 9 = .ok (.putfield 9, 3) := by decide +kernel
theorem dX0_init_12 : decode cX0_init 12 = .ok (.return_, 1) := by decide +kernel
theorem dX1_init_0 : decode cX1_init 0 = .ok (.aload_n 0, 1) := by decide +kernel
theorem dX1_init_1 : decode cX1_init 1 = .ok (.invokespecial 3, 3) := by decide +kernel
theorem dX1_init_4 : decode cX1_init 4 = .ok (.return_, 1) := by decide +kernel
theorem dX1_beginAt_0 : decode cX1_beginAt 0 = .ok (.aload_n 0, 1) := by decide +kernel
theorem dX1_beginAt_1 : decode cX1_beginAt 1 = .ok (.iload_n 1, 1) := by decide +kernel
theorem dX1_beginAt_2 : decode cX1_beginAt 2 = .ok (.putfield 9, 3) := by decide +kernel
theorem dX1_beginAt_5 : decode cX1_beginAt 5 = .ok (.aload_n 0, 1) := by decide +kernel
theorem dX1_beginAt_6 : decode cX1_beginAt 6 = .ok (.iload_n 2, 1) := by decide +kernel
theorem dX1_beginAt_7 : decode cX1_beginAt 7 = .ok (.putfield 15, 3) := by decide +kernel
theorem dX1_beginAt_10 : decode cX1_beginAt 10 = .ok (.aload_n 0, 1) := by decide +kernel
theorem dX1_beginAt_11 : decode cX1_beginAt 11 = .ok (.iconst 0, 1) := by decide +kernel
theorem dX1_beginAt_12 : decode cX1_beginAt 12 = .ok (.putfield 18, 3) := by decide +kernel
theorem dX1_beginAt_15 : decode cX1_beginAt 15 = .ok (.aload_n 0, 1) := by decide +kernel
theorem dX1_beginAt_16 : decode cX1_beginAt 16 = .ok (.bipush 100, 2) := by decide +kernel
theorem dX1_beginAt_18 : decode cX1_beginAt 18 = .ok (.putfield 21, 3) := by decide +kernel
theorem dX1_beginAt_21 : decode cX1_beginAt 21 = .ok (.aload_n 0, 1) := by decide +kernel
theorem dX1_beginAt_22 : decode cX1_beginAt 22 = .ok (.iconst 0, 1) := by decide +kernel
theorem dX1_beginAt_23 : decode cX1_beginAt 23 = .ok (.putfield 24, 3) := by decide +kernel
theorem dX1_beginAt_26 : decode cX1_beginAt 26 = .ok (.aload_n 0, 1) := by decide +kernel
theorem dX1_beginAt_27 : decode cX1_beginAt 27 = .ok (.iconst 0, 1) := by decide +kernel
theorem dX1_beginAt_28 : decode cX1_beginAt 28 = .ok (.putfield 27, 3) := by decide +kernel
theorem dX1_beginAt_31 : decode cX1_beginAt 31 = .ok (.aload_n 0, 1) := by decide +kernel
theorem dX1_beginAt_32 : decode cX1_beginAt 32 = .ok (.iconst 0, 1) := by decide +kernel
theorem dX1_beginAt_33 : decode cX1_beginAt 33 = .ok (.putfield 30, 3) := by decide +kernel
theorem dX1_beginAt_36 : decode cX1_beginAt 36 = .ok (.aload_n 0, 1) := by decide +kernel
theorem dX1_beginAt_37 : decode cX1_beginAt 37 = .ok (.iconst 0, 1) := by decide +kernel
theorem dX1_beginAt_38 : decode cX1_beginAt 38 = .ok (.putfield 33, 3) := by decide +kernel
theorem dX1_beginAt_41 : decode cX1_beginAt 41 = .ok (.return_, 1) := by decide +kernel
theorem dX1_copyFrom_0 : decode cX1_copyFrom 0 = .ok (.aload_n 0, 1) := by decide +kernel
theorem dX1_copyFrom_1 : decode cX1_copyFrom 1 = .ok (.aload_n 1, 1) := by decide +kernel
theorem dX1_copyFrom_2 : decode cX1_copyFrom 2 = .ok (.getfield 9, 3) := by decide +kernel
theorem dX1_copyFrom_5 : decode cX1_copyFrom 5 = .ok (.putfield 9, 3) := by decide +kernel
theorem dX1_copyFrom_8 : decode cX1_copyFrom 8 = .ok (.aload_n 0, 1) := by decide +kernel
theorem dX1_copyFrom_9 : decode cX1_copyFrom 9 = .ok (.aload_n 1, 1) := by decide +kernel
theorem dX1_copyFrom_10 : decode cX1_copyFrom 10 = .ok (.getfield 15, 3) := by decide +kernel
theorem dX1_copyFrom_13 : decode cX1_copyFrom 13 = .ok (.putfield 15, 3) := by decide +kernel
theorem dX1_copyFrom_16 : decode cX1_copyFrom 16 = .ok (.aload_n 0, 1) := by decide +kernel
theorem dX1_copyFrom_17 : decode cX1_copyFrom 17 = .ok (.aload_n 1, 1) := by decide +kernel
theorem dX1_copyFrom_18 : decode cX1_copyFrom 18 = .ok (.getfield 18, 3) := by decide +kernel
theorem dX1_copyFrom_21 : decode cX1_copyFrom 21 = .ok (.putfield 18, 3) := by decide +kernel
theorem dX1_copyFrom_24 : decode cX1_copyFrom 24 = .ok (.aload_n 0, 1) := by decide +kernel
theorem dX1_copyFrom_25 : decode cX1_copyFrom 25 = .ok (.aload_n 1, 1) := by decide +kernel
theorem dX1_copyFrom_26 : decode cX1_copyFrom 26 = .ok (.getfield 21, 3) := by decide +kernel
theorem dX1_copyFrom_29 : decode cX1_copyFrom 29 = .ok (.putfield 21, 3) := by decide +kernel
theorem dX1_copyFrom_32 : decode cX1_copyFrom 32 = .ok (.aload_n 0, 1) := by decide +kernel
theorem dX1_copyFrom_33 : decode cX1_copyFrom 33 = .ok (.aload_n 1, 1) := by decide +kernel
theorem dX1_copyFrom_34 : decode cX1_copyFrom 34 = .ok (.getfield 24, 3) := by decide +kernel
theorem dX1_copyFrom_37 : decode cX1_copyFrom 37 = .ok (.putfield 24, 3) := by decide +kernel
theorem dX1_copyFrom_40 : decode cX1_copyFrom 40 = .ok (.aload_n 0, 1) := by decide +kernel
theorem dX1_copyFrom_41 : decode cX1_copyFrom 41 = .ok (.aload_n 1, 1) := by decide +kernel
theorem dX1_copyFrom_42 : decode cX1_copyFrom 42 = .ok (.getfield 27, 3) := by decide +kernel
theorem dX1_copyFrom_45 : decode cX1_copyFrom 45 = .ok (.putfield 27, 3) := by decide +kernel
theorem dX1_copyFrom_48 : decode cX1_copyFrom 48 = .ok (.aload_n 0, 1) := by decide +kernel
theorem dX1_copyFrom_49 : decode cX1_copyFrom 49 = .ok (.aload_n 1, 1) := by decide +kernel
theorem dX1_copyFrom_50 : decode cX1_copyFrom 50 = .ok (.getfield 30, 3) := by decide +kernel
theorem dX1_copyFrom_53 : decode cX1_copyFrom 53 = .ok (.putfield 30, 3) := by decide +kernel
theorem dX1_copyFrom_56 : decode cX1_copyFrom 56 = .ok (.aload_n 0, 1) := by decide +kernel
theorem dX1_copyFrom_57 : decode cX1_copyFrom 57 = .ok (.aload_n 1, 1) := by decide +kernel
theorem dX1_copyFrom_58 : decode cX1_copyFrom 58 = .ok (.getfield 33, 3) := by decide +kernel
theorem dX1_copyFrom_61 : decode cX1_copyFrom 61 = .ok (.putfield 33, 3) := by decide +kernel
theorem dX1_copyFrom_64 : decode cX1_copyFrom 64 = .ok (.return_, 1) := by decide +kernel
set_option maxRecDepth 20000 in
theorem ggX1_leatherOfMend_X3_tensBegun : GoodIn wsX1_leatherOfMend wsX3_tensBegun := goodIn_r _ [5] (by decide +kernel) (by decide +kernel)
set_option maxRecDepth 20000 in
theorem gX1_leatherOfMend_X3_tensBegun_n36 : GoodIn wsX1_leatherOfMend (wsX3_tensBegun) := ggX1_leatherOfMend_X3_tensBegun
theorem dX1_leatherOfMend_0 : decode cX1_leatherOfMend 0 = .ok (.iload_n 1, 1) := by decide +kernel
theorem dX1_leatherOfMend_1 : decode cX1_leatherOfMend 1 = .ok (.ifCond .eq 12, 3) := by decide +kernel
theorem dX1_leatherOfMend_4 : decode cX1_leatherOfMend 4 = .ok (.iconst 4, 1) := by decide +kernel
theorem dX1_leatherOfMend_5 : decode cX1_leatherOfMend 5 = .ok (.aload_n 0, 1) := by decide +kernel
theorem dX1_leatherOfMend_6 : decode cX1_leatherOfMend 6 = .ok (.getfield 15, 3) := by decide +kernel
theorem dX1_leatherOfMend_9 : decode cX1_leatherOfMend 9 = .ok (.imul, 1) := by decide +kernel
theorem dX1_leatherOfMend_10 : decode cX1_leatherOfMend 10 = .ok (.goto 10, 3) := by decide +kernel
theorem dX1_leatherOfMend_13 : decode cX1_leatherOfMend 13 = .ok (.aload_n 0, 1) := by decide +kernel
theorem dX1_leatherOfMend_14 : decode cX1_leatherOfMend 14 = .ok (.getfield 18, 3) := by decide +kernel
theorem dX1_leatherOfMend_17 : decode cX1_leatherOfMend 17 = .ok (.invokestatic 36, 3) := by decide +kernel
theorem dX1_leatherOfMend_20 : decode cX1_leatherOfMend 20 = .ok (.ireturn, 1) := by decide +kernel
theorem dX1_wearBehindMend_0 : decode cX1_wearBehindMend 0 = .ok (.iload_n 1, 1) := by decide +kernel
theorem dX1_wearBehindMend_1 : decode cX1_wearBehindMend 1 = .ok (.ifCond .eq 7, 3) := by decide +kernel
theorem dX1_wearBehindMend_4 : decode cX1_wearBehindMend 4 = .ok (.iconst 0, 1) := by decide +kernel
theorem dX1_wearBehindMend_5 : decode cX1_wearBehindMend 5 = .ok (.goto 9, 3) := by decide +kernel
theorem dX1_wearBehindMend_8 : decode cX1_wearBehindMend 8 = .ok (.aload_n 0, 1) := by decide +kernel
theorem dX1_wearBehindMend_9 : decode cX1_wearBehindMend 9 = .ok (.getfield 18, 3) := by decide +kernel
theorem dX1_wearBehindMend_12 : decode cX1_wearBehindMend 12 = .ok (.iconst 3, 1) := by decide +kernel
theorem dX1_wearBehindMend_13 : decode cX1_wearBehindMend 13 = .ok (.idiv, 1) := by decide +kernel
theorem dX1_wearBehindMend_14 : decode cX1_wearBehindMend 14 = .ok (.ireturn, 1) := by decide +kernel
set_option maxRecDepth 20000 in
theorem ggX2_init_X1_init : GoodIn wsX2_init wsX1_init := goodIn_r _ [15, 16, 2, 3] (by decide +kernel) (by decide +kernel)
set_option maxRecDepth 20000 in
theorem gX2_init_X1_init_n36 : GoodIn wsX2_init (wsX1_init) := ggX2_init_X1_init
theorem dX2_init_0 : decode cX2_init 0 = .ok (.aload_n 0, 1) := by decide +kernel
theorem dX2_init_1 : decode cX2_init 1 = .ok (.invokespecial 3, 3) := by decide +kernel
theorem dX2_init_4 : decode cX2_init 4 = .ok (.aload_n 0, 1) := by decide +kernel
theorem dX2_init_5 : decode cX2_init 5 = .ok (.bipush 8, 2) := by decide +kernel
theorem dX2_init_7 : decode cX2_init 7 = .ok (.anewarray 9, 3) := by decide +kernel
theorem dX2_init_10 : decode cX2_init 10 = .ok (.putfield 11, 3) := by decide +kernel
theorem dX2_init_13 : decode cX2_init 13 = .ok (.aload_n 0, 1) := by decide +kernel
theorem dX2_init_14 : decode cX2_init 14 = .ok (.bipush 30, 2) := by decide +kernel
theorem dX2_init_16 : decode cX2_init 16 = .ok (.putfield 17, 3) := by decide +kernel
theorem dX2_init_19 : decode cX2_init 19 = .ok (.aload_n 0, 1) := by decide +kernel
theorem dX2_init_20 : decode cX2_init 20 = .ok (.bipush 10, 2) := by decide +kernel
theorem dX2_init_22 : decode cX2_init 22 = .ok (.putfield 21, 3) := by decide +kernel
theorem dX2_init_25 : decode cX2_init 25 = .ok (.aload_n 0, 1) := by decide +kernel
theorem dX2_init_26 : decode cX2_init 26 = .ok (.iconst 4, 1) := by decide +kernel
theorem dX2_init_27 : decode cX2_init 27 = .ok (.putfield 24, 3) := by decide +kernel
theorem dX2_init_30 : decode cX2_init 30 = .ok (.aload_n 0, 1) := by decide +kernel
theorem dX2_init_31 : decode cX2_init 31 = .ok (.bipush 60, 2) := by decide +kernel
theorem dX2_init_33 : decode cX2_init 33 = .ok (.putfield 27, 3) := by decide +kernel
theorem dX2_init_36 : decode cX2_init 36 = .ok (.aload_n 0, 1) := by decide +kernel
theorem dX2_init_37 : decode cX2_init 37 = .ok (.aload_n 0, 1) := by decide +kernel
theorem dX2_init_38 : decode cX2_init 38 = .ok (.getfield 21, 3) := by decide +kernel
theorem dX2_init_41 : decode cX2_init 41 = .ok (.putfield 30, 3) := by decide +kernel
theorem dX2_init_44 : decode cX2_init 44 = .ok (.aload_n 0, 1) := by decide +kernel
theorem dX2_init_45 : decode cX2_init 45 = .ok (.bipush 100, 2) := by decide +kernel
theorem dX2_init_47 : decode cX2_init 47 = .ok (.putfield 33, 3) := by decide +kernel
theorem dX2_init_50 : decode cX2_init 50 = .ok (.iconst 0, 1) := by decide +kernel
theorem dX2_init_51 : decode cX2_init 51 = .ok (.istore_n 1, 1) := by decide +kernel
theorem dX2_init_52 : decode cX2_init 52 = .ok (.iload_n 1, 1) := by decide +kernel
theorem dX2_init_53 : decode cX2_init 53 = .ok (.aload_n 0, 1) := by decide +kernel
theorem dX2_init_54 : decode cX2_init 54 = .ok (.getfield 11, 3) := by decide +kernel
theorem dX2_init_57 : decode cX2_init 57 = .ok (.arraylength, 1) := by decide +kernel
theorem dX2_init_58 : decode cX2_init 58 = .ok (.if_icmp .ge 22, 3) := by decide +kernel
theorem dX2_init_61 : decode cX2_init 61 = .ok (.aload_n 0, 1) := by decide +kernel
theorem dX2_init_62 : decode cX2_init 62 = .ok (.getfield 11, 3) := by decide +kernel
theorem dX2_init_65 : decode cX2_init 65 = .ok (.iload_n 1, 1) := by decide +kernel
theorem dX2_init_66 : decode cX2_init 66 = .ok (.new 9, 3) := by decide +kernel
theorem dX2_init_69 : decode cX2_init 69 = .ok (.dup, 1) := by decide +kernel
theorem dX2_init_70 : decode cX2_init 70 = .ok (.invokespecial 36, 3) := by decide +kernel
theorem dX2_init_73 : decode cX2_init 73 = .ok (.aastore, 1) := by decide +kernel
theorem dX2_init_74 : decode cX2_init 74 = .ok (.iinc 1 1, 3) := by decide +kernel
theorem dX2_init_77 : decode cX2_init 77 = .ok (.goto (-25), 3) := by decide +kernel
theorem dX2_init_80 : decode cX2_init 80 = .ok (.return_, 1) := by decide +kernel
set_option maxRecDepth 20000 in
theorem ggX2_copyFrom_X2_find : GoodIn wsX2_copyFrom wsX2_find := goodIn_r _ [19, 1, 20, 34, 35, 36, 37, 38, 39, 40, 41, 42, 43, 44, 45, 46, 47, 48] (by decide +kernel) (by decide +kernel)
set_option maxRecDepth 20000 in
theorem gX2_copyFrom_X2_find : GoodIn wsX2_copyFrom (wsV RX2 61 RX2 yX2_find wsX2_find) := goodIn_app (goodIn_of _ (by decide +kernel)) ggX2_copyFrom_X2_find
set_option maxRecDepth 20000 in
theorem ggX2_copyFrom_X1_copyFrom : GoodIn wsX2_copyFrom wsX1_copyFrom := goodIn_r _ [25, 26, 27, 28, 29, 30, 31, 32, 33, 49, 50, 51, 52, 53, 54, 55, 56] (by decide +kernel) (by decide +kernel)
set_option maxRecDepth 20000 in
theorem gX2_copyFrom_X1_copyFrom : GoodIn wsX2_copyFrom (wsV RX2 65 RX1 yX1_copyFrom wsX1_copyFrom) := goodIn_app (goodIn_of _ (by decide +kernel)) ggX2_copyFrom_X1_copyFrom
theorem dX2_copyFrom_0 : decode cX2_copyFrom 0 = .ok (.aload_n 0, 1) := by decide +kernel
theorem dX2_copyFrom_1 : decode cX2_copyFrom 1 = .ok (.aload_n 1, 1) := by decide +kernel
theorem dX2_copyFrom_2 : decode cX2_copyFrom 2 = .ok (.getfield 37, 3) := by decide +kernel
theorem dX2_copyFrom_5 : decode cX2_copyFrom 5 = .ok (.putfield 37, 3) := by decide +kernel
theorem dX2_copyFrom_8 : decode cX2_copyFrom 8 = .ok (.aload_n 0, 1) := by decide +kernel
theorem dX2_copyFrom_9 : decode cX2_copyFrom 9 = .ok (.aload_n 1, 1) := by decide +kernel
theorem dX2_copyFrom_10 : decode cX2_copyFrom 10 = .ok (.getfield 17, 3) := by decide +kernel
theorem dX2_copyFrom_13 : decode cX2_copyFrom 13 = .ok (.putfield 17, 3) := by decide +kernel
theorem dX2_copyFrom_16 : decode cX2_copyFrom 16 = .ok (.aload_n 0, 1) := by decide +kernel
theorem dX2_copyFrom_17 : decode cX2_copyFrom 17 = .ok (.aload_n 1, 1) := by decide +kernel
theorem dX2_copyFrom_18 : decode cX2_copyFrom 18 = .ok (.getfield 21, 3) := by decide +kernel
theorem dX2_copyFrom_21 : decode cX2_copyFrom 21 = .ok (.putfield 21, 3) := by decide +kernel
theorem dX2_copyFrom_24 : decode cX2_copyFrom 24 = .ok (.aload_n 0, 1) := by decide +kernel
theorem dX2_copyFrom_25 : decode cX2_copyFrom 25 = .ok (.aload_n 1, 1) := by decide +kernel
theorem dX2_copyFrom_26 : decode cX2_copyFrom 26 = .ok (.getfield 24, 3) := by decide +kernel
theorem dX2_copyFrom_29 : decode cX2_copyFrom 29 = .ok (.putfield 24, 3) := by decide +kernel
theorem dX2_copyFrom_32 : decode cX2_copyFrom 32 = .ok (.aload_n 0, 1) := by decide +kernel
theorem dX2_copyFrom_33 : decode cX2_copyFrom 33 = .ok (.aload_n 1, 1) := by decide +kernel
theorem dX2_copyFrom_34 : decode cX2_copyFrom 34 = .ok (.getfield 27, 3) := by decide +kernel
theorem dX2_copyFrom_37 : decode cX2_copyFrom 37 = .ok (.putfield 27, 3) := by decide +kernel
theorem dX2_copyFrom_40 : decode cX2_copyFrom 40 = .ok (.aload_n 0, 1) := by decide +kernel
theorem dX2_copyFrom_41 : decode cX2_copyFrom 41 = .ok (.aload_n 1, 1) := by decide +kernel
theorem dX2_copyFrom_42 : decode cX2_copyFrom 42 = .ok (.getfield 40, 3) := by decide +kernel
theorem dX2_copyFrom_45 : decode cX2_copyFrom 45 = .ok (.putfield 40, 3) := by decide +kernel
theorem dX2_copyFrom_48 : decode cX2_copyFrom 48 = .ok (.aload_n 0, 1) := by decide +kernel
theorem dX2_copyFrom_49 : decode cX2_copyFrom 49 = .ok (.aload_n 1, 1) := by decide +kernel
theorem dX2_copyFrom_50 : decode cX2_copyFrom 50 = .ok (.getfield 43, 3) := by decide +kernel
theorem dX2_copyFrom_53 : decode cX2_copyFrom 53 = .ok (.putfield 43, 3) := by decide +kernel
theorem dX2_copyFrom_56 : decode cX2_copyFrom 56 = .ok (.aload_n 0, 1) := by decide +kernel
theorem dX2_copyFrom_57 : decode cX2_copyFrom 57 = .ok (.aload_n 1, 1) := by decide +kernel
theorem dX2_copyFrom_58 : decode cX2_copyFrom 58 = .ok (.getfield 30, 3) := by decide +kernel
theorem dX2_copyFrom_61 : decode cX2_copyFrom 61 = .ok (.putfield 30, 3) := by decide +kernel
theorem dX2_copyFrom_64 : decode cX2_copyFrom 64 = .ok (.aload_n 0, 1) := by decide +kernel
theorem dX2_copyFrom_65 : decode cX2_copyFrom 65 = .ok (.aload_n 1, 1) := by decide +kernel
theorem dX2_copyFrom_66 : decode cX2_copyFrom 66 = .ok (.getfield 46, 3) := by decide +kernel
theorem dX2_copyFrom_69 : decode cX2_copyFrom 69 = .ok (.putfield 46, 3) := by decide +kernel
theorem dX2_copyFrom_72 : decode cX2_copyFrom 72 = .ok (.aload_n 0, 1) := by decide +kernel
theorem dX2_copyFrom_73 : decode cX2_copyFrom 73 = .ok (.aload_n 1, 1) := by decide +kernel
theorem dX2_copyFrom_74 : decode cX2_copyFrom 74 = .ok (.getfield 33, 3) := by decide +kernel
theorem dX2_copyFrom_77 : decode cX2_copyFrom 77 = .ok (.putfield 33, 3) := by decide +kernel
theorem dX2_copyFrom_80 : decode cX2_copyFrom 80 = .ok (.aload_n 0, 1) := by decide +kernel
theorem dX2_copyFrom_81 : decode cX2_copyFrom 81 = .ok (.aload_n 1, 1) := by decide +kernel
theorem dX2_copyFrom_82 : decode cX2_copyFrom 82 = .ok (.getfield 49, 3) := by decide +kernel
theorem dX2_copyFrom_85 : decode cX2_copyFrom 85 = .ok (.putfield 49, 3) := by decide +kernel
theorem dX2_copyFrom_88 : decode cX2_copyFrom 88 = .ok (.aload_n 0, 1) := by decide +kernel
theorem dX2_copyFrom_89 : decode cX2_copyFrom 89 = .ok (.aload_n 1, 1) := by decide +kernel
theorem dX2_copyFrom_90 : decode cX2_copyFrom 90 = .ok (.getfield 52, 3) := by decide +kernel
theorem dX2_copyFrom_93 : decode cX2_copyFrom 93 = .ok (.putfield 52, 3) := by decide +kernel
theorem dX2_copyFrom_96 : decode cX2_copyFrom 96 = .ok (.aload_n 0, 1) := by decide +kernel
theorem dX2_copyFrom_97 : decode cX2_copyFrom 97 = .ok (.aload_n 1, 1) := by decide +kernel
theorem dX2_copyFrom_98 : decode cX2_copyFrom 98 = .ok (.getfield 55, 3) := by decide +kernel
theorem dX2_copyFrom_101 : decode cX2_copyFrom 101 = .ok (.putfield 55, 3) := by decide +kernel
theorem dX2_copyFrom_104 : decode cX2_copyFrom 104 = .ok (.aload_n 0, 1) := by decide +kernel
theorem dX2_copyFrom_105 : decode cX2_copyFrom 105 = .ok (.aload_n 1, 1) := by decide +kernel
theorem dX2_copyFrom_106 : decode cX2_copyFrom 106 = .ok (.getfield 58, 3) := by decide +kernel
theorem dX2_copyFrom_109 : decode cX2_copyFrom 109 = .ok (.putfield 58, 3) := by decide +kernel
theorem dX2_copyFrom_112 : decode cX2_copyFrom 112 = .ok (.iconst 0, 1) := by decide +kernel
theorem dX2_copyFrom_113 : decode cX2_copyFrom 113 = .ok (.istore_n 2, 1) := by decide +kernel
theorem dX2_copyFrom_114 : decode cX2_copyFrom 114 = .ok (.iload_n 2, 1) := by decide +kernel
theorem dX2_copyFrom_115 : decode cX2_copyFrom 115 = .ok (.aload_n 0, 1) := by decide +kernel
theorem dX2_copyFrom_116 : decode cX2_copyFrom 116 = .ok (.getfield 37, 3) := by decide +kernel
theorem dX2_copyFrom_119 : decode cX2_copyFrom 119 = .ok (.if_icmp .ge 37, 3) := by decide +kernel
theorem dX2_copyFrom_122 : decode cX2_copyFrom 122 = .ok (.aload_n 0, 1) := by decide +kernel
theorem dX2_copyFrom_123 : decode cX2_copyFrom 123 = .ok (.iload_n 2, 1) := by decide +kernel
theorem dX2_copyFrom_124 : decode cX2_copyFrom 124 = .ok (.invokevirtual 61, 3) := by decide +kernel
theorem dX2_copyFrom_127 : decode cX2_copyFrom 127 = .ok (.astore_n 3, 1) := by decide +kernel
theorem dX2_copyFrom_128 : decode cX2_copyFrom 128 = .ok (.aload_n 1, 1) := by decide +kernel
theorem dX2_copyFrom_129 : decode cX2_copyFrom 129 = .ok (.iload_n 2, 1) := by decide +kernel
theorem dX2_copyFrom_130 : decode cX2_copyFrom 130 = .ok (.invokevirtual 61, 3) := by decide +kernel
theorem dX2_copyFrom_133 : decode cX2_copyFrom 133 = .ok (.astore 4, 2) := by decide +kernel
theorem dX2_copyFrom_135 : decode cX2_copyFrom 135 = .ok (.aload_n 3, 1) := by decide +kernel
theorem dX2_copyFrom_136 : decode cX2_copyFrom 136 = .ok (.ifnull 14, 3) := by decide +kernel
theorem dX2_copyFrom_139 : decode cX2_copyFrom 139 = .ok (.aload 4, 2) := by decide +kernel
theorem dX2_copyFrom_141 : decode cX2_copyFrom 141 = .ok (.ifnull 9, 3) := by decide +kernel
theorem dX2_copyFrom_144 : decode cX2_copyFrom 144 = .ok (.aload_n 3, 1) := by decide +kernel
theorem dX2_copyFrom_145 : decode cX2_copyFrom 145 = .ok (.aload 4, 2) := by decide +kernel
theorem dX2_copyFrom_147 : decode cX2_copyFrom 147 = .ok (.invokevirtual 65, 3) := by decide +kernel
theorem dX2_copyFrom_150 : decode cX2_copyFrom 150 = .ok (.iinc 2 1, 3) := by decide +kernel
theorem dX2_copyFrom_153 : decode cX2_copyFrom 153 = .ok (.goto (-39), 3) := by decide +kernel
theorem dX2_copyFrom_156 : decode cX2_copyFrom 156 = .ok (.return_, 1) := by decide +kernel
theorem dX2_find_0 : decode cX2_find 0 = .ok (.iload_n 1, 1) := by decide +kernel
theorem dX2_find_1 : decode cX2_find 1 = .ok (.ifCond .lt 20, 3) := by decide +kernel
theorem dX2_find_4 : decode cX2_find 4 = .ok (.iload_n 1, 1) := by decide +kernel
theorem dX2_find_5 : decode cX2_find 5 = .ok (.aload_n 0, 1) := by decide +kernel
theorem dX2_find_6 : decode cX2_find 6 = .ok (.getfield 37, 3) := by decide +kernel
theorem dX2_find_9 : decode cX2_find 9 = .ok (.if_icmp .ge 12, 3) := by decide +kernel
theorem dX2_find_12 : decode cX2_find 12 = .ok (.iload_n 1, 1) := by decide +kernel
theorem dX2_find_13 : decode cX2_find 13 = .ok (.aload_n 0, 1) := by decide +kernel
theorem dX2_find_14 : decode cX2_find 14 = .ok (.getfield 11, 3) := by decide +kernel
theorem dX2_find_17 : decode cX2_find 17 = .ok (.arraylength, 1) := by decide +kernel
theorem dX2_find_18 : decode cX2_find 18 = .ok (.if_icmp .lt 5, 3) := by decide +kernel
theorem dX2_find_21 : decode cX2_find 21 = .ok (.aconst_null, 1) := by decide +kernel
theorem dX2_find_22 : decode cX2_find 22 = .ok (.areturn, 1) := by decide +kernel
theorem dX2_find_23 : decode cX2_find 23 = .ok (.aload_n 0, 1) := by decide +kernel
theorem dX2_find_24 : decode cX2_find 24 = .ok (.getfield 11, 3) := by decide +kernel
theorem dX2_find_27 : decode cX2_find 27 = .ok (.iload_n 1, 1) := by decide +kernel
theorem dX2_find_28 : decode cX2_find 28 = .ok (.aaload, 1) := by decide +kernel
theorem dX2_find_29 : decode cX2_find 29 = .ok (.areturn, 1) := by decide +kernel
set_option maxRecDepth 20000 in
theorem ggX2_addSmithy_X2_find : GoodIn wsX2_addSmithy wsX2_find := goodIn_r _ [8, 2, 9, 23, 24, 25, 26, 27, 28, 29, 30, 31, 32, 33, 34, 35, 36, 37] (by decide +kernel) (by decide +kernel)
set_option maxRecDepth 20000 in
theorem gX2_addSmithy_X2_find : GoodIn wsX2_addSmithy (wsV RX2 61 RX2 yX2_find wsX2_find) := goodIn_app (goodIn_of _ (by decide +kernel)) ggX2_addSmithy_X2_find
set_option maxRecDepth 20000 in
theorem ggX2_addSmithy_X1_beginAt : GoodIn wsX2_addSmithy wsX1_beginAt := goodIn_r _ [14, 15, 16, 17, 18, 19, 20, 21, 22, 38, 39, 40, 41, 42, 43, 44, 45] (by decide +kernel) (by decide +kernel)
set_option maxRecDepth 20000 in
theorem gX2_addSmithy_X1_beginAt : GoodIn wsX2_addSmithy (wsV RX2 71 RX1 yX1_beginAt wsX1_beginAt) := goodIn_app (goodIn_of _ (by decide +kernel)) ggX2_addSmithy_X1_beginAt
theorem dX2_addSmithy_0 : decode cX2_addSmithy 0 = .ok (.iload_n 1, 1) := by decide +kernel
theorem dX2_addSmithy_1 : decode cX2_addSmithy 1 = .ok (.ifCond .lt 20, 3) := by decide +kernel
theorem dX2_addSmithy_4 : decode cX2_addSmithy 4 = .ok (.iload_n 1, 1) := by decide +kernel
theorem dX2_addSmithy_5 : decode cX2_addSmithy 5 = .ok (.bipush 99, 2) := by decide +kernel
theorem dX2_addSmithy_7 : decode cX2_addSmithy 7 = .ok (.if_icmp .gt 14, 3) := by decide +kernel
theorem dX2_addSmithy_10 : decode cX2_addSmithy 10 = .ok (.iload_n 2, 1) := by decide +kernel
theorem dX2_addSmithy_11 : decode cX2_addSmithy 11 = .ok (.iconst 1, 1) := by decide +kernel
theorem dX2_addSmithy_12 : decode cX2_addSmithy 12 = .ok (.if_icmp .lt 9, 3) := by decide +kernel
theorem dX2_addSmithy_15 : decode cX2_addSmithy 15 = .ok (.iload_n 2, 1) := by decide +kernel
theorem dX2_addSmithy_16 : decode cX2_addSmithy 16 = .ok (.bipush 9, 2) := by decide +kernel
theorem dX2_addSmithy_18 : decode cX2_addSmithy 18 = .ok (.if_icmp .le 6, 3) := by decide +kernel
theorem dX2_addSmithy_21 : decode cX2_addSmithy 21 = .ok (.ldc 69, 2) := by decide +kernel
theorem dX2_addSmithy_23 : decode cX2_addSmithy 23 = .ok (.ireturn, 1) := by decide +kernel
theorem dX2_addSmithy_24 : decode cX2_addSmithy 24 = .ok (.aload_n 0, 1) := by decide +kernel
theorem dX2_addSmithy_25 : decode cX2_addSmithy 25 = .ok (.getfield 37, 3) := by decide +kernel
theorem dX2_addSmithy_28 : decode cX2_addSmithy 28 = .ok (.bipush 8, 2) := by decide +kernel
theorem dX2_addSmithy_30 : decode cX2_addSmithy 30 = .ok (.if_icmp .lt 6, 3) := by decide +kernel
theorem dX2_addSmithy_33 : decode cX2_addSmithy 33 = .ok (.ldc 70, 2) := by decide +kernel
theorem dX2_addSmithy_35 : decode cX2_addSmithy 35 = .ok (.ireturn, 1) := by decide +kernel
theorem dX2_addSmithy_36 : decode cX2_addSmithy 36 = .ok (.aload_n 0, 1) := by decide +kernel
theorem dX2_addSmithy_37 : decode cX2_addSmithy 37 = .ok (.getfield 37, 3) := by decide +kernel
theorem dX2_addSmithy_40 : decode cX2_addSmithy 40 = .ok (.istore_n 3, 1) := by decide +kernel
theorem dX2_addSmithy_41 : decode cX2_addSmithy 41 = .ok (.aload_n 0, 1) := by decide +kernel
theorem dX2_addSmithy_42 : decode cX2_addSmithy 42 = .ok (.dup, 1) := by decide +kernel
theorem dX2_addSmithy_43 : decode cX2_addSmithy 43 = .ok (.getfield 37, 3) := by decide +kernel
theorem dX2_addSmithy_46 : decode cX2_addSmithy 46 = .ok (.iconst 1, 1) := by decide +kernel
theorem dX2_addSmithy_47 : decode cX2_addSmithy 47 = .ok (.iadd, 1) := by decide +kernel
theorem dX2_addSmithy_48 : decode cX2_addSmithy 48 = .ok (.putfield 37, 3) := by decide +kernel
theorem dX2_addSmithy_51 : decode cX2_addSmithy 51 = .ok (.aload_n 0, 1) := by decide +kernel
theorem dX2_addSmithy_52 : decode cX2_addSmithy 52 = .ok (.iload_n 3, 1) := by decide +kernel
theorem dX2_addSmithy_53 : decode cX2_addSmithy 53 = .ok (.invokevirtual 61, 3) := by decide +kernel
theorem dX2_addSmithy_56 : decode cX2_addSmithy 56 = .ok (.astore 4, 2) := by decide +kernel
theorem dX2_addSmithy_58 : decode cX2_addSmithy 58 = .ok (.aload 4, 2) := by decide +kernel
theorem dX2_addSmithy_60 : decode cX2_addSmithy 60 = .ok (.ifnull 10, 3) := by decide +kernel
theorem dX2_addSmithy_63 : decode cX2_addSmithy 63 = .ok (.aload 4, 2) := by decide +kernel
theorem dX2_addSmithy_65 : decode cX2_addSmithy 65 = .ok (.iload_n 1, 1) := by decide +kernel
theorem dX2_addSmithy_66 : decode cX2_addSmithy 66 = .ok (.iload_n 2, 1) := by decide +kernel
theorem dX2_addSmithy_67 : decode cX2_addSmithy 67 = .ok (.invokevirtual 71, 3) := by decide +kernel
theorem dX2_addSmithy_70 : decode cX2_addSmithy 70 = .ok (.iload_n 3, 1) := by decide +kernel
theorem dX2_addSmithy_71 : decode cX2_addSmithy 71 = .ok (.ireturn, 1) := by decide +kernel
set_option maxRecDepth 20000 in
theorem ggX2_walkTo_X3_hoursOfWay : GoodIn wsX2_walkTo wsX3_hoursOfWay := goodIn_r _ [12, 13, 7, 8, 9, 14, 15, 11, 16] (by decide +kernel) (by decide +kernel)
set_option maxRecDepth 20000 in
theorem gX2_walkTo_X3_hoursOfWay_n75 : GoodIn wsX2_walkTo (wsX3_hoursOfWay) := ggX2_walkTo_X3_hoursOfWay
theorem dX2_walkTo_0 : decode cX2_walkTo 0 = .ok (.iload_n 1, 1) := by decide +kernel
theorem dX2_walkTo_1 : decode cX2_walkTo 1 = .ok (.ifCond .lt 9, 3) := by decide +kernel
theorem dX2_walkTo_4 : decode cX2_walkTo 4 = .ok (.iload_n 1, 1) := by decide +kernel
theorem dX2_walkTo_5 : decode cX2_walkTo 5 = .ok (.bipush 99, 2) := by decide +kernel
theorem dX2_walkTo_7 : decode cX2_walkTo 7 = .ok (.if_icmp .le 6, 3) := by decide +kernel
theorem dX2_walkTo_10 : decode cX2_walkTo 10 = .ok (.ldc 69, 2) := by decide +kernel
theorem dX2_walkTo_12 : decode cX2_walkTo 12 = .ok (.ireturn, 1) := by decide +kernel
theorem dX2_walkTo_13 : decode cX2_walkTo 13 = .ok (.aload_n 0, 1) := by decide +kernel
theorem dX2_walkTo_14 : decode cX2_walkTo 14 = .ok (.getfield 43, 3) := by decide +kernel
theorem dX2_walkTo_17 : decode cX2_walkTo 17 = .ok (.iload_n 1, 1) := by decide +kernel
theorem dX2_walkTo_18 : decode cX2_walkTo 18 = .ok (.invokestatic 75, 3) := by decide +kernel
theorem dX2_walkTo_21 : decode cX2_walkTo 21 = .ok (.istore_n 2, 1) := by decide +kernel
theorem dX2_walkTo_22 : decode cX2_walkTo 22 = .ok (.iload_n 2, 1) := by decide +kernel
theorem dX2_walkTo_23 : decode cX2_walkTo 23 = .ok (.aload_n 0, 1) := by decide +kernel
theorem dX2_walkTo_24 : decode cX2_walkTo 24 = .ok (.getfield 30, 3) := by decide +kernel
theorem dX2_walkTo_27 : decode cX2_walkTo 27 = .ok (.if_icmp .le 6, 3) := by decide +kernel
theorem dX2_walkTo_30 : decode cX2_walkTo 30 = .ok (.ldc 79, 2) := by decide +kernel
theorem dX2_walkTo_32 : decode cX2_walkTo 32 = .ok (.ireturn, 1) := by decide +kernel
theorem dX2_walkTo_33 : decode cX2_walkTo 33 = .ok (.aload_n 0, 1) := by decide +kernel
theorem dX2_walkTo_34 : decode cX2_walkTo 34 = .ok (.dup, 1) := by decide +kernel
theorem dX2_walkTo_35 : decode cX2_walkTo 35 = .ok (.getfield 30, 3) := by decide +kernel
theorem dX2_walkTo_38 : decode cX2_walkTo 38 = .ok (.iload_n 2, 1) := by decide +kernel
theorem dX2_walkTo_39 : decode cX2_walkTo 39 = .ok (.isub, 1) := by decide +kernel
theorem dX2_walkTo_40 : decode cX2_walkTo 40 = .ok (.putfield 30, 3) := by decide +kernel
theorem dX2_walkTo_43 : decode cX2_walkTo 43 = .ok (.aload_n 0, 1) := by decide +kernel
theorem dX2_walkTo_44 : decode cX2_walkTo 44 = .ok (.dup, 1) := by decide +kernel
theorem dX2_walkTo_45 : decode cX2_walkTo 45 = .ok (.getfield 58, 3) := by decide +kernel
theorem dX2_walkTo_48 : decode cX2_walkTo 48 = .ok (.iload_n 1, 1) := by decide +kernel
theorem dX2_walkTo_49 : decode cX2_walkTo 49 = .ok (.aload_n 0, 1) := by decide +kernel
theorem dX2_walkTo_50 : decode cX2_walkTo 50 = .ok (.getfield 43, 3) := by decide +kernel
theorem dX2_walkTo_53 : decode cX2_walkTo 53 = .ok (.isub, 1) := by decide +kernel
theorem dX2_walkTo_54 : decode cX2_walkTo 54 = .ok (.invokestatic 80, 3) := by decide +kernel
theorem dX2_walkTo_57 : decode cX2_walkTo 57 = .ok (.iadd, 1) := by decide +kernel
theorem dX2_walkTo_58 : decode cX2_walkTo 58 = .ok (.putfield 58, 3) := by decide +kernel
theorem dX2_walkTo_61 : decode cX2_walkTo 61 = .ok (.aload_n 0, 1) := by decide +kernel
theorem dX2_walkTo_62 : decode cX2_walkTo 62 = .ok (.iload_n 1, 1) := by decide +kernel
theorem dX2_walkTo_63 : decode cX2_walkTo 63 = .ok (.putfield 43, 3) := by decide +kernel
theorem dX2_walkTo_66 : decode cX2_walkTo 66 = .ok (.aload_n 0, 1) := by decide +kernel
theorem dX2_walkTo_67 : decode cX2_walkTo 67 = .ok (.getfield 30, 3) := by decide +kernel
theorem dX2_walkTo_70 : decode cX2_walkTo 70 = .ok (.ireturn, 1) := by decide +kernel
theorem dX2_buyLeather_0 : decode cX2_buyLeather 0 = .ok (.iload_n 1, 1) := by decide +kernel
theorem dX2_buyLeather_1 : decode cX2_buyLeather 1 = .ok (.iconst 1, 1) := by decide +kernel
theorem dX2_buyLeather_2 : decode cX2_buyLeather 2 = .ok (.if_icmp .lt 10, 3) := by decide +kernel
theorem dX2_buyLeather_5 : decode cX2_buyLeather 5 = .ok (.iload_n 1, 1) := by decide +kernel
theorem dX2_buyLeather_6 : decode cX2_buyLeather 6 = .ok (.sipush 999, 3) := by decide +kernel
theorem dX2_buyLeather_9 : decode cX2_buyLeather 9 = .ok (.if_icmp .le 6, 3) := by decide +kernel
theorem dX2_buyLeather_12 : decode cX2_buyLeather 12 = .ok (.ldc 69, 2) := by decide +kernel
theorem dX2_buyLeather_14 : decode cX2_buyLeather 14 = .ok (.ireturn, 1) := by decide +kernel
theorem dX2_buyLeather_15 : decode cX2_buyLeather 15 = .ok (.aload_n 0, 1) := by decide +kernel
theorem dX2_buyLeather_16 : decode cX2_buyLeather 16 = .ok (.getfield 43, 3) := by decide +kernel
theorem dX2_buyLeather_19 : decode cX2_buyLeather 19 = .ok (.ifCond .eq 6, 3) := by decide +kernel
theorem dX2_buyLeather_22 : decode cX2_buyLeather 22 = .ok (.ldc 79, 2) := by decide +kernel
theorem dX2_buyLeather_24 : decode cX2_buyLeather 24 = .ok (.ireturn, 1) := by decide +kernel
theorem dX2_buyLeather_25 : decode cX2_buyLeather 25 = .ok (.aload_n 0, 1) := by decide +kernel
theorem dX2_buyLeather_26 : decode cX2_buyLeather 26 = .ok (.getfield 46, 3) := by decide +kernel
theorem dX2_buyLeather_29 : decode cX2_buyLeather 29 = .ok (.iload_n 1, 1) := by decide +kernel
theorem dX2_buyLeather_30 : decode cX2_buyLeather 30 = .ok (.iadd, 1) := by decide +kernel
theorem dX2_buyLeather_31 : decode cX2_buyLeather 31 = .ok (.sipush 999, 3) := by decide +kernel
theorem dX2_buyLeather_34 : decode cX2_buyLeather 34 = .ok (.if_icmp .le 6, 3) := by decide +kernel
theorem dX2_buyLeather_37 : decode cX2_buyLeather 37 = .ok (.ldc 70, 2) := by decide +kernel
theorem dX2_buyLeather_39 : decode cX2_buyLeather 39 = .ok (.ireturn, 1) := by decide +kernel
theorem dX2_buyLeather_40 : decode cX2_buyLeather 40 = .ok (.iconst 2, 1) := by decide +kernel
theorem dX2_buyLeather_41 : decode cX2_buyLeather 41 = .ok (.iload_n 1, 1) := by decide +kernel
theorem dX2_buyLeather_42 : decode cX2_buyLeather 42 = .ok (.imul, 1) := by decide +kernel
theorem dX2_buyLeather_43 : decode cX2_buyLeather 43 = .ok (.istore_n 2, 1) := by decide +kernel
theorem dX2_buyLeather_44 : decode cX2_buyLeather 44 = .ok (.aload_n 0, 1) := by decide +kernel
theorem dX2_buyLeather_45 : decode cX2_buyLeather 45 = .ok (.dup, 1) := by decide +kernel
theorem dX2_buyLeather_46 : decode cX2_buyLeather 46 = .ok (.getfield 46, 3) := by decide +kernel
theorem dX2_buyLeather_49 : decode cX2_buyLeather 49 = .ok (.iload_n 1, 1) := by decide +kernel
theorem dX2_buyLeather_50 : decode cX2_buyLeather 50 = .ok (.iadd, 1) := by decide +kernel
theorem dX2_buyLeather_51 : decode cX2_buyLeather 51 = .ok (.putfield 46, 3) := by decide +kernel
theorem dX2_buyLeather_54 : decode cX2_buyLeather 54 = .ok (.aload_n 0, 1) := by decide +kernel
theorem dX2_buyLeather_55 : decode cX2_buyLeather 55 = .ok (.dup, 1) := by decide +kernel
theorem dX2_buyLeather_56 : decode cX2_buyLeather 56 = .ok (.getfield 33, 3) := by decide +kernel
theorem dX2_buyLeather_59 : decode cX2_buyLeather 59 = .ok (.iload_n 2, 1) := by decide +kernel
theorem dX2_buyLeather_60 : decode cX2_buyLeather 60 = .ok (.isub, 1) := by decide +kernel
theorem dX2_buyLeather_61 : decode cX2_buyLeather 61 = .ok (.putfield 33, 3) := by decide +kernel
theorem dX2_buyLeather_64 : decode cX2_buyLeather 64 = .ok (.aload_n 0, 1) := by decide +kernel
theorem dX2_buyLeather_65 : decode cX2_buyLeather 65 = .ok (.dup, 1) := by decide +kernel
theorem dX2_buyLeather_66 : decode cX2_buyLeather 66 = .ok (.getfield 49, 3) := by decide +kernel
theorem dX2_buyLeather_69 : decode cX2_buyLeather 69 = .ok (.iload_n 2, 1) := by decide +kernel
theorem dX2_buyLeather_70 : decode cX2_buyLeather 70 = .ok (.iadd, 1) := by decide +kernel
theorem dX2_buyLeather_71 : decode cX2_buyLeather 71 = .ok (.putfield 49, 3) := by decide +kernel
theorem dX2_buyLeather_74 : decode cX2_buyLeather 74 = .ok (.aload_n 0, 1) := by decide +kernel
theorem dX2_buyLeather_75 : decode cX2_buyLeather 75 = .ok (.getfield 46, 3) := by decide +kernel
theorem dX2_buyLeather_78 : decode cX2_buyLeather 78 = .ok (.ireturn, 1) := by decide +kernel
set_option maxRecDepth 20000 in
theorem ggX2_mendBellows_X2_find : GoodIn wsX2_mendBellows wsX2_find := goodIn_r _ [13, 14, 15, 48, 49, 50, 51, 52, 53, 54, 55, 56, 57, 58, 59, 60, 61, 62] (by decide +kernel) (by decide +kernel)
set_option maxRecDepth 20000 in
theorem gX2_mendBellows_X2_find : GoodIn wsX2_mendBellows (wsV RX2 61 RX2 yX2_find wsX2_find) := goodIn_app (goodIn_of _ (by decide +kernel)) ggX2_mendBellows_X2_find
set_option maxRecDepth 20000 in
theorem ggX2_mendBellows_X2_reasonAgainst : GoodIn wsX2_mendBellows wsX2_reasonAgainst := goodIn_r _ [19, 20, 21, 3, 4, 22, 23, 24, 25, 26, 27, 28, 29, 30, 31, 32, 33, 34, 35, 36, 12, 37, 6, 38, 7, 63, 64, 65, 66, 67, 68, 69, 70, 48, 49, 50, 51, 52, 53, 54, 55, 56, 57, 58, 59, 60, 61, 62] (by decide +kernel) (by decide +kernel)
set_option maxRecDepth 20000 in
theorem gX2_mendBellows_X2_reasonAgainst : GoodIn wsX2_mendBellows (wsV RX2 86 RX2 yX2_reasonAgainst wsX2_reasonAgainst) := goodIn_app (goodIn_of _ (by decide +kernel)) ggX2_mendBellows_X2_reasonAgainst
set_option maxRecDepth 20000 in
theorem ggX2_mendBellows_X2_priceOfMend : GoodIn wsX2_mendBellows wsX2_priceOfMend := goodIn_r _ [42, 43, 22, 23, 24, 25, 26, 27, 28, 29, 30, 31, 32, 33, 48, 49, 50, 51, 52, 53, 54, 55, 56, 57, 58, 59, 60, 61, 62, 63, 64, 65, 66, 67, 68, 69, 70] (by decide +kernel) (by decide +kernel)
set_option maxRecDepth 20000 in
theorem gX2_mendBellows_X2_priceOfMend : GoodIn wsX2_mendBellows (wsV RX2 90 RX2 yX2_priceOfMend wsX2_priceOfMend) := goodIn_app (goodIn_of _ (by decide +kernel)) ggX2_mendBellows_X2_priceOfMend
set_option maxRecDepth 20000 in
theorem ggX2_mendBellows_X3_hoursOfMend : GoodIn wsX2_mendBellows wsX3_hoursOfMend := goodIn_r _ [24] (by decide +kernel) (by decide +kernel)
set_option maxRecDepth 20000 in
theorem gX2_mendBellows_X3_hoursOfMend_n93 : GoodIn wsX2_mendBellows (wsX3_hoursOfMend) := ggX2_mendBellows_X3_hoursOfMend
set_option maxRecDepth 20000 in
theorem ggX2_mendBellows_X1_leatherOfMend : GoodIn wsX2_mendBellows wsX1_leatherOfMend := goodIn_r _ [29, 30, 31, 32, 23, 33, 63, 64, 65, 66, 67, 68, 69, 70] (by decide +kernel) (by decide +kernel)
set_option maxRecDepth 20000 in
theorem gX2_mendBellows_X1_leatherOfMend : GoodIn wsX2_mendBellows (wsV RX2 97 RX1 yX1_leatherOfMend wsX1_leatherOfMend) := goodIn_app (goodIn_of _ (by decide +kernel)) ggX2_mendBellows_X1_leatherOfMend
set_option maxRecDepth 20000 in
theorem ggX2_mendBellows_X1_wearBehindMend : GoodIn wsX2_mendBellows wsX1_wearBehindMend := goodIn_r _ [47, 31, 63, 64, 65, 66, 67, 68, 69, 70] (by decide +kernel) (by decide +kernel)
set_option maxRecDepth 20000 in
theorem gX2_mendBellows_X1_wearBehindMend : GoodIn wsX2_mendBellows (wsV RX2 103 RX1 yX1_wearBehindMend wsX1_wearBehindMend) := goodIn_app (goodIn_of _ (by decide +kernel)) ggX2_mendBellows_X1_wearBehindMend
theorem dX2_mendBellows_0 : decode cX2_mendBellows 0 = .ok (.aload_n 0, 1) := by decide +kernel
theorem dX2_mendBellows_1 : decode cX2_mendBellows 1 = .ok (.iload_n 1, 1) := by decide +kernel
theorem dX2_mendBellows_2 : decode cX2_mendBellows 2 = .ok (.invokevirtual 61, 3) := by decide +kernel
theorem dX2_mendBellows_5 : decode cX2_mendBellows 5 = .ok (.astore_n 3, 1) := by decide +kernel
theorem dX2_mendBellows_6 : decode cX2_mendBellows 6 = .ok (.aload_n 3, 1) := by decide +kernel
theorem dX2_mendBellows_7 : decode cX2_mendBellows 7 = .ok (.ifnonnull 6, 3) := by decide +kernel
theorem dX2_mendBellows_10 : decode cX2_mendBellows 10 = .ok (.ldc 69, 2) := by decide +kernel
theorem dX2_mendBellows_12 : decode cX2_mendBellows 12 = .ok (.ireturn, 1) := by decide +kernel
theorem dX2_mendBellows_13 : decode cX2_mendBellows 13 = .ok (.aload_n 0, 1) := by decide +kernel
theorem dX2_mendBellows_14 : decode cX2_mendBellows 14 = .ok (.aload_n 3, 1) := by decide +kernel
theorem dX2_mendBellows_15 : decode cX2_mendBellows 15 = .ok (.iload_n 2, 1) := by decide +kernel
theorem dX2_mendBellows_16 : decode cX2_mendBellows 16 = .ok (.invokevirtual 86, 3) := by decide +kernel
theorem dX2_mendBellows_19 : decode cX2_mendBellows 19 = .ok (.ifCond .eq 6, 3) := by decide +kernel
theorem dX2_mendBellows_22 : decode cX2_mendBellows 22 = .ok (.ldc 79, 2) := by decide +kernel
theorem dX2_mendBellows_24 : decode cX2_mendBellows 24 = .ok (.ireturn, 1) := by decide +kernel
theorem dX2_mendBellows_25 : decode cX2_mendBellows 25 = .ok (.aload_n 0, 1) := by decide +kernel
theorem dX2_mendBellows_26 : decode cX2_mendBellows 26 = .ok (.aload_n 3, 1) := by decide +kernel
theorem dX2_mendBellows_27 : decode cX2_mendBellows 27 = .ok (.iload_n 2, 1) := by decide +kernel
theorem dX2_mendBellows_28 : decode cX2_mendBellows 28 = .ok (.invokevirtual 90, 3) := by decide +kernel
theorem dX2_mendBellows_31 : decode cX2_mendBellows 31 = .ok (.istore 4, 2) := by decide +kernel
theorem dX2_mendBellows_33 : decode cX2_mendBellows 33 = .ok (.aload_n 0, 1) := by decide +kernel
theorem dX2_mendBellows_34 : decode cX2_mendBellows 34 = .ok (.dup, 1) := by decide +kernel
theorem dX2_mendBellows_35 : decode cX2_mendBellows 35 = .ok (.getfield 30, 3) := by decide +kernel
theorem dX2_mendBellows_38 : decode cX2_mendBellows 38 = .ok (.iload_n 2, 1) := by decide +kernel
theorem dX2_mendBellows_39 : decode cX2_mendBellows 39 = .ok (.invokestatic 93, 3) := by decide +kernel
theorem dX2_mendBellows_42 : decode cX2_mendBellows 42 = .ok (.isub, 1) := by decide +kernel
theorem dX2_mendBellows_43 : decode cX2_mendBellows 43 = .ok (.putfield 30, 3) := by decide +kernel
theorem dX2_mendBellows_46 : decode cX2_mendBellows 46 = .ok (.aload_n 0, 1) := by decide +kernel
theorem dX2_mendBellows_47 : decode cX2_mendBellows 47 = .ok (.dup, 1) := by decide +kernel
theorem dX2_mendBellows_48 : decode cX2_mendBellows 48 = .ok (.getfield 46, 3) := by decide +kernel
theorem dX2_mendBellows_51 : decode cX2_mendBellows 51 = .ok (.aload_n 3, 1) := by decide +kernel
theorem dX2_mendBellows_52 : decode cX2_mendBellows 52 = .ok (.iload_n 2, 1) := by decide +kernel
theorem dX2_mendBellows_53 : decode cX2_mendBellows 53 = .ok (.invokevirtual 97, 3) := by decide +kernel
theorem dX2_mendBellows_56 : decode cX2_mendBellows 56 = .ok (.isub, 1) := by decide +kernel
theorem dX2_mendBellows_57 : decode cX2_mendBellows 57 = .ok (.putfield 46, 3) := by decide +kernel
theorem dX2_mendBellows_60 : decode cX2_mendBellows 60 = .ok (.aload_n 0, 1) := by decide +kernel
theorem dX2_mendBellows_61 : decode cX2_mendBellows 61 = .ok (.dup, 1) := by decide +kernel
theorem dX2_mendBellows_62 : decode cX2_mendBellows 62 = .ok (.getfield 52, 3) := by decide +kernel
theorem dX2_mendBellows_65 : decode cX2_mendBellows 65 = .ok (.iload 4, 2) := by decide +kernel
theorem dX2_mendBellows_67 : decode cX2_mendBellows 67 = .ok (.iadd, 1) := by decide +kernel
theorem dX2_mendBellows_68 : decode cX2_mendBellows 68 = .ok (.putfield 52, 3) := by decide +kernel
theorem dX2_mendBellows_71 : decode cX2_mendBellows 71 = .ok (.aload_n 3, 1) := by decide +kernel
theorem dX2_mendBellows_72 : decode cX2_mendBellows 72 = .ok (.dup, 1) := by decide +kernel
theorem dX2_mendBellows_73 : decode cX2_mendBellows 73 = .ok (.getfield 100, 3) := by decide +kernel
theorem dX2_mendBellows_76 : decode cX2_mendBellows 76 = .ok (.iload 4, 2) := by decide +kernel
theorem dX2_mendBellows_78 : decode cX2_mendBellows 78 = .ok (.iadd, 1) := by decide +kernel
theorem dX2_mendBellows_79 : decode cX2_mendBellows 79 = .ok (.putfield 100, 3) := by decide +kernel
theorem dX2_mendBellows_82 : decode cX2_mendBellows 82 = .ok (.aload_n 3, 1) := by decide +kernel
theorem dX2_mendBellows_83 : decode cX2_mendBellows 83 = .ok (.aload_n 3, 1) := by decide +kernel
theorem dX2_mendBellows_84 : decode cX2_mendBellows 84 = .ok (.iload_n 2, 1) := by decide +kernel
theorem dX2_mendBellows_85 : decode cX2_mendBellows 85 = .ok (.invokevirtual 103, 3) := by decide +kernel
theorem dX2_mendBellows_88 : decode cX2_mendBellows 88 = .ok (.putfield 106, 3) := by decide +kernel
theorem dX2_mendBellows_91 : decode cX2_mendBellows 91 = .ok (.aload_n 3, 1) := by decide +kernel
theorem dX2_mendBellows_92 : decode cX2_mendBellows 92 = .ok (.dup, 1) := by decide +kernel
theorem dX2_mendBellows_93 : decode cX2_mendBellows 93 = .ok (.getfield 109, 3) := by decide +kernel
theorem dX2_mendBellows_96 : decode cX2_mendBellows 96 = .ok (.iconst 1, 1) := by decide +kernel
theorem dX2_mendBellows_97 : decode cX2_mendBellows 97 = .ok (.iadd, 1) := by decide +kernel
theorem dX2_mendBellows_98 : decode cX2_mendBellows 98 = .ok (.putfield 109, 3) := by decide +kernel
theorem dX2_mendBellows_101 : decode cX2_mendBellows 101 = .ok (.iload_n 2, 1) := by decide +kernel
theorem dX2_mendBellows_102 : decode cX2_mendBellows 102 = .ok (.ifCond .eq 10, 3) := by decide +kernel
theorem dX2_mendBellows_105 : decode cX2_mendBellows 105 = .ok (.aload_n 3, 1) := by decide +kernel
theorem dX2_mendBellows_106 : decode cX2_mendBellows 106 = .ok (.getfield 100, 3) := by decide +kernel
theorem dX2_mendBellows_109 : decode cX2_mendBellows 109 = .ok (.goto 7, 3) := by decide +kernel
theorem dX2_mendBellows_112 : decode cX2_mendBellows 112 = .ok (.aload_n 3, 1) := by decide +kernel
theorem dX2_mendBellows_113 : decode cX2_mendBellows 113 = .ok (.getfield 106, 3) := by decide +kernel
theorem dX2_mendBellows_116 : decode cX2_mendBellows 116 = .ok (.ireturn, 1) := by decide +kernel
set_option maxRecDepth 20000 in
theorem ggX2_collectDebt_X2_find : GoodIn wsX2_collectDebt wsX2_find := goodIn_r _ [13, 14, 15, 29, 30, 31, 32, 33, 34, 35, 36, 37, 38, 39, 40, 41, 42, 43] (by decide +kernel) (by decide +kernel)
set_option maxRecDepth 20000 in
theorem gX2_collectDebt_X2_find : GoodIn wsX2_collectDebt (wsV RX2 61 RX2 yX2_find wsX2_find) := goodIn_app (goodIn_of _ (by decide +kernel)) ggX2_collectDebt_X2_find
set_option maxRecDepth 20000 in
theorem ggX2_collectDebt_X2_isCold : GoodIn wsX2_collectDebt wsX2_isCold := goodIn_r _ [19, 20, 29, 30, 31, 32, 33, 34, 35, 36, 37, 38, 39, 40, 41, 42, 43] (by decide +kernel) (by decide +kernel)
set_option maxRecDepth 20000 in
theorem gX2_collectDebt_X2_isCold : GoodIn wsX2_collectDebt (wsV RX2 116 RX2 yX2_isCold wsX2_isCold) := goodIn_app (goodIn_of _ (by decide +kernel)) ggX2_collectDebt_X2_isCold
theorem dX2_collectDebt_0 : decode cX2_collectDebt 0 = .ok (.aload_n 0, 1) := by decide +kernel
theorem dX2_collectDebt_1 : decode cX2_collectDebt 1 = .ok (.iload_n 1, 1) := by decide +kernel
theorem dX2_collectDebt_2 : decode cX2_collectDebt 2 = .ok (.invokevirtual 61, 3) := by decide +kernel
theorem dX2_collectDebt_5 : decode cX2_collectDebt 5 = .ok (.astore_n 2, 1) := by decide +kernel
theorem dX2_collectDebt_6 : decode cX2_collectDebt 6 = .ok (.aload_n 2, 1) := by decide +kernel
theorem dX2_collectDebt_7 : decode cX2_collectDebt 7 = .ok (.ifnonnull 6, 3) := by decide +kernel
theorem dX2_collectDebt_10 : decode cX2_collectDebt 10 = .ok (.ldc 69, 2) := by decide +kernel
theorem dX2_collectDebt_12 : decode cX2_collectDebt 12 = .ok (.ireturn, 1) := by decide +kernel
theorem dX2_collectDebt_13 : decode cX2_collectDebt 13 = .ok (.aload_n 2, 1) := by decide +kernel
theorem dX2_collectDebt_14 : decode cX2_collectDebt 14 = .ok (.getfield 112, 3) := by decide +kernel
theorem dX2_collectDebt_17 : decode cX2_collectDebt 17 = .ok (.aload_n 0, 1) := by decide +kernel
theorem dX2_collectDebt_18 : decode cX2_collectDebt 18 = .ok (.getfield 43, 3) := by decide +kernel
theorem dX2_collectDebt_21 : decode cX2_collectDebt 21 = .ok (.if_icmp .ne 10, 3) := by decide +kernel
theorem dX2_collectDebt_24 : decode cX2_collectDebt 24 = .ok (.aload_n 2, 1) := by decide +kernel
theorem dX2_collectDebt_25 : decode cX2_collectDebt 25 = .ok (.getfield 100, 3) := by decide +kernel
theorem dX2_collectDebt_28 : decode cX2_collectDebt 28 = .ok (.ifCond .gt 6, 3) := by decide +kernel
theorem dX2_collectDebt_31 : decode cX2_collectDebt 31 = .ok (.ldc 79, 2) := by decide +kernel
theorem dX2_collectDebt_33 : decode cX2_collectDebt 33 = .ok (.ireturn, 1) := by decide +kernel
theorem dX2_collectDebt_34 : decode cX2_collectDebt 34 = .ok (.aload_n 0, 1) := by decide +kernel
theorem dX2_collectDebt_35 : decode cX2_collectDebt 35 = .ok (.aload_n 2, 1) := by decide +kernel
theorem dX2_collectDebt_36 : decode cX2_collectDebt 36 = .ok (.getfield 113, 3) := by decide +kernel
theorem dX2_collectDebt_39 : decode cX2_collectDebt 39 = .ok (.invokevirtual 116, 3) := by decide +kernel
theorem dX2_collectDebt_42 : decode cX2_collectDebt 42 = .ok (.ifCond .eq 12, 3) := by decide +kernel
theorem dX2_collectDebt_45 : decode cX2_collectDebt 45 = .ok (.aload_n 2, 1) := by decide +kernel
theorem dX2_collectDebt_46 : decode cX2_collectDebt 46 = .ok (.getfield 100, 3) := by decide +kernel
theorem dX2_collectDebt_49 : decode cX2_collectDebt 49 = .ok (.iconst 2, 1) := by decide +kernel
theorem dX2_collectDebt_50 : decode cX2_collectDebt 50 = .ok (.idiv, 1) := by decide +kernel
theorem dX2_collectDebt_51 : decode cX2_collectDebt 51 = .ok (.goto 7, 3) := by decide +kernel
theorem dX2_collectDebt_54 : decode cX2_collectDebt 54 = .ok (.aload_n 2, 1) := by decide +kernel
theorem dX2_collectDebt_55 : decode cX2_collectDebt 55 = .ok (.getfield 100, 3) := by decide +kernel
theorem dX2_collectDebt_58 : decode cX2_collectDebt 58 = .ok (.istore_n 3, 1) := by decide +kernel
theorem dX2_collectDebt_59 : decode cX2_collectDebt 59 = .ok (.aload_n 2, 1) := by decide +kernel
theorem dX2_collectDebt_60 : decode cX2_collectDebt 60 = .ok (.dup, 1) := by decide +kernel
theorem dX2_collectDebt_61 : decode cX2_collectDebt 61 = .ok (.getfield 100, 3) := by decide +kernel
theorem dX2_collectDebt_64 : decode cX2_collectDebt 64 = .ok (.iload_n 3, 1) := by decide +kernel
theorem dX2_collectDebt_65 : decode cX2_collectDebt 65 = .ok (.isub, 1) := by decide +kernel
theorem dX2_collectDebt_66 : decode cX2_collectDebt 66 = .ok (.putfield 100, 3) := by decide +kernel
theorem dX2_collectDebt_69 : decode cX2_collectDebt 69 = .ok (.aload_n 2, 1) := by decide +kernel
theorem dX2_collectDebt_70 : decode cX2_collectDebt 70 = .ok (.dup, 1) := by decide +kernel
theorem dX2_collectDebt_71 : decode cX2_collectDebt 71 = .ok (.getfield 120, 3) := by decide +kernel
theorem dX2_collectDebt_74 : decode cX2_collectDebt 74 = .ok (.iload_n 3, 1) := by decide +kernel
theorem dX2_collectDebt_75 : decode cX2_collectDebt 75 = .ok (.iadd, 1) := by decide +kernel
theorem dX2_collectDebt_76 : decode cX2_collectDebt 76 = .ok (.putfield 120, 3) := by decide +kernel
theorem dX2_collectDebt_79 : decode cX2_collectDebt 79 = .ok (.aload_n 0, 1) := by decide +kernel
theorem dX2_collectDebt_80 : decode cX2_collectDebt 80 = .ok (.dup, 1) := by decide +kernel
theorem dX2_collectDebt_81 : decode cX2_collectDebt 81 = .ok (.getfield 33, 3) := by decide +kernel
theorem dX2_collectDebt_84 : decode cX2_collectDebt 84 = .ok (.iload_n 3, 1) := by decide +kernel
theorem dX2_collectDebt_85 : decode cX2_collectDebt 85 = .ok (.iadd, 1) := by decide +kernel
theorem dX2_collectDebt_86 : decode cX2_collectDebt 86 = .ok (.putfield 33, 3) := by decide +kernel
theorem dX2_collectDebt_89 : decode cX2_collectDebt 89 = .ok (.iload_n 3, 1) := by decide +kernel
theorem dX2_collectDebt_90 : decode cX2_collectDebt 90 = .ok (.ireturn, 1) := by decide +kernel
set_option maxRecDepth 20000 in
theorem ggX2_endDays_X2_find : GoodIn wsX2_endDays wsX2_find := goodIn_r _ [11, 4, 12, 54, 55, 56, 57, 58, 59, 60, 61, 62, 63, 64, 65, 66, 67, 68] (by decide +kernel) (by decide +kernel)
set_option maxRecDepth 20000 in
theorem gX2_endDays_X2_find : GoodIn wsX2_endDays (wsV RX2 61 RX2 yX2_find wsX2_find) := goodIn_app (goodIn_of _ (by decide +kernel)) ggX2_endDays_X2_find
set_option maxRecDepth 20000 in
theorem ggX2_endDays_X2_endDayOf : GoodIn wsX2_endDays wsX2_endDayOf := goodIn_r _ [16, 17, 18, 19, 20, 21, 22, 23, 24, 25, 26, 27, 28, 29, 30, 31, 32, 33, 34, 35, 36, 37, 38, 39, 40, 10, 41, 42, 69, 70, 71, 72, 73, 74, 75, 76, 54, 55, 56, 57, 58, 59, 60, 61, 62, 63, 64, 65, 66, 67, 68] (by decide +kernel) (by decide +kernel)
set_option maxRecDepth 20000 in
theorem gX2_endDays_X2_endDayOf : GoodIn wsX2_endDays (wsV RX2 123 RX2 yX2_endDayOf wsX2_endDayOf) := goodIn_app (goodIn_of _ (by decide +kernel)) ggX2_endDays_X2_endDayOf
set_option maxRecDepth 20000 in
theorem ggX2_endDays_X2_coldSet : GoodIn wsX2_endDays wsX2_coldSet := goodIn_r _ [46, 4, 19, 7, 8, 9, 10, 11, 12, 38, 39, 40, 41, 42, 54, 55, 56, 57, 58, 59, 60, 61, 62, 63, 64, 65, 66, 67, 68, 69, 70, 71, 72, 73, 74, 75, 76] (by decide +kernel) (by decide +kernel)
set_option maxRecDepth 20000 in
theorem gX2_endDays_X2_coldSet : GoodIn wsX2_endDays (wsV RX2 126 RX2 yX2_coldSet wsX2_coldSet) := goodIn_app (goodIn_of _ (by decide +kernel)) ggX2_endDays_X2_coldSet
set_option maxRecDepth 20000 in
theorem ggX2_endDays_J6_bitCount_0f7a4 : GoodIn wsX2_endDays wsJ6_bitCount_0f7a4 := goodIn_r _ [50, 51, 52, 53] (by decide +kernel) (by decide +kernel)
set_option maxRecDepth 20000 in
theorem gX2_endDays_J6_bitCount_0f7a4 : GoodIn wsX2_endDays (va_wsS RX2 130 yJ6_bitCount_0f7a4 wsJ6_bitCount_0f7a4) := goodIn_app (goodIn_of _ (by decide +kernel)) ggX2_endDays_J6_bitCount_0f7a4
theorem dX2_endDays_0 : decode cX2_endDays 0 = .ok (.iload_n 1, 1) := by decide +kernel
theorem dX2_endDays_1 : decode cX2_endDays 1 = .ok (.iconst 1, 1) := by decide +kernel
theorem dX2_endDays_2 : decode cX2_endDays 2 = .ok (.if_icmp .lt 9, 3) := by decide +kernel
theorem dX2_endDays_5 : decode cX2_endDays 5 = .ok (.iload_n 1, 1) := by decide +kernel
theorem dX2_endDays_6 : decode cX2_endDays 6 = .ok (.bipush 99, 2) := by decide +kernel
theorem dX2_endDays_8 : decode cX2_endDays 8 = .ok (.if_icmp .le 6, 3) := by decide +kernel
theorem dX2_endDays_11 : decode cX2_endDays 11 = .ok (.ldc 69, 2) := by decide +kernel
theorem dX2_endDays_13 : decode cX2_endDays 13 = .ok (.ireturn, 1) := by decide +kernel
theorem dX2_endDays_14 : decode cX2_endDays 14 = .ok (.aload_n 0, 1) := by decide +kernel
theorem dX2_endDays_15 : decode cX2_endDays 15 = .ok (.getfield 40, 3) := by decide +kernel
theorem dX2_endDays_18 : decode cX2_endDays 18 = .ok (.iload_n 1, 1) := by decide +kernel
theorem dX2_endDays_19 : decode cX2_endDays 19 = .ok (.iadd, 1) := by decide +kernel
theorem dX2_endDays_20 : decode cX2_endDays 20 = .ok (.sipush 9999, 3) := by decide +kernel
theorem dX2_endDays_23 : decode cX2_endDays 23 = .ok (.if_icmp .le 6, 3) := by decide +kernel
theorem dX2_endDays_26 : decode cX2_endDays 26 = .ok (.ldc 70, 2) := by decide +kernel
theorem dX2_endDays_28 : decode cX2_endDays 28 = .ok (.ireturn, 1) := by decide +kernel
theorem dX2_endDays_29 : decode cX2_endDays 29 = .ok (.iconst 0, 1) := by decide +kernel
theorem dX2_endDays_30 : decode cX2_endDays 30 = .ok (.istore_n 2, 1) := by decide +kernel
theorem dX2_endDays_31 : decode cX2_endDays 31 = .ok (.iload_n 2, 1) := by decide +kernel
theorem dX2_endDays_32 : decode cX2_endDays 32 = .ok (.aload_n 0, 1) := by decide +kernel
theorem dX2_endDays_33 : decode cX2_endDays 33 = .ok (.getfield 37, 3) := by decide +kernel
theorem dX2_endDays_36 : decode cX2_endDays 36 = .ok (.if_icmp .ge 39, 3) := by decide +kernel
theorem dX2_endDays_39 : decode cX2_endDays 39 = .ok (.aload_n 0, 1) := by decide +kernel
theorem dX2_endDays_40 : decode cX2_endDays 40 = .ok (.iload_n 2, 1) := by decide +kernel
theorem dX2_endDays_41 : decode cX2_endDays 41 = .ok (.invokevirtual 61, 3) := by decide +kernel
theorem dX2_endDays_44 : decode cX2_endDays 44 = .ok (.astore_n 3, 1) := by decide +kernel
theorem dX2_endDays_45 : decode cX2_endDays 45 = .ok (.iconst 0, 1) := by decide +kernel
theorem dX2_endDays_46 : decode cX2_endDays 46 = .ok (.istore 4, 2) := by decide +kernel
theorem dX2_endDays_48 : decode cX2_endDays 48 = .ok (.iload 4, 2) := by decide +kernel
theorem dX2_endDays_50 : decode cX2_endDays 50 = .ok (.iload_n 1, 1) := by decide +kernel
theorem dX2_endDays_51 : decode cX2_endDays 51 = .ok (.if_icmp .ge 18, 3) := by decide +kernel
theorem dX2_endDays_54 : decode cX2_endDays 54 = .ok (.aload_n 3, 1) := by decide +kernel
theorem dX2_endDays_55 : decode cX2_endDays 55 = .ok (.ifnull 14, 3) := by decide +kernel
theorem dX2_endDays_58 : decode cX2_endDays 58 = .ok (.aload_n 0, 1) := by decide +kernel
theorem dX2_endDays_59 : decode cX2_endDays 59 = .ok (.aload_n 3, 1) := by decide +kernel
theorem dX2_endDays_60 : decode cX2_endDays 60 = .ok (.invokevirtual 123, 3) := by decide +kernel
theorem dX2_endDays_63 : decode cX2_endDays 63 = .ok (.iinc 4 1, 3) := by decide +kernel
theorem dX2_endDays_66 : decode cX2_endDays 66 = .ok (.goto (-18), 3) := by decide +kernel
theorem dX2_endDays_69 : decode cX2_endDays 69 = .ok (.iinc 2 1, 3) := by decide +kernel
theorem dX2_endDays_72 : decode cX2_endDays 72 = .ok (.goto (-41), 3) := by decide +kernel
theorem dX2_endDays_75 : decode cX2_endDays 75 = .ok (.aload_n 0, 1) := by decide +kernel
theorem dX2_endDays_76 : decode cX2_endDays 76 = .ok (.dup, 1) := by decide +kernel
theorem dX2_endDays_77 : decode cX2_endDays 77 = .ok (.getfield 40, 3) := by decide +kernel
theorem dX2_endDays_80 : decode cX2_endDays 80 = .ok (.iload_n 1, 1) := by decide +kernel
theorem dX2_endDays_81 : decode cX2_endDays 81 = .ok (.iadd, 1) := by decide +kernel
theorem dX2_endDays_82 : decode cX2_endDays 82 = .ok (.putfield 40, 3) := by decide +kernel
theorem dX2_endDays_85 : decode cX2_endDays 85 = .ok (.aload_n 0, 1) := by decide +kernel
theorem dX2_endDays_86 : decode cX2_endDays 86 = .ok (.aload_n 0, 1) := by decide +kernel
theorem dX2_endDays_87 : decode cX2_endDays 87 = .ok (.getfield 21, 3) := by decide +kernel
theorem dX2_endDays_90 : decode cX2_endDays 90 = .ok (.putfield 30, 3) := by decide +kernel
theorem dX2_endDays_93 : decode cX2_endDays 93 = .ok (.aload_n 0, 1) := by decide +kernel
theorem dX2_endDays_94 : decode cX2_endDays 94 = .ok (.invokevirtual 126, 3) := by decide +kernel
theorem dX2_endDays_97 : decode cX2_endDays 97 = .ok (.invokestatic 130, 3) := by decide +kernel
theorem dX2_endDays_100 : decode cX2_endDays 100 = .ok (.ireturn, 1) := by decide +kernel
set_option maxRecDepth 20000 in
theorem ggX2_endDayOf_X3_wearBehindDay : GoodIn wsX2_endDayOf wsX3_wearBehindDay := goodIn_r _ [12, 13, 14, 8, 15] (by decide +kernel) (by decide +kernel)
set_option maxRecDepth 20000 in
theorem gX2_endDayOf_X3_wearBehindDay_n138 : GoodIn wsX2_endDayOf (wsX3_wearBehindDay) := ggX2_endDayOf_X3_wearBehindDay
set_option maxRecDepth 20000 in
theorem ggX2_endDayOf_X3_heatBehindDay : GoodIn wsX2_endDayOf wsX3_heatBehindDay := goodIn_r _ [17, 13, 14, 8, 15, 18, 7, 9, 19, 20, 11, 21] (by decide +kernel) (by decide +kernel)
set_option maxRecDepth 20000 in
theorem gX2_endDayOf_X3_heatBehindDay_n141 : GoodIn wsX2_endDayOf (wsX3_heatBehindDay) := ggX2_endDayOf_X3_heatBehindDay
set_option maxRecDepth 20000 in
theorem ggX2_endDayOf_X2_isCold : GoodIn wsX2_endDayOf wsX2_isCold := goodIn_r _ [26, 27, 36, 37, 38, 39, 40, 41, 42, 43, 44, 45, 46, 47, 48, 49, 50] (by decide +kernel) (by decide +kernel)
set_option maxRecDepth 20000 in
theorem gX2_endDayOf_X2_isCold : GoodIn wsX2_endDayOf (wsV RX2 116 RX2 yX2_isCold wsX2_isCold) := goodIn_app (goodIn_of _ (by decide +kernel)) ggX2_endDayOf_X2_isCold
theorem dX2_endDayOf_0 : decode cX2_endDayOf 0 = .ok (.aload_n 1, 1) := by decide +kernel
theorem dX2_endDayOf_1 : decode cX2_endDayOf 1 = .ok (.aload_n 1, 1) := by decide +kernel
theorem dX2_endDayOf_2 : decode cX2_endDayOf 2 = .ok (.getfield 106, 3) := by decide +kernel
theorem dX2_endDayOf_5 : decode cX2_endDayOf 5 = .ok (.aload_n 1, 1) := by decide +kernel
theorem dX2_endDayOf_6 : decode cX2_endDayOf 6 = .ok (.getfield 135, 3) := by decide +kernel
theorem dX2_endDayOf_9 : decode cX2_endDayOf 9 = .ok (.invokestatic 138, 3) := by decide +kernel
theorem dX2_endDayOf_12 : decode cX2_endDayOf 12 = .ok (.putfield 106, 3) := by decide +kernel
theorem dX2_endDayOf_15 : decode cX2_endDayOf 15 = .ok (.aload_n 1, 1) := by decide +kernel
theorem dX2_endDayOf_16 : decode cX2_endDayOf 16 = .ok (.aload_n 1, 1) := by decide +kernel
theorem dX2_endDayOf_17 : decode cX2_endDayOf 17 = .ok (.getfield 113, 3) := by decide +kernel
theorem dX2_endDayOf_20 : decode cX2_endDayOf 20 = .ok (.aload_n 1, 1) := by decide +kernel
theorem dX2_endDayOf_21 : decode cX2_endDayOf 21 = .ok (.getfield 106, 3) := by decide +kernel
theorem dX2_endDayOf_24 : decode cX2_endDayOf 24 = .ok (.invokestatic 141, 3) := by decide +kernel
theorem dX2_endDayOf_27 : decode cX2_endDayOf 27 = .ok (.putfield 113, 3) := by decide +kernel
theorem dX2_endDayOf_30 : decode cX2_endDayOf 30 = .ok (.aload_n 1, 1) := by decide +kernel
theorem dX2_endDayOf_31 : decode cX2_endDayOf 31 = .ok (.aload_n 0, 1) := by decide +kernel
theorem dX2_endDayOf_32 : decode cX2_endDayOf 32 = .ok (.aload_n 1, 1) := by decide +kernel
theorem dX2_endDayOf_33 : decode cX2_endDayOf 33 = .ok (.getfield 113, 3) := by decide +kernel
theorem dX2_endDayOf_36 : decode cX2_endDayOf 36 = .ok (.invokevirtual 116, 3) := by decide +kernel
theorem dX2_endDayOf_39 : decode cX2_endDayOf 39 = .ok (.ifCond .eq 12, 3) := by decide +kernel
theorem dX2_endDayOf_42 : decode cX2_endDayOf 42 = .ok (.aload_n 1, 1) := by decide +kernel
theorem dX2_endDayOf_43 : decode cX2_endDayOf 43 = .ok (.getfield 144, 3) := by decide +kernel
theorem dX2_endDayOf_46 : decode cX2_endDayOf 46 = .ok (.iconst 1, 1) := by decide +kernel
theorem dX2_endDayOf_47 : decode cX2_endDayOf 47 = .ok (.iadd, 1) := by decide +kernel
theorem dX2_endDayOf_48 : decode cX2_endDayOf 48 = .ok (.goto 4, 3) := by decide +kernel
theorem dX2_endDayOf_51 : decode cX2_endDayOf 51 = .ok (.iconst 0, 1) := by decide +kernel
theorem dX2_endDayOf_52 : decode cX2_endDayOf 52 = .ok (.putfield 144, 3) := by decide +kernel
theorem dX2_endDayOf_55 : decode cX2_endDayOf 55 = .ok (.aload_n 0, 1) := by decide +kernel
