theorem dX2_comesBefore_0 : decode cX2_comesBefore 0 = .ok (.aload_n 0, 1) := by decide +kernel
theorem dX2_comesBefore_1 : decode cX2_comesBefore 1 = .ok (.aload_n 1, 1) := by decide +kernel
theorem dX2_comesBefore_2 : decode cX2_comesBefore 2 = .ok (.invokevirtual 179, 3) := by decide +kernel
theorem dX2_comesBefore_5 : decode cX2_comesBefore 5 = .ok (.istore_n 3, 1) := by decide +kernel
theorem dX2_comesBefore_6 : decode cX2_comesBefore 6 = .ok (.aload_n 0, 1) := by decide +kernel
theorem dX2_comesBefore_7 : decode cX2_comesBefore 7 = .ok (.aload_n 2, 1) := by decide +kernel
theorem dX2_comesBefore_8 : decode cX2_comesBefore 8 = .ok (.invokevirtual 179, 3) := by decide +kernel
theorem dX2_comesBefore_11 : decode cX2_comesBefore 11 = .ok (.istore 4, 2) := by decide +kernel
theorem dX2_comesBefore_13 : decode cX2_comesBefore 13 = .ok (.iload_n 3, 1) := by decide +kernel
theorem dX2_comesBefore_14 : decode cX2_comesBefore 14 = .ok (.iload 4, 2) := by decide +kernel
theorem dX2_comesBefore_16 : decode cX2_comesBefore 16 = .ok (.if_icmp .eq 15, 3) := by decide +kernel
theorem dX2_comesBefore_19 : decode cX2_comesBefore 19 = .ok (.iload_n 3, 1) := by decide +kernel
theorem dX2_comesBefore_20 : decode cX2_comesBefore 20 = .ok (.iload 4, 2) := by decide +kernel
theorem dX2_comesBefore_22 : decode cX2_comesBefore 22 = .ok (.if_icmp .ge 7, 3) := by decide +kernel
theorem dX2_comesBefore_25 : decode cX2_comesBefore 25 = .ok (.iconst 1, 1) := by decide +kernel
theorem dX2_comesBefore_26 : decode cX2_comesBefore 26 = .ok (.goto 4, 3) := by decide +kernel
theorem dX2_comesBefore_29 : decode cX2_comesBefore 29 = .ok (.iconst 0, 1) := by decide +kernel
theorem dX2_comesBefore_30 : decode cX2_comesBefore 30 = .ok (.ireturn, 1) := by decide +kernel
theorem dX2_comesBefore_31 : decode cX2_comesBefore 31 = .ok (.aload_n 1, 1) := by decide +kernel
theorem dX2_comesBefore_32 : decode cX2_comesBefore 32 = .ok (.getfield 106, 3) := by decide +kernel
theorem dX2_comesBefore_35 : decode cX2_comesBefore 35 = .ok (.aload_n 2, 1) := by decide +kernel
theorem dX2_comesBefore_36 : decode cX2_comesBefore 36 = .ok (.getfield 106, 3) := by decide +kernel
theorem dX2_comesBefore_39 : decode cX2_comesBefore 39 = .ok (.if_icmp .eq 20, 3) := by decide +kernel
theorem dX2_comesBefore_42 : decode cX2_comesBefore 42 = .ok (.aload_n 1, 1) := by decide +kernel
theorem dX2_comesBefore_43 : decode cX2_comesBefore 43 = .ok (.getfield 106, 3) := by decide +kernel
theorem dX2_comesBefore_46 : decode cX2_comesBefore 46 = .ok (.aload_n 2, 1) := by decide +kernel
theorem dX2_comesBefore_47 : decode cX2_comesBefore 47 = .ok (.getfield 106, 3) := by decide +kernel
theorem dX2_comesBefore_50 : decode cX2_comesBefore 50 = .ok (.if_icmp .le 7, 3) := by decide +kernel
theorem dX2_comesBefore_53 : decode cX2_comesBefore 53 = .ok (.iconst 1, 1) := by decide +kernel
theorem dX2_comesBefore_54 : decode cX2_comesBefore 54 = .ok (.goto 4, 3) := by decide +kernel
theorem dX2_comesBefore_57 : decode cX2_comesBefore 57 = .ok (.iconst 0, 1) := by decide +kernel
theorem dX2_comesBefore_58 : decode cX2_comesBefore 58 = .ok (.ireturn, 1) := by decide +kernel
theorem dX2_comesBefore_59 : decode cX2_comesBefore 59 = .ok (.aload_n 1, 1) := by decide +kernel
theorem dX2_comesBefore_60 : decode cX2_comesBefore 60 = .ok (.getfield 112, 3) := by decide +kernel
theorem dX2_comesBefore_63 : decode cX2_comesBefore 63 = .ok (.aload_n 0, 1) := by decide +kernel
theorem dX2_comesBefore_64 : decode cX2_comesBefore 64 = .ok (.getfield 43, 3) := by decide +kernel
theorem dX2_comesBefore_67 : decode cX2_comesBefore 67 = .ok (.isub, 1) := by decide +kernel
theorem dX2_comesBefore_68 : decode cX2_comesBefore 68 = .ok (.invokestatic 80, 3) := by decide +kernel
theorem dX2_comesBefore_71 : decode cX2_comesBefore 71 = .ok (.aload_n 2, 1) := by decide +kernel
theorem dX2_comesBefore_72 : decode cX2_comesBefore 72 = .ok (.getfield 112, 3) := by decide +kernel
theorem dX2_comesBefore_75 : decode cX2_comesBefore 75 = .ok (.aload_n 0, 1) := by decide +kernel
theorem dX2_comesBefore_76 : decode cX2_comesBefore 76 = .ok (.getfield 43, 3) := by decide +kernel
theorem dX2_comesBefore_79 : decode cX2_comesBefore 79 = .ok (.isub, 1) := by decide +kernel
theorem dX2_comesBefore_80 : decode cX2_comesBefore 80 = .ok (.invokestatic 80, 3) := by decide +kernel
theorem dX2_comesBefore_83 : decode cX2_comesBefore 83 = .ok (.if_icmp .ge 7, 3) := by decide +kernel
theorem dX2_comesBefore_86 : decode cX2_comesBefore 86 = .ok (.iconst 1, 1) := by decide +kernel
theorem dX2_comesBefore_87 : decode cX2_comesBefore 87 = .ok (.goto 4, 3) := by decide +kernel
theorem dX2_comesBefore_90 : decode cX2_comesBefore 90 = .ok (.iconst 0, 1) := by decide +kernel
theorem dX2_comesBefore_91 : decode cX2_comesBefore 91 = .ok (.ireturn, 1) := by decide +kernel
set_option maxRecDepth 20000 in
theorem ggX2_tellRound_X2_firstOnRoad : GoodIn wsX2_tellRound wsX2_firstOnRoad := goodIn_r _ [8, 9, 3, 10, 11, 12, 7, 13, 14, 46, 47, 48, 49, 50, 51, 52, 53, 54, 55, 56, 57, 58, 59, 60, 61, 62, 63, 64, 65, 66, 67, 68] (by decide +kernel) (by decide +kernel)
set_option maxRecDepth 20000 in
theorem gX2_tellRound_X2_firstOnRoad : GoodIn wsX2_tellRound (wsV RX2 182 RX2 yX2_firstOnRoad wsX2_firstOnRoad) := goodIn_app (goodIn_of _ (by decide +kernel)) ggX2_tellRound_X2_firstOnRoad
set_option maxRecDepth 20000 in
theorem ggX2_tellRound_X2_find : GoodIn wsX2_tellRound wsX2_find := goodIn_r _ [13, 9, 14, 46, 47, 48, 49, 50, 51, 52, 53, 54, 55, 56, 57, 58, 59, 60] (by decide +kernel) (by decide +kernel)
set_option maxRecDepth 20000 in
theorem gX2_tellRound_X2_find : GoodIn wsX2_tellRound (wsV RX2 61 RX2 yX2_find wsX2_find) := goodIn_app (goodIn_of _ (by decide +kernel)) ggX2_tellRound_X2_find
set_option maxRecDepth 20000 in
theorem ggX2_tellRound_X3_hoursOfWay : GoodIn wsX2_tellRound wsX3_hoursOfWay := goodIn_r _ [17, 18, 19, 20, 21, 22, 23, 16, 24] (by decide +kernel) (by decide +kernel)
set_option maxRecDepth 20000 in
theorem gX2_tellRound_X3_hoursOfWay_n75 : GoodIn wsX2_tellRound (wsX3_hoursOfWay) := ggX2_tellRound_X3_hoursOfWay
set_option maxRecDepth 20000 in
theorem ggX2_tellRound_X2_reasonOfSmithy : GoodIn wsX2_tellRound wsX2_reasonOfSmithy := goodIn_r _ [28, 29, 30, 31, 61, 62, 63, 64, 65, 66, 67, 68, 46, 47, 48, 49, 50, 51, 52, 53, 54, 55, 56, 57, 58, 59, 60] (by decide +kernel) (by decide +kernel)
set_option maxRecDepth 20000 in
theorem gX2_tellRound_X2_reasonOfSmithy : GoodIn wsX2_tellRound (wsV RX2 170 RX2 yX2_reasonOfSmithy wsX2_reasonOfSmithy) := goodIn_app (goodIn_of _ (by decide +kernel)) ggX2_tellRound_X2_reasonOfSmithy
set_option maxRecDepth 20000 in
theorem ggX2_tellRound_X3_hoursOfMend : GoodIn wsX2_tellRound wsX3_hoursOfMend := goodIn_r _ [33] (by decide +kernel) (by decide +kernel)
set_option maxRecDepth 20000 in
theorem gX2_tellRound_X3_hoursOfMend_n93 : GoodIn wsX2_tellRound (wsX3_hoursOfMend) := ggX2_tellRound_X3_hoursOfMend
set_option maxRecDepth 20000 in
theorem ggX2_tellRound_X1_leatherOfMend : GoodIn wsX2_tellRound wsX1_leatherOfMend := goodIn_r _ [38, 39, 40, 23, 16, 24, 61, 62, 63, 64, 65, 66, 67, 68] (by decide +kernel) (by decide +kernel)
set_option maxRecDepth 20000 in
theorem gX2_tellRound_X1_leatherOfMend : GoodIn wsX2_tellRound (wsV RX2 97 RX1 yX1_leatherOfMend wsX1_leatherOfMend) := goodIn_app (goodIn_of _ (by decide +kernel)) ggX2_tellRound_X1_leatherOfMend
set_option maxRecDepth 20000 in
theorem ggX2_tellRound_X2_priceOfMend : GoodIn wsX2_tellRound wsX2_priceOfMend := goodIn_r _ [44, 45, 32, 16, 33, 34, 35, 36, 37, 38, 39, 40, 23, 24, 46, 47, 48, 49, 50, 51, 52, 53, 54, 55, 56, 57, 58, 59, 60, 61, 62, 63, 64, 65, 66, 67, 68] (by decide +kernel) (by decide +kernel)
set_option maxRecDepth 20000 in
theorem gX2_tellRound_X2_priceOfMend : GoodIn wsX2_tellRound (wsV RX2 90 RX2 yX2_priceOfMend wsX2_priceOfMend) := goodIn_app (goodIn_of _ (by decide +kernel)) ggX2_tellRound_X2_priceOfMend
theorem dX2_tellRound_0 : decode cX2_tellRound 0 = .ok (.iconst 0, 1) := by decide +kernel
theorem dX2_tellRound_1 : decode cX2_tellRound 1 = .ok (.istore_n 3, 1) := by decide +kernel
theorem dX2_tellRound_2 : decode cX2_tellRound 2 = .ok (.iconst 0, 1) := by decide +kernel
theorem dX2_tellRound_3 : decode cX2_tellRound 3 = .ok (.istore 4, 2) := by decide +kernel
theorem dX2_tellRound_5 : decode cX2_tellRound 5 = .ok (.iconst 0, 1) := by decide +kernel
theorem dX2_tellRound_6 : decode cX2_tellRound 6 = .ok (.istore 5, 2) := by decide +kernel
theorem dX2_tellRound_8 : decode cX2_tellRound 8 = .ok (.aload_n 0, 1) := by decide +kernel
theorem dX2_tellRound_9 : decode cX2_tellRound 9 = .ok (.getfield 43, 3) := by decide +kernel
theorem dX2_tellRound_12 : decode cX2_tellRound 12 = .ok (.istore 6, 2) := by decide +kernel
theorem dX2_tellRound_14 : decode cX2_tellRound 14 = .ok (.iload_n 1, 1) := by decide +kernel
theorem dX2_tellRound_15 : decode cX2_tellRound 15 = .ok (.istore 7, 2) := by decide +kernel
theorem dX2_tellRound_17 : decode cX2_tellRound 17 = .ok (.iconst 0, 1) := by decide +kernel
theorem dX2_tellRound_18 : decode cX2_tellRound 18 = .ok (.istore 8, 2) := by decide +kernel
theorem dX2_tellRound_20 : decode cX2_tellRound 20 = .ok (.iload 8, 2) := by decide +kernel
theorem dX2_tellRound_22 : decode cX2_tellRound 22 = .ok (.bipush 8, 2) := by decide +kernel
theorem dX2_tellRound_24 : decode cX2_tellRound 24 = .ok (.if_icmp .ge 108, 3) := by decide +kernel
theorem dX2_tellRound_27 : decode cX2_tellRound 27 = .ok (.iload 7, 2) := by decide +kernel
theorem dX2_tellRound_29 : decode cX2_tellRound 29 = .ok (.ifCond .eq 103, 3) := by decide +kernel
theorem dX2_tellRound_32 : decode cX2_tellRound 32 = .ok (.aload_n 0, 1) := by decide +kernel
theorem dX2_tellRound_33 : decode cX2_tellRound 33 = .ok (.iload 7, 2) := by decide +kernel
theorem dX2_tellRound_35 : decode cX2_tellRound 35 = .ok (.invokevirtual 182, 3) := by decide +kernel
theorem dX2_tellRound_38 : decode cX2_tellRound 38 = .ok (.istore 9, 2) := by decide +kernel
theorem dX2_tellRound_40 : decode cX2_tellRound 40 = .ok (.aload_n 0, 1) := by decide +kernel
theorem dX2_tellRound_41 : decode cX2_tellRound 41 = .ok (.iload 9, 2) := by decide +kernel
theorem dX2_tellRound_43 : decode cX2_tellRound 43 = .ok (.invokevirtual 61, 3) := by decide +kernel
theorem dX2_tellRound_46 : decode cX2_tellRound 46 = .ok (.astore 10, 2) := by decide +kernel
theorem dX2_tellRound_48 : decode cX2_tellRound 48 = .ok (.aload 10, 2) := by decide +kernel
theorem dX2_tellRound_50 : decode cX2_tellRound 50 = .ok (.ifnonnull 6, 3) := by decide +kernel
theorem dX2_tellRound_53 : decode cX2_tellRound 53 = .ok (.ldc 69, 2) := by decide +kernel
theorem dX2_tellRound_55 : decode cX2_tellRound 55 = .ok (.ireturn, 1) := by decide +kernel
theorem dX2_tellRound_56 : decode cX2_tellRound 56 = .ok (.iload 7, 2) := by decide +kernel
theorem dX2_tellRound_58 : decode cX2_tellRound 58 = .ok (.iconst 1, 1) := by decide +kernel
theorem dX2_tellRound_59 : decode cX2_tellRound 59 = .ok (.iload 9, 2) := by decide +kernel
theorem dX2_tellRound_61 : decode cX2_tellRound 61 = .ok (.ishl, 1) := by decide +kernel
theorem dX2_tellRound_62 : decode cX2_tellRound 62 = .ok (.iconst (-1), 1) := by decide +kernel
theorem dX2_tellRound_63 : decode cX2_tellRound 63 = .ok (.ixor, 1) := by decide +kernel
theorem dX2_tellRound_64 : decode cX2_tellRound 64 = .ok (.iand, 1) := by decide +kernel
theorem dX2_tellRound_65 : decode cX2_tellRound 65 = .ok (.istore 7, 2) := by decide +kernel
theorem dX2_tellRound_67 : decode cX2_tellRound 67 = .ok (.iload_n 3, 1) := by decide +kernel
theorem dX2_tellRound_68 : decode cX2_tellRound 68 = .ok (.iload 6, 2) := by decide +kernel
theorem dX2_tellRound_70 : decode cX2_tellRound 70 = .ok (.aload 10, 2) := by decide +kernel
theorem dX2_tellRound_72 : decode cX2_tellRound 72 = .ok (.getfield 112, 3) := by decide +kernel
theorem dX2_tellRound_75 : decode cX2_tellRound 75 = .ok (.invokestatic 75, 3) := by decide +kernel
theorem dX2_tellRound_78 : decode cX2_tellRound 78 = .ok (.iadd, 1) := by decide +kernel
theorem dX2_tellRound_79 : decode cX2_tellRound 79 = .ok (.istore_n 3, 1) := by decide +kernel
theorem dX2_tellRound_80 : decode cX2_tellRound 80 = .ok (.aload 10, 2) := by decide +kernel
theorem dX2_tellRound_82 : decode cX2_tellRound 82 = .ok (.getfield 112, 3) := by decide +kernel
theorem dX2_tellRound_85 : decode cX2_tellRound 85 = .ok (.istore 6, 2) := by decide +kernel
theorem dX2_tellRound_87 : decode cX2_tellRound 87 = .ok (.aload_n 0, 1) := by decide +kernel
theorem dX2_tellRound_88 : decode cX2_tellRound 88 = .ok (.aload 10, 2) := by decide +kernel
theorem dX2_tellRound_90 : decode cX2_tellRound 90 = .ok (.invokevirtual 170, 3) := by decide +kernel
theorem dX2_tellRound_93 : decode cX2_tellRound 93 = .ok (.ifCond .ne 33, 3) := by decide +kernel
theorem dX2_tellRound_96 : decode cX2_tellRound 96 = .ok (.iload_n 3, 1) := by decide +kernel
theorem dX2_tellRound_97 : decode cX2_tellRound 97 = .ok (.iconst 0, 1) := by decide +kernel
theorem dX2_tellRound_98 : decode cX2_tellRound 98 = .ok (.invokestatic 93, 3) := by decide +kernel
theorem dX2_tellRound_101 : decode cX2_tellRound 101 = .ok (.iadd, 1) := by decide +kernel
theorem dX2_tellRound_102 : decode cX2_tellRound 102 = .ok (.istore_n 3, 1) := by decide +kernel
theorem dX2_tellRound_103 : decode cX2_tellRound 103 = .ok (.iload 4, 2) := by decide +kernel
theorem dX2_tellRound_105 : decode cX2_tellRound 105 = .ok (.aload 10, 2) := by decide +kernel
theorem dX2_tellRound_107 : decode cX2_tellRound 107 = .ok (.iconst 0, 1) := by decide +kernel
theorem dX2_tellRound_108 : decode cX2_tellRound 108 = .ok (.invokevirtual 97, 3) := by decide +kernel
theorem dX2_tellRound_111 : decode cX2_tellRound 111 = .ok (.iadd, 1) := by decide +kernel
theorem dX2_tellRound_112 : decode cX2_tellRound 112 = .ok (.istore 4, 2) := by decide +kernel
theorem dX2_tellRound_114 : decode cX2_tellRound 114 = .ok (.iload 5, 2) := by decide +kernel
theorem dX2_tellRound_116 : decode cX2_tellRound 116 = .ok (.aload_n 0, 1) := by decide +kernel
theorem dX2_tellRound_117 : decode cX2_tellRound 117 = .ok (.aload 10, 2) := by decide +kernel
theorem dX2_tellRound_119 : decode cX2_tellRound 119 = .ok (.iconst 0, 1) := by decide +kernel
theorem dX2_tellRound_120 : decode cX2_tellRound 120 = .ok (.invokevirtual 90, 3) := by decide +kernel
theorem dX2_tellRound_123 : decode cX2_tellRound 123 = .ok (.iadd, 1) := by decide +kernel
theorem dX2_tellRound_124 : decode cX2_tellRound 124 = .ok (.istore 5, 2) := by decide +kernel
theorem dX2_tellRound_126 : decode cX2_tellRound 126 = .ok (.iinc 8 1, 3) := by decide +kernel
theorem dX2_tellRound_129 : decode cX2_tellRound 129 = .ok (.goto (-109), 3) := by decide +kernel
theorem dX2_tellRound_132 : decode cX2_tellRound 132 = .ok (.iload_n 2, 1) := by decide +kernel
theorem dX2_tellRound_133 : decode cX2_tellRound 133 = .ok (.ifCond .ne 7, 3) := by decide +kernel
theorem dX2_tellRound_136 : decode cX2_tellRound 136 = .ok (.iload_n 3, 1) := by decide +kernel
theorem dX2_tellRound_137 : decode cX2_tellRound 137 = .ok (.goto 15, 3) := by decide +kernel
theorem dX2_tellRound_140 : decode cX2_tellRound 140 = .ok (.iload_n 2, 1) := by decide +kernel
theorem dX2_tellRound_141 : decode cX2_tellRound 141 = .ok (.iconst 1, 1) := by decide +kernel
theorem dX2_tellRound_142 : decode cX2_tellRound 142 = .ok (.if_icmp .ne 8, 3) := by decide +kernel
theorem dX2_tellRound_145 : decode cX2_tellRound 145 = .ok (.iload 4, 2) := by decide +kernel
theorem dX2_tellRound_147 : decode cX2_tellRound 147 = .ok (.goto 5, 3) := by decide +kernel
theorem dX2_tellRound_150 : decode cX2_tellRound 150 = .ok (.iload 5, 2) := by decide +kernel
theorem dX2_tellRound_152 : decode cX2_tellRound 152 = .ok (.ireturn, 1) := by decide +kernel
set_option maxRecDepth 20000 in
theorem ggX2_firstOnRoad_X2_find : GoodIn wsX2_firstOnRoad wsX2_find := goodIn_r _ [7, 1, 8, 9, 10, 11, 12, 13, 14, 15, 16, 17, 18, 19, 20, 21, 22, 23] (by decide +kernel) (by decide +kernel)
set_option maxRecDepth 20000 in
theorem gX2_firstOnRoad_X2_find : GoodIn wsX2_firstOnRoad (wsV RX2 61 RX2 yX2_find wsX2_find) := goodIn_app (goodIn_of _ (by decide +kernel)) ggX2_firstOnRoad_X2_find
theorem dX2_firstOnRoad_0 : decode cX2_firstOnRoad 0 = .ok (.iconst (-1), 1) := by decide +kernel
theorem dX2_firstOnRoad_1 : decode cX2_firstOnRoad 1 = .ok (.istore_n 2, 1) := by decide +kernel
theorem dX2_firstOnRoad_2 : decode cX2_firstOnRoad 2 = .ok (.bipush 100, 2) := by decide +kernel
theorem dX2_firstOnRoad_4 : decode cX2_firstOnRoad 4 = .ok (.istore_n 3, 1) := by decide +kernel
theorem dX2_firstOnRoad_5 : decode cX2_firstOnRoad 5 = .ok (.iconst 0, 1) := by decide +kernel
theorem dX2_firstOnRoad_6 : decode cX2_firstOnRoad 6 = .ok (.istore 4, 2) := by decide +kernel
theorem dX2_firstOnRoad_8 : decode cX2_firstOnRoad 8 = .ok (.iload 4, 2) := by decide +kernel
theorem dX2_firstOnRoad_10 : decode cX2_firstOnRoad 10 = .ok (.aload_n 0, 1) := by decide +kernel
theorem dX2_firstOnRoad_11 : decode cX2_firstOnRoad 11 = .ok (.getfield 37, 3) := by decide +kernel
theorem dX2_firstOnRoad_14 : decode cX2_firstOnRoad 14 = .ok (.if_icmp .ge 49, 3) := by decide +kernel
theorem dX2_firstOnRoad_17 : decode cX2_firstOnRoad 17 = .ok (.aload_n 0, 1) := by decide +kernel
theorem dX2_firstOnRoad_18 : decode cX2_firstOnRoad 18 = .ok (.iload 4, 2) := by decide +kernel
theorem dX2_firstOnRoad_20 : decode cX2_firstOnRoad 20 = .ok (.invokevirtual 61, 3) := by decide +kernel
theorem dX2_firstOnRoad_23 : decode cX2_firstOnRoad 23 = .ok (.astore 5, 2) := by decide +kernel
theorem dX2_firstOnRoad_25 : decode cX2_firstOnRoad 25 = .ok (.aload 5, 2) := by decide +kernel
theorem dX2_firstOnRoad_27 : decode cX2_firstOnRoad 27 = .ok (.ifnull 30, 3) := by decide +kernel
theorem dX2_firstOnRoad_30 : decode cX2_firstOnRoad 30 = .ok (.iload_n 1, 1) := by decide +kernel
theorem dX2_firstOnRoad_31 : decode cX2_firstOnRoad 31 = .ok (.iconst 1, 1) := by decide +kernel
theorem dX2_firstOnRoad_32 : decode cX2_firstOnRoad 32 = .ok (.iload 4, 2) := by decide +kernel
theorem dX2_firstOnRoad_34 : decode cX2_firstOnRoad 34 = .ok (.ishl, 1) := by decide +kernel
theorem dX2_firstOnRoad_35 : decode cX2_firstOnRoad 35 = .ok (.iand, 1) := by decide +kernel
theorem dX2_firstOnRoad_36 : decode cX2_firstOnRoad 36 = .ok (.ifCond .eq 21, 3) := by decide +kernel
theorem dX2_firstOnRoad_39 : decode cX2_firstOnRoad 39 = .ok (.aload 5, 2) := by decide +kernel
theorem dX2_firstOnRoad_41 : decode cX2_firstOnRoad 41 = .ok (.getfield 112, 3) := by decide +kernel
theorem dX2_firstOnRoad_44 : decode cX2_firstOnRoad 44 = .ok (.iload_n 3, 1) := by decide +kernel
theorem dX2_firstOnRoad_45 : decode cX2_firstOnRoad 45 = .ok (.if_icmp .ge 12, 3) := by decide +kernel
theorem dX2_firstOnRoad_48 : decode cX2_firstOnRoad 48 = .ok (.iload 4, 2) := by decide +kernel
theorem dX2_firstOnRoad_50 : decode cX2_firstOnRoad 50 = .ok (.istore_n 2, 1) := by decide +kernel
theorem dX2_firstOnRoad_51 : decode cX2_firstOnRoad 51 = .ok (.aload 5, 2) := by decide +kernel
theorem dX2_firstOnRoad_53 : decode cX2_firstOnRoad 53 = .ok (.getfield 112, 3) := by decide +kernel
theorem dX2_firstOnRoad_56 : decode cX2_firstOnRoad 56 = .ok (.istore_n 3, 1) := by decide +kernel
theorem dX2_firstOnRoad_57 : decode cX2_firstOnRoad 57 = .ok (.iinc 4 1, 3) := by decide +kernel
theorem dX2_firstOnRoad_60 : decode cX2_firstOnRoad 60 = .ok (.goto (-52), 3) := by decide +kernel
theorem dX2_firstOnRoad_63 : decode cX2_firstOnRoad 63 = .ok (.iload_n 2, 1) := by decide +kernel
theorem dX2_firstOnRoad_64 : decode cX2_firstOnRoad 64 = .ok (.ireturn, 1) := by decide +kernel
set_option maxRecDepth 20000 in
theorem ggX3_init_X2_init : GoodIn wsX3_init wsX2_init := goodIn_r _ [16, 17, 2, 3, 18, 19, 20, 21, 22, 23, 24, 25, 26, 27, 28, 29, 30, 36, 37, 38, 39, 40, 41, 42, 43, 44, 45, 46, 47, 48, 49, 50, 66, 67, 68, 69, 70, 71, 72, 73] (by decide +kernel) (by decide +kernel)
set_option maxRecDepth 20000 in
theorem gX3_init_X2_init : GoodIn wsX3_init (wsX2_init) := ggX3_init_X2_init
set_option maxRecDepth 20000 in
theorem ggX3_init_X0_init : GoodIn wsX3_init wsX0_init := goodIn_r _ [32, 33, 2, 3, 34, 35, 60, 61, 62, 63, 64, 65] (by decide +kernel) (by decide +kernel)
set_option maxRecDepth 20000 in
theorem gX3_init_X0_init_n25 : GoodIn wsX3_init (wsX0_init) := ggX3_init_X0_init
theorem dX3_init_0 : decode cX3_init 0 = .ok (.aload_n 0, 1) := by decide +kernel
theorem dX3_init_1 : decode cX3_init 1 = .ok (.invokespecial 3, 3) := by decide +kernel
theorem dX3_init_4 : decode cX3_init 4 = .ok (.aload_n 0, 1) := by decide +kernel
theorem dX3_init_5 : decode cX3_init 5 = .ok (.new 9, 3) := by decide +kernel
theorem dX3_init_8 : decode cX3_init 8 = .ok (.dup, 1) := by decide +kernel
theorem dX3_init_9 : decode cX3_init 9 = .ok (.invokespecial 11, 3) := by decide +kernel
theorem dX3_init_12 : decode cX3_init 12 = .ok (.putfield 12, 3) := by decide +kernel
theorem dX3_init_15 : decode cX3_init 15 = .ok (.aload_n 0, 1) := by decide +kernel
theorem dX3_init_16 : decode cX3_init 16 = .ok (.new 9, 3) := by decide +kernel
theorem dX3_init_19 : decode cX3_init 19 = .ok (.dup, 1) := by decide +kernel
theorem dX3_init_20 : decode cX3_init 20 = .ok (.invokespecial 11, 3) := by decide +kernel
theorem dX3_init_23 : decode cX3_init 23 = .ok (.putfield 16, 3) := by decide +kernel
theorem dX3_init_26 : decode cX3_init 26 = .ok (.aload_n 0, 1) := by decide +kernel
theorem dX3_init_27 : decode cX3_init 27 = .ok (.iconst 4, 1) := by decide +kernel
theorem dX3_init_28 : decode cX3_init 28 = .ok (.anewarray 9, 3) := by decide +kernel
theorem dX3_init_31 : decode cX3_init 31 = .ok (.putfield 19, 3) := by decide +kernel
theorem dX3_init_34 : decode cX3_init 34 = .ok (.aload_n 0, 1) := by decide +kernel
theorem dX3_init_35 : decode cX3_init 35 = .ok (.new 23, 3) := by decide +kernel
theorem dX3_init_38 : decode cX3_init 38 = .ok (.dup, 1) := by decide +kernel
theorem dX3_init_39 : decode cX3_init 39 = .ok (.invokespecial 25, 3) := by decide +kernel
theorem dX3_init_42 : decode cX3_init 42 = .ok (.putfield 26, 3) := by decide +kernel
theorem dX3_init_45 : decode cX3_init 45 = .ok (.iconst 0, 1) := by decide +kernel
theorem dX3_init_46 : decode cX3_init 46 = .ok (.istore_n 1, 1) := by decide +kernel
theorem dX3_init_47 : decode cX3_init 47 = .ok (.iload_n 1, 1) := by decide +kernel
theorem dX3_init_48 : decode cX3_init 48 = .ok (.aload_n 0, 1) := by decide +kernel
theorem dX3_init_49 : decode cX3_init 49 = .ok (.getfield 19, 3) := by decide +kernel
theorem dX3_init_52 : decode cX3_init 52 = .ok (.arraylength, 1) := by decide +kernel
theorem dX3_init_53 : decode cX3_init 53 = .ok (.if_icmp .ge 22, 3) := by decide +kernel
theorem dX3_init_56 : decode cX3_init 56 = .ok (.aload_n 0, 1) := by decide +kernel
theorem dX3_init_57 : decode cX3_init 57 = .ok (.getfield 19, 3) := by decide +kernel
theorem dX3_init_60 : decode cX3_init 60 = .ok (.iload_n 1, 1) := by decide +kernel
theorem dX3_init_61 : decode cX3_init 61 = .ok (.new 9, 3) := by decide +kernel
theorem dX3_init_64 : decode cX3_init 64 = .ok (.dup, 1) := by decide +kernel
theorem dX3_init_65 : decode cX3_init 65 = .ok (.invokespecial 11, 3) := by decide +kernel
theorem dX3_init_68 : decode cX3_init 68 = .ok (.aastore, 1) := by decide +kernel
theorem dX3_init_69 : decode cX3_init 69 = .ok (.iinc 1 1, 3) := by decide +kernel
theorem dX3_init_72 : decode cX3_init 72 = .ok (.goto (-25), 3) := by decide +kernel
theorem dX3_init_75 : decode cX3_init 75 = .ok (.return_, 1) := by decide +kernel
set_option maxRecDepth 20000 in
theorem ggX3_smithy_X2_copyFrom : GoodIn wsX3_smithy wsX2_copyFrom := goodIn_r _ [7, 8, 9, 10, 11, 12, 13, 14, 15, 16, 17, 18, 19, 20, 21, 22, 23, 24, 6, 25, 26, 27, 28, 29, 30, 31, 32, 33, 34, 35, 36, 37, 38, 39, 74, 75, 76, 77, 78, 79, 80, 81, 82, 83, 84, 85, 86, 87, 88, 89, 90, 91, 92, 93, 94, 95, 96] (by decide +kernel) (by decide +kernel)
set_option maxRecDepth 20000 in
theorem gX3_smithy_X2_copyFrom : GoodIn wsX3_smithy (wsV RX3 30 RX2 yX2_copyFrom wsX2_copyFrom) := goodIn_app (goodIn_of _ (by decide +kernel)) ggX3_smithy_X2_copyFrom
set_option maxRecDepth 20000 in
theorem ggX3_smithy_X2_addSmithy : GoodIn wsX3_smithy wsX2_addSmithy := goodIn_r _ [43, 44, 8, 45, 22, 23, 24, 6, 25, 26, 46, 47, 48, 30, 49, 32, 33, 34, 35, 36, 37, 38, 39, 74, 75, 76, 77, 78, 79, 80, 81, 82, 83, 84, 85, 86, 87, 88, 89, 90, 91, 92, 93, 94, 95, 96] (by decide +kernel) (by decide +kernel)
set_option maxRecDepth 20000 in
theorem gX3_smithy_X2_addSmithy : GoodIn wsX3_smithy (wsV RX3 34 RX2 yX2_addSmithy wsX2_addSmithy) := goodIn_app (goodIn_of _ (by decide +kernel)) ggX3_smithy_X2_addSmithy
set_option maxRecDepth 20000 in
theorem ggX3_smithy_X3_commit : GoodIn wsX3_smithy wsX3_commit := goodIn_r _ [54, 2, 1, 55, 56, 57, 53, 58, 59, 60, 61, 62, 63, 64, 3, 4, 5, 6, 7, 8, 9, 10, 11, 12, 13, 14, 15, 16, 17, 18, 19, 20, 21, 22, 23, 24, 25, 26, 27, 28, 29, 30, 31, 32, 33, 34, 35, 36, 37, 38, 39, 65, 66, 67, 68, 69, 70, 71, 72, 73, 74, 75, 76, 77, 78, 79, 80, 81, 82, 83, 84, 85, 86, 87, 88, 89, 90, 91, 92, 93, 94, 95, 96] (by decide +kernel) (by decide +kernel)
set_option maxRecDepth 20000 in
theorem gX3_smithy_X3_commit : GoodIn wsX3_smithy (wsV RX3 38 RX3 yX3_commit wsX3_commit) := goodIn_app (goodIn_of _ (by decide +kernel)) ggX3_smithy_X3_commit
theorem dX3_smithy_0 : decode cX3_smithy 0 = .ok (.aload_n 0, 1) := by decide +kernel
theorem dX3_smithy_1 : decode cX3_smithy 1 = .ok (.getfield 16, 3) := by decide +kernel
theorem dX3_smithy_4 : decode cX3_smithy 4 = .ok (.aload_n 0, 1) := by decide +kernel
theorem dX3_smithy_5 : decode cX3_smithy 5 = .ok (.getfield 12, 3) := by decide +kernel
theorem dX3_smithy_8 : decode cX3_smithy 8 = .ok (.invokevirtual 30, 3) := by decide +kernel
theorem dX3_smithy_11 : decode cX3_smithy 11 = .ok (.aload_n 0, 1) := by decide +kernel
theorem dX3_smithy_12 : decode cX3_smithy 12 = .ok (.aload_n 0, 1) := by decide +kernel
theorem dX3_smithy_13 : decode cX3_smithy 13 = .ok (.getfield 16, 3) := by decide +kernel
theorem dX3_smithy_16 : decode cX3_smithy 16 = .ok (.iload_n 1, 1) := by decide +kernel
theorem dX3_smithy_17 : decode cX3_smithy 17 = .ok (.iload_n 2, 1) := by decide +kernel
theorem dX3_smithy_18 : decode cX3_smithy 18 = .ok (.invokevirtual 34, 3) := by decide +kernel
theorem dX3_smithy_21 : decode cX3_smithy 21 = .ok (.invokevirtual 38, 3) := by decide +kernel
theorem dX3_smithy_24 : decode cX3_smithy 24 = .ok (.ireturn, 1) := by decide +kernel
set_option maxRecDepth 20000 in
theorem ggX3_walk_X2_copyFrom : GoodIn wsX3_walk wsX2_copyFrom := goodIn_r _ [7, 8, 9, 10, 11, 12, 13, 14, 15, 16, 17, 18, 19, 20, 21, 22, 23, 24, 6, 25, 26, 27, 28, 29, 30, 31, 32, 33, 34, 35, 36, 37, 38, 39, 80, 81, 82, 83, 84, 85, 86, 87, 88, 89, 90, 91, 92, 93, 94, 95, 96, 97, 98, 99, 100, 101, 102] (by decide +kernel) (by decide +kernel)
set_option maxRecDepth 20000 in
theorem gX3_walk_X2_copyFrom : GoodIn wsX3_walk (wsV RX3 30 RX2 yX2_copyFrom wsX2_copyFrom) := goodIn_app (goodIn_of _ (by decide +kernel)) ggX3_walk_X2_copyFrom
set_option maxRecDepth 20000 in
theorem ggX3_walk_X2_walkTo : GoodIn wsX3_walk wsX2_walkTo := goodIn_r _ [43, 44, 14, 15, 45, 21, 46, 47, 48, 49, 50, 51, 52, 53, 54, 55, 56, 80, 81, 82, 83, 84, 85, 86, 87, 88, 89, 90, 91, 92, 93, 94] (by decide +kernel) (by decide +kernel)
set_option maxRecDepth 20000 in
theorem gX3_walk_X2_walkTo : GoodIn wsX3_walk (wsV RX3 42 RX2 yX2_walkTo wsX2_walkTo) := goodIn_app (goodIn_of _ (by decide +kernel)) ggX3_walk_X2_walkTo
set_option maxRecDepth 20000 in
theorem ggX3_walk_X3_commit : GoodIn wsX3_walk wsX3_commit := goodIn_r _ [60, 2, 1, 61, 62, 63, 51, 64, 65, 66, 67, 68, 69, 70, 3, 4, 5, 6, 7, 8, 9, 10, 11, 12, 13, 14, 15, 16, 17, 18, 19, 20, 21, 22, 23, 24, 25, 26, 27, 28, 29, 30, 31, 32, 33, 34, 35, 36, 37, 38, 39, 71, 72, 73, 74, 75, 76, 77, 78, 79, 80, 81, 82, 83, 84, 85, 86, 87, 88, 89, 90, 91, 92, 93, 94, 95, 96, 97, 98, 99, 100, 101, 102] (by decide +kernel) (by decide +kernel)
set_option maxRecDepth 20000 in
theorem gX3_walk_X3_commit : GoodIn wsX3_walk (wsV RX3 38 RX3 yX3_commit wsX3_commit) := goodIn_app (goodIn_of _ (by decide +kernel)) ggX3_walk_X3_commit
theorem dX3_walk_0 : decode cX3_walk 0 = .ok (.aload_n 0, 1) := by decide +kernel
theorem dX3_walk_1 : decode cX3_walk 1 = .ok (.getfield 16, 3) := by decide +kernel
theorem dX3_walk_4 : decode cX3_walk 4 = .ok (.aload_n 0, 1) := by decide +kernel
theorem dX3_walk_5 : decode cX3_walk 5 = .ok (.getfield 12, 3) := by decide +kernel
theorem dX3_walk_8 : decode cX3_walk 8 = .ok (.invokevirtual 30, 3) := by decide +kernel
theorem dX3_walk_11 : decode cX3_walk 11 = .ok (.aload_n 0, 1) := by decide +kernel
theorem dX3_walk_12 : decode cX3_walk 12 = .ok (.aload_n 0, 1) := by decide +kernel
theorem dX3_walk_13 : decode cX3_walk 13 = .ok (.getfield 16, 3) := by decide +kernel
theorem dX3_walk_16 : decode cX3_walk 16 = .ok (.iload_n 1, 1) := by decide +kernel
theorem dX3_walk_17 : decode cX3_walk 17 = .ok (.invokevirtual 42, 3) := by decide +kernel
theorem dX3_walk_20 : decode cX3_walk 20 = .ok (.invokevirtual 38, 3) := by decide +kernel
theorem dX3_walk_23 : decode cX3_walk 23 = .ok (.ireturn, 1) := by decide +kernel
set_option maxRecDepth 20000 in
theorem ggX3_buy_X2_copyFrom : GoodIn wsX3_buy wsX2_copyFrom := goodIn_r _ [7, 8, 9, 10, 11, 12, 13, 14, 15, 16, 17, 18, 19, 20, 21, 22, 23, 24, 6, 25, 26, 27, 28, 29, 30, 31, 32, 33, 34, 35, 36, 37, 38, 39, 71, 72, 73, 74, 75, 76, 77, 78, 79, 80, 81, 82, 83, 84, 85, 86, 87, 88, 89, 90, 91, 92, 93] (by decide +kernel) (by decide +kernel)
set_option maxRecDepth 20000 in
theorem gX3_buy_X2_copyFrom : GoodIn wsX3_buy (wsV RX3 30 RX2 yX2_copyFrom wsX2_copyFrom) := goodIn_app (goodIn_of _ (by decide +kernel)) ggX3_buy_X2_copyFrom
set_option maxRecDepth 20000 in
theorem ggX3_buy_X2_buyLeather : GoodIn wsX3_buy wsX2_buyLeather := goodIn_r _ [43, 44, 14, 45, 16, 46, 17, 18, 71, 72, 73, 74, 75, 76, 77, 78, 79, 80, 81, 82, 83, 84, 85] (by decide +kernel) (by decide +kernel)
set_option maxRecDepth 20000 in
theorem gX3_buy_X2_buyLeather : GoodIn wsX3_buy (wsV RX3 45 RX2 yX2_buyLeather wsX2_buyLeather) := goodIn_app (goodIn_of _ (by decide +kernel)) ggX3_buy_X2_buyLeather
set_option maxRecDepth 20000 in
theorem ggX3_buy_X3_commit : GoodIn wsX3_buy wsX3_commit := goodIn_r _ [51, 2, 1, 52, 53, 54, 50, 55, 56, 57, 58, 59, 60, 61, 3, 4, 5, 6, 7, 8, 9, 10, 11, 12, 13, 14, 15, 16, 17, 18, 19, 20, 21, 22, 23, 24, 25, 26, 27, 28, 29, 30, 31, 32, 33, 34, 35, 36, 37, 38, 39, 62, 63, 64, 65, 66, 67, 68, 69, 70, 71, 72, 73, 74, 75, 76, 77, 78, 79, 80, 81, 82, 83, 84, 85, 86, 87, 88, 89, 90, 91, 92, 93] (by decide +kernel) (by decide +kernel)
set_option maxRecDepth 20000 in
theorem gX3_buy_X3_commit : GoodIn wsX3_buy (wsV RX3 38 RX3 yX3_commit wsX3_commit) := goodIn_app (goodIn_of _ (by decide +kernel)) ggX3_buy_X3_commit
theorem dX3_buy_0 : decode cX3_buy 0 = .ok (.aload_n 0, 1) := by decide +kernel
theorem dX3_buy_1 : decode cX3_buy 1 = .ok (.getfield 16, 3) := by decide +kernel
theorem dX3_buy_4 : decode cX3_buy 4 = .ok (.aload_n 0, 1) := by decide +kernel
theorem dX3_buy_5 : decode cX3_buy 5 = .ok (.getfield 12, 3) := by decide +kernel
theorem dX3_buy_8 : decode cX3_buy 8 = .ok (.invokevirtual 30, 3) := by decide +kernel
theorem dX3_buy_11 : decode cX3_buy 11 = .ok (.aload_n 0, 1) := by decide +kernel
theorem dX3_buy_12 : decode cX3_buy 12 = .ok (.aload_n 0, 1) := by decide +kernel
theorem dX3_buy_13 : decode cX3_buy 13 = .ok (.getfield 16, 3) := by decide +kernel
theorem dX3_buy_16 : decode cX3_buy 16 = .ok (.iload_n 1, 1) := by decide +kernel
theorem dX3_buy_17 : decode cX3_buy 17 = .ok (.invokevirtual 45, 3) := by decide +kernel
theorem dX3_buy_20 : decode cX3_buy 20 = .ok (.invokevirtual 38, 3) := by decide +kernel
theorem dX3_buy_23 : decode cX3_buy 23 = .ok (.ireturn, 1) := by decide +kernel
set_option maxRecDepth 20000 in
theorem ggX3_patch_X2_copyFrom : GoodIn wsX3_patch wsX2_copyFrom := goodIn_r _ [7, 8, 9, 10, 11, 12, 13, 14, 15, 16, 17, 18, 19, 20, 21, 22, 23, 24, 6, 25, 26, 27, 28, 29, 30, 31, 32, 33, 34, 35, 36, 37, 38, 39, 98, 99, 100, 101, 102, 103, 104, 105, 106, 107, 108, 109, 110, 111, 112, 113, 114, 115, 116, 117, 118, 119, 120] (by decide +kernel) (by decide +kernel)
set_option maxRecDepth 20000 in
theorem gX3_patch_X2_copyFrom : GoodIn wsX3_patch (wsV RX3 30 RX2 yX2_copyFrom wsX2_copyFrom) := goodIn_app (goodIn_of _ (by decide +kernel)) ggX3_patch_X2_copyFrom
set_option maxRecDepth 20000 in
theorem ggX3_patch_X2_mendBellows : GoodIn wsX3_patch wsX2_mendBellows := goodIn_r _ [43, 44, 45, 15, 16, 19, 46, 47, 48, 22, 23, 24, 6, 25, 8, 26, 49, 50, 51, 52, 53, 14, 54, 55, 56, 57, 58, 59, 30, 60, 33, 34, 61, 62, 63, 64, 65, 66, 12, 67, 68, 69, 70, 11, 71, 72, 73, 74, 98, 99, 100, 101, 102, 103, 104, 105, 106, 107, 108, 109, 110, 111, 112, 113, 114, 115, 116, 117, 118, 119, 120] (by decide +kernel) (by decide +kernel)
set_option maxRecDepth 20000 in
theorem gX3_patch_X2_mendBellows : GoodIn wsX3_patch (wsV RX3 48 RX2 yX2_mendBellows wsX2_mendBellows) := goodIn_app (goodIn_of _ (by decide +kernel)) ggX3_patch_X2_mendBellows
set_option maxRecDepth 20000 in
theorem ggX3_patch_X3_commit : GoodIn wsX3_patch wsX3_commit := goodIn_r _ [78, 2, 1, 79, 80, 81, 55, 82, 83, 84, 85, 86, 87, 88, 3, 4, 5, 6, 7, 8, 9, 10, 11, 12, 13, 14, 15, 16, 17, 18, 19, 20, 21, 22, 23, 24, 25, 26, 27, 28, 29, 30, 31, 32, 33, 34, 35, 36, 37, 38, 39, 89, 90, 91, 92, 93, 94, 95, 96, 97, 98, 99, 100, 101, 102, 103, 104, 105, 106, 107, 108, 109, 110, 111, 112, 113, 114, 115, 116, 117, 118, 119, 120] (by decide +kernel) (by decide +kernel)
set_option maxRecDepth 20000 in
theorem gX3_patch_X3_commit : GoodIn wsX3_patch (wsV RX3 38 RX3 yX3_commit wsX3_commit) := goodIn_app (goodIn_of _ (by decide +kernel)) ggX3_patch_X3_commit
theorem dX3_patch_0 : decode cX3_patch 0 = .ok (.aload_n 0, 1) := by decide +kernel
theorem dX3_patch_1 : decode cX3_patch 1 = .ok (.getfield 16, 3) := by decide +kernel
theorem dX3_patch_4 : decode cX3_patch 4 = .ok (.aload_n 0, 1) := by decide +kernel
theorem dX3_patch_5 : decode cX3_patch 5 = .ok (.getfield 12, 3) := by decide +kernel
theorem dX3_patch_8 : decode cX3_patch 8 = .ok (.invokevirtual 30, 3) := by decide +kernel
theorem dX3_patch_11 : decode cX3_patch 11 = .ok (.aload_n 0, 1) := by decide +kernel
theorem dX3_patch_12 : decode cX3_patch 12 = .ok (.aload_n 0, 1) := by decide +kernel
theorem dX3_patch_13 : decode cX3_patch 13 = .ok (.getfield 16, 3) := by decide +kernel
theorem dX3_patch_16 : decode cX3_patch 16 = .ok (.iload_n 1, 1) := by decide +kernel
theorem dX3_patch_17 : decode cX3_patch 17 = .ok (.iconst 0, 1) := by decide +kernel
theorem dX3_patch_18 : decode cX3_patch 18 = .ok (.invokevirtual 48, 3) := by decide +kernel
theorem dX3_patch_21 : decode cX3_patch 21 = .ok (.invokevirtual 38, 3) := by decide +kernel
theorem dX3_patch_24 : decode cX3_patch 24 = .ok (.ireturn, 1) := by decide +kernel
set_option maxRecDepth 20000 in
theorem ggX3_hide_X2_copyFrom : GoodIn wsX3_hide wsX2_copyFrom := goodIn_r _ [7, 8, 9, 10, 11, 12, 13, 14, 15, 16, 17, 18, 19, 20, 21, 22, 23, 24, 6, 25, 26, 27, 28, 29, 30, 31, 32, 33, 34, 35, 36, 37, 38, 39, 98, 99, 100, 101, 102, 103, 104, 105, 106, 107, 108, 109, 110, 111, 112, 113, 114, 115, 116, 117, 118, 119, 120] (by decide +kernel) (by decide +kernel)
set_option maxRecDepth 20000 in
theorem gX3_hide_X2_copyFrom : GoodIn wsX3_hide (wsV RX3 30 RX2 yX2_copyFrom wsX2_copyFrom) := goodIn_app (goodIn_of _ (by decide +kernel)) ggX3_hide_X2_copyFrom
set_option maxRecDepth 20000 in
theorem ggX3_hide_X2_mendBellows : GoodIn wsX3_hide wsX2_mendBellows := goodIn_r _ [43, 44, 45, 15, 16, 19, 46, 47, 48, 22, 23, 24, 6, 25, 8, 26, 49, 50, 51, 52, 53, 14, 54, 55, 56, 57, 58, 59, 30, 60, 33, 34, 61, 62, 63, 64, 65, 66, 12, 67, 68, 69, 70, 11, 71, 72, 73, 74, 98, 99, 100, 101, 102, 103, 104, 105, 106, 107, 108, 109, 110, 111, 112, 113, 114, 115, 116, 117, 118, 119, 120] (by decide +kernel) (by decide +kernel)
set_option maxRecDepth 20000 in
theorem gX3_hide_X2_mendBellows : GoodIn wsX3_hide (wsV RX3 48 RX2 yX2_mendBellows wsX2_mendBellows) := goodIn_app (goodIn_of _ (by decide +kernel)) ggX3_hide_X2_mendBellows
set_option maxRecDepth 20000 in
theorem ggX3_hide_X3_commit : GoodIn wsX3_hide wsX3_commit := goodIn_r _ [78, 2, 1, 79, 80, 81, 55, 82, 83, 84, 85, 86, 87, 88, 3, 4, 5, 6, 7, 8, 9, 10, 11, 12, 13, 14, 15, 16, 17, 18, 19, 20, 21, 22, 23, 24, 25, 26, 27, 28, 29, 30, 31, 32, 33, 34, 35, 36, 37, 38, 39, 89, 90, 91, 92, 93, 94, 95, 96, 97, 98, 99, 100, 101, 102, 103, 104, 105, 106, 107, 108, 109, 110, 111, 112, 113, 114, 115, 116, 117, 118, 119, 120] (by decide +kernel) (by decide +kernel)
set_option maxRecDepth 20000 in
theorem gX3_hide_X3_commit : GoodIn wsX3_hide (wsV RX3 38 RX3 yX3_commit wsX3_commit) := goodIn_app (goodIn_of _ (by decide +kernel)) ggX3_hide_X3_commit
theorem dX3_hide_0 : decode cX3_hide 0 = .ok (.aload_n 0, 1) := by decide +kernel
theorem dX3_hide_1 : decode cX3_hide 1 = .ok (.getfield 16, 3) := by decide +kernel
theorem dX3_hide_4 : decode cX3_hide 4 = .ok (.aload_n 0, 1) := by decide +kernel
theorem dX3_hide_5 : decode cX3_hide 5 = .ok (.getfield 12, 3) := by decide +kernel
theorem dX3_hide_8 : decode cX3_hide 8 = .ok (.invokevirtual 30, 3) := by decide +kernel
theorem dX3_hide_11 : decode cX3_hide 11 = .ok (.aload_n 0, 1) := by decide +kernel
theorem dX3_hide_12 : decode cX3_hide 12 = .ok (.aload_n 0, 1) := by decide +kernel
theorem dX3_hide_13 : decode cX3_hide 13 = .ok (.getfield 16, 3) := by decide +kernel
theorem dX3_hide_16 : decode cX3_hide 16 = .ok (.iload_n 1, 1) := by decide +kernel
theorem dX3_hide_17 : decode cX3_hide 17 = .ok (.iconst 1, 1) := by decide +kernel
theorem dX3_hide_18 : decode cX3_hide 18 = .ok (.invokevirtual 48, 3) := by decide +kernel
theorem dX3_hide_21 : decode cX3_hide 21 = .ok (.invokevirtual 38, 3) := by decide +kernel
theorem dX3_hide_24 : decode cX3_hide 24 = .ok (.ireturn, 1) := by decide +kernel
set_option maxRecDepth 20000 in
theorem ggX3_collect_X2_copyFrom : GoodIn wsX3_collect wsX2_copyFrom := goodIn_r _ [7, 8, 9, 10, 11, 12, 13, 14, 15, 16, 17, 18, 19, 20, 21, 22, 23, 24, 6, 25, 26, 27, 28, 29, 30, 31, 32, 33, 34, 35, 36, 37, 38, 39, 78, 79, 80, 81, 82, 83, 84, 85, 86, 87, 88, 89, 90, 91, 92, 93, 94, 95, 96, 97, 98, 99, 100] (by decide +kernel) (by decide +kernel)
set_option maxRecDepth 20000 in
theorem gX3_collect_X2_copyFrom : GoodIn wsX3_collect (wsV RX3 30 RX2 yX2_copyFrom wsX2_copyFrom) := goodIn_app (goodIn_of _ (by decide +kernel)) ggX3_collect_X2_copyFrom
set_option maxRecDepth 20000 in
theorem ggX3_collect_X2_collectDebt : GoodIn wsX3_collect wsX2_collectDebt := goodIn_r _ [43, 44, 45, 14, 46, 47, 48, 49, 17, 22, 23, 24, 6, 25, 8, 26, 50, 51, 52, 53, 9, 93, 94, 95, 96, 97, 98, 99, 100, 78, 79, 80, 81, 82, 83, 84, 85, 86, 87, 88, 89, 90, 91, 92] (by decide +kernel) (by decide +kernel)
set_option maxRecDepth 20000 in
theorem gX3_collect_X2_collectDebt : GoodIn wsX3_collect (wsV RX3 52 RX2 yX2_collectDebt wsX2_collectDebt) := goodIn_app (goodIn_of _ (by decide +kernel)) ggX3_collect_X2_collectDebt
set_option maxRecDepth 20000 in
theorem ggX3_collect_X3_commit : GoodIn wsX3_collect wsX3_commit := goodIn_r _ [58, 2, 1, 59, 60, 61, 57, 62, 63, 64, 65, 66, 67, 68, 3, 4, 5, 6, 7, 8, 9, 10, 11, 12, 13, 14, 15, 16, 17, 18, 19, 20, 21, 22, 23, 24, 25, 26, 27, 28, 29, 30, 31, 32, 33, 34, 35, 36, 37, 38, 39, 69, 70, 71, 72, 73, 74, 75, 76, 77, 78, 79, 80, 81, 82, 83, 84, 85, 86, 87, 88, 89, 90, 91, 92, 93, 94, 95, 96, 97, 98, 99, 100] (by decide +kernel) (by decide +kernel)
set_option maxRecDepth 20000 in
theorem gX3_collect_X3_commit : GoodIn wsX3_collect (wsV RX3 38 RX3 yX3_commit wsX3_commit) := goodIn_app (goodIn_of _ (by decide +kernel)) ggX3_collect_X3_commit
theorem dX3_collect_0 : decode cX3_collect 0 = .ok (.aload_n 0, 1) := by decide +kernel
theorem dX3_collect_1 : decode cX3_collect 1 = .ok (.getfield 16, 3) := by decide +kernel
theorem dX3_collect_4 : decode cX3_collect 4 = .ok (.aload_n 0, 1) := by decide +kernel
theorem dX3_collect_5 : decode cX3_collect 5 = .ok (.getfield 12, 3) := by decide +kernel
theorem dX3_collect_8 : decode cX3_collect 8 = .ok (.invokevirtual 30, 3) := by decide +kernel
theorem dX3_collect_11 : decode cX3_collect 11 = .ok (.aload_n 0, 1) := by decide +kernel
theorem dX3_collect_12 : decode cX3_collect 12 = .ok (.aload_n 0, 1) := by decide +kernel
theorem dX3_collect_13 : decode cX3_collect 13 = .ok (.getfield 16, 3) := by decide +kernel
theorem dX3_collect_16 : decode cX3_collect 16 = .ok (.iload_n 1, 1) := by decide +kernel
theorem dX3_collect_17 : decode cX3_collect 17 = .ok (.invokevirtual 52, 3) := by decide +kernel
theorem dX3_collect_20 : decode cX3_collect 20 = .ok (.invokevirtual 38, 3) := by decide +kernel
theorem dX3_collect_23 : decode cX3_collect 23 = .ok (.ireturn, 1) := by decide +kernel
set_option maxRecDepth 20000 in
theorem ggX3_end_X2_copyFrom : GoodIn wsX3_end wsX2_copyFrom := goodIn_r _ [7, 8, 9, 10, 11, 12, 13, 14, 15, 16, 17, 18, 19, 20, 21, 22, 23, 24, 6, 25, 26, 27, 28, 29, 30, 31, 32, 33, 34, 35, 36, 37, 38, 39, 108, 109, 110, 111, 112, 113, 114, 115, 116, 117, 118, 119, 120, 121, 122, 123, 124, 125, 126, 127, 128, 129, 130] (by decide +kernel) (by decide +kernel)
set_option maxRecDepth 20000 in
theorem gX3_end_X2_copyFrom : GoodIn wsX3_end (wsV RX3 30 RX2 yX2_copyFrom wsX2_copyFrom) := goodIn_app (goodIn_of _ (by decide +kernel)) ggX3_end_X2_copyFrom
set_option maxRecDepth 20000 in
theorem ggX3_end_X2_endDays : GoodIn wsX3_end wsX2_endDays := goodIn_r _ [43, 44, 13, 45, 8, 10, 15, 22, 23, 24, 6, 25, 26, 46, 47, 48, 49, 50, 51, 52, 53, 20, 54, 55, 56, 57, 58, 59, 60, 61, 62, 63, 64, 65, 66, 67, 68, 69, 70, 71, 72, 73, 9, 74, 75, 76, 77, 78, 79, 80, 81, 82, 83, 84, 108, 109, 110, 111, 112, 113, 114, 115, 116, 117, 118, 119, 120, 121, 122, 123, 124, 125, 126, 127, 128, 129, 130] (by decide +kernel) (by decide +kernel)
set_option maxRecDepth 20000 in
theorem gX3_end_X2_endDays : GoodIn wsX3_end (wsV RX3 55 RX2 yX2_endDays wsX2_endDays) := goodIn_app (goodIn_of _ (by decide +kernel)) ggX3_end_X2_endDays
set_option maxRecDepth 20000 in
theorem ggX3_end_X3_commit : GoodIn wsX3_end wsX3_commit := goodIn_r _ [88, 2, 1, 89, 90, 91, 59, 92, 93, 94, 95, 96, 97, 98, 3, 4, 5, 6, 7, 8, 9, 10, 11, 12, 13, 14, 15, 16, 17, 18, 19, 20, 21, 22, 23, 24, 25, 26, 27, 28, 29, 30, 31, 32, 33, 34, 35, 36, 37, 38, 39, 99, 100, 101, 102, 103, 104, 105, 106, 107, 108, 109, 110, 111, 112, 113, 114, 115, 116, 117, 118, 119, 120, 121, 122, 123, 124, 125, 126, 127, 128, 129, 130] (by decide +kernel) (by decide +kernel)
set_option maxRecDepth 20000 in
theorem gX3_end_X3_commit : GoodIn wsX3_end (wsV RX3 38 RX3 yX3_commit wsX3_commit) := goodIn_app (goodIn_of _ (by decide +kernel)) ggX3_end_X3_commit
theorem dX3_end_0 : decode cX3_end 0 = .ok (.aload_n 0, 1) := by decide +kernel
theorem dX3_end_1 : decode cX3_end 1 = .ok (.getfield 16, 3) := by decide +kernel
theorem dX3_end_4 : decode cX3_end 4 = .ok (.aload_n 0, 1) := by decide +kernel
theorem dX3_end_5 : decode cX3_end 5 = .ok (.getfield 12, 3) := by decide +kernel
theorem dX3_end_8 : decode cX3_end 8 = .ok (.invokevirtual 30, 3) := by decide +kernel
theorem dX3_end_11 : decode cX3_end 11 = .ok (.aload_n 0, 1) := by decide +kernel
theorem dX3_end_12 : decode cX3_end 12 = .ok (.aload_n 0, 1) := by decide +kernel
theorem dX3_end_13 : decode cX3_end 13 = .ok (.getfield 16, 3) := by decide +kernel
theorem dX3_end_16 : decode cX3_end 16 = .ok (.iload_n 1, 1) := by decide +kernel
theorem dX3_end_17 : decode cX3_end 17 = .ok (.invokevirtual 55, 3) := by decide +kernel
theorem dX3_end_20 : decode cX3_end 20 = .ok (.invokevirtual 38, 3) := by decide +kernel
theorem dX3_end_23 : decode cX3_end 23 = .ok (.ireturn, 1) := by decide +kernel
set_option maxRecDepth 20000 in
theorem ggX3_set_X2_copyFrom : GoodIn wsX3_set wsX2_copyFrom := goodIn_r _ [7, 8, 9, 10, 11, 12, 13, 14, 15, 16, 17, 18, 19, 20, 21, 22, 23, 24, 6, 25, 26, 27, 28, 29, 30, 31, 32, 33, 34, 35, 36, 37, 38, 39, 72, 73, 74, 75, 76, 77, 78, 79, 80, 81, 82, 83, 84, 85, 86, 87, 88, 89, 90, 91, 92, 93, 94] (by decide +kernel) (by decide +kernel)
set_option maxRecDepth 20000 in
theorem gX3_set_X2_copyFrom : GoodIn wsX3_set (wsV RX3 30 RX2 yX2_copyFrom wsX2_copyFrom) := goodIn_app (goodIn_of _ (by decide +kernel)) ggX3_set_X2_copyFrom
set_option maxRecDepth 20000 in
theorem ggX3_set_X2_changeSetting : GoodIn wsX3_set wsX2_changeSetting := goodIn_r _ [43, 44, 9, 10, 11, 12, 45, 46, 6, 47, 72, 73, 74, 75, 76, 77, 78, 79, 80, 81, 82, 83, 84, 85, 86] (by decide +kernel) (by decide +kernel)
set_option maxRecDepth 20000 in
theorem gX3_set_X2_changeSetting : GoodIn wsX3_set (wsV RX3 58 RX2 yX2_changeSetting wsX2_changeSetting) := goodIn_app (goodIn_of _ (by decide +kernel)) ggX3_set_X2_changeSetting
set_option maxRecDepth 20000 in
theorem ggX3_set_X3_commit : GoodIn wsX3_set wsX3_commit := goodIn_r _ [52, 2, 1, 53, 54, 55, 51, 56, 57, 58, 59, 60, 61, 62, 3, 4, 5, 6, 7, 8, 9, 10, 11, 12, 13, 14, 15, 16, 17, 18, 19, 20, 21, 22, 23, 24, 25, 26, 27, 28, 29, 30, 31, 32, 33, 34, 35, 36, 37, 38, 39, 63, 64, 65, 66, 67, 68, 69, 70, 71, 72, 73, 74, 75, 76, 77, 78, 79, 80, 81, 82, 83, 84, 85, 86, 87, 88, 89, 90, 91, 92, 93, 94] (by decide +kernel) (by decide +kernel)
set_option maxRecDepth 20000 in
theorem gX3_set_X3_commit : GoodIn wsX3_set (wsV RX3 38 RX3 yX3_commit wsX3_commit) := goodIn_app (goodIn_of _ (by decide +kernel)) ggX3_set_X3_commit
theorem dX3_set_0 : decode cX3_set 0 = .ok (.aload_n 0, 1) := by decide +kernel
theorem dX3_set_1 : decode cX3_set 1 = .ok (.getfield 16, 3) := by decide +kernel
theorem dX3_set_4 : decode cX3_set 4 = .ok (.aload_n 0, 1) := by decide +kernel
theorem dX3_set_5 : decode cX3_set 5 = .ok (.getfield 12, 3) := by decide +kernel
theorem dX3_set_8 : decode cX3_set 8 = .ok (.invokevirtual 30, 3) := by decide +kernel
theorem dX3_set_11 : decode cX3_set 11 = .ok (.aload_n 0, 1) := by decide +kernel
theorem dX3_set_12 : decode cX3_set 12 = .ok (.aload_n 0, 1) := by decide +kernel
theorem dX3_set_13 : decode cX3_set 13 = .ok (.getfield 16, 3) := by decide +kernel
theorem dX3_set_16 : decode cX3_set 16 = .ok (.iload_n 1, 1) := by decide +kernel
theorem dX3_set_17 : decode cX3_set 17 = .ok (.iload_n 2, 1) := by decide +kernel
theorem dX3_set_18 : decode cX3_set 18 = .ok (.invokevirtual 58, 3) := by decide +kernel
theorem dX3_set_21 : decode cX3_set 21 = .ok (.invokevirtual 38, 3) := by decide +kernel
theorem dX3_set_24 : decode cX3_set 24 = .ok (.ireturn, 1) := by decide +kernel
set_option maxRecDepth 20000 in
theorem ggX3_smithyOf_X2_find : GoodIn wsX3_smithyOf wsX2_find := goodIn_r _ [16, 17, 18, 55, 56, 57, 58, 59, 60, 61, 62, 63, 64, 65, 66, 67, 68, 69] (by decide +kernel) (by decide +kernel)
set_option maxRecDepth 20000 in
theorem gX3_smithyOf_X2_find : GoodIn wsX3_smithyOf (wsV RX3 61 RX2 yX2_find wsX2_find) := goodIn_app (goodIn_of _ (by decide +kernel)) ggX3_smithyOf_X2_find
set_option maxRecDepth 20000 in
theorem ggX3_smithyOf_X3_leakOf : GoodIn wsX3_smithyOf wsX3_leakOf := goodIn_r _ [22] (by decide +kernel) (by decide +kernel)
set_option maxRecDepth 20000 in
theorem gX3_smithyOf_X3_leakOf : GoodIn wsX3_smithyOf (va_wsS RX3 78 yX3_leakOf wsX3_leakOf) := goodIn_app (goodIn_of _ (by decide +kernel)) ggX3_smithyOf_X3_leakOf
set_option maxRecDepth 20000 in
theorem ggX3_smithyOf_X2_isCold : GoodIn wsX3_smithyOf wsX2_isCold := goodIn_r _ [26, 27, 55, 56, 57, 58, 59, 60, 61, 62, 63, 64, 65, 66, 67, 68, 69] (by decide +kernel) (by decide +kernel)
set_option maxRecDepth 20000 in
theorem gX3_smithyOf_X2_isCold : GoodIn wsX3_smithyOf (wsV RX3 84 RX2 yX2_isCold wsX2_isCold) := goodIn_app (goodIn_of _ (by decide +kernel)) ggX3_smithyOf_X2_isCold
set_option maxRecDepth 20000 in
theorem ggX3_smithyOf_X3_hoursOfWay : GoodIn wsX3_smithyOf wsX3_hoursOfWay := goodIn_r _ [30, 31, 32, 33, 34, 35, 36, 21, 37] (by decide +kernel) (by decide +kernel)
set_option maxRecDepth 20000 in
theorem gX3_smithyOf_X3_hoursOfWay : GoodIn wsX3_smithyOf (va_wsS RX3 101 yX3_hoursOfWay wsX3_hoursOfWay) := goodIn_app (goodIn_of _ (by decide +kernel)) ggX3_smithyOf_X3_hoursOfWay
theorem dX3_smithyOf_0 : decode cX3_smithyOf 0 = .ok (.aload_n 0, 1) := by decide +kernel
theorem dX3_smithyOf_1 : decode cX3_smithyOf 1 = .ok (.getfield 12, 3) := by decide +kernel
theorem dX3_smithyOf_4 : decode cX3_smithyOf 4 = .ok (.iload_n 1, 1) := by decide +kernel
theorem dX3_smithyOf_5 : decode cX3_smithyOf 5 = .ok (.invokevirtual 61, 3) := by decide +kernel
theorem dX3_smithyOf_8 : decode cX3_smithyOf 8 = .ok (.astore_n 3, 1) := by decide +kernel
theorem dX3_smithyOf_9 : decode cX3_smithyOf 9 = .ok (.aload_n 3, 1) := by decide +kernel
theorem dX3_smithyOf_10 : decode cX3_smithyOf 10 = .ok (.ifnonnull 6, 3) := by decide +kernel
theorem dX3_smithyOf_13 : decode cX3_smithyOf 13 = .ok (.ldc 65, 2) := by decide +kernel
theorem dX3_smithyOf_15 : decode cX3_smithyOf 15 = .ok (.ireturn, 1) := by decide +kernel
theorem dX3_smithyOf_16 : decode cX3_smithyOf 16 = .ok (.iload_n 2, 1) := by decide +kernel
theorem dX3_smithyOf_17 : decode cX3_smithyOf 17 = .ok (.tableswitch 142 0 10 #[59, 64, 69, 74, 82, 87, 107, 112, 117, 122, 127], 59) := by decide +kernel
theorem dX3_smithyOf_76 : decode cX3_smithyOf 76 = .ok (.aload_n 3, 1) := by decide +kernel
theorem dX3_smithyOf_77 : decode cX3_smithyOf 77 = .ok (.getfield 66, 3) := by decide +kernel
theorem dX3_smithyOf_80 : decode cX3_smithyOf 80 = .ok (.ireturn, 1) := by decide +kernel
theorem dX3_smithyOf_81 : decode cX3_smithyOf 81 = .ok (.aload_n 3, 1) := by decide +kernel
theorem dX3_smithyOf_82 : decode cX3_smithyOf 82 = .ok (.getfield 72, 3) := by decide +kernel
theorem dX3_smithyOf_85 : decode cX3_smithyOf 85 = .ok (.ireturn, 1) := by decide +kernel
theorem dX3_smithyOf_86 : decode cX3_smithyOf 86 = .ok (.aload_n 3, 1) := by decide +kernel
theorem dX3_smithyOf_87 : decode cX3_smithyOf 87 = .ok (.getfield 75, 3) := by decide +kernel
theorem dX3_smithyOf_90 : decode cX3_smithyOf 90 = .ok (.ireturn, 1) := by decide +kernel
theorem dX3_smithyOf_91 : decode cX3_smithyOf 91 = .ok (.aload_n 3, 1) := by decide +kernel
theorem dX3_smithyOf_92 : decode cX3_smithyOf 92 = .ok (.getfield 75, 3) := by decide +kernel
theorem dX3_smithyOf_95 : decode cX3_smithyOf 95 = .ok (.invokestatic 78, 3) := by decide +kernel
theorem dX3_smithyOf_98 : decode cX3_smithyOf 98 = .ok (.ireturn, 1) := by decide +kernel
theorem dX3_smithyOf_99 : decode cX3_smithyOf 99 = .ok (.aload_n 3, 1) := by decide +kernel
theorem dX3_smithyOf_100 : decode cX3_smithyOf 100 = .ok (.getfield 81, 3) := by decide +kernel
theorem dX3_smithyOf_103 : decode cX3_smithyOf 103 = .ok (.ireturn, 1) := by decide +kernel
theorem dX3_smithyOf_104 : decode cX3_smithyOf 104 = .ok (.aload_n 0, 1) := by decide +kernel
theorem dX3_smithyOf_105 : decode cX3_smithyOf 105 = .ok (.getfield 12, 3) := by decide +kernel
theorem dX3_smithyOf_108 : decode cX3_smithyOf 108 = .ok (.aload_n 3, 1) := by decide +kernel
theorem dX3_smithyOf_109 : decode cX3_smithyOf 109 = .ok (.getfield 81, 3) := by decide +kernel
theorem dX3_smithyOf_112 : decode cX3_smithyOf 112 = .ok (.invokevirtual 84, 3) := by decide +kernel
theorem dX3_smithyOf_115 : decode cX3_smithyOf 115 = .ok (.ifCond .eq 7, 3) := by decide +kernel
theorem dX3_smithyOf_118 : decode cX3_smithyOf 118 = .ok (.iconst 1, 1) := by decide +kernel
theorem dX3_smithyOf_119 : decode cX3_smithyOf 119 = .ok (.goto 4, 3) := by decide +kernel
theorem dX3_smithyOf_122 : decode cX3_smithyOf 122 = .ok (.iconst 0, 1) := by decide +kernel
theorem dX3_smithyOf_123 : decode cX3_smithyOf 123 = .ok (.ireturn, 1) := by decide +kernel
theorem dX3_smithyOf_124 : decode cX3_smithyOf 124 = .ok (.aload_n 3, 1) := by decide +kernel
theorem dX3_smithyOf_125 : decode cX3_smithyOf 125 = .ok (.getfield 88, 3) := by decide +kernel
theorem dX3_smithyOf_128 : decode cX3_smithyOf 128 = .ok (.ireturn, 1) := by decide +kernel
theorem dX3_smithyOf_129 : decode cX3_smithyOf 129 = .ok (.aload_n 3, 1) := by decide +kernel
theorem dX3_smithyOf_130 : decode cX3_smithyOf 130 = .ok (.getfield 91, 3) := by decide +kernel
theorem dX3_smithyOf_133 : decode cX3_smithyOf 133 = .ok (.ireturn, 1) := by decide +kernel
theorem dX3_smithyOf_134 : decode cX3_smithyOf 134 = .ok (.aload_n 3, 1) := by decide +kernel
theorem dX3_smithyOf_135 : decode cX3_smithyOf 135 = .ok (.getfield 94, 3) := by decide +kernel
theorem dX3_smithyOf_138 : decode cX3_smithyOf 138 = .ok (.ireturn, 1) := by decide +kernel
theorem dX3_smithyOf_139 : decode cX3_smithyOf 139 = .ok (.aload_n 3, 1) := by decide +kernel
theorem dX3_smithyOf_140 : decode cX3_smithyOf 140 = .ok (.getfield 97, 3) := by decide +kernel
theorem dX3_smithyOf_143 : decode cX3_smithyOf 143 = .ok (.ireturn, 1) := by decide +kernel
theorem dX3_smithyOf_144 : decode cX3_smithyOf 144 = .ok (.aload_n 0, 1) := by decide +kernel
theorem dX3_smithyOf_145 : decode cX3_smithyOf 145 = .ok (.getfield 12, 3) := by decide +kernel
theorem dX3_smithyOf_148 : decode cX3_smithyOf 148 = .ok (.getfield 100, 3) := by decide +kernel
theorem dX3_smithyOf_151 : decode cX3_smithyOf 151 = .ok (.aload_n 3, 1) := by decide +kernel
theorem dX3_smithyOf_152 : decode cX3_smithyOf 152 = .ok (.getfield 66, 3) := by decide +kernel
theorem dX3_smithyOf_155 : decode cX3_smithyOf 155 = .ok (.invokestatic 101, 3) := by decide +kernel
theorem dX3_smithyOf_158 : decode cX3_smithyOf 158 = .ok (.ireturn, 1) := by decide +kernel
theorem dX3_smithyOf_159 : decode cX3_smithyOf 159 = .ok (.ldc 65, 2) := by decide +kernel
theorem dX3_smithyOf_161 : decode cX3_smithyOf 161 = .ok (.ireturn, 1) := by decide +kernel
set_option maxRecDepth 20000 in
theorem ggX3_why_X2_find : GoodIn wsX3_why wsX2_find := goodIn_r _ [7, 8, 9, 49, 50, 51, 52, 53, 54, 55, 56, 57, 58, 59, 60, 61, 62, 63] (by decide +kernel) (by decide +kernel)
set_option maxRecDepth 20000 in
theorem gX3_why_X2_find : GoodIn wsX3_why (wsV RX3 61 RX2 yX2_find wsX2_find) := goodIn_app (goodIn_of _ (by decide +kernel)) ggX3_why_X2_find
set_option maxRecDepth 20000 in
theorem ggX3_why_X3_isFlag : GoodIn wsX3_why wsX3_isFlag := goodIn_r _ [13] (by decide +kernel) (by decide +kernel)
set_option maxRecDepth 20000 in
theorem gX3_why_X3_isFlag : GoodIn wsX3_why (va_wsS RX3 104 yX3_isFlag wsX3_isFlag) := goodIn_app (goodIn_of _ (by decide +kernel)) ggX3_why_X3_isFlag
set_option maxRecDepth 20000 in
theorem ggX3_why_X2_reasonAgainst : GoodIn wsX3_why wsX2_reasonAgainst := goodIn_r _ [17, 18, 19, 20, 21, 22, 12, 23, 24, 25, 26, 27, 28, 29, 30, 31, 32, 33, 34, 35, 6, 36, 37, 38, 39, 64, 65, 66, 67, 68, 69, 70, 71, 49, 50, 51, 52, 53, 54, 55, 56, 57, 58, 59, 60, 61, 62, 63] (by decide +kernel) (by decide +kernel)
set_option maxRecDepth 20000 in
theorem gX3_why_X2_reasonAgainst : GoodIn wsX3_why (wsV RX3 107 RX2 yX2_reasonAgainst wsX2_reasonAgainst) := goodIn_app (goodIn_of _ (by decide +kernel)) ggX3_why_X2_reasonAgainst
theorem dX3_why_0 : decode cX3_why 0 = .ok (.aload_n 0, 1) := by decide +kernel
theorem dX3_why_1 : decode cX3_why 1 = .ok (.getfield 12, 3) := by decide +kernel
theorem dX3_why_4 : decode cX3_why 4 = .ok (.iload_n 1, 1) := by decide +kernel
theorem dX3_why_5 : decode cX3_why 5 = .ok (.invokevirtual 61, 3) := by decide +kernel
theorem dX3_why_8 : decode cX3_why 8 = .ok (.astore_n 3, 1) := by decide +kernel
theorem dX3_why_9 : decode cX3_why 9 = .ok (.aload_n 3, 1) := by decide +kernel
theorem dX3_why_10 : decode cX3_why 10 = .ok (.ifnull 10, 3) := by decide +kernel
theorem dX3_why_13 : decode cX3_why 13 = .ok (.iload_n 2, 1) := by decide +kernel
theorem dX3_why_14 : decode cX3_why 14 = .ok (.invokestatic 104, 3) := by decide +kernel
theorem dX3_why_17 : decode cX3_why 17 = .ok (.ifCond .ne 6, 3) := by decide +kernel
theorem dX3_why_20 : decode cX3_why 20 = .ok (.ldc 65, 2) := by decide +kernel
theorem dX3_why_22 : decode cX3_why 22 = .ok (.ireturn, 1) := by decide +kernel
theorem dX3_why_23 : decode cX3_why 23 = .ok (.aload_n 0, 1) := by decide +kernel
theorem dX3_why_24 : decode cX3_why 24 = .ok (.getfield 12, 3) := by decide +kernel
theorem dX3_why_27 : decode cX3_why 27 = .ok (.aload_n 3, 1) := by decide +kernel
theorem dX3_why_28 : decode cX3_why 28 = .ok (.iload_n 2, 1) := by decide +kernel
theorem dX3_why_29 : decode cX3_why 29 = .ok (.iconst 1, 1) := by decide +kernel
theorem dX3_why_30 : decode cX3_why 30 = .ok (.if_icmp .ne 7, 3) := by decide +kernel
theorem dX3_why_33 : decode cX3_why 33 = .ok (.iconst 1, 1) := by decide +kernel
theorem dX3_why_34 : decode cX3_why 34 = .ok (.goto 4, 3) := by decide +kernel
theorem dX3_why_37 : decode cX3_why 37 = .ok (.iconst 0, 1) := by decide +kernel
theorem dX3_why_38 : decode cX3_why 38 = .ok (.invokevirtual 107, 3) := by decide +kernel
theorem dX3_why_41 : decode cX3_why 41 = .ok (.ireturn, 1) := by decide +kernel
set_option maxRecDepth 20000 in
theorem ggX3_mend_X2_find : GoodIn wsX3_mend wsX2_find := goodIn_r _ [7, 8, 9, 45, 46, 47, 48, 49, 50, 51, 52, 53, 54, 55, 56, 57, 58, 59] (by decide +kernel) (by decide +kernel)
set_option maxRecDepth 20000 in
theorem gX3_mend_X2_find : GoodIn wsX3_mend (wsV RX3 61 RX2 yX2_find wsX2_find) := goodIn_app (goodIn_of _ (by decide +kernel)) ggX3_mend_X2_find
set_option maxRecDepth 20000 in
theorem ggX3_mend_X3_isFlag : GoodIn wsX3_mend wsX3_isFlag := goodIn_r _ [13] (by decide +kernel) (by decide +kernel)
set_option maxRecDepth 20000 in
theorem gX3_mend_X3_isFlag : GoodIn wsX3_mend (va_wsS RX3 104 yX3_isFlag wsX3_isFlag) := goodIn_app (goodIn_of _ (by decide +kernel)) ggX3_mend_X3_isFlag
set_option maxRecDepth 20000 in
theorem ggX3_mend_X3_hoursOfMend : GoodIn wsX3_mend wsX3_hoursOfMend := goodIn_r _ [16] (by decide +kernel) (by decide +kernel)
set_option maxRecDepth 20000 in
theorem gX3_mend_X3_hoursOfMend : GoodIn wsX3_mend (va_wsS RX3 111 yX3_hoursOfMend wsX3_hoursOfMend) := goodIn_app (goodIn_of _ (by decide +kernel)) ggX3_mend_X3_hoursOfMend
set_option maxRecDepth 20000 in
theorem ggX3_mend_X1_leatherOfMend : GoodIn wsX3_mend wsX1_leatherOfMend := goodIn_r _ [21, 22, 23, 24, 12, 25, 60, 61, 62, 63, 64, 65, 66, 67] (by decide +kernel) (by decide +kernel)
set_option maxRecDepth 20000 in
theorem gX3_mend_X1_leatherOfMend : GoodIn wsX3_mend (wsV RX3 115 RX1 yX1_leatherOfMend wsX1_leatherOfMend) := goodIn_app (goodIn_of _ (by decide +kernel)) ggX3_mend_X1_leatherOfMend
set_option maxRecDepth 20000 in
theorem ggX3_mend_X2_priceOfMend : GoodIn wsX3_mend wsX2_priceOfMend := goodIn_r _ [29, 30, 15, 12, 16, 31, 18, 19, 20, 21, 22, 23, 24, 25, 45, 46, 47, 48, 49, 50, 51, 52, 53, 54, 55, 56, 57, 58, 59, 60, 61, 62, 63, 64, 65, 66, 67] (by decide +kernel) (by decide +kernel)
set_option maxRecDepth 20000 in
theorem gX3_mend_X2_priceOfMend : GoodIn wsX3_mend (wsV RX3 118 RX2 yX2_priceOfMend wsX2_priceOfMend) := goodIn_app (goodIn_of _ (by decide +kernel)) ggX3_mend_X2_priceOfMend
set_option maxRecDepth 20000 in
theorem ggX3_mend_X1_wearBehindMend : GoodIn wsX3_mend wsX1_wearBehindMend := goodIn_r _ [35, 23, 60, 61, 62, 63, 64, 65, 66, 67] (by decide +kernel) (by decide +kernel)
set_option maxRecDepth 20000 in
theorem gX3_mend_X1_wearBehindMend : GoodIn wsX3_mend (wsV RX3 121 RX1 yX1_wearBehindMend wsX1_wearBehindMend) := goodIn_app (goodIn_of _ (by decide +kernel)) ggX3_mend_X1_wearBehindMend
theorem dX3_mend_0 : decode cX3_mend 0 = .ok (.aload_n 0, 1) := by decide +kernel
theorem dX3_mend_1 : decode cX3_mend 1 = .ok (.getfield 12, 3) := by decide +kernel
theorem dX3_mend_4 : decode cX3_mend 4 = .ok (.iload_n 1, 1) := by decide +kernel
theorem dX3_mend_5 : decode cX3_mend 5 = .ok (.invokevirtual 61, 3) := by decide +kernel
theorem dX3_mend_8 : decode cX3_mend 8 = .ok (.astore 4, 2) := by decide +kernel
theorem dX3_mend_10 : decode cX3_mend 10 = .ok (.aload 4, 2) := by decide +kernel
theorem dX3_mend_12 : decode cX3_mend 12 = .ok (.ifnull 10, 3) := by decide +kernel
theorem dX3_mend_15 : decode cX3_mend 15 = .ok (.iload_n 2, 1) := by decide +kernel
theorem dX3_mend_16 : decode cX3_mend 16 = .ok (.invokestatic 104, 3) := by decide +kernel
theorem dX3_mend_19 : decode cX3_mend 19 = .ok (.ifCond .ne 6, 3) := by decide +kernel
theorem dX3_mend_22 : decode cX3_mend 22 = .ok (.ldc 65, 2) := by decide +kernel
theorem dX3_mend_24 : decode cX3_mend 24 = .ok (.ireturn, 1) := by decide +kernel
theorem dX3_mend_25 : decode cX3_mend 25 = .ok (.iload_n 2, 1) := by decide +kernel
theorem dX3_mend_26 : decode cX3_mend 26 = .ok (.iconst 1, 1) := by decide +kernel
theorem dX3_mend_27 : decode cX3_mend 27 = .ok (.if_icmp .ne 7, 3) := by decide +kernel
theorem dX3_mend_30 : decode cX3_mend 30 = .ok (.iconst 1, 1) := by decide +kernel
theorem dX3_mend_31 : decode cX3_mend 31 = .ok (.goto 4, 3) := by decide +kernel
theorem dX3_mend_34 : decode cX3_mend 34 = .ok (.iconst 0, 1) := by decide +kernel
theorem dX3_mend_35 : decode cX3_mend 35 = .ok (.istore 5, 2) := by decide +kernel
theorem dX3_mend_37 : decode cX3_mend 37 = .ok (.iload_n 3, 1) := by decide +kernel
theorem dX3_mend_38 : decode cX3_mend 38 = .ok (.tableswitch 64 0 3 #[30, 36, 44, 56], 30) := by decide +kernel
theorem dX3_mend_68 : decode cX3_mend 68 = .ok (.iload 5, 2) := by decide +kernel
theorem dX3_mend_70 : decode cX3_mend 70 = .ok (.invokestatic 111, 3) := by decide +kernel
theorem dX3_mend_73 : decode cX3_mend 73 = .ok (.ireturn, 1) := by decide +kernel
theorem dX3_mend_74 : decode cX3_mend 74 = .ok (.aload 4, 2) := by decide +kernel
theorem dX3_mend_76 : decode cX3_mend 76 = .ok (.iload 5, 2) := by decide +kernel
theorem dX3_mend_78 : decode cX3_mend 78 = .ok (.invokevirtual 115, 3) := by decide +kernel
theorem dX3_mend_81 : decode cX3_mend 81 = .ok (.ireturn, 1) := by decide +kernel
theorem dX3_mend_82 : decode cX3_mend 82 = .ok (.aload_n 0, 1) := by decide +kernel
theorem dX3_mend_83 : decode cX3_mend 83 = .ok (.getfield 12, 3) := by decide +kernel
theorem dX3_mend_86 : decode cX3_mend 86 = .ok (.aload 4, 2) := by decide +kernel
theorem dX3_mend_88 : decode cX3_mend 88 = .ok (.iload 5, 2) := by decide +kernel
theorem dX3_mend_90 : decode cX3_mend 90 = .ok (.invokevirtual 118, 3) := by decide +kernel
theorem dX3_mend_93 : decode cX3_mend 93 = .ok (.ireturn, 1) := by decide +kernel
theorem dX3_mend_94 : decode cX3_mend 94 = .ok (.aload 4, 2) := by decide +kernel
theorem dX3_mend_96 : decode cX3_mend 96 = .ok (.iload 5, 2) := by decide +kernel
theorem dX3_mend_98 : decode cX3_mend 98 = .ok (.invokevirtual 121, 3) := by decide +kernel
theorem dX3_mend_101 : decode cX3_mend 101 = .ok (.ireturn, 1) := by decide +kernel
theorem dX3_mend_102 : decode cX3_mend 102 = .ok (.ldc 65, 2) := by decide +kernel
theorem dX3_mend_104 : decode cX3_mend 104 = .ok (.ireturn, 1) := by decide +kernel
set_option maxRecDepth 20000 in
theorem ggX3_coldIn_X2_find : GoodIn wsX3_coldIn wsX2_find := goodIn_r _ [8, 9, 10, 47, 48, 49, 50, 51, 52, 53, 54, 55, 56, 57, 58, 59, 60, 61] (by decide +kernel) (by decide +kernel)
set_option maxRecDepth 20000 in
theorem gX3_coldIn_X2_find : GoodIn wsX3_coldIn (wsV RX3 61 RX2 yX2_find wsX2_find) := goodIn_app (goodIn_of _ (by decide +kernel)) ggX3_coldIn_X2_find
set_option maxRecDepth 20000 in
theorem ggX3_coldIn_X2_coldDaysAhead : GoodIn wsX3_coldIn wsX2_coldDaysAhead := goodIn_r _ [14, 15, 16, 17, 18, 19, 20, 7, 21, 22, 23, 24, 25, 26, 27, 28, 29, 30, 31, 32, 33, 34, 35, 36, 37, 62, 63, 64, 65, 66, 67, 68, 69, 47, 48, 49, 50, 51, 52, 53, 54, 55, 56, 57, 58, 59, 60, 61] (by decide +kernel) (by decide +kernel)
set_option maxRecDepth 20000 in
theorem gX3_coldIn_X2_coldDaysAhead : GoodIn wsX3_coldIn (wsV RX3 124 RX2 yX2_coldDaysAhead wsX2_coldDaysAhead) := goodIn_app (goodIn_of _ (by decide +kernel)) ggX3_coldIn_X2_coldDaysAhead
theorem dX3_coldIn_0 : decode cX3_coldIn 0 = .ok (.aload_n 0, 1) := by decide +kernel
theorem dX3_coldIn_1 : decode cX3_coldIn 1 = .ok (.getfield 12, 3) := by decide +kernel
theorem dX3_coldIn_4 : decode cX3_coldIn 4 = .ok (.iload_n 1, 1) := by decide +kernel
theorem dX3_coldIn_5 : decode cX3_coldIn 5 = .ok (.invokevirtual 61, 3) := by decide +kernel
theorem dX3_coldIn_8 : decode cX3_coldIn 8 = .ok (.astore_n 2, 1) := by decide +kernel
theorem dX3_coldIn_9 : decode cX3_coldIn 9 = .ok (.aload_n 2, 1) := by decide +kernel
theorem dX3_coldIn_10 : decode cX3_coldIn 10 = .ok (.ifnonnull 6, 3) := by decide +kernel
theorem dX3_coldIn_13 : decode cX3_coldIn 13 = .ok (.ldc 65, 2) := by decide +kernel
theorem dX3_coldIn_15 : decode cX3_coldIn 15 = .ok (.ireturn, 1) := by decide +kernel
theorem dX3_coldIn_16 : decode cX3_coldIn 16 = .ok (.aload_n 0, 1) := by decide +kernel
theorem dX3_coldIn_17 : decode cX3_coldIn 17 = .ok (.getfield 12, 3) := by decide +kernel
theorem dX3_coldIn_20 : decode cX3_coldIn 20 = .ok (.aload_n 2, 1) := by decide +kernel
theorem dX3_coldIn_21 : decode cX3_coldIn 21 = .ok (.invokevirtual 124, 3) := by decide +kernel
theorem dX3_coldIn_24 : decode cX3_coldIn 24 = .ok (.istore_n 3, 1) := by decide +kernel
theorem dX3_coldIn_25 : decode cX3_coldIn 25 = .ok (.iload_n 3, 1) := by decide +kernel
theorem dX3_coldIn_26 : decode cX3_coldIn 26 = .ok (.sipush 201, 3) := by decide +kernel
theorem dX3_coldIn_29 : decode cX3_coldIn 29 = .ok (.if_icmp .ne 8, 3) := by decide +kernel
theorem dX3_coldIn_32 : decode cX3_coldIn 32 = .ok (.ldc 128, 2) := by decide +kernel
theorem dX3_coldIn_34 : decode cX3_coldIn 34 = .ok (.goto 4, 3) := by decide +kernel
theorem dX3_coldIn_37 : decode cX3_coldIn 37 = .ok (.iload_n 3, 1) := by decide +kernel
theorem dX3_coldIn_38 : decode cX3_coldIn 38 = .ok (.ireturn, 1) := by decide +kernel
set_option maxRecDepth 20000 in
theorem ggX3_next_X2_smithyToBeNext : GoodIn wsX3_next wsX2_smithyToBeNext := goodIn_r _ [6, 7, 8, 9, 10, 11, 12, 5, 13, 14, 15, 16, 17, 18, 19, 20, 21, 22, 23, 24, 25, 26, 27, 28, 29, 30, 31, 32, 33, 34, 35, 36, 37, 38, 39, 40, 41, 42, 43, 44, 45, 46, 47, 48, 49, 59, 60, 61, 62, 63, 64, 65, 66, 67, 68, 69, 70, 71, 72, 73, 74, 75, 76, 77, 78, 79, 80, 81] (by decide +kernel) (by decide +kernel)
set_option maxRecDepth 20000 in
theorem gX3_next_X2_smithyToBeNext : GoodIn wsX3_next (wsV RX3 129 RX2 yX2_smithyToBeNext wsX2_smithyToBeNext) := goodIn_app (goodIn_of _ (by decide +kernel)) ggX3_next_X2_smithyToBeNext
theorem dX3_next_0 : decode cX3_next 0 = .ok (.aload_n 0, 1) := by decide +kernel
theorem dX3_next_1 : decode cX3_next 1 = .ok (.getfield 12, 3) := by decide +kernel
theorem dX3_next_4 : decode cX3_next 4 = .ok (.invokevirtual 129, 3) := by decide +kernel
theorem dX3_next_7 : decode cX3_next 7 = .ok (.ireturn, 1) := by decide +kernel
set_option maxRecDepth 20000 in
theorem ggX3_round_X2_tellRound : GoodIn wsX3_round wsX2_tellRound := goodIn_r _ [8, 9, 10, 11, 12, 13, 14, 7, 15, 16, 17, 18, 19, 20, 21, 22, 23, 24, 25, 26, 27, 28, 29, 30, 31, 32, 33, 34, 35, 36, 37, 38, 39, 40, 41, 42, 43, 44, 45, 46, 47, 48, 49, 50, 51, 52, 62, 63, 64, 65, 66, 67, 68, 69, 70, 71, 72, 73, 74, 75, 76, 77, 78, 79, 80, 81, 82, 83, 84] (by decide +kernel) (by decide +kernel)
set_option maxRecDepth 20000 in
theorem gX3_round_X2_tellRound : GoodIn wsX3_round (wsV RX3 136 RX2 yX2_tellRound wsX2_tellRound) := goodIn_app (goodIn_of _ (by decide +kernel)) ggX3_round_X2_tellRound
theorem dX3_round_0 : decode cX3_round 0 = .ok (.iload_n 1, 1) := by decide +kernel
theorem dX3_round_1 : decode cX3_round 1 = .ok (.iconst 1, 1) := by decide +kernel
theorem dX3_round_2 : decode cX3_round 2 = .ok (.if_icmp .lt 25, 3) := by decide +kernel
theorem dX3_round_5 : decode cX3_round 5 = .ok (.iload_n 1, 1) := by decide +kernel
theorem dX3_round_6 : decode cX3_round 6 = .ok (.iconst 1, 1) := by decide +kernel
theorem dX3_round_7 : decode cX3_round 7 = .ok (.aload_n 0, 1) := by decide +kernel
theorem dX3_round_8 : decode cX3_round 8 = .ok (.getfield 12, 3) := by decide +kernel
theorem dX3_round_11 : decode cX3_round 11 = .ok (.getfield 133, 3) := by decide +kernel
theorem dX3_round_14 : decode cX3_round 14 = .ok (.ishl, 1) := by decide +kernel
theorem dX3_round_15 : decode cX3_round 15 = .ok (.if_icmp .ge 12, 3) := by decide +kernel
theorem dX3_round_18 : decode cX3_round 18 = .ok (.iload_n 2, 1) := by decide +kernel
theorem dX3_round_19 : decode cX3_round 19 = .ok (.ifCond .lt 8, 3) := by decide +kernel
theorem dX3_round_22 : decode cX3_round 22 = .ok (.iload_n 2, 1) := by decide +kernel
theorem dX3_round_23 : decode cX3_round 23 = .ok (.iconst 2, 1) := by decide +kernel
theorem dX3_round_24 : decode cX3_round 24 = .ok (.if_icmp .le 6, 3) := by decide +kernel
theorem dX3_round_27 : decode cX3_round 27 = .ok (.ldc 65, 2) := by decide +kernel
theorem dX3_round_29 : decode cX3_round 29 = .ok (.ireturn, 1) := by decide +kernel
theorem dX3_round_30 : decode cX3_round 30 = .ok (.aload_n 0, 1) := by decide +kernel
theorem dX3_round_31 : decode cX3_round 31 = .ok (.getfield 12, 3) := by decide +kernel
theorem dX3_round_34 : decode cX3_round 34 = .ok (.iload_n 1, 1) := by decide +kernel
theorem dX3_round_35 : decode cX3_round 35 = .ok (.iload_n 2, 1) := by decide +kernel
theorem dX3_round_36 : decode cX3_round 36 = .ok (.invokevirtual 136, 3) := by decide +kernel
theorem dX3_round_39 : decode cX3_round 39 = .ok (.ireturn, 1) := by decide +kernel
set_option maxRecDepth 20000 in
theorem ggX3_mean_X2_wearTogether : GoodIn wsX3_mean wsX2_wearTogether := goodIn_r _ [8, 9, 10, 11, 12, 13, 7, 14, 15, 30, 31, 32, 33, 34, 35, 36, 37, 38, 39, 40, 41, 42, 43, 44, 45, 46, 47, 48, 49, 50, 51, 52] (by decide +kernel) (by decide +kernel)
set_option maxRecDepth 20000 in
theorem gX3_mean_X2_wearTogether : GoodIn wsX3_mean (wsV RX3 139 RX2 yX2_wearTogether wsX2_wearTogether) := goodIn_app (goodIn_of _ (by decide +kernel)) ggX3_mean_X2_wearTogether
set_option maxRecDepth 20000 in
theorem ggX3_mean_X3_bitsOf : GoodIn wsX3_mean wsX3_bitsOf := goodIn_r _ [19, 20] (by decide +kernel) (by decide +kernel)
set_option maxRecDepth 20000 in
theorem gX3_mean_X3_bitsOf : GoodIn wsX3_mean (va_wsS RX3 142 yX3_bitsOf wsX3_bitsOf) := goodIn_app (goodIn_of _ (by decide +kernel)) ggX3_mean_X3_bitsOf
theorem dX3_mean_0 : decode cX3_mean 0 = .ok (.aload_n 0, 1) := by decide +kernel
theorem dX3_mean_1 : decode cX3_mean 1 = .ok (.getfield 12, 3) := by decide +kernel
theorem dX3_mean_4 : decode cX3_mean 4 = .ok (.getfield 133, 3) := by decide +kernel
theorem dX3_mean_7 : decode cX3_mean 7 = .ok (.ifCond .gt 6, 3) := by decide +kernel
theorem dX3_mean_10 : decode cX3_mean 10 = .ok (.ldc 128, 2) := by decide +kernel
theorem dX3_mean_12 : decode cX3_mean 12 = .ok (.ireturn, 1) := by decide +kernel
theorem dX3_mean_13 : decode cX3_mean 13 = .ok (.aload_n 0, 1) := by decide +kernel
theorem dX3_mean_14 : decode cX3_mean 14 = .ok (.getfield 12, 3) := by decide +kernel
theorem dX3_mean_17 : decode cX3_mean 17 = .ok (.invokevirtual 139, 3) := by decide +kernel
theorem dX3_mean_20 : decode cX3_mean 20 = .ok (.i2f, 1) := by decide +kernel
theorem dX3_mean_21 : decode cX3_mean 21 = .ok (.aload_n 0, 1) := by decide +kernel
theorem dX3_mean_22 : decode cX3_mean 22 = .ok (.getfield 12, 3) := by decide +kernel
theorem dX3_mean_25 : decode cX3_mean 25 = .ok (.getfield 133, 3) := by decide +kernel
theorem dX3_mean_28 : decode cX3_mean 28 = .ok (.i2f, 1) := by decide +kernel
theorem dX3_mean_29 : decode cX3_mean 29 = .ok (.fdiv, 1) := by decide +kernel
theorem dX3_mean_30 : decode cX3_mean 30 = .ok (.invokestatic 142, 3) := by decide +kernel
theorem dX3_mean_33 : decode cX3_mean 33 = .ok (.ireturn, 1) := by decide +kernel
set_option maxRecDepth 20000 in
theorem ggX3_count_X2_debtsTogether : GoodIn wsX3_count wsX2_debtsTogether := goodIn_r _ [24, 25, 26, 27, 28, 29, 23, 30, 31, 51, 52, 53, 54, 55, 56, 57, 58, 59, 60, 61, 62, 63, 64, 65, 72, 73, 74, 75, 76, 77, 78, 79] (by decide +kernel) (by decide +kernel)
set_option maxRecDepth 20000 in
theorem gX3_count_X2_debtsTogether : GoodIn wsX3_count (wsV RX3 158 RX2 yX2_debtsTogether wsX2_debtsTogether) := goodIn_app (goodIn_of _ (by decide +kernel)) ggX3_count_X2_debtsTogether
set_option maxRecDepth 20000 in
theorem ggX3_count_X2_coldSet : GoodIn wsX3_count wsX2_coldSet := goodIn_r _ [35, 25, 36, 27, 28, 29, 23, 30, 31, 37, 38, 39, 40, 41, 51, 52, 53, 54, 55, 56, 57, 58, 59, 60, 61, 62, 63, 64, 65, 72, 73, 74, 75, 76, 77, 78, 79] (by decide +kernel) (by decide +kernel)
set_option maxRecDepth 20000 in
theorem gX3_count_X2_coldSet : GoodIn wsX3_count (wsV RX3 167 RX2 yX2_coldSet wsX2_coldSet) := goodIn_app (goodIn_of _ (by decide +kernel)) ggX3_count_X2_coldSet
theorem dX3_count_0 : decode cX3_count 0 = .ok (.iload_n 1, 1) := by decide +kernel
theorem dX3_count_1 : decode cX3_count 1 = .ok (.tableswitch 252 0 23 #[111, 119, 127, 135, 143, 151, 159, 167, 175, 183, 191, 199, 207, 212, 252, 252, 252, 252, 252, 252, 220, 228, 236, 244], 111) := by decide +kernel
theorem dX3_count_112 : decode cX3_count 112 = .ok (.aload_n 0, 1) := by decide +kernel
theorem dX3_count_113 : decode cX3_count 113 = .ok (.getfield 12, 3) := by decide +kernel
theorem dX3_count_116 : decode cX3_count 116 = .ok (.getfield 133, 3) := by decide +kernel
theorem dX3_count_119 : decode cX3_count 119 = .ok (.ireturn, 1) := by decide +kernel
theorem dX3_count_120 : decode cX3_count 120 = .ok (.aload_n 0, 1) := by decide +kernel
theorem dX3_count_121 : decode cX3_count 121 = .ok (.getfield 12, 3) := by decide +kernel
theorem dX3_count_124 : decode cX3_count 124 = .ok (.getfield 146, 3) := by decide +kernel
theorem dX3_count_127 : decode cX3_count 127 = .ok (.ireturn, 1) := by decide +kernel
theorem dX3_count_128 : decode cX3_count 128 = .ok (.aload_n 0, 1) := by decide +kernel
theorem dX3_count_129 : decode cX3_count 129 = .ok (.getfield 12, 3) := by decide +kernel
theorem dX3_count_132 : decode cX3_count 132 = .ok (.getfield 100, 3) := by decide +kernel
theorem dX3_count_135 : decode cX3_count 135 = .ok (.ireturn, 1) := by decide +kernel
theorem dX3_count_136 : decode cX3_count 136 = .ok (.aload_n 0, 1) := by decide +kernel
theorem dX3_count_137 : decode cX3_count 137 = .ok (.getfield 12, 3) := by decide +kernel
theorem dX3_count_140 : decode cX3_count 140 = .ok (.getfield 149, 3) := by decide +kernel
theorem dX3_count_143 : decode cX3_count 143 = .ok (.ireturn, 1) := by decide +kernel
theorem dX3_count_144 : decode cX3_count 144 = .ok (.aload_n 0, 1) := by decide +kernel
theorem dX3_count_145 : decode cX3_count 145 = .ok (.getfield 12, 3) := by decide +kernel
theorem dX3_count_148 : decode cX3_count 148 = .ok (.getfield 152, 3) := by decide +kernel
theorem dX3_count_151 : decode cX3_count 151 = .ok (.ireturn, 1) := by decide +kernel
theorem dX3_count_152 : decode cX3_count 152 = .ok (.aload_n 0, 1) := by decide +kernel
theorem dX3_count_153 : decode cX3_count 153 = .ok (.getfield 12, 3) := by decide +kernel
theorem dX3_count_156 : decode cX3_count 156 = .ok (.getfield 155, 3) := by decide +kernel
theorem dX3_count_159 : decode cX3_count 159 = .ok (.ireturn, 1) := by decide +kernel
theorem dX3_count_160 : decode cX3_count 160 = .ok (.aload_n 0, 1) := by decide +kernel
theorem dX3_count_161 : decode cX3_count 161 = .ok (.getfield 12, 3) := by decide +kernel
theorem dX3_count_164 : decode cX3_count 164 = .ok (.invokevirtual 158, 3) := by decide +kernel
theorem dX3_count_167 : decode cX3_count 167 = .ok (.ireturn, 1) := by decide +kernel
theorem dX3_count_168 : decode cX3_count 168 = .ok (.aload_n 0, 1) := by decide +kernel
theorem dX3_count_169 : decode cX3_count 169 = .ok (.getfield 12, 3) := by decide +kernel
theorem dX3_count_172 : decode cX3_count 172 = .ok (.getfield 161, 3) := by decide +kernel
theorem dX3_count_175 : decode cX3_count 175 = .ok (.ireturn, 1) := by decide +kernel
theorem dX3_count_176 : decode cX3_count 176 = .ok (.aload_n 0, 1) := by decide +kernel
theorem dX3_count_177 : decode cX3_count 177 = .ok (.getfield 12, 3) := by decide +kernel
theorem dX3_count_180 : decode cX3_count 180 = .ok (.getfield 164, 3) := by decide +kernel
theorem dX3_count_183 : decode cX3_count 183 = .ok (.ireturn, 1) := by decide +kernel
theorem dX3_count_184 : decode cX3_count 184 = .ok (.aload_n 0, 1) := by decide +kernel
theorem dX3_count_185 : decode cX3_count 185 = .ok (.getfield 12, 3) := by decide +kernel
theorem dX3_count_188 : decode cX3_count 188 = .ok (.invokevirtual 167, 3) := by decide +kernel
theorem dX3_count_191 : decode cX3_count 191 = .ok (.ireturn, 1) := by decide +kernel
theorem dX3_count_192 : decode cX3_count 192 = .ok (.aload_n 0, 1) := by decide +kernel
theorem dX3_count_193 : decode cX3_count 193 = .ok (.getfield 12, 3) := by decide +kernel
theorem dX3_count_196 : decode cX3_count 196 = .ok (.getfield 170, 3) := by decide +kernel
theorem dX3_count_199 : decode cX3_count 199 = .ok (.ireturn, 1) := by decide +kernel
theorem dX3_count_200 : decode cX3_count 200 = .ok (.aload_n 0, 1) := by decide +kernel
theorem dX3_count_201 : decode cX3_count 201 = .ok (.getfield 12, 3) := by decide +kernel
theorem dX3_count_204 : decode cX3_count 204 = .ok (.getfield 173, 3) := by decide +kernel
theorem dX3_count_207 : decode cX3_count 207 = .ok (.ireturn, 1) := by decide +kernel
theorem dX3_count_208 : decode cX3_count 208 = .ok (.aload_n 0, 1) := by decide +kernel
theorem dX3_count_209 : decode cX3_count 209 = .ok (.getfield 176, 3) := by decide +kernel
theorem dX3_count_212 : decode cX3_count 212 = .ok (.ireturn, 1) := by decide +kernel
theorem dX3_count_213 : decode cX3_count 213 = .ok (.aload_n 0, 1) := by decide +kernel
theorem dX3_count_214 : decode cX3_count 214 = .ok (.getfield 26, 3) := by decide +kernel
theorem dX3_count_217 : decode cX3_count 217 = .ok (.getfield 179, 3) := by decide +kernel
theorem dX3_count_220 : decode cX3_count 220 = .ok (.ireturn, 1) := by decide +kernel
theorem dX3_count_221 : decode cX3_count 221 = .ok (.aload_n 0, 1) := by decide +kernel
theorem dX3_count_222 : decode cX3_count 222 = .ok (.getfield 12, 3) := by decide +kernel
theorem dX3_count_225 : decode cX3_count 225 = .ok (.getfield 182, 3) := by decide +kernel
theorem dX3_count_228 : decode cX3_count 228 = .ok (.ireturn, 1) := by decide +kernel
theorem dX3_count_229 : decode cX3_count 229 = .ok (.aload_n 0, 1) := by decide +kernel
theorem dX3_count_230 : decode cX3_count 230 = .ok (.getfield 12, 3) := by decide +kernel
theorem dX3_count_233 : decode cX3_count 233 = .ok (.getfield 185, 3) := by decide +kernel
theorem dX3_count_236 : decode cX3_count 236 = .ok (.ireturn, 1) := by decide +kernel
theorem dX3_count_237 : decode cX3_count 237 = .ok (.aload_n 0, 1) := by decide +kernel
theorem dX3_count_238 : decode cX3_count 238 = .ok (.getfield 12, 3) := by decide +kernel
theorem dX3_count_241 : decode cX3_count 241 = .ok (.getfield 188, 3) := by decide +kernel
theorem dX3_count_244 : decode cX3_count 244 = .ok (.ireturn, 1) := by decide +kernel
theorem dX3_count_245 : decode cX3_count 245 = .ok (.aload_n 0, 1) := by decide +kernel
theorem dX3_count_246 : decode cX3_count 246 = .ok (.getfield 12, 3) := by decide +kernel
theorem dX3_count_249 : decode cX3_count 249 = .ok (.getfield 191, 3) := by decide +kernel
theorem dX3_count_252 : decode cX3_count 252 = .ok (.ireturn, 1) := by decide +kernel
theorem dX3_count_253 : decode cX3_count 253 = .ok (.ldc 65, 2) := by decide +kernel
theorem dX3_count_255 : decode cX3_count 255 = .ok (.ireturn, 1) := by decide +kernel
set_option maxRecDepth 20000 in
theorem ggX3_undo_X2_copyFrom : GoodIn wsX3_undo wsX2_copyFrom := goodIn_r _ [9, 10, 11, 12, 13, 14, 15, 16, 17, 18, 19, 20, 21, 22, 23, 24, 25, 26, 8, 27, 28, 29, 30, 31, 32, 33, 34, 35, 36, 37, 38, 39, 40, 41, 51, 52, 53, 54, 55, 56, 57, 58, 59, 60, 61, 62, 63, 64, 65, 66, 67, 68, 69, 70, 71, 72, 73] (by decide +kernel) (by decide +kernel)
set_option maxRecDepth 20000 in
theorem gX3_undo_X2_copyFrom : GoodIn wsX3_undo (wsV RX3 30 RX2 yX2_copyFrom wsX2_copyFrom) := goodIn_app (goodIn_of _ (by decide +kernel)) ggX3_undo_X2_copyFrom
theorem dX3_undo_0 : decode cX3_undo 0 = .ok (.aload_n 0, 1) := by decide +kernel
theorem dX3_undo_1 : decode cX3_undo 1 = .ok (.getfield 176, 3) := by decide +kernel
theorem dX3_undo_4 : decode cX3_undo 4 = .ok (.iconst 1, 1) := by decide +kernel
theorem dX3_undo_5 : decode cX3_undo 5 = .ok (.if_icmp .lt 15, 3) := by decide +kernel
theorem dX3_undo_8 : decode cX3_undo 8 = .ok (.aload_n 0, 1) := by decide +kernel
theorem dX3_undo_9 : decode cX3_undo 9 = .ok (.getfield 176, 3) := by decide +kernel
theorem dX3_undo_12 : decode cX3_undo 12 = .ok (.aload_n 0, 1) := by decide +kernel
theorem dX3_undo_13 : decode cX3_undo 13 = .ok (.getfield 19, 3) := by decide +kernel
theorem dX3_undo_16 : decode cX3_undo 16 = .ok (.arraylength, 1) := by decide +kernel
theorem dX3_undo_17 : decode cX3_undo 17 = .ok (.if_icmp .le 6, 3) := by decide +kernel
theorem dX3_undo_20 : decode cX3_undo 20 = .ok (.ldc 194, 2) := by decide +kernel
theorem dX3_undo_22 : decode cX3_undo 22 = .ok (.ireturn, 1) := by decide +kernel
theorem dX3_undo_23 : decode cX3_undo 23 = .ok (.aload_n 0, 1) := by decide +kernel
theorem dX3_undo_24 : decode cX3_undo 24 = .ok (.getfield 19, 3) := by decide +kernel
theorem dX3_undo_27 : decode cX3_undo 27 = .ok (.aload_n 0, 1) := by decide +kernel
theorem dX3_undo_28 : decode cX3_undo 28 = .ok (.getfield 176, 3) := by decide +kernel
theorem dX3_undo_31 : decode cX3_undo 31 = .ok (.iconst 1, 1) := by decide +kernel
theorem dX3_undo_32 : decode cX3_undo 32 = .ok (.isub, 1) := by decide +kernel
theorem dX3_undo_33 : decode cX3_undo 33 = .ok (.aaload, 1) := by decide +kernel
theorem dX3_undo_34 : decode cX3_undo 34 = .ok (.astore_n 1, 1) := by decide +kernel
theorem dX3_undo_35 : decode cX3_undo 35 = .ok (.aload_n 1, 1) := by decide +kernel
theorem dX3_undo_36 : decode cX3_undo 36 = .ok (.ifnonnull 6, 3) := by decide +kernel
theorem dX3_undo_39 : decode cX3_undo 39 = .ok (.ldc 194, 2) := by decide +kernel
theorem dX3_undo_41 : decode cX3_undo 41 = .ok (.ireturn, 1) := by decide +kernel
theorem dX3_undo_42 : decode cX3_undo 42 = .ok (.aload_n 0, 1) := by decide +kernel
theorem dX3_undo_43 : decode cX3_undo 43 = .ok (.getfield 12, 3) := by decide +kernel
theorem dX3_undo_46 : decode cX3_undo 46 = .ok (.aload_n 1, 1) := by decide +kernel
theorem dX3_undo_47 : decode cX3_undo 47 = .ok (.invokevirtual 30, 3) := by decide +kernel
theorem dX3_undo_50 : decode cX3_undo 50 = .ok (.aload_n 0, 1) := by decide +kernel
theorem dX3_undo_51 : decode cX3_undo 51 = .ok (.dup, 1) := by decide +kernel
theorem dX3_undo_52 : decode cX3_undo 52 = .ok (.getfield 176, 3) := by decide +kernel
theorem dX3_undo_55 : decode cX3_undo 55 = .ok (.iconst 1, 1) := by decide +kernel
theorem dX3_undo_56 : decode cX3_undo 56 = .ok (.isub, 1) := by decide +kernel
theorem dX3_undo_57 : decode cX3_undo 57 = .ok (.putfield 176, 3) := by decide +kernel
theorem dX3_undo_60 : decode cX3_undo 60 = .ok (.aload_n 0, 1) := by decide +kernel
theorem dX3_undo_61 : decode cX3_undo 61 = .ok (.getfield 176, 3) := by decide +kernel
theorem dX3_undo_64 : decode cX3_undo 64 = .ok (.ireturn, 1) := by decide +kernel
set_option maxRecDepth 20000 in
theorem ggX3_type_X0_append : GoodIn wsX3_type wsX0_append := goodIn_r _ [7, 8, 9, 10, 20, 21, 22, 23, 24, 25] (by decide +kernel) (by decide +kernel)
set_option maxRecDepth 20000 in
theorem gX3_type_X0_append : GoodIn wsX3_type (wsV RX3 195 RX0 yX0_append wsX0_append) := goodIn_app (goodIn_of _ (by decide +kernel)) ggX3_type_X0_append
theorem dX3_type_0 : decode cX3_type 0 = .ok (.iload_n 1, 1) := by decide +kernel
theorem dX3_type_1 : decode cX3_type 1 = .ok (.bipush 32, 2) := by decide +kernel
theorem dX3_type_3 : decode cX3_type 3 = .ok (.if_icmp .lt 9, 3) := by decide +kernel
theorem dX3_type_6 : decode cX3_type 6 = .ok (.iload_n 1, 1) := by decide +kernel
theorem dX3_type_7 : decode cX3_type 7 = .ok (.bipush 126, 2) := by decide +kernel
theorem dX3_type_9 : decode cX3_type 9 = .ok (.if_icmp .le 6, 3) := by decide +kernel
theorem dX3_type_12 : decode cX3_type 12 = .ok (.ldc 65, 2) := by decide +kernel
theorem dX3_type_14 : decode cX3_type 14 = .ok (.ireturn, 1) := by decide +kernel
theorem dX3_type_15 : decode cX3_type 15 = .ok (.aload_n 0, 1) := by decide +kernel
theorem dX3_type_16 : decode cX3_type 16 = .ok (.getfield 26, 3) := by decide +kernel
theorem dX3_type_19 : decode cX3_type 19 = .ok (.iload_n 1, 1) := by decide +kernel
theorem dX3_type_20 : decode cX3_type 20 = .ok (.i2c, 1) := by decide +kernel
theorem dX3_type_21 : decode cX3_type 21 = .ok (.invokevirtual 195, 3) := by decide +kernel
theorem dX3_type_24 : decode cX3_type 24 = .ok (.ireturn, 1) := by decide +kernel
theorem dX3_clearText_0 : decode cX3_clearText 0 = .ok (.aload_n 0, 1) := by decide +kernel
theorem dX3_clearText_1 : decode cX3_clearText 1 = .ok (.getfield 26, 3) := by decide +kernel
theorem dX3_clearText_4 : decode cX3_clearText 4 = .ok (.getfield 179, 3) := by decide +kernel
theorem dX3_clearText_7 : decode cX3_clearText 7 = .ok (.istore_n 1, 1) := by decide +kernel
theorem dX3_clearText_8 : decode cX3_clearText 8 = .ok (.aload_n 0, 1) := by decide +kernel
theorem dX3_clearText_9 : decode cX3_clearText 9 = .ok (.getfield 26, 3) := by decide +kernel
theorem dX3_clearText_12 : decode cX3_clearText 12 = .ok (.iconst 0, 1) := by decide +kernel
theorem dX3_clearText_13 : decode cX3_clearText 13 = .ok (.putfield 179, 3) := by decide +kernel
theorem dX3_clearText_16 : decode cX3_clearText 16 = .ok (.iload_n 1, 1) := by decide +kernel
theorem dX3_clearText_17 : decode cX3_clearText 17 = .ok (.ireturn, 1) := by decide +kernel
set_option maxRecDepth 20000 in
theorem ggX3_fault_X3_tryOrders : GoodIn wsX3_fault wsX3_tryOrders := goodIn_r _ [10, 11, 12, 13, 14, 15, 16, 17, 18, 19, 20, 21, 22, 23, 24, 25, 26, 27, 28, 29, 30, 31, 32, 33, 34, 35, 36, 37, 38, 39, 40, 41, 42, 43, 44, 45, 46, 47, 48, 49, 50, 51, 52, 53, 54, 55, 56, 57, 58, 59, 60, 61, 62, 63, 64, 65, 66, 67, 68, 69, 70, 71, 72, 73, 74, 75, 76, 77, 78, 79, 80, 9, 81, 3, 4, 5, 82, 83, 84, 85, 86, 87, 88, 89, 90, 91, 92, 93, 94, 95, 96, 97, 98, 99, 100, 101, 102, 103, 104, 105, 106, 107, 108, 109, 110, 111, 112, 113, 114, 115, 116, 117, 118, 119, 120, 121, 122, 123, 124, 125, 126, 127, 128, 129, 130, 131, 132, 133, 134, 135, 136, 137, 138, 139, 140, 141, 142, 143, 144, 145, 146, 147, 148, 149, 150, 151, 152, 153, 154, 155, 156, 157, 158, 159, 160, 161, 162, 163, 164, 165, 166, 167, 168, 169, 170, 171, 172, 173, 174, 175, 176, 177, 178, 179, 180, 181, 182, 183, 184, 185, 186, 187, 188, 189, 190, 191, 192, 193, 194, 195, 196, 197, 198, 199, 200, 201, 202, 203, 204, 205, 206, 207, 208, 209, 210, 211, 212, 213, 214, 215, 216, 217, 218, 219] (by decide +kernel) (by decide +kernel)
set_option maxRecDepth 20000 in
theorem gX3_fault_X3_tryOrders : GoodIn wsX3_fault (wsV RX3 199 RX3 yX3_tryOrders wsX3_tryOrders) := goodIn_app (goodIn_of _ (by decide +kernel)) ggX3_fault_X3_tryOrders
theorem dX3_fault_0 : decode cX3_fault 0 = .ok (.iload_n 1, 1) := by decide +kernel
theorem dX3_fault_1 : decode cX3_fault 1 = .ok (.ifCond .lt 8, 3) := by decide +kernel
theorem dX3_fault_4 : decode cX3_fault 4 = .ok (.iload_n 1, 1) := by decide +kernel
theorem dX3_fault_5 : decode cX3_fault 5 = .ok (.iconst 2, 1) := by decide +kernel
theorem dX3_fault_6 : decode cX3_fault 6 = .ok (.if_icmp .le 6, 3) := by decide +kernel
theorem dX3_fault_9 : decode cX3_fault 9 = .ok (.ldc 65, 2) := by decide +kernel
theorem dX3_fault_11 : decode cX3_fault 11 = .ok (.ireturn, 1) := by decide +kernel
theorem dX3_fault_12 : decode cX3_fault 12 = .ok (.aload_n 0, 1) := by decide +kernel
theorem dX3_fault_13 : decode cX3_fault 13 = .ok (.invokevirtual 199, 3) := by decide +kernel
theorem dX3_fault_16 : decode cX3_fault 16 = .ok (.ifCond .eq 6, 3) := by decide +kernel
theorem dX3_fault_19 : decode cX3_fault 19 = .ok (.ldc 128, 2) := by decide +kernel
theorem dX3_fault_21 : decode cX3_fault 21 = .ok (.ireturn, 1) := by decide +kernel
theorem dX3_fault_22 : decode cX3_fault 22 = .ok (.iload_n 1, 1) := by decide +kernel
theorem dX3_fault_23 : decode cX3_fault 23 = .ok (.lookupswitch 35 #[(0, 25), (1, 30)], 25) := by decide +kernel
theorem dX3_fault_48 : decode cX3_fault 48 = .ok (.aload_n 0, 1) := by decide +kernel
theorem dX3_fault_49 : decode cX3_fault 49 = .ok (.getfield 203, 3) := by decide +kernel
theorem dX3_fault_52 : decode cX3_fault 52 = .ok (.ireturn, 1) := by decide +kernel
theorem dX3_fault_53 : decode cX3_fault 53 = .ok (.aload_n 0, 1) := by decide +kernel
theorem dX3_fault_54 : decode cX3_fault 54 = .ok (.getfield 206, 3) := by decide +kernel
theorem dX3_fault_57 : decode cX3_fault 57 = .ok (.ireturn, 1) := by decide +kernel
theorem dX3_fault_58 : decode cX3_fault 58 = .ok (.aload_n 0, 1) := by decide +kernel
theorem dX3_fault_59 : decode cX3_fault 59 = .ok (.getfield 209, 3) := by decide +kernel
theorem dX3_fault_62 : decode cX3_fault 62 = .ok (.ireturn, 1) := by decide +kernel
set_option maxRecDepth 20000 in
theorem ggX3_play_X3_tryOrders : GoodIn wsX3_play wsX3_tryOrders := goodIn_r _ [7, 8, 9, 2, 10, 11, 12, 13, 14, 15, 16, 17, 18, 19, 20, 21, 22, 23, 24, 25, 26, 27, 28, 29, 30, 31, 32, 33, 34, 35, 36, 37, 38, 39, 40, 41, 42, 43, 44, 45, 46, 47, 48, 49, 50, 51, 52, 53, 54, 55, 56, 57, 58, 59, 60, 61, 62, 63, 64, 65, 66, 67, 68, 69, 70, 71, 72, 73, 74, 75, 76, 6, 77, 78, 79, 80, 81, 82, 83, 84, 85, 86, 87, 88, 89, 90, 91, 92, 93, 94, 95, 96, 97, 98, 99, 100, 101, 102, 103, 104, 105, 106, 107, 108, 109, 110, 111, 112, 113, 114, 115, 116, 117, 118, 119, 120, 121, 122, 123, 124, 125, 126, 127, 128, 129, 130, 131, 132, 133, 134, 135, 136, 137, 138, 139, 140, 141, 142, 143, 144, 145, 146, 147, 148, 149, 150, 151, 152, 153, 154, 155, 156, 157, 158, 159, 160, 161, 162, 163, 164, 165, 166, 167, 168, 169, 170, 171, 172, 173, 174, 175, 176, 177, 178, 179, 180, 195, 196, 197, 198, 199, 200, 201, 202, 203, 204, 205, 206, 207, 208, 209, 210, 211, 212, 213, 214, 215, 216, 217, 218, 219, 220, 221, 222, 223, 224, 225, 226, 227, 228, 229, 230, 231, 232] (by decide +kernel) (by decide +kernel)
set_option maxRecDepth 20000 in
theorem gX3_play_X3_tryOrders : GoodIn wsX3_play (wsV RX3 199 RX3 yX3_tryOrders wsX3_tryOrders) := goodIn_app (goodIn_of _ (by decide +kernel)) ggX3_play_X3_tryOrders
set_option maxRecDepth 20000 in
theorem ggX3_play_X3_commit : GoodIn wsX3_play wsX3_commit := goodIn_r _ [184, 9, 8, 185, 186, 187, 6, 188, 189, 190, 191, 192, 193, 194, 16, 17, 18, 19, 20, 21, 22, 23, 24, 25, 26, 27, 28, 29, 30, 31, 32, 33, 34, 35, 36, 37, 38, 39, 40, 41, 42, 43, 44, 45, 46, 47, 48, 49, 50, 51, 52, 195, 196, 197, 198, 199, 200, 201, 202, 203, 210, 211, 212, 213, 214, 215, 216, 217, 218, 219, 220, 221, 222, 223, 224, 225, 226, 227, 228, 229, 230, 231, 232] (by decide +kernel) (by decide +kernel)
set_option maxRecDepth 20000 in
theorem gX3_play_X3_commit : GoodIn wsX3_play (wsV RX3 38 RX3 yX3_commit wsX3_commit) := goodIn_app (goodIn_of _ (by decide +kernel)) ggX3_play_X3_commit
theorem dX3_play_0 : decode cX3_play 0 = .ok (.aload_n 0, 1) := by decide +kernel
theorem dX3_play_1 : decode cX3_play 1 = .ok (.invokevirtual 199, 3) := by decide +kernel
theorem dX3_play_4 : decode cX3_play 4 = .ok (.ifCond .ne 6, 3) := by decide +kernel
theorem dX3_play_7 : decode cX3_play 7 = .ok (.ldc 194, 2) := by decide +kernel
theorem dX3_play_9 : decode cX3_play 9 = .ok (.ireturn, 1) := by decide +kernel
theorem dX3_play_10 : decode cX3_play 10 = .ok (.aload_n 0, 1) := by decide +kernel
theorem dX3_play_11 : decode cX3_play 11 = .ok (.aload_n 0, 1) := by decide +kernel
theorem dX3_play_12 : decode cX3_play 12 = .ok (.getfield 212, 3) := by decide +kernel
theorem dX3_play_15 : decode cX3_play 15 = .ok (.invokevirtual 38, 3) := by decide +kernel
theorem dX3_play_18 : decode cX3_play 18 = .ok (.ireturn, 1) := by decide +kernel
set_option maxRecDepth 20000 in
theorem ggX3_commit_X3_remember : GoodIn wsX3_commit wsX3_remember := goodIn_r _ [7, 8, 9, 1, 10, 11, 12, 6, 13, 14, 15, 16, 17, 18, 19, 20, 21, 22, 23, 24, 25, 26, 27, 28, 29, 30, 31, 32, 33, 34, 35, 36, 37, 38, 39, 40, 41, 42, 43, 44, 45, 46, 47, 48, 49, 50, 51, 52, 53, 54, 55, 56, 57, 58, 59, 60, 61, 62, 63, 64, 65, 66, 67, 68, 69, 70, 71, 72, 73, 74, 75, 76, 77, 78, 79, 80, 81, 82] (by decide +kernel) (by decide +kernel)
set_option maxRecDepth 20000 in
theorem gX3_commit_X3_remember : GoodIn wsX3_commit (wsV RX3 215 RX3 yX3_remember wsX3_remember) := goodIn_app (goodIn_of _ (by decide +kernel)) ggX3_commit_X3_remember
theorem dX3_commit_0 : decode cX3_commit 0 = .ok (.iload_n 1, 1) := by decide +kernel
theorem dX3_commit_1 : decode cX3_commit 1 = .ok (.ifCond .ge 5, 3) := by decide +kernel
theorem dX3_commit_4 : decode cX3_commit 4 = .ok (.iload_n 1, 1) := by decide +kernel
theorem dX3_commit_5 : decode cX3_commit 5 = .ok (.ireturn, 1) := by decide +kernel
theorem dX3_commit_6 : decode cX3_commit 6 = .ok (.aload_n 0, 1) := by decide +kernel
theorem dX3_commit_7 : decode cX3_commit 7 = .ok (.invokevirtual 215, 3) := by decide +kernel
theorem dX3_commit_10 : decode cX3_commit 10 = .ok (.aload_n 0, 1) := by decide +kernel
theorem dX3_commit_11 : decode cX3_commit 11 = .ok (.getfield 12, 3) := by decide +kernel
theorem dX3_commit_14 : decode cX3_commit 14 = .ok (.astore_n 2, 1) := by decide +kernel
theorem dX3_commit_15 : decode cX3_commit 15 = .ok (.aload_n 0, 1) := by decide +kernel
theorem dX3_commit_16 : decode cX3_commit 16 = .ok (.aload_n 0, 1) := by decide +kernel
theorem dX3_commit_17 : decode cX3_commit 17 = .ok (.getfield 16, 3) := by decide +kernel
theorem dX3_commit_20 : decode cX3_commit 20 = .ok (.putfield 12, 3) := by decide +kernel
theorem dX3_commit_23 : decode cX3_commit 23 = .ok (.aload_n 0, 1) := by decide +kernel
theorem dX3_commit_24 : decode cX3_commit 24 = .ok (.aload_n 2, 1) := by decide +kernel
theorem dX3_commit_25 : decode cX3_commit 25 = .ok (.putfield 16, 3) := by decide +kernel
theorem dX3_commit_28 : decode cX3_commit 28 = .ok (.iload_n 1, 1) := by decide +kernel
theorem dX3_commit_29 : decode cX3_commit 29 = .ok (.ireturn, 1) := by decide +kernel
set_option maxRecDepth 20000 in
theorem ggX3_remember_X3_dropOldestState : GoodIn wsX3_remember wsX3_dropOldestState := goodIn_r _ [8, 2, 1, 46, 47, 48, 49, 50, 51, 52, 53, 54] (by decide +kernel) (by decide +kernel)
set_option maxRecDepth 20000 in
theorem gX3_remember_X3_dropOldestState : GoodIn wsX3_remember (wsV RX3 218 RX3 yX3_dropOldestState wsX3_dropOldestState) := goodIn_app (goodIn_of _ (by decide +kernel)) ggX3_remember_X3_dropOldestState
set_option maxRecDepth 20000 in
theorem ggX3_remember_X2_copyFrom : GoodIn wsX3_remember wsX2_copyFrom := goodIn_r _ [13, 14, 15, 16, 17, 18, 19, 20, 21, 22, 23, 24, 25, 26, 27, 28, 29, 30, 12, 31, 32, 33, 34, 35, 36, 37, 38, 39, 40, 41, 42, 43, 44, 45, 55, 56, 57, 58, 59, 60, 61, 62, 63, 64, 65, 66, 67, 68, 69, 70, 71, 72, 73, 74, 75, 76, 77] (by decide +kernel) (by decide +kernel)
set_option maxRecDepth 20000 in
theorem gX3_remember_X2_copyFrom : GoodIn wsX3_remember (wsV RX3 30 RX2 yX2_copyFrom wsX2_copyFrom) := goodIn_app (goodIn_of _ (by decide +kernel)) ggX3_remember_X2_copyFrom
theorem dX3_remember_0 : decode cX3_remember 0 = .ok (.aload_n 0, 1) := by decide +kernel
theorem dX3_remember_1 : decode cX3_remember 1 = .ok (.getfield 176, 3) := by decide +kernel
theorem dX3_remember_4 : decode cX3_remember 4 = .ok (.aload_n 0, 1) := by decide +kernel
theorem dX3_remember_5 : decode cX3_remember 5 = .ok (.getfield 19, 3) := by decide +kernel
theorem dX3_remember_8 : decode cX3_remember 8 = .ok (.arraylength, 1) := by decide +kernel
theorem dX3_remember_9 : decode cX3_remember 9 = .ok (.if_icmp .lt 7, 3) := by decide +kernel
theorem dX3_remember_12 : decode cX3_remember 12 = .ok (.aload_n 0, 1) := by decide +kernel
theorem dX3_remember_13 : decode cX3_remember 13 = .ok (.invokevirtual 218, 3) := by decide +kernel
theorem dX3_remember_16 : decode cX3_remember 16 = .ok (.aload_n 0, 1) := by decide +kernel
theorem dX3_remember_17 : decode cX3_remember 17 = .ok (.getfield 176, 3) := by decide +kernel
theorem dX3_remember_20 : decode cX3_remember 20 = .ok (.ifCond .lt 15, 3) := by decide +kernel
theorem dX3_remember_23 : decode cX3_remember 23 = .ok (.aload_n 0, 1) := by decide +kernel
theorem dX3_remember_24 : decode cX3_remember 24 = .ok (.getfield 176, 3) := by decide +kernel
theorem dX3_remember_27 : decode cX3_remember 27 = .ok (.aload_n 0, 1) := by decide +kernel
theorem dX3_remember_28 : decode cX3_remember 28 = .ok (.getfield 19, 3) := by decide +kernel
theorem dX3_remember_31 : decode cX3_remember 31 = .ok (.arraylength, 1) := by decide +kernel
theorem dX3_remember_32 : decode cX3_remember 32 = .ok (.if_icmp .lt 4, 3) := by decide +kernel
theorem dX3_remember_35 : decode cX3_remember 35 = .ok (.return_, 1) := by decide +kernel
theorem dX3_remember_36 : decode cX3_remember 36 = .ok (.aload_n 0, 1) := by decide +kernel
theorem dX3_remember_37 : decode cX3_remember 37 = .ok (.getfield 19, 3) := by decide +kernel
theorem dX3_remember_40 : decode cX3_remember 40 = .ok (.aload_n 0, 1) := by decide +kernel
theorem dX3_remember_41 : decode cX3_remember 41 = .ok (.getfield 176, 3) := by decide +kernel
theorem dX3_remember_44 : decode cX3_remember 44 = .ok (.aaload, 1) := by decide +kernel
theorem dX3_remember_45 : decode cX3_remember 45 = .ok (.astore_n 1, 1) := by decide +kernel
theorem dX3_remember_46 : decode cX3_remember 46 = .ok (.aload_n 1, 1) := by decide +kernel
theorem dX3_remember_47 : decode cX3_remember 47 = .ok (.ifnull 21, 3) := by decide +kernel
theorem dX3_remember_50 : decode cX3_remember 50 = .ok (.aload_n 1, 1) := by decide +kernel
theorem dX3_remember_51 : decode cX3_remember 51 = .ok (.aload_n 0, 1) := by decide +kernel
theorem dX3_remember_52 : decode cX3_remember 52 = .ok (.getfield 12, 3) := by decide +kernel
theorem dX3_remember_55 : decode cX3_remember 55 = .ok (.invokevirtual 30, 3) := by decide +kernel
theorem dX3_remember_58 : decode cX3_remember 58 = .ok (.aload_n 0, 1) := by decide +kernel
theorem dX3_remember_59 : decode cX3_remember 59 = .ok (.dup, 1) := by decide +kernel
theorem dX3_remember_60 : decode cX3_remember 60 = .ok (.getfield 176, 3) := by decide +kernel
theorem dX3_remember_63 : decode cX3_remember 63 = .ok (.iconst 1, 1) := by decide +kernel
theorem dX3_remember_64 : decode cX3_remember 64 = .ok (.iadd, 1) := by decide +kernel
theorem dX3_remember_65 : decode cX3_remember 65 = .ok (.putfield 176, 3) := by decide +kernel
theorem dX3_remember_68 : decode cX3_remember 68 = .ok (.return_, 1) := by decide +kernel
theorem dX3_dropOldestState_0 : decode cX3_dropOldestState 0 = .ok (.iconst 0, 1) := by decide +kernel
theorem dX3_dropOldestState_1 : decode cX3_dropOldestState 1 = .ok (.istore_n 1, 1) := by decide +kernel
theorem dX3_dropOldestState_2 : decode cX3_dropOldestState 2 = .ok (.iload_n 1, 1) := by decide +kernel
theorem dX3_dropOldestState_3 : decode cX3_dropOldestState 3 = .ok (.iconst 1, 1) := by decide +kernel
theorem dX3_dropOldestState_4 : decode cX3_dropOldestState 4 = .ok (.iadd, 1) := by decide +kernel
theorem dX3_dropOldestState_5 : decode cX3_dropOldestState 5 = .ok (.aload_n 0, 1) := by decide +kernel
theorem dX3_dropOldestState_6 : decode cX3_dropOldestState 6 = .ok (.getfield 19, 3) := by decide +kernel
theorem dX3_dropOldestState_9 : decode cX3_dropOldestState 9 = .ok (.arraylength, 1) := by decide +kernel
theorem dX3_dropOldestState_10 : decode cX3_dropOldestState 10 = .ok (.if_icmp .ge 39, 3) := by decide +kernel
theorem dX3_dropOldestState_13 : decode cX3_dropOldestState 13 = .ok (.aload_n 0, 1) := by decide +kernel
theorem dX3_dropOldestState_14 : decode cX3_dropOldestState 14 = .ok (.getfield 19, 3) := by decide +kernel
theorem dX3_dropOldestState_17 : decode cX3_dropOldestState 17 = .ok (.iload_n 1, 1) := by decide +kernel
theorem dX3_dropOldestState_18 : decode cX3_dropOldestState 18 = .ok (.aaload, 1) := by decide +kernel
theorem dX3_dropOldestState_19 : decode cX3_dropOldestState 19 = .ok (.astore_n 2, 1) := by decide +kernel
theorem dX3_dropOldestState_20 : decode cX3_dropOldestState 20 = .ok (.aload_n 0, 1) := by decide +kernel
theorem dX3_dropOldestState_21 : decode cX3_dropOldestState 21 = .ok (.getfield 19, 3) := by decide +kernel
theorem dX3_dropOldestState_24 : decode cX3_dropOldestState 24 = .ok (.iload_n 1, 1) := by decide +kernel
theorem dX3_dropOldestState_25 : decode cX3_dropOldestState 25 = .ok (.aload_n 0, 1) := by decide +kernel
theorem dX3_dropOldestState_26 : decode cX3_dropOldestState 26 = .ok (.getfield 19, 3) := by decide +kernel
theorem dX3_dropOldestState_29 : decode cX3_dropOldestState 29 = .ok (.iload_n 1, 1) := by decide +kernel
theorem dX3_dropOldestState_30 : decode cX3_dropOldestState 30 = .ok (.iconst 1, 1) := by decide +kernel
theorem dX3_dropOldestState_31 : decode cX3_dropOldestState 31 = .ok (.iadd, 1) := by decide +kernel
theorem dX3_dropOldestState_32 : decode cX3_dropOldestState 32 = .ok (.aaload, 1) := by decide +kernel
theorem dX3_dropOldestState_33 : decode cX3_dropOldestState 33 = .ok (.aastore, 1) := by decide +kernel
theorem dX3_dropOldestState_34 : decode cX3_dropOldestState 34 = .ok (.aload_n 0, 1) := by decide +kernel
theorem dX3_dropOldestState_35 : decode cX3_dropOldestState 35 = .ok (.getfield 19, 3) := by decide +kernel
theorem dX3_dropOldestState_38 : decode cX3_dropOldestState 38 = .ok (.iload_n 1, 1) := by decide +kernel
theorem dX3_dropOldestState_39 : decode cX3_dropOldestState 39 = .ok (.iconst 1, 1) := by decide +kernel
theorem dX3_dropOldestState_40 : decode cX3_dropOldestState 40 = .ok (.iadd, 1) := by decide +kernel
theorem dX3_dropOldestState_41 : decode cX3_dropOldestState 41 = .ok (.aload_n 2, 1) := by decide +kernel
theorem dX3_dropOldestState_42 : decode cX3_dropOldestState 42 = .ok (.aastore, 1) := by decide +kernel
theorem dX3_dropOldestState_43 : decode cX3_dropOldestState 43 = .ok (.iinc 1 1, 3) := by decide +kernel
theorem dX3_dropOldestState_46 : decode cX3_dropOldestState 46 = .ok (.goto (-44), 3) := by decide +kernel
theorem dX3_dropOldestState_49 : decode cX3_dropOldestState 49 = .ok (.aload_n 0, 1) := by decide +kernel
theorem dX3_dropOldestState_50 : decode cX3_dropOldestState 50 = .ok (.dup, 1) := by decide +kernel
theorem dX3_dropOldestState_51 : decode cX3_dropOldestState 51 = .ok (.getfield 176, 3) := by decide +kernel
theorem dX3_dropOldestState_54 : decode cX3_dropOldestState 54 = .ok (.iconst 1, 1) := by decide +kernel
theorem dX3_dropOldestState_55 : decode cX3_dropOldestState 55 = .ok (.isub, 1) := by decide +kernel
theorem dX3_dropOldestState_56 : decode cX3_dropOldestState 56 = .ok (.putfield 176, 3) := by decide +kernel
theorem dX3_dropOldestState_59 : decode cX3_dropOldestState 59 = .ok (.return_, 1) := by decide +kernel
set_option maxRecDepth 20000 in
theorem ggX3_tryOrders_X2_copyFrom : GoodIn wsX3_tryOrders wsX2_copyFrom := goodIn_r _ [14, 15, 16, 17, 18, 19, 20, 21, 22, 23, 24, 25, 26, 27, 28, 29, 30, 31, 13, 32, 33, 34, 35, 36, 37, 38, 39, 40, 41, 42, 43, 44, 45, 46, 191, 192, 193, 194, 195, 196, 197, 198, 199, 200, 201, 202, 203, 204, 205, 206, 207, 208, 209, 210, 211, 212, 213] (by decide +kernel) (by decide +kernel)
set_option maxRecDepth 20000 in
theorem gX3_tryOrders_X2_copyFrom : GoodIn wsX3_tryOrders (wsV RX3 30 RX2 yX2_copyFrom wsX2_copyFrom) := goodIn_app (goodIn_of _ (by decide +kernel)) ggX3_tryOrders_X2_copyFrom
set_option maxRecDepth 20000 in
theorem ggX3_tryOrders_X0_readOrder : GoodIn wsX3_tryOrders wsX0_readOrder := goodIn_r _ [51, 52, 53, 54, 55, 56, 57, 58, 50, 59, 60, 61, 62, 63, 64, 65, 66, 67, 185, 186, 187, 188, 189, 190] (by decide +kernel) (by decide +kernel)
set_option maxRecDepth 20000 in
theorem gX3_tryOrders_X0_readOrder : GoodIn wsX3_tryOrders (wsV RX3 221 RX0 yX0_readOrder wsX0_readOrder) := goodIn_app (goodIn_of _ (by decide +kernel)) ggX3_tryOrders_X0_readOrder
set_option maxRecDepth 20000 in
theorem ggX3_tryOrders_X3_keepFault : GoodIn wsX3_tryOrders wsX3_keepFault := goodIn_r _ [72, 73, 74, 75, 176, 177, 178, 179, 180, 181, 182, 183, 184] (by decide +kernel) (by decide +kernel)
set_option maxRecDepth 20000 in
theorem gX3_tryOrders_X3_keepFault : GoodIn wsX3_tryOrders (wsV RX3 227 RX3 yX3_keepFault wsX3_keepFault) := goodIn_app (goodIn_of _ (by decide +kernel)) ggX3_tryOrders_X3_keepFault
set_option maxRecDepth 20000 in
theorem ggX3_tryOrders_X2_doOrder : GoodIn wsX3_tryOrders wsX2_doOrder := goodIn_r _ [79, 80, 81, 82, 83, 13, 84, 21, 22, 85, 28, 86, 87, 88, 89, 90, 71, 91, 92, 93, 94, 95, 96, 97, 98, 99, 23, 100, 24, 25, 101, 102, 103, 104, 26, 105, 106, 107, 29, 30, 31, 32, 15, 33, 108, 109, 110, 111, 112, 113, 114, 115, 116, 117, 37, 118, 40, 41, 119, 120, 121, 122, 19, 123, 124, 125, 126, 18, 127, 128, 129, 130, 131, 132, 133, 134, 135, 136, 137, 138, 139, 140, 16, 141, 142, 143, 144, 20, 17, 145, 146, 147, 148, 149, 150, 27, 151, 152, 153, 154, 155, 156, 157, 158, 159, 160, 161, 162, 163, 164, 165, 166, 167, 168, 169, 170, 171, 172, 173, 174, 175, 191, 192, 193, 194, 195, 196, 197, 198, 199, 200, 201, 202, 203, 204, 205, 206, 207, 208, 209, 210, 211, 212, 213] (by decide +kernel) (by decide +kernel)
set_option maxRecDepth 20000 in
theorem gX3_tryOrders_X2_doOrder : GoodIn wsX3_tryOrders (wsV RX3 237 RX2 yX2_doOrder wsX2_doOrder) := goodIn_app (goodIn_of _ (by decide +kernel)) ggX3_tryOrders_X2_doOrder
theorem dX3_tryOrders_0 : decode cX3_tryOrders 0 = .ok (.aload_n 0, 1) := by decide +kernel
theorem dX3_tryOrders_1 : decode cX3_tryOrders 1 = .ok (.getfield 16, 3) := by decide +kernel
theorem dX3_tryOrders_4 : decode cX3_tryOrders 4 = .ok (.aload_n 0, 1) := by decide +kernel
theorem dX3_tryOrders_5 : decode cX3_tryOrders 5 = .ok (.getfield 12, 3) := by decide +kernel
theorem dX3_tryOrders_8 : decode cX3_tryOrders 8 = .ok (.invokevirtual 30, 3) := by decide +kernel
theorem dX3_tryOrders_11 : decode cX3_tryOrders 11 = .ok (.aload_n 0, 1) := by decide +kernel
theorem dX3_tryOrders_12 : decode cX3_tryOrders 12 = .ok (.iconst 0, 1) := by decide +kernel
theorem dX3_tryOrders_13 : decode cX3_tryOrders 13 = .ok (.putfield 212, 3) := by decide +kernel
theorem dX3_tryOrders_16 : decode cX3_tryOrders 16 = .ok (.iconst 0, 1) := by decide +kernel
theorem dX3_tryOrders_17 : decode cX3_tryOrders 17 = .ok (.istore_n 1, 1) := by decide +kernel
theorem dX3_tryOrders_18 : decode cX3_tryOrders 18 = .ok (.iconst 0, 1) := by decide +kernel
theorem dX3_tryOrders_19 : decode cX3_tryOrders 19 = .ok (.istore_n 2, 1) := by decide +kernel
theorem dX3_tryOrders_20 : decode cX3_tryOrders 20 = .ok (.iload_n 2, 1) := by decide +kernel
theorem dX3_tryOrders_21 : decode cX3_tryOrders 21 = .ok (.bipush 60, 2) := by decide +kernel
theorem dX3_tryOrders_23 : decode cX3_tryOrders 23 = .ok (.if_icmp .ge 99, 3) := by decide +kernel
theorem dX3_tryOrders_26 : decode cX3_tryOrders 26 = .ok (.iload_n 1, 1) := by decide +kernel
theorem dX3_tryOrders_27 : decode cX3_tryOrders 27 = .ok (.aload_n 0, 1) := by decide +kernel
theorem dX3_tryOrders_28 : decode cX3_tryOrders 28 = .ok (.getfield 26, 3) := by decide +kernel
theorem dX3_tryOrders_31 : decode cX3_tryOrders 31 = .ok (.getfield 179, 3) := by decide +kernel
theorem dX3_tryOrders_34 : decode cX3_tryOrders 34 = .ok (.if_icmp .ge 88, 3) := by decide +kernel
theorem dX3_tryOrders_37 : decode cX3_tryOrders 37 = .ok (.aload_n 0, 1) := by decide +kernel
theorem dX3_tryOrders_38 : decode cX3_tryOrders 38 = .ok (.getfield 26, 3) := by decide +kernel
theorem dX3_tryOrders_41 : decode cX3_tryOrders 41 = .ok (.iload_n 1, 1) := by decide +kernel
theorem dX3_tryOrders_42 : decode cX3_tryOrders 42 = .ok (.invokevirtual 221, 3) := by decide +kernel
theorem dX3_tryOrders_45 : decode cX3_tryOrders 45 = .ok (.ifCond .ne 18, 3) := by decide +kernel
theorem dX3_tryOrders_48 : decode cX3_tryOrders 48 = .ok (.aload_n 0, 1) := by decide +kernel
theorem dX3_tryOrders_49 : decode cX3_tryOrders 49 = .ok (.iload_n 1, 1) := by decide +kernel
theorem dX3_tryOrders_50 : decode cX3_tryOrders 50 = .ok (.iconst 1, 1) := by decide +kernel
theorem dX3_tryOrders_51 : decode cX3_tryOrders 51 = .ok (.aload_n 0, 1) := by decide +kernel
theorem dX3_tryOrders_52 : decode cX3_tryOrders 52 = .ok (.getfield 26, 3) := by decide +kernel
theorem dX3_tryOrders_55 : decode cX3_tryOrders 55 = .ok (.getfield 224, 3) := by decide +kernel
theorem dX3_tryOrders_58 : decode cX3_tryOrders 58 = .ok (.invokevirtual 227, 3) := by decide +kernel
theorem dX3_tryOrders_61 : decode cX3_tryOrders 61 = .ok (.iconst 0, 1) := by decide +kernel
theorem dX3_tryOrders_62 : decode cX3_tryOrders 62 = .ok (.ireturn, 1) := by decide +kernel
theorem dX3_tryOrders_63 : decode cX3_tryOrders 63 = .ok (.aload_n 0, 1) := by decide +kernel
theorem dX3_tryOrders_64 : decode cX3_tryOrders 64 = .ok (.getfield 16, 3) := by decide +kernel
theorem dX3_tryOrders_67 : decode cX3_tryOrders 67 = .ok (.aload_n 0, 1) := by decide +kernel
theorem dX3_tryOrders_68 : decode cX3_tryOrders 68 = .ok (.getfield 26, 3) := by decide +kernel
theorem dX3_tryOrders_71 : decode cX3_tryOrders 71 = .ok (.getfield 231, 3) := by decide +kernel
theorem dX3_tryOrders_74 : decode cX3_tryOrders 74 = .ok (.aload_n 0, 1) := by decide +kernel
theorem dX3_tryOrders_75 : decode cX3_tryOrders 75 = .ok (.getfield 26, 3) := by decide +kernel
theorem dX3_tryOrders_78 : decode cX3_tryOrders 78 = .ok (.getfield 234, 3) := by decide +kernel
theorem dX3_tryOrders_81 : decode cX3_tryOrders 81 = .ok (.invokevirtual 237, 3) := by decide +kernel
theorem dX3_tryOrders_84 : decode cX3_tryOrders 84 = .ok (.istore_n 3, 1) := by decide +kernel
theorem dX3_tryOrders_85 : decode cX3_tryOrders 85 = .ok (.iload_n 3, 1) := by decide +kernel
theorem dX3_tryOrders_86 : decode cX3_tryOrders 86 = .ok (.ifCond .ge 12, 3) := by decide +kernel
theorem dX3_tryOrders_89 : decode cX3_tryOrders 89 = .ok (.aload_n 0, 1) := by decide +kernel
theorem dX3_tryOrders_90 : decode cX3_tryOrders 90 = .ok (.iload_n 1, 1) := by decide +kernel
theorem dX3_tryOrders_91 : decode cX3_tryOrders 91 = .ok (.iconst 2, 1) := by decide +kernel
theorem dX3_tryOrders_92 : decode cX3_tryOrders 92 = .ok (.iload_n 3, 1) := by decide +kernel
theorem dX3_tryOrders_93 : decode cX3_tryOrders 93 = .ok (.invokevirtual 227, 3) := by decide +kernel
theorem dX3_tryOrders_96 : decode cX3_tryOrders 96 = .ok (.iconst 0, 1) := by decide +kernel
theorem dX3_tryOrders_97 : decode cX3_tryOrders 97 = .ok (.ireturn, 1) := by decide +kernel
theorem dX3_tryOrders_98 : decode cX3_tryOrders 98 = .ok (.aload_n 0, 1) := by decide +kernel
theorem dX3_tryOrders_99 : decode cX3_tryOrders 99 = .ok (.dup, 1) := by decide +kernel
theorem dX3_tryOrders_100 : decode cX3_tryOrders 100 = .ok (.getfield 212, 3) := by decide +kernel
theorem dX3_tryOrders_103 : decode cX3_tryOrders 103 = .ok (.iconst 1, 1) := by decide +kernel
theorem dX3_tryOrders_104 : decode cX3_tryOrders 104 = .ok (.iadd, 1) := by decide +kernel
theorem dX3_tryOrders_105 : decode cX3_tryOrders 105 = .ok (.putfield 212, 3) := by decide +kernel
theorem dX3_tryOrders_108 : decode cX3_tryOrders 108 = .ok (.aload_n 0, 1) := by decide +kernel
theorem dX3_tryOrders_109 : decode cX3_tryOrders 109 = .ok (.getfield 26, 3) := by decide +kernel
theorem dX3_tryOrders_112 : decode cX3_tryOrders 112 = .ok (.getfield 240, 3) := by decide +kernel
theorem dX3_tryOrders_115 : decode cX3_tryOrders 115 = .ok (.istore_n 1, 1) := by decide +kernel
theorem dX3_tryOrders_116 : decode cX3_tryOrders 116 = .ok (.iinc 2 1, 3) := by decide +kernel
theorem dX3_tryOrders_119 : decode cX3_tryOrders 119 = .ok (.goto (-99), 3) := by decide +kernel
theorem dX3_tryOrders_122 : decode cX3_tryOrders 122 = .ok (.iconst 1, 1) := by decide +kernel
theorem dX3_tryOrders_123 : decode cX3_tryOrders 123 = .ok (.ireturn, 1) := by decide +kernel
theorem dX3_keepFault_0 : decode cX3_keepFault 0 = .ok (.aload_n 0, 1) := by decide +kernel
theorem dX3_keepFault_1 : decode cX3_keepFault 1 = .ok (.iload_n 1, 1) := by decide +kernel
theorem dX3_keepFault_2 : decode cX3_keepFault 2 = .ok (.putfield 203, 3) := by decide +kernel
theorem dX3_keepFault_5 : decode cX3_keepFault 5 = .ok (.aload_n 0, 1) := by decide +kernel
theorem dX3_keepFault_6 : decode cX3_keepFault 6 = .ok (.iload_n 2, 1) := by decide +kernel
theorem dX3_keepFault_7 : decode cX3_keepFault 7 = .ok (.putfield 206, 3) := by decide +kernel
theorem dX3_keepFault_10 : decode cX3_keepFault 10 = .ok (.aload_n 0, 1) := by decide +kernel
theorem dX3_keepFault_11 : decode cX3_keepFault 11 = .ok (.iload_n 3, 1) := by decide +kernel
theorem dX3_keepFault_12 : decode cX3_keepFault 12 = .ok (.putfield 209, 3) := by decide +kernel
theorem dX3_keepFault_15 : decode cX3_keepFault 15 = .ok (.return_, 1) := by decide +kernel
theorem dX3_isFlag_0 : decode cX3_isFlag 0 = .ok (.iload_n 0, 1) := by decide +kernel
theorem dX3_isFlag_1 : decode cX3_isFlag 1 = .ok (.ifCond .eq 8, 3) := by decide +kernel
theorem dX3_isFlag_4 : decode cX3_isFlag 4 = .ok (.iload_n 0, 1) := by decide +kernel
theorem dX3_isFlag_5 : decode cX3_isFlag 5 = .ok (.iconst 1, 1) := by decide +kernel
theorem dX3_isFlag_6 : decode cX3_isFlag 6 = .ok (.if_icmp .ne 7, 3) := by decide +kernel
theorem dX3_isFlag_9 : decode cX3_isFlag 9 = .ok (.iconst 1, 1) := by decide +kernel
theorem dX3_isFlag_10 : decode cX3_isFlag 10 = .ok (.goto 4, 3) := by decide +kernel
theorem dX3_isFlag_13 : decode cX3_isFlag 13 = .ok (.iconst 0, 1) := by decide +kernel
theorem dX3_isFlag_14 : decode cX3_isFlag 14 = .ok (.ireturn, 1) := by decide +kernel
theorem dX3_leakOf_0 : decode cX3_leakOf 0 = .ok (.iload_n 0, 1) := by decide +kernel
theorem dX3_leakOf_1 : decode cX3_leakOf 1 = .ok (.bipush 10, 2) := by decide +kernel
theorem dX3_leakOf_3 : decode cX3_leakOf 3 = .ok (.idiv, 1) := by decide +kernel
theorem dX3_leakOf_4 : decode cX3_leakOf 4 = .ok (.ireturn, 1) := by decide +kernel
theorem dX3_wearBehindDay_0 : decode cX3_wearBehindDay 0 = .ok (.bipush 100, 2) := by decide +kernel
theorem dX3_wearBehindDay_2 : decode cX3_wearBehindDay 2 = .ok (.iload_n 0, 1) := by decide +kernel
theorem dX3_wearBehindDay_3 : decode cX3_wearBehindDay 3 = .ok (.iload_n 1, 1) := by decide +kernel
theorem dX3_wearBehindDay_4 : decode cX3_wearBehindDay 4 = .ok (.iconst 2, 1) := by decide +kernel
theorem dX3_wearBehindDay_5 : decode cX3_wearBehindDay 5 = .ok (.idiv, 1) := by decide +kernel
theorem dX3_wearBehindDay_6 : decode cX3_wearBehindDay 6 = .ok (.iadd, 1) := by decide +kernel
theorem dX3_wearBehindDay_7 : decode cX3_wearBehindDay 7 = .ok (.iconst 1, 1) := by decide +kernel
theorem dX3_wearBehindDay_8 : decode cX3_wearBehindDay 8 = .ok (.iadd, 1) := by decide +kernel
theorem dX3_wearBehindDay_9 : decode cX3_wearBehindDay 9 = .ok (.invokestatic 243, 3) := by decide +kernel
theorem dX3_wearBehindDay_12 : decode cX3_wearBehindDay 12 = .ok (.ireturn, 1) := by decide +kernel
set_option maxRecDepth 20000 in
theorem ggX3_heatBehindDay_X3_leakOf : GoodIn wsX3_heatBehindDay wsX3_leakOf := goodIn_r _ [11] (by decide +kernel) (by decide +kernel)
set_option maxRecDepth 20000 in
theorem gX3_heatBehindDay_X3_leakOf : GoodIn wsX3_heatBehindDay (va_wsS RX3 78 yX3_leakOf wsX3_leakOf) := goodIn_app (goodIn_of _ (by decide +kernel)) ggX3_heatBehindDay_X3_leakOf
theorem dX3_heatBehindDay_0 : decode cX3_heatBehindDay 0 = .ok (.iload_n 1, 1) := by decide +kernel
theorem dX3_heatBehindDay_1 : decode cX3_heatBehindDay 1 = .ok (.invokestatic 78, 3) := by decide +kernel
theorem dX3_heatBehindDay_4 : decode cX3_heatBehindDay 4 = .ok (.istore_n 2, 1) := by decide +kernel
theorem dX3_heatBehindDay_5 : decode cX3_heatBehindDay 5 = .ok (.iload_n 2, 1) := by decide +kernel
theorem dX3_heatBehindDay_6 : decode cX3_heatBehindDay 6 = .ok (.ifCond .ne 13, 3) := by decide +kernel
theorem dX3_heatBehindDay_9 : decode cX3_heatBehindDay 9 = .ok (.bipush 100, 2) := by decide +kernel
theorem dX3_heatBehindDay_11 : decode cX3_heatBehindDay 11 = .ok (.iload_n 0, 1) := by decide +kernel
theorem dX3_heatBehindDay_12 : decode cX3_heatBehindDay 12 = .ok (.bipush 10, 2) := by decide +kernel
theorem dX3_heatBehindDay_14 : decode cX3_heatBehindDay 14 = .ok (.iadd, 1) := by decide +kernel
theorem dX3_heatBehindDay_15 : decode cX3_heatBehindDay 15 = .ok (.invokestatic 243, 3) := by decide +kernel
theorem dX3_heatBehindDay_18 : decode cX3_heatBehindDay 18 = .ok (.ireturn, 1) := by decide +kernel
theorem dX3_heatBehindDay_19 : decode cX3_heatBehindDay 19 = .ok (.iconst 0, 1) := by decide +kernel
theorem dX3_heatBehindDay_20 : decode cX3_heatBehindDay 20 = .ok (.iload_n 0, 1) := by decide +kernel
theorem dX3_heatBehindDay_21 : decode cX3_heatBehindDay 21 = .ok (.iload_n 2, 1) := by decide +kernel
theorem dX3_heatBehindDay_22 : decode cX3_heatBehindDay 22 = .ok (.iconst 2, 1) := by decide +kernel
theorem dX3_heatBehindDay_23 : decode cX3_heatBehindDay 23 = .ok (.imul, 1) := by decide +kernel
theorem dX3_heatBehindDay_24 : decode cX3_heatBehindDay 24 = .ok (.isub, 1) := by decide +kernel
theorem dX3_heatBehindDay_25 : decode cX3_heatBehindDay 25 = .ok (.invokestatic 248, 3) := by decide +kernel
theorem dX3_heatBehindDay_28 : decode cX3_heatBehindDay 28 = .ok (.ireturn, 1) := by decide +kernel
theorem dX3_tensBegun_0 : decode cX3_tensBegun 0 = .ok (.iload_n 0, 1) := by decide +kernel
theorem dX3_tensBegun_1 : decode cX3_tensBegun 1 = .ok (.bipush 9, 2) := by decide +kernel
theorem dX3_tensBegun_3 : decode cX3_tensBegun 3 = .ok (.iadd, 1) := by decide +kernel
theorem dX3_tensBegun_4 : decode cX3_tensBegun 4 = .ok (.bipush 10, 2) := by decide +kernel
theorem dX3_tensBegun_6 : decode cX3_tensBegun 6 = .ok (.idiv, 1) := by decide +kernel
theorem dX3_tensBegun_7 : decode cX3_tensBegun 7 = .ok (.ireturn, 1) := by decide +kernel
set_option maxRecDepth 20000 in
theorem ggX3_hoursOfWay_X3_tensBegun : GoodIn wsX3_hoursOfWay wsX3_tensBegun := goodIn_r _ [8] (by decide +kernel) (by decide +kernel)
set_option maxRecDepth 20000 in
theorem gX3_hoursOfWay_X3_tensBegun : GoodIn wsX3_hoursOfWay (va_wsS RX3 254 yX3_tensBegun wsX3_tensBegun) := goodIn_app (goodIn_of _ (by decide +kernel)) ggX3_hoursOfWay_X3_tensBegun
theorem dX3_hoursOfWay_0 : decode cX3_hoursOfWay 0 = .ok (.iload_n 0, 1) := by decide +kernel
theorem dX3_hoursOfWay_1 : decode cX3_hoursOfWay 1 = .ok (.iload_n 1, 1) := by decide +kernel
theorem dX3_hoursOfWay_2 : decode cX3_hoursOfWay 2 = .ok (.isub, 1) := by decide +kernel
theorem dX3_hoursOfWay_3 : decode cX3_hoursOfWay 3 = .ok (.invokestatic 251, 3) := by decide +kernel
theorem dX3_hoursOfWay_6 : decode cX3_hoursOfWay 6 = .ok (.invokestatic 254, 3) := by decide +kernel
theorem dX3_hoursOfWay_9 : decode cX3_hoursOfWay 9 = .ok (.ireturn, 1) := by decide +kernel
theorem dX3_hoursOfMend_0 : decode cX3_hoursOfMend 0 = .ok (.iload_n 0, 1) := by decide +kernel
theorem dX3_hoursOfMend_1 : decode cX3_hoursOfMend 1 = .ok (.ifCond .eq 7, 3) := by decide +kernel
theorem dX3_hoursOfMend_4 : decode cX3_hoursOfMend 4 = .ok (.iconst 3, 1) := by decide +kernel
theorem dX3_hoursOfMend_5 : decode cX3_hoursOfMend 5 = .ok (.goto 4, 3) := by decide +kernel
theorem dX3_hoursOfMend_8 : decode cX3_hoursOfMend 8 = .ok (.iconst 1, 1) := by decide +kernel
theorem dX3_hoursOfMend_9 : decode cX3_hoursOfMend 9 = .ok (.ireturn, 1) := by decide +kernel
theorem dX3_bitsOf_0 : decode cX3_bitsOf 0 = .ok (.fload_n 0, 1) := by decide +kernel
theorem dX3_bitsOf_1 : decode cX3_bitsOf 1 = .ok (.fconst 0, 1) := by decide +kernel
theorem dX3_bitsOf_2 : decode cX3_bitsOf 2 = .ok (.fcmp .g, 1) := by decide +kernel
theorem dX3_bitsOf_3 : decode cX3_bitsOf 3 = .ok (.ifCond .gt 5, 3) := by decide +kernel
theorem dX3_bitsOf_6 : decode cX3_bitsOf 6 = .ok (.iconst 0, 1) := by decide +kernel
theorem dX3_bitsOf_7 : decode cX3_bitsOf 7 = .ok (.ireturn, 1) := by decide +kernel
theorem dX3_bitsOf_8 : decode cX3_bitsOf 8 = .ok (.fload_n 0, 1) := by decide +kernel
theorem dX3_bitsOf_9 : decode cX3_bitsOf 9 = .ok (.fstore_n 1, 1) := by decide +kernel
theorem dX3_bitsOf_10 : decode cX3_bitsOf 10 = .ok (.iconst 0, 1) := by decide +kernel
theorem dX3_bitsOf_11 : decode cX3_bitsOf 11 = .ok (.istore_n 2, 1) := by decide +kernel
theorem dX3_bitsOf_12 : decode cX3_bitsOf 12 = .ok (.iconst 0, 1) := by decide +kernel
theorem dX3_bitsOf_13 : decode cX3_bitsOf 13 = .ok (.istore_n 3, 1) := by decide +kernel
theorem dX3_bitsOf_14 : decode cX3_bitsOf 14 = .ok (.iload_n 3, 1) := by decide +kernel
theorem dX3_bitsOf_15 : decode cX3_bitsOf 15 = .ok (.bipush 127, 2) := by decide +kernel
theorem dX3_bitsOf_17 : decode cX3_bitsOf 17 = .ok (.if_icmp .ge 22, 3) := by decide +kernel
theorem dX3_bitsOf_20 : decode cX3_bitsOf 20 = .ok (.fload_n 1, 1) := by decide +kernel
theorem dX3_bitsOf_21 : decode cX3_bitsOf 21 = .ok (.fconst 2, 1) := by decide +kernel
theorem dX3_bitsOf_22 : decode cX3_bitsOf 22 = .ok (.fcmp .l, 1) := by decide +kernel
theorem dX3_bitsOf_23 : decode cX3_bitsOf 23 = .ok (.ifCond .lt 16, 3) := by decide +kernel
theorem dX3_bitsOf_26 : decode cX3_bitsOf 26 = .ok (.fload_n 1, 1) := by decide +kernel
theorem dX3_bitsOf_27 : decode cX3_bitsOf 27 = .ok (.fconst 2, 1) := by decide +kernel
theorem dX3_bitsOf_28 : decode cX3_bitsOf 28 = .ok (.fdiv, 1) := by decide +kernel
theorem dX3_bitsOf_29 : decode cX3_bitsOf 29 = .ok (.fstore_n 1, 1) := by decide +kernel
theorem dX3_bitsOf_30 : decode cX3_bitsOf 30 = .ok (.iinc 2 1, 3) := by decide +kernel
theorem dX3_bitsOf_33 : decode cX3_bitsOf 33 = .ok (.iinc 3 1, 3) := by decide +kernel
theorem dX3_bitsOf_36 : decode cX3_bitsOf 36 = .ok (.goto (-22), 3) := by decide +kernel
theorem dX3_bitsOf_39 : decode cX3_bitsOf 39 = .ok (.iconst 0, 1) := by decide +kernel
theorem dX3_bitsOf_40 : decode cX3_bitsOf 40 = .ok (.istore_n 3, 1) := by decide +kernel
theorem dX3_bitsOf_41 : decode cX3_bitsOf 41 = .ok (.iload_n 3, 1) := by decide +kernel
theorem dX3_bitsOf_42 : decode cX3_bitsOf 42 = .ok (.bipush 126, 2) := by decide +kernel
theorem dX3_bitsOf_44 : decode cX3_bitsOf 44 = .ok (.if_icmp .ge 22, 3) := by decide +kernel
theorem dX3_bitsOf_47 : decode cX3_bitsOf 47 = .ok (.fload_n 1, 1) := by decide +kernel
