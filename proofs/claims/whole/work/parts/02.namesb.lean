theorem inJxf58ca : ∀ w ∈ wsJxf58ca0, w ∈ lw_tbl := by decide +kernel
theorem inJ6 : ∀ w ∈ wsJ60, w ∈ lw_tbl := by decide +kernel
theorem inJ9 : ∀ w ∈ wsJ90, w ∈ lw_tbl := by decide +kernel
theorem dX0_init_0 : decode cX0_init 0 = .ok (.aload_n 0, 1) := by decide +kernel
theorem dX0_init_1 : decode cX0_init 1 = .ok (.invokespecial 3, 3) := by decide +kernel
theorem dX0_init_4 : decode cX0_init 4 = .ok (.aload_n 0, 1) := by decide +kernel
theorem dX0_init_5 : decode cX0_init 5 = .ok (.bipush 60, 2) := by decide +kernel
theorem dX0_init_7 : decode cX0_init 7 = .ok (.newarray .char, 2) := by decide +kernel
theorem dX0_init_9 : decode cX0_init 9 = .ok (.putfield 9, 3) := by decide +kernel
theorem dX0_init_12 : decode cX0_init 12 = .ok (.return_, 1) := by decide +kernel
theorem dX0_append_0 : decode cX0_append 0 = .ok (.aload_n 0, 1) := by decide +kernel
theorem dX0_append_1 : decode cX0_append 1 = .ok (.getfield 15, 3) := by decide +kernel
theorem dX0_append_4 : decode cX0_append 4 = .ok (.ifCond .lt 15, 3) := by decide +kernel
theorem dX0_append_7 : decode cX0_append 7 = .ok (.aload_n 0, 1) := by decide +kernel
theorem dX0_append_8 : decode cX0_append 8 = .ok (.getfield 15, 3) := by decide +kernel
theorem dX0_append_11 : decode cX0_append 11 = .ok (.aload_n 0, 1) := by decide +kernel
theorem dX0_append_12 : decode cX0_append 12 = .ok (.getfield 9, 3) := by decide +kernel
theorem dX0_append_15 : decode cX0_append 15 = .ok (.arraylength, 1) := by decide +kernel
theorem dX0_append_16 : decode cX0_append 16 = .ok (.if_icmp .lt 6, 3) := by decide +kernel
theorem dX0_append_19 : decode cX0_append 19 = .ok (.ldc 19, 2) := by decide +kernel
theorem dX0_append_21 : decode cX0_append 21 = .ok (.ireturn, 1) := by decide +kernel
theorem dX0_append_22 : decode cX0_append 22 = .ok (.aload_n 0, 1) := by decide +kernel
theorem dX0_append_23 : decode cX0_append 23 = .ok (.getfield 9, 3) := by decide +kernel
theorem dX0_append_26 : decode cX0_append 26 = .ok (.aload_n 0, 1) := by decide +kernel
theorem dX0_append_27 : decode cX0_append 27 = .ok (.getfield 15, 3) := by decide +kernel
theorem dX0_append_30 : decode cX0_append 30 = .ok (.iload_n 1, 1) := by decide +kernel
theorem dX0_append_31 : decode cX0_append 31 = .ok (.castore, 1) := by decide +kernel
theorem dX0_append_32 : decode cX0_append 32 = .ok (.aload_n 0, 1) := by decide +kernel
theorem dX0_append_33 : decode cX0_append 33 = .ok (.dup, 1) := by decide +kernel
theorem dX0_append_34 : decode cX0_append 34 = .ok (.getfield 15, 3) := by decide +kernel
theorem dX0_append_37 : decode cX0_append 37 = .ok (.iconst 1, 1) := by decide +kernel
theorem dX0_append_38 : decode cX0_append 38 = .ok (.iadd, 1) := by decide +kernel
theorem dX0_append_39 : decode cX0_append 39 = .ok (.putfield 15, 3) := by decide +kernel
theorem dX0_append_42 : decode cX0_append 42 = .ok (.aload_n 0, 1) := by decide +kernel
theorem dX0_append_43 : decode cX0_append 43 = .ok (.getfield 15, 3) := by decide +kernel
theorem dX0_append_46 : decode cX0_append 46 = .ok (.ireturn, 1) := by decide +kernel
theorem dX0_characterAt_0 : decode cX0_characterAt 0 = .ok (.iload_n 1, 1) := by decide +kernel
theorem dX0_characterAt_1 : decode cX0_characterAt 1 = .ok (.ifCond .lt 20, 3) := by decide +kernel
theorem dX0_characterAt_4 : decode cX0_characterAt 4 = .ok (.iload_n 1, 1) := by decide +kernel
theorem dX0_characterAt_5 : decode cX0_characterAt 5 = .ok (.aload_n 0, 1) := by decide +kernel
theorem dX0_characterAt_6 : decode cX0_characterAt 6 = .ok (.getfield 15, 3) := by decide +kernel
theorem dX0_characterAt_9 : decode cX0_characterAt 9 = .ok (.if_icmp .ge 12, 3) := by decide +kernel
theorem dX0_characterAt_12 : decode cX0_characterAt 12 = .ok (.iload_n 1, 1) := by decide +kernel
theorem dX0_characterAt_13 : decode cX0_characterAt 13 = .ok (.aload_n 0, 1) := by decide +kernel
theorem dX0_characterAt_14 : decode cX0_characterAt 14 = .ok (.getfield 9, 3) := by decide +kernel
theorem dX0_characterAt_17 : decode cX0_characterAt 17 = .ok (.arraylength, 1) := by decide +kernel
theorem dX0_characterAt_18 : decode cX0_characterAt 18 = .ok (.if_icmp .lt 5, 3) := by decide +kernel
theorem dX0_characterAt_21 : decode cX0_characterAt 21 = .ok (.iconst (-1), 1) := by decide +kernel
theorem dX0_characterAt_22 : decode cX0_characterAt 22 = .ok (.ireturn, 1) := by decide +kernel
theorem dX0_characterAt_23 : decode cX0_characterAt 23 = .ok (.aload_n 0, 1) := by decide +kernel
theorem dX0_characterAt_24 : decode cX0_characterAt 24 = .ok (.getfield 9, 3) := by decide +kernel
theorem dX0_characterAt_27 : decode cX0_characterAt 27 = .ok (.iload_n 1, 1) := by decide +kernel
theorem dX0_characterAt_28 : decode cX0_characterAt 28 = .ok (.caload, 1) := by decide +kernel
theorem dX0_characterAt_29 : decode cX0_characterAt 29 = .ok (.ireturn, 1) := by decide +kernel
set_option maxRecDepth 20000 in
theorem ggX0_readOrder_X0_characterAt : GoodIn wsX0_readOrder wsX0_characterAt := goodIn_r _ [9, 10, 11, 18, 19, 20, 21, 22, 23] (by decide +kernel) (by decide +kernel)
set_option maxRecDepth 20000 in
theorem gX0_readOrder_X0_characterAt : GoodIn wsX0_readOrder (wsV RX0 20 RX0 yX0_characterAt wsX0_characterAt) := goodIn_app (goodIn_of _ (by decide +kernel)) ggX0_readOrder_X0_characterAt
set_option maxRecDepth 20000 in
theorem ggX0_readOrder_X0_isOrderLetter : GoodIn wsX0_readOrder wsX0_isOrderLetter := goodIn_r _ [14] (by decide +kernel) (by decide +kernel)
set_option maxRecDepth 20000 in
theorem gX0_readOrder_X0_isOrderLetter : GoodIn wsX0_readOrder (va_wsS RX0 27 yX0_isOrderLetter wsX0_isOrderLetter) := goodIn_app (goodIn_of _ (by decide +kernel)) ggX0_readOrder_X0_isOrderLetter
set_option maxRecDepth 20000 in
theorem ggX0_readOrder_X0_isDigit : GoodIn wsX0_readOrder wsX0_isDigit := goodIn_r _ [17] (by decide +kernel) (by decide +kernel)
set_option maxRecDepth 20000 in
theorem gX0_readOrder_X0_isDigit : GoodIn wsX0_readOrder (va_wsS RX0 37 yX0_isDigit wsX0_isDigit) := goodIn_app (goodIn_of _ (by decide +kernel)) ggX0_readOrder_X0_isDigit
theorem dX0_readOrder_0 : decode cX0_readOrder 0 = .ok (.aload_n 0, 1) := by decide +kernel
theorem dX0_readOrder_1 : decode cX0_readOrder 1 = .ok (.aload_n 0, 1) := by decide +kernel
theorem dX0_readOrder_2 : decode cX0_readOrder 2 = .ok (.iload_n 1, 1) := by decide +kernel
theorem dX0_readOrder_3 : decode cX0_readOrder 3 = .ok (.invokevirtual 20, 3) := by decide +kernel
theorem dX0_readOrder_6 : decode cX0_readOrder 6 = .ok (.putfield 24, 3) := by decide +kernel
theorem dX0_readOrder_9 : decode cX0_readOrder 9 = .ok (.aload_n 0, 1) := by decide +kernel
theorem dX0_readOrder_10 : decode cX0_readOrder 10 = .ok (.getfield 24, 3) := by decide +kernel
theorem dX0_readOrder_13 : decode cX0_readOrder 13 = .ok (.invokestatic 27, 3) := by decide +kernel
theorem dX0_readOrder_16 : decode cX0_readOrder 16 = .ok (.ifCond .ne 10, 3) := by decide +kernel
theorem dX0_readOrder_19 : decode cX0_readOrder 19 = .ok (.aload_n 0, 1) := by decide +kernel
theorem dX0_readOrder_20 : decode cX0_readOrder 20 = .ok (.iconst 0, 1) := by decide +kernel
theorem dX0_readOrder_21 : decode cX0_readOrder 21 = .ok (.putfield 31, 3) := by decide +kernel
theorem dX0_readOrder_24 : decode cX0_readOrder 24 = .ok (.iconst 0, 1) := by decide +kernel
theorem dX0_readOrder_25 : decode cX0_readOrder 25 = .ok (.ireturn, 1) := by decide +kernel
theorem dX0_readOrder_26 : decode cX0_readOrder 26 = .ok (.aload_n 0, 1) := by decide +kernel
theorem dX0_readOrder_27 : decode cX0_readOrder 27 = .ok (.iconst 0, 1) := by decide +kernel
theorem dX0_readOrder_28 : decode cX0_readOrder 28 = .ok (.putfield 34, 3) := by decide +kernel
theorem dX0_readOrder_31 : decode cX0_readOrder 31 = .ok (.iconst 0, 1) := by decide +kernel
theorem dX0_readOrder_32 : decode cX0_readOrder 32 = .ok (.istore_n 2, 1) := by decide +kernel
theorem dX0_readOrder_33 : decode cX0_readOrder 33 = .ok (.iload_n 2, 1) := by decide +kernel
theorem dX0_readOrder_34 : decode cX0_readOrder 34 = .ok (.iconst 3, 1) := by decide +kernel
theorem dX0_readOrder_35 : decode cX0_readOrder 35 = .ok (.if_icmp .ge 48, 3) := by decide +kernel
theorem dX0_readOrder_38 : decode cX0_readOrder 38 = .ok (.aload_n 0, 1) := by decide +kernel
theorem dX0_readOrder_39 : decode cX0_readOrder 39 = .ok (.iload_n 1, 1) := by decide +kernel
theorem dX0_readOrder_40 : decode cX0_readOrder 40 = .ok (.iconst 1, 1) := by decide +kernel
theorem dX0_readOrder_41 : decode cX0_readOrder 41 = .ok (.iadd, 1) := by decide +kernel
theorem dX0_readOrder_42 : decode cX0_readOrder 42 = .ok (.iload_n 2, 1) := by decide +kernel
theorem dX0_readOrder_43 : decode cX0_readOrder 43 = .ok (.iadd, 1) := by decide +kernel
theorem dX0_readOrder_44 : decode cX0_readOrder 44 = .ok (.invokevirtual 20, 3) := by decide +kernel
theorem dX0_readOrder_47 : decode cX0_readOrder 47 = .ok (.invokestatic 37, 3) := by decide +kernel
theorem dX0_readOrder_50 : decode cX0_readOrder 50 = .ok (.ifCond .eq 33, 3) := by decide +kernel
theorem dX0_readOrder_53 : decode cX0_readOrder 53 = .ok (.aload_n 0, 1) := by decide +kernel
theorem dX0_readOrder_54 : decode cX0_readOrder 54 = .ok (.aload_n 0, 1) := by decide +kernel
theorem dX0_readOrder_55 : decode cX0_readOrder 55 = .ok (.getfield 34, 3) := by decide +kernel
theorem dX0_readOrder_58 : decode cX0_readOrder 58 = .ok (.bipush 10, 2) := by decide +kernel
theorem dX0_readOrder_60 : decode cX0_readOrder 60 = .ok (.imul, 1) := by decide +kernel
theorem dX0_readOrder_61 : decode cX0_readOrder 61 = .ok (.aload_n 0, 1) := by decide +kernel
theorem dX0_readOrder_62 : decode cX0_readOrder 62 = .ok (.iload_n 1, 1) := by decide +kernel
theorem dX0_readOrder_63 : decode cX0_readOrder 63 = .ok (.iconst 1, 1) := by decide +kernel
theorem dX0_readOrder_64 : decode cX0_readOrder 64 = .ok (.iadd, 1) := by decide +kernel
theorem dX0_readOrder_65 : decode cX0_readOrder 65 = .ok (.iload_n 2, 1) := by decide +kernel
theorem dX0_readOrder_66 : decode cX0_readOrder 66 = .ok (.iadd, 1) := by decide +kernel
theorem dX0_readOrder_67 : decode cX0_readOrder 67 = .ok (.invokevirtual 20, 3) := by decide +kernel
theorem dX0_readOrder_70 : decode cX0_readOrder 70 = .ok (.iadd, 1) := by decide +kernel
theorem dX0_readOrder_71 : decode cX0_readOrder 71 = .ok (.bipush 48, 2) := by decide +kernel
theorem dX0_readOrder_73 : decode cX0_readOrder 73 = .ok (.isub, 1) := by decide +kernel
theorem dX0_readOrder_74 : decode cX0_readOrder 74 = .ok (.putfield 34, 3) := by decide +kernel
theorem dX0_readOrder_77 : decode cX0_readOrder 77 = .ok (.iinc 2 1, 3) := by decide +kernel
theorem dX0_readOrder_80 : decode cX0_readOrder 80 = .ok (.goto (-47), 3) := by decide +kernel
theorem dX0_readOrder_83 : decode cX0_readOrder 83 = .ok (.iload_n 2, 1) := by decide +kernel
theorem dX0_readOrder_84 : decode cX0_readOrder 84 = .ok (.ifCond .eq 17, 3) := by decide +kernel
theorem dX0_readOrder_87 : decode cX0_readOrder 87 = .ok (.aload_n 0, 1) := by decide +kernel
theorem dX0_readOrder_88 : decode cX0_readOrder 88 = .ok (.iload_n 1, 1) := by decide +kernel
theorem dX0_readOrder_89 : decode cX0_readOrder 89 = .ok (.iconst 1, 1) := by decide +kernel
theorem dX0_readOrder_90 : decode cX0_readOrder 90 = .ok (.iadd, 1) := by decide +kernel
theorem dX0_readOrder_91 : decode cX0_readOrder 91 = .ok (.iload_n 2, 1) := by decide +kernel
theorem dX0_readOrder_92 : decode cX0_readOrder 92 = .ok (.iadd, 1) := by decide +kernel
theorem dX0_readOrder_93 : decode cX0_readOrder 93 = .ok (.invokevirtual 20, 3) := by decide +kernel
theorem dX0_readOrder_96 : decode cX0_readOrder 96 = .ok (.bipush 59, 2) := by decide +kernel
theorem dX0_readOrder_98 : decode cX0_readOrder 98 = .ok (.if_icmp .eq 12, 3) := by decide +kernel
theorem dX0_readOrder_101 : decode cX0_readOrder 101 = .ok (.aload_n 0, 1) := by decide +kernel
theorem dX0_readOrder_102 : decode cX0_readOrder 102 = .ok (.iconst 1, 1) := by decide +kernel
theorem dX0_readOrder_103 : decode cX0_readOrder 103 = .ok (.iload_n 2, 1) := by decide +kernel
theorem dX0_readOrder_104 : decode cX0_readOrder 104 = .ok (.iadd, 1) := by decide +kernel
theorem dX0_readOrder_105 : decode cX0_readOrder 105 = .ok (.putfield 31, 3) := by decide +kernel
theorem dX0_readOrder_108 : decode cX0_readOrder 108 = .ok (.iconst 0, 1) := by decide +kernel
theorem dX0_readOrder_109 : decode cX0_readOrder 109 = .ok (.ireturn, 1) := by decide +kernel
theorem dX0_readOrder_110 : decode cX0_readOrder 110 = .ok (.aload_n 0, 1) := by decide +kernel
theorem dX0_readOrder_111 : decode cX0_readOrder 111 = .ok (.iload_n 1, 1) := by decide +kernel
theorem dX0_readOrder_112 : decode cX0_readOrder 112 = .ok (.iconst 2, 1) := by decide +kernel
theorem dX0_readOrder_113 : decode cX0_readOrder 113 = .ok (.iadd, 1) := by decide +kernel
theorem dX0_readOrder_114 : decode cX0_readOrder 114 = .ok (.iload_n 2, 1) := by decide +kernel
theorem dX0_readOrder_115 : decode cX0_readOrder 115 = .ok (.iadd, 1) := by decide +kernel
theorem dX0_readOrder_116 : decode cX0_readOrder 116 = .ok (.putfield 40, 3) := by decide +kernel
theorem dX0_readOrder_119 : decode cX0_readOrder 119 = .ok (.iconst 1, 1) := by decide +kernel
theorem dX0_readOrder_120 : decode cX0_readOrder 120 = .ok (.ireturn, 1) := by decide +kernel
theorem dX0_isOrderLetter_0 : decode cX0_isOrderLetter 0 = .ok (.iload_n 0, 1) := by decide +kernel
theorem dX0_isOrderLetter_1 : decode cX0_isOrderLetter 1 = .ok (.lookupswitch 61 #[(98, 59), (99, 59), (100, 59), (104, 59), (112, 59), (119, 59)], 59) := by decide +kernel
theorem dX0_isOrderLetter_60 : decode cX0_isOrderLetter 60 = .ok (.iconst 1, 1) := by decide +kernel
theorem dX0_isOrderLetter_61 : decode cX0_isOrderLetter 61 = .ok (.ireturn, 1) := by decide +kernel
theorem dX0_isOrderLetter_62 : decode cX0_isOrderLetter 62 = .ok (.iconst 0, 1) := by decide +kernel
theorem dX0_isOrderLetter_63 : decode cX0_isOrderLetter 63 = .ok (.ireturn, 1) := by decide +kernel
theorem dX0_isDigit_0 : decode cX0_isDigit 0 = .ok (.iload_n 0, 1) := by decide +kernel
theorem dX0_isDigit_1 : decode cX0_isDigit 1 = .ok (.bipush 48, 2) := by decide +kernel
theorem dX0_isDigit_3 : decode cX0_isDigit 3 = .ok (.if_icmp .lt 13, 3) := by decide +kernel
theorem dX0_isDigit_6 : decode cX0_isDigit 6 = .ok (.iload_n 0, 1) := by decide +kernel
theorem dX0_isDigit_7 : decode cX0_isDigit 7 = .ok (.bipush 57, 2) := by decide +kernel
theorem dX0_isDigit_9 : decode cX0_isDigit 9 = .ok (.if_icmp .gt 7, 3) := by decide +kernel
theorem dX0_isDigit_12 : decode cX0_isDigit 12 = .ok (.iconst 1, 1) := by decide +kernel
theorem dX0_isDigit_13 : decode cX0_isDigit 13 = .ok (.goto 4, 3) := by decide +kernel
theorem dX0_isDigit_16 : decode cX0_isDigit 16 = .ok (.iconst 0, 1) := by decide +kernel
theorem dX0_isDigit_17 : decode cX0_isDigit 17 = .ok (.ireturn, 1) := by decide +kernel
theorem dX1_init_0 : decode cX1_init 0 = .ok (.aload_n 0, 1) := by decide +kernel
theorem dX1_init_1 : decode cX1_init 1 = .ok (.invokespecial 3, 3) := by decide +kernel
theorem dX1_init_4 : decode cX1_init 4 = .ok (.return_, 1) := by decide +kernel
theorem dX1_beginAt_0 : decode cX1_beginAt 0 = .ok (.aload_n 0, 1) := by decide +kernel
theorem dX1_beginAt_1 : decode cX1_beginAt 1 = .ok (.iload_n 1, 1) := by decide +kernel
theorem dX1_beginAt_2 : decode cX1_beginAt 2 = .ok (.putfield 9, 3) := by decide +kernel
theorem dX1_beginAt_5 : decode cX1_beginAt 5 = .ok (.aload_n 0, 1) := by decide +kernel
theorem dX1_beginAt_6 : decode cX1_beginAt 6 = .ok (.iload_n 2, 1) := by decide +kernel
theorem dX1_beginAt_7 : decode cX1_beginAt 7 = .ok (.putfield 15, 3) := by decide +kernel
theorem dX1_beginAt_10 : decode cX1_beginAt 10 = .ok (.aload_n 0, 1) := by decide +kernel
theorem dX1_beginAt_11 : decode cX1_beginAt 11 = .ok (.iconst 0, 1) := by decide +kernel
theorem dX1_beginAt_12 : decode cX1_beginAt 12 = .ok (.putfield 18, 3) := by decide +kernel
theorem dX1_beginAt_15 : decode cX1_beginAt 15 = .ok (.aload_n 0, 1) := by decide +kernel
theorem dX1_beginAt_16 : decode cX1_beginAt 16 = .ok (.bipush 100, 2) := by decide +kernel
theorem dX1_beginAt_18 : decode cX1_beginAt 18 = .ok (.putfield 21, 3) := by decide +kernel
theorem dX1_beginAt_21 : decode cX1_beginAt 21 = .ok (.aload_n 0, 1) := by decide +kernel
theorem dX1_beginAt_22 : decode cX1_beginAt 22 = .ok (.iconst 0, 1) := by decide +kernel
theorem dX1_beginAt_23 : decode cX1_beginAt 23 = .ok (.putfield 24, 3) := by decide +kernel
theorem dX1_beginAt_26 : decode cX1_beginAt 26 = .ok (.aload_n 0, 1) := by decide +kernel
theorem dX1_beginAt_27 : decode cX1_beginAt 27 = .ok (.iconst 0, 1) := by decide +kernel
theorem dX1_beginAt_28 : decode cX1_beginAt 28 = .ok (.putfield 27, 3) := by decide +kernel
theorem dX1_beginAt_31 : decode cX1_beginAt 31 = .ok (.aload_n 0, 1) := by decide +kernel
theorem dX1_beginAt_32 : decode cX1_beginAt 32 = .ok (.iconst 0, 1) := by decide +kernel
theorem dX1_beginAt_33 : decode cX1_beginAt 33 = .ok (.putfield 30, 3) := by decide +kernel
theorem dX1_beginAt_36 : decode cX1_beginAt 36 = .ok (.aload_n 0, 1) := by decide +kernel
theorem dX1_beginAt_37 : decode cX1_beginAt 37 = .ok (.iconst 0, 1) := by decide +kernel
theorem dX1_beginAt_38 : decode cX1_beginAt 38 = .ok (.putfield 33, 3) := by decide +kernel
theorem dX1_beginAt_41 : decode cX1_beginAt 41 = .ok (.return_, 1) := by decide +kernel
theorem dX1_copyFrom_0 : decode cX1_copyFrom 0 = .ok (.aload_n 0, 1) := by decide +kernel
theorem dX1_copyFrom_1 : decode cX1_copyFrom 1 = .ok (.aload_n 1, 1) := by decide +kernel
theorem dX1_copyFrom_2 : decode cX1_copyFrom 2 = .ok (.getfield 9, 3) := by decide +kernel
theorem dX1_copyFrom_5 : decode cX1_copyFrom 5 = .ok (.putfield 9, 3) := by decide +kernel
theorem dX1_copyFrom_8 : decode cX1_copyFrom 8 = .ok (.aload_n 0, 1) := by decide +kernel
theorem dX1_copyFrom_9 : decode cX1_copyFrom 9 = .ok (.aload_n 1, 1) := by decide +kernel
theorem dX1_copyFrom_10 : decode cX1_copyFrom 10 = .ok (.getfield 15, 3) := by decide +kernel
theorem dX1_copyFrom_13 : decode cX1_copyFrom 13 = .ok (.putfield 15, 3) := by decide +kernel
theorem dX1_copyFrom_16 : decode cX1_copyFrom 16 = .ok (.aload_n 0, 1) := by decide +kernel
theorem dX1_copyFrom_17 : decode cX1_copyFrom 17 = .ok (.aload_n 1, 1) := by decide +kernel
theorem dX1_copyFrom_18 : decode cX1_copyFrom 18 = .ok (.getfield 18, 3) := by decide +kernel
theorem dX1_copyFrom_21 : decode cX1_copyFrom 21 = .ok (.putfield 18, 3) := by decide +kernel
theorem dX1_copyFrom_24 : decode cX1_copyFrom 24 = .ok (.aload_n 0, 1) := by decide +kernel
theorem dX1_copyFrom_25 : decode cX1_copyFrom 25 = .ok (.aload_n 1, 1) := by decide +kernel
theorem dX1_copyFrom_26 : decode cX1_copyFrom 26 = .ok (.getfield 21, 3) := by decide +kernel
theorem dX1_copyFrom_29 : decode cX1_copyFrom 29 = .ok (.putfield 21, 3) := by decide +kernel
theorem dX1_copyFrom_32 : decode cX1_copyFrom 32 = .ok (.aload_n 0, 1) := by decide +kernel
theorem dX1_copyFrom_33 : decode cX1_copyFrom 33 = .ok (.aload_n 1, 1) := by decide +kernel
theorem dX1_copyFrom_34 : decode cX1_copyFrom 34 = .ok (.getfield 24, 3) := by decide +kernel
theorem dX1_copyFrom_37 : decode cX1_copyFrom 37 = .ok (.putfield 24, 3) := by decide +kernel
theorem dX1_copyFrom_40 : decode cX1_copyFrom 40 = .ok (.aload_n 0, 1) := by decide +kernel
theorem dX1_copyFrom_41 : decode cX1_copyFrom 41 = .ok (.aload_n 1, 1) := by decide +kernel
theorem dX1_copyFrom_42 : decode cX1_copyFrom 42 = .ok (.getfield 27, 3) := by decide +kernel
theorem dX1_copyFrom_45 : decode cX1_copyFrom 45 = .ok (.putfield 27, 3) := by decide +kernel
theorem dX1_copyFrom_48 : decode cX1_copyFrom 48 = .ok (.aload_n 0, 1) := by decide +kernel
theorem dX1_copyFrom_49 : decode cX1_copyFrom 49 = .ok (.aload_n 1, 1) := by decide +kernel
theorem dX1_copyFrom_50 : decode cX1_copyFrom 50 = .ok (.getfield 30, 3) := by decide +kernel
theorem dX1_copyFrom_53 : decode cX1_copyFrom 53 = .ok (.putfield 30, 3) := by decide +kernel
theorem dX1_copyFrom_56 : decode cX1_copyFrom 56 = .ok (.aload_n 0, 1) := by decide +kernel
theorem dX1_copyFrom_57 : decode cX1_copyFrom 57 = .ok (.aload_n 1, 1) := by decide +kernel
theorem dX1_copyFrom_58 : decode cX1_copyFrom 58 = .ok (.getfield 33, 3) := by decide +kernel
theorem dX1_copyFrom_61 : decode cX1_copyFrom 61 = .ok (.putfield 33, 3) := by decide +kernel
theorem dX1_copyFrom_64 : decode cX1_copyFrom 64 = .ok (.return_, 1) := by decide +kernel
set_option maxRecDepth 20000 in
theorem ggX1_leatherOfMend_X3_tensBegun : GoodIn wsX1_leatherOfMend wsX3_tensBegun := goodIn_r _ [5] (by decide +kernel) (by decide +kernel)
set_option maxRecDepth 20000 in
theorem gX1_leatherOfMend_X3_tensBegun_n36 : GoodIn wsX1_leatherOfMend (wsX3_tensBegun) := ggX1_leatherOfMend_X3_tensBegun
theorem dX1_leatherOfMend_0 : decode cX1_leatherOfMend 0 = .ok (.iload_n 1, 1) := by decide +kernel
theorem dX1_leatherOfMend_1 : decode cX1_leatherOfMend 1 = .ok (.ifCond .eq 12, 3) := by decide +kernel
theorem dX1_leatherOfMend_4 : decode cX1_leatherOfMend 4 = .ok (.iconst 4, 1) := by decide +kernel
theorem dX1_leatherOfMend_5 : decode cX1_leatherOfMend 5 = .ok (.aload_n 0, 1) := by decide +kernel
theorem dX1_leatherOfMend_6 : decode cX1_leatherOfMend 6 = .ok (.getfield 15, 3) := by decide +kernel
theorem dX1_leatherOfMend_9 : decode cX1_leatherOfMend 9 = .ok (.imul, 1) := by decide +kernel
theorem dX1_leatherOfMend_10 : decode cX1_leatherOfMend 10 = .ok (.goto 10, 3) := by decide +kernel
theorem dX1_leatherOfMend_13 : decode cX1_leatherOfMend 13 = .ok (.aload_n 0, 1) := by decide +kernel
theorem dX1_leatherOfMend_14 : decode cX1_leatherOfMend 14 = .ok (.getfield 18, 3) := by decide +kernel
theorem dX1_leatherOfMend_17 : decode cX1_leatherOfMend 17 = .ok (.invokestatic 36, 3) := by decide +kernel
theorem dX1_leatherOfMend_20 : decode cX1_leatherOfMend 20 = .ok (.ireturn, 1) := by decide +kernel
theorem dX1_wearBehindMend_0 : decode cX1_wearBehindMend 0 = .ok (.iload_n 1, 1) := by decide +kernel
theorem dX1_wearBehindMend_1 : decode cX1_wearBehindMend 1 = .ok (.ifCond .eq 7, 3) := by decide +kernel
theorem dX1_wearBehindMend_4 : decode cX1_wearBehindMend 4 = .ok (.iconst 0, 1) := by decide +kernel
theorem dX1_wearBehindMend_5 : decode cX1_wearBehindMend 5 = .ok (.goto 9, 3) := by decide +kernel
theorem dX1_wearBehindMend_8 : decode cX1_wearBehindMend 8 = .ok (.aload_n 0, 1) := by decide +kernel
theorem dX1_wearBehindMend_9 : decode cX1_wearBehindMend 9 = .ok (.getfield 18, 3) := by decide +kernel
theorem dX1_wearBehindMend_12 : decode cX1_wearBehindMend 12 = .ok (.iconst 3, 1) := by decide +kernel
theorem dX1_wearBehindMend_13 : decode cX1_wearBehindMend 13 = .ok (.idiv, 1) := by decide +kernel
theorem dX1_wearBehindMend_14 : decode cX1_wearBehindMend 14 = .ok (.ireturn, 1) := by decide +kernel
set_option maxRecDepth 20000 in
theorem ggX2_init_X1_init : GoodIn wsX2_init wsX1_init := goodIn_r _ [15, 16, 2, 3] (by decide +kernel) (by decide +kernel)
set_option maxRecDepth 20000 in
theorem gX2_init_X1_init_n36 : GoodIn wsX2_init (wsX1_init) := ggX2_init_X1_init
theorem dX2_init_0 : decode cX2_init 0 = .ok (.aload_n 0, 1) := by decide +kernel
theorem dX2_init_1 : decode cX2_init 1 = .ok (.invokespecial 3, 3) := by decide +kernel
theorem dX2_init_4 : decode cX2_init 4 = .ok (.aload_n 0, 1) := by decide +kernel
theorem dX2_init_5 : decode cX2_init 5 = .ok (.bipush 8, 2) := by decide +kernel
theorem dX2_init_7 : decode cX2_init 7 = .ok (.anewarray 9, 3) := by decide +kernel
theorem dX2_init_10 : decode cX2_init 10 = .ok (.putfield 11, 3) := by decide +kernel
theorem dX2_init_13 : decode cX2_init 13 = .ok (.aload_n 0, 1) := by decide +kernel
theorem dX2_init_14 : decode cX2_init 14 = .ok (.bipush 30, 2) := by decide +kernel
theorem dX2_init_16 : decode cX2_init 16 = .ok (.putfield 17, 3) := by decide +kernel
theorem dX2_init_19 : decode cX2_init 19 = .ok (.aload_n 0, 1) := by decide +kernel
theorem dX2_init_20 : decode cX2_init 20 = .ok (.bipush 10, 2) := by decide +kernel
theorem dX2_init_22 : decode cX2_init 22 = .ok (.putfield 21, 3) := by decide +kernel
theorem dX2_init_25 : decode cX2_init 25 = .ok (.aload_n 0, 1) := by decide +kernel
theorem dX2_init_26 : decode cX2_init 26 = .ok (.iconst 4, 1) := by decide +kernel
theorem dX2_init_27 : decode cX2_init 27 = .ok (.putfield 24, 3) := by decide +kernel
theorem dX2_init_30 : decode cX2_init 30 = .ok (.aload_n 0, 1) := by decide +kernel
theorem dX2_init_31 : decode cX2_init 31 = .ok (.bipush 60, 2) := by decide +kernel
theorem dX2_init_33 : decode cX2_init 33 = .ok (.putfield 27, 3) := by decide +kernel
theorem dX2_init_36 : decode cX2_init 36 = .ok (.aload_n 0, 1) := by decide +kernel
theorem dX2_init_37 : decode cX2_init 37 = .ok (.aload_n 0, 1) := by decide +kernel
theorem dX2_init_38 : decode cX2_init 38 = .ok (.getfield 21, 3) := by decide +kernel
theorem dX2_init_41 : decode cX2_init 41 = .ok (.putfield 30, 3) := by decide +kernel
theorem dX2_init_44 : decode cX2_init 44 = .ok (.aload_n 0, 1) := by decide +kernel
theorem dX2_init_45 : decode cX2_init 45 = .ok (.bipush 100, 2) := by decide +kernel
theorem dX2_init_47 : decode cX2_init 47 = .ok (.putfield 33, 3) := by decide +kernel
theorem dX2_init_50 : decode cX2_init 50 = .ok (.iconst 0, 1) := by decide +kernel
theorem dX2_init_51 : decode cX2_init 51 = .ok (.istore_n 1, 1) := by decide +kernel
theorem dX2_init_52 : decode cX2_init 52 = .ok (.iload_n 1, 1) := by decide +kernel
theorem dX2_init_53 : decode cX2_init 53 = .ok (.aload_n 0, 1) := by decide +kernel
theorem dX2_init_54 : decode cX2_init 54 = .ok (.getfield 11, 3) := by decide +kernel
theorem dX2_init_57 : decode cX2_init 57 = .ok (.arraylength, 1) := by decide +kernel
theorem dX2_init_58 : decode cX2_init 58 = .ok (.if_icmp .ge 22, 3) := by decide +kernel
theorem dX2_init_61 : decode cX2_init 61 = .ok (.aload_n 0, 1) := by decide +kernel
theorem dX2_init_62 : decode cX2_init 62 = .ok (.getfield 11, 3) := by decide +kernel
theorem dX2_init_65 : decode cX2_init 65 = .ok (.iload_n 1, 1) := by decide +kernel
theorem dX2_init_66 : decode cX2_init 66 = .ok (.new 9, 3) := by decide +kernel
theorem dX2_init_69 : decode cX2_init 69 = .ok (.dup, 1) := by decide +kernel
theorem dX2_init_70 : decode cX2_init 70 = .ok (.invokespecial 36, 3) := by decide +kernel
theorem dX2_init_73 : decode cX2_init 73 = .ok (.aastore, 1) := by decide +kernel
theorem dX2_init_74 : decode cX2_init 74 = .ok (.iinc 1 1, 3) := by decide +kernel
theorem dX2_init_77 : decode cX2_init 77 = .ok (.goto (-25), 3) := by decide +kernel
theorem dX2_init_80 : decode cX2_init 80 = .ok (.return_, 1) := by decide +kernel
set_option maxRecDepth 20000 in
theorem ggX2_copyFrom_X2_find : GoodIn wsX2_copyFrom wsX2_find := goodIn_r _ [19, 1, 20, 34, 35, 36, 37, 38, 39, 40, 41, 42, 43, 44, 45, 46, 47, 48] (by decide +kernel) (by decide +kernel)
set_option maxRecDepth 20000 in
theorem gX2_copyFrom_X2_find : GoodIn wsX2_copyFrom (wsV RX2 61 RX2 yX2_find wsX2_find) := goodIn_app (goodIn_of _ (by decide +kernel)) ggX2_copyFrom_X2_find
set_option maxRecDepth 20000 in
theorem ggX2_copyFrom_X1_copyFrom : GoodIn wsX2_copyFrom wsX1_copyFrom := goodIn_r _ [25, 26, 27, 28, 29, 30, 31, 32, 33, 49, 50, 51, 52, 53, 54, 55, 56] (by decide +kernel) (by decide +kernel)
set_option maxRecDepth 20000 in
theorem gX2_copyFrom_X1_copyFrom : GoodIn wsX2_copyFrom (wsV RX2 65 RX1 yX1_copyFrom wsX1_copyFrom) := goodIn_app (goodIn_of _ (by decide +kernel)) ggX2_copyFrom_X1_copyFrom
theorem dX2_copyFrom_0 : decode cX2_copyFrom 0 = .ok (.aload_n 0, 1) := by decide +kernel
theorem dX2_copyFrom_1 : decode cX2_copyFrom 1 = .ok (.aload_n 1, 1) := by decide +kernel
theorem dX2_copyFrom_2 : decode cX2_copyFrom 2 = .ok (.getfield 37, 3) := by decide +kernel
theorem dX2_copyFrom_5 : decode cX2_copyFrom 5 = .ok (.putfield 37, 3) := by decide +kernel
theorem dX2_copyFrom_8 : decode cX2_copyFrom 8 = .ok (.aload_n 0, 1) := by decide +kernel
theorem dX2_copyFrom_9 : decode cX2_copyFrom 9 = .ok (.aload_n 1, 1) := by decide +kernel
theorem dX2_copyFrom_10 : decode cX2_copyFrom 10 = .ok (.getfield 17, 3) := by decide +kernel
theorem dX2_copyFrom_13 : decode cX2_copyFrom 13 = .ok (.putfield 17, 3) := by decide +kernel
theorem dX2_copyFrom_16 : decode cX2_copyFrom 16 = .ok (.aload_n 0, 1) := by decide +kernel
theorem dX2_copyFrom_17 : decode cX2_copyFrom 17 = .ok (.aload_n 1, 1) := by decide +kernel
theorem dX2_copyFrom_18 : decode cX2_copyFrom 18 = .ok (.getfield 21, 3) := by decide +kernel
theorem dX2_copyFrom_21 : decode cX2_copyFrom 21 = .ok (.putfield 21, 3) := by decide +kernel
theorem dX2_copyFrom_24 : decode cX2_copyFrom 24 = .ok (.aload_n 0, 1) := by decide +kernel
theorem dX2_copyFrom_25 : decode cX2_copyFrom 25 = .ok (.aload_n 1, 1) := by decide +kernel
theorem dX2_copyFrom_26 : decode cX2_copyFrom 26 = .ok (.getfield 24, 3) := by decide +kernel
theorem dX2_copyFrom_29 : decode cX2_copyFrom 29 = .ok (.putfield 24, 3) := by decide +kernel
theorem dX2_copyFrom_32 : decode cX2_copyFrom 32 = .ok (.aload_n 0, 1) := by decide +kernel
theorem dX2_copyFrom_33 : decode cX2_copyFrom 33 = .ok (.aload_n 1, 1) := by decide +kernel
theorem dX2_copyFrom_34 : decode cX2_copyFrom 34 = .ok (.getfield 27, 3) := by decide +kernel
theorem dX2_copyFrom_37 : decode cX2_copyFrom 37 = .ok (.putfield 27, 3) := by decide +kernel
theorem dX2_copyFrom_40 : decode cX2_copyFrom 40 = .ok (.aload_n 0, 1) := by decide +kernel
theorem dX2_copyFrom_41 : decode cX2_copyFrom 41 = .ok (.aload_n 1, 1) := by decide +kernel
theorem dX2_copyFrom_42 : decode cX2_copyFrom 42 = .ok (.getfield 40, 3) := by decide +kernel
theorem dX2_copyFrom_45 : decode cX2_copyFrom 45 = .ok (.putfield 40, 3) := by decide +kernel
theorem dX2_copyFrom_48 : decode cX2_copyFrom 48 = .ok (.aload_n 0, 1) := by decide +kernel
theorem dX2_copyFrom_49 : decode cX2_copyFrom 49 = .ok (.aload_n 1, 1) := by decide +kernel
theorem dX2_copyFrom_50 : decode cX2_copyFrom 50 = .ok (.getfield 43, 3) := by decide +kernel
theorem dX2_copyFrom_53 : decode cX2_copyFrom 53 = .ok (.putfield 43, 3) := by decide +kernel
theorem dX2_copyFrom_56 : decode cX2_copyFrom 56 = .ok (.aload_n 0, 1) := by decide +kernel
theorem dX2_copyFrom_57 : decode cX2_copyFrom 57 = .ok (.aload_n 1, 1) := by decide +kernel
theorem dX2_copyFrom_58 : decode cX2_copyFrom 58 = .ok (.getfield 30, 3) := by decide +kernel
theorem dX2_copyFrom_61 : decode cX2_copyFrom 61 = .ok (.putfield 30, 3) := by decide +kernel
theorem dX2_copyFrom_64 : decode cX2_copyFrom 64 = .ok (.aload_n 0, 1) := by decide +kernel
theorem dX2_copyFrom_65 : decode cX2_copyFrom 65 = .ok (.aload_n 1, 1) := by decide +kernel
theorem dX2_copyFrom_66 : decode cX2_copyFrom 66 = .ok (.getfield 46, 3) := by decide +kernel
theorem dX2_copyFrom_69 : decode cX2_copyFrom 69 = .ok (.putfield 46, 3) := by decide +kernel
theorem dX2_copyFrom_72 : decode cX2_copyFrom 72 = .ok (.aload_n 0, 1) := by decide +kernel
theorem dX2_copyFrom_73 : decode cX2_copyFrom 73 = .ok (.aload_n 1, 1) := by decide +kernel
theorem dX2_copyFrom_74 : decode cX2_copyFrom 74 = .ok (.getfield 33, 3) := by decide +kernel
theorem dX2_copyFrom_77 : decode cX2_copyFrom 77 = .ok (.putfield 33, 3) := by decide +kernel
theorem dX2_copyFrom_80 : decode cX2_copyFrom 80 = .ok (.aload_n 0, 1) := by decide +kernel
theorem dX2_copyFrom_81 : decode cX2_copyFrom 81 = .ok (.aload_n 1, 1) := by decide +kernel
theorem dX2_copyFrom_82 : decode cX2_copyFrom 82 = .ok (.getfield 49, 3) := by decide +kernel
theorem dX2_copyFrom_85 : decode cX2_copyFrom 85 = .ok (.putfield 49, 3) := by decide +kernel
theorem dX2_copyFrom_88 : decode cX2_copyFrom 88 = .ok (.aload_n 0, 1) := by decide +kernel
theorem dX2_copyFrom_89 : decode cX2_copyFrom 89 = .ok (.aload_n 1, 1) := by decide +kernel
theorem dX2_copyFrom_90 : decode cX2_copyFrom 90 = .ok (.getfield 52, 3) := by decide +kernel
theorem dX2_copyFrom_93 : decode cX2_copyFrom 93 = .ok (.putfield 52, 3) := by decide +kernel
theorem dX2_copyFrom_96 : decode cX2_copyFrom 96 = .ok (.aload_n 0, 1) := by decide +kernel
theorem dX2_copyFrom_97 : decode cX2_copyFrom 97 = .ok (.aload_n 1, 1) := by decide +kernel
theorem dX2_copyFrom_98 : decode cX2_copyFrom 98 = .ok (.getfield 55, 3) := by decide +kernel
theorem dX2_copyFrom_101 : decode cX2_copyFrom 101 = .ok (.putfield 55, 3) := by decide +kernel
theorem dX2_copyFrom_104 : decode cX2_copyFrom 104 = .ok (.aload_n 0, 1) := by decide +kernel
theorem dX2_copyFrom_105 : decode cX2_copyFrom 105 = .ok (.aload_n 1, 1) := by decide +kernel
theorem dX2_copyFrom_106 : decode cX2_copyFrom 106 = .ok (.getfield 58, 3) := by decide +kernel
theorem dX2_copyFrom_109 : decode cX2_copyFrom 109 = .ok (.putfield 58, 3) := by decide +kernel
theorem dX2_copyFrom_112 : decode cX2_copyFrom 112 = .ok (.iconst 0, 1) := by decide +kernel
theorem dX2_copyFrom_113 : decode cX2_copyFrom 113 = .ok (.istore_n 2, 1) := by decide +kernel
theorem dX2_copyFrom_114 : decode cX2_copyFrom 114 = .ok (.iload_n 2, 1) := by decide +kernel
theorem dX2_copyFrom_115 : decode cX2_copyFrom 115 = .ok (.aload_n 0, 1) := by decide +kernel
theorem dX2_copyFrom_116 : decode cX2_copyFrom 116 = .ok (.getfield 37, 3) := by decide +kernel
theorem dX2_copyFrom_119 : decode cX2_copyFrom 119 = .ok (.if_icmp .ge 37, 3) := by decide +kernel
theorem dX2_copyFrom_122 : decode cX2_copyFrom 122 = .ok (.aload_n 0, 1) := by decide +kernel
theorem dX2_copyFrom_123 : decode cX2_copyFrom 123 = .ok (.iload_n 2, 1) := by decide +kernel
theorem dX2_copyFrom_124 : decode cX2_copyFrom 124 = .ok (.invokevirtual 61, 3) := by decide +kernel
theorem dX2_copyFrom_127 : decode cX2_copyFrom 127 = .ok (.astore_n 3, 1) := by decide +kernel
theorem dX2_copyFrom_128 : decode cX2_copyFrom 128 = .ok (.aload_n 1, 1) := by decide +kernel
theorem dX2_copyFrom_129 : decode cX2_copyFrom 129 = .ok (.iload_n 2, 1) := by decide +kernel
theorem dX2_copyFrom_130 : decode cX2_copyFrom 130 = .ok (.invokevirtual 61, 3) := by decide +kernel
theorem dX2_copyFrom_133 : decode cX2_copyFrom 133 = .ok (.astore 4, 2) := by decide +kernel
theorem dX2_copyFrom_135 : decode cX2_copyFrom 135 = .ok (.aload_n 3, 1) := by decide +kernel
theorem dX2_copyFrom_136 : decode cX2_copyFrom 136 = .ok (.ifnull 14, 3) := by decide +kernel
theorem dX2_copyFrom_139 : decode cX2_copyFrom 139 = .ok (.aload 4, 2) := by decide +kernel
theorem dX2_copyFrom_141 : decode cX2_copyFrom 141 = .ok (.ifnull 9, 3) := by decide +kernel
theorem dX2_copyFrom_144 : decode cX2_copyFrom 144 = .ok (.aload_n 3, 1) := by decide +kernel
theorem dX2_copyFrom_145 : decode cX2_copyFrom 145 = .ok (.aload 4, 2) := by decide +kernel
theorem dX2_copyFrom_147 : decode cX2_copyFrom 147 = .ok (.invokevirtual 65, 3) := by decide +kernel
theorem dX2_copyFrom_150 : decode cX2_copyFrom 150 = .ok (.iinc 2 1, 3) := by decide +kernel
theorem dX2_copyFrom_153 : decode cX2_copyFrom 153 = .ok (.goto (-39), 3) := by decide +kernel
theorem dX2_copyFrom_156 : decode cX2_copyFrom 156 = .ok (.return_, 1) := by decide +kernel
theorem dX2_find_0 : decode cX2_find 0 = .ok (.iload_n 1, 1) := by decide +kernel
theorem dX2_find_1 : decode cX2_find 1 = .ok (.ifCond .lt 20, 3) := by decide +kernel
theorem dX2_find_4 : decode cX2_find 4 = .ok (.iload_n 1, 1) := by decide +kernel
theorem dX2_find_5 : decode cX2_find 5 = .ok (.aload_n 0, 1) := by decide +kernel
theorem dX2_find_6 : decode cX2_find 6 = .ok (.getfield 37, 3) := by decide +kernel
theorem dX2_find_9 : decode cX2_find 9 = .ok (.if_icmp .ge 12, 3) := by decide +kernel
theorem dX2_find_12 : decode cX2_find 12 = .ok (.iload_n 1, 1) := by decide +kernel
theorem dX2_find_13 : decode cX2_find 13 = .ok (.aload_n 0, 1) := by decide +kernel
theorem dX2_find_14 : decode cX2_find 14 = .ok (.getfield 11, 3) := by decide +kernel
theorem dX2_find_17 : decode cX2_find 17 = .ok (.arraylength, 1) := by decide +kernel
theorem dX2_find_18 : decode cX2_find 18 = .ok (.if_icmp .lt 5, 3) := by decide +kernel
theorem dX2_find_21 : decode cX2_find 21 = .ok (.aconst_null, 1) := by decide +kernel
theorem dX2_find_22 : decode cX2_find 22 = .ok (.areturn, 1) := by decide +kernel
theorem dX2_find_23 : decode cX2_find 23 = .ok (.aload_n 0, 1) := by decide +kernel
theorem dX2_find_24 : decode cX2_find 24 = .ok (.getfield 11, 3) := by decide +kernel
theorem dX2_find_27 : decode cX2_find 27 = .ok (.iload_n 1, 1) := by decide +kernel
theorem dX2_find_28 : decode cX2_find 28 = .ok (.aaload, 1) := by decide +kernel
theorem dX2_find_29 : decode cX2_find 29 = .ok (.areturn, 1) := by decide +kernel
set_option maxRecDepth 20000 in
theorem ggX2_addSmithy_X2_find : GoodIn wsX2_addSmithy wsX2_find := goodIn_r _ [8, 2, 9, 23, 24, 25, 26, 27, 28, 29, 30, 31, 32, 33, 34, 35, 36, 37] (by decide +kernel) (by decide +kernel)
set_option maxRecDepth 20000 in
theorem gX2_addSmithy_X2_find : GoodIn wsX2_addSmithy (wsV RX2 61 RX2 yX2_find wsX2_find) := goodIn_app (goodIn_of _ (by decide +kernel)) ggX2_addSmithy_X2_find
set_option maxRecDepth 20000 in
theorem ggX2_addSmithy_X1_beginAt : GoodIn wsX2_addSmithy wsX1_beginAt := goodIn_r _ [14, 15, 16, 17, 18, 19, 20, 21, 22, 38, 39, 40, 41, 42, 43, 44, 45] (by decide +kernel) (by decide +kernel)
set_option maxRecDepth 20000 in
theorem gX2_addSmithy_X1_beginAt : GoodIn wsX2_addSmithy (wsV RX2 71 RX1 yX1_beginAt wsX1_beginAt) := goodIn_app (goodIn_of _ (by decide +kernel)) ggX2_addSmithy_X1_beginAt
theorem dX2_addSmithy_0 : decode cX2_addSmithy 0 = .ok (.iload_n 1, 1) := by decide +kernel
theorem dX2_addSmithy_1 : decode cX2_addSmithy 1 = .ok (.ifCond .lt 20, 3) := by decide +kernel
theorem dX2_addSmithy_4 : decode cX2_addSmithy 4 = .ok (.iload_n 1, 1) := by decide +kernel
theorem dX2_addSmithy_5 : decode cX2_addSmithy 5 = .ok (.bipush 99, 2) := by decide +kernel
theorem dX2_addSmithy_7 : decode cX2_addSmithy 7 = .ok (.if_icmp .gt 14, 3) := by decide +kernel
theorem dX2_addSmithy_10 : decode cX2_addSmithy 10 = .ok (.iload_n 2, 1) := by decide +kernel
theorem dX2_addSmithy_11 : decode cX2_addSmithy 11 = .ok (.iconst 1, 1) := by decide +kernel
theorem dX2_addSmithy_12 : decode cX2_addSmithy 12 = .ok (.if_icmp .lt 9, 3) := by decide +kernel
theorem dX2_addSmithy_15 : decode cX2_addSmithy 15 = .ok (.iload_n 2, 1) := by decide +kernel
theorem dX2_addSmithy_16 : decode cX2_addSmithy 16 = .ok (.bipush 9, 2) := by decide +kernel
theorem dX2_addSmithy_18 : decode cX2_addSmithy 18 = .ok (.if_icmp .le 6, 3) := by decide +kernel
theorem dX2_addSmithy_21 : decode cX2_addSmithy 21 = .ok (.ldc 69, 2) := by decide +kernel
theorem dX2_addSmithy_23 : decode cX2_addSmithy 23 = .ok (.ireturn, 1) := by decide +kernel
theorem dX2_addSmithy_24 : decode cX2_addSmithy 24 = .ok (.aload_n 0, 1) := by decide +kernel
theorem dX2_addSmithy_25 : decode cX2_addSmithy 25 = .ok (.getfield 37, 3) := by decide +kernel
theorem dX2_addSmithy_28 : decode cX2_addSmithy 28 = .ok (.bipush 8, 2) := by decide +kernel
theorem dX2_addSmithy_30 : decode cX2_addSmithy 30 = .ok (.if_icmp .lt 6, 3) := by decide +kernel
theorem dX2_addSmithy_33 : decode cX2_addSmithy 33 = .ok (.ldc 70, 2) := by decide +kernel
theorem dX2_addSmithy_35 : decode cX2_addSmithy 35 = .ok (.ireturn, 1) := by decide +kernel
theorem dX2_addSmithy_36 : decode cX2_addSmithy 36 = .ok (.aload_n 0, 1) := by decide +kernel
theorem dX2_addSmithy_37 : decode cX2_addSmithy 37 = .ok (.getfield 37, 3) := by decide +kernel
theorem dX2_addSmithy_40 : decode cX2_addSmithy 40 = .ok (.istore_n 3, 1) := by decide +kernel
theorem dX2_addSmithy_41 : decode cX2_addSmithy 41 = .ok (.aload_n 0, 1) := by decide +kernel
theorem dX2_addSmithy_42 : decode cX2_addSmithy 42 = .ok (.dup, 1) := by decide +kernel
theorem dX2_addSmithy_43 : decode cX2_addSmithy 43 = .ok (.getfield 37, 3) := by decide +kernel
theorem dX2_addSmithy_46 : decode cX2_addSmithy 46 = .ok (.iconst 1, 1) := by decide +kernel
theorem dX2_addSmithy_47 : decode cX2_addSmithy 47 = .ok (.iadd, 1) := by decide +kernel
theorem dX2_addSmithy_48 : decode cX2_addSmithy 48 = .ok (.putfield 37, 3) := by decide +kernel
theorem dX2_addSmithy_51 : decode cX2_addSmithy 51 = .ok (.aload_n 0, 1) := by decide +kernel
theorem dX2_addSmithy_52 : decode cX2_addSmithy 52 = .ok (.iload_n 3, 1) := by decide +kernel
theorem dX2_addSmithy_53 : decode cX2_addSmithy 53 = .ok (.invokevirtual 61, 3) := by decide +kernel
theorem dX2_addSmithy_56 : decode cX2_addSmithy 56 = .ok (.astore 4, 2) := by decide +kernel
theorem dX2_addSmithy_58 : decode cX2_addSmithy 58 = .ok (.aload 4, 2) := by decide +kernel
theorem dX2_addSmithy_60 : decode cX2_addSmithy 60 = .ok (.ifnull 10, 3) := by decide +kernel
theorem dX2_addSmithy_63 : decode cX2_addSmithy 63 = .ok (.aload 4, 2) := by decide +kernel
theorem dX2_addSmithy_65 : decode cX2_addSmithy 65 = .ok (.iload_n 1, 1) := by decide +kernel
theorem dX2_addSmithy_66 : decode cX2_addSmithy 66 = .ok (.iload_n 2, 1) := by decide +kernel
theorem dX2_addSmithy_67 : decode cX2_addSmithy 67 = .ok (.invokevirtual 71, 3) := by decide +kernel
theorem dX2_addSmithy_70 : decode cX2_addSmithy 70 = .ok (.iload_n 3, 1) := by decide +kernel
theorem dX2_addSmithy_71 : decode cX2_addSmithy 71 = .ok (.ireturn, 1) := by decide +kernel
set_option maxRecDepth 20000 in
theorem ggX2_walkTo_X3_hoursOfWay : GoodIn wsX2_walkTo wsX3_hoursOfWay := goodIn_r _ [12, 13, 7, 8, 9, 14, 15, 11, 16] (by decide +kernel) (by decide +kernel)
set_option maxRecDepth 20000 in
theorem gX2_walkTo_X3_hoursOfWay_n75 : GoodIn wsX2_walkTo (wsX3_hoursOfWay) := ggX2_walkTo_X3_hoursOfWay
theorem dX2_walkTo_0 : decode cX2_walkTo 0 = .ok (.iload_n 1, 1) := by decide +kernel
theorem dX2_walkTo_1 : decode cX2_walkTo 1 = .ok (.ifCond .lt 9, 3) := by decide +kernel
theorem dX2_walkTo_4 : decode cX2_walkTo 4 = .ok (.iload_n 1, 1) := by decide +kernel
theorem dX2_walkTo_5 : decode cX2_walkTo 5 = .ok (.bipush 99, 2) := by decide +kernel
theorem dX2_walkTo_7 : decode cX2_walkTo 7 = .ok (.if_icmp .le 6, 3) := by decide +kernel
theorem dX2_walkTo_10 : decode cX2_walkTo 10 = .ok (.ldc 69, 2) := by decide +kernel
theorem dX2_walkTo_12 : decode cX2_walkTo 12 = .ok (.ireturn, 1) := by decide +kernel
theorem dX2_walkTo_13 : decode cX2_walkTo 13 = .ok (.aload_n 0, 1) := by decide +kernel
theorem dX2_walkTo_14 : decode cX2_walkTo 14 = .ok (.getfield 43, 3) := by decide +kernel
theorem dX2_walkTo_17 : decode cX2_walkTo 17 = .ok (.iload_n 1, 1) := by decide +kernel
theorem dX2_walkTo_18 : decode cX2_walkTo 18 = .ok (.invokestatic 75, 3) := by decide +kernel
theorem dX2_walkTo_21 : decode cX2_walkTo 21 = .ok (.istore_n 2, 1) := by decide +kernel
theorem dX2_walkTo_22 : decode cX2_walkTo 22 = .ok (.iload_n 2, 1) := by decide +kernel
theorem dX2_walkTo_23 : decode cX2_walkTo 23 = .ok (.aload_n 0, 1) := by decide +kernel
theorem dX2_walkTo_24 : decode cX2_walkTo 24 = .ok (.getfield 30, 3) := by decide +kernel
theorem dX2_walkTo_27 : decode cX2_walkTo 27 = .ok (.if_icmp .le 6, 3) := by decide +kernel
theorem dX2_walkTo_30 : decode cX2_walkTo 30 = .ok (.ldc 79, 2) := by decide +kernel
theorem dX2_walkTo_32 : decode cX2_walkTo 32 = .ok (.ireturn, 1) := by decide +kernel
theorem dX2_walkTo_33 : decode cX2_walkTo 33 = .ok (.aload_n 0, 1) := by decide +kernel
theorem dX2_walkTo_34 : decode cX2_walkTo 34 = .ok (.dup, 1) := by decide +kernel
theorem dX2_walkTo_35 : decode cX2_walkTo 35 = .ok (.getfield 30, 3) := by decide +kernel
theorem dX2_walkTo_38 : decode cX2_walkTo 38 = .ok (.iload_n 2, 1) := by decide +kernel
theorem dX2_walkTo_39 : decode cX2_walkTo 39 = .ok (.isub, 1) := by decide +kernel
theorem dX2_walkTo_40 : decode cX2_walkTo 40 = .ok (.putfield 30, 3) := by decide +kernel
theorem dX2_walkTo_43 : decode cX2_walkTo 43 = .ok (.aload_n 0, 1) := by decide +kernel
theorem dX2_walkTo_44 : decode cX2_walkTo 44 = .ok (.dup, 1) := by decide +kernel
theorem dX2_walkTo_45 : decode cX2_walkTo 45 = .ok (.getfield 58, 3) := by decide +kernel
theorem dX2_walkTo_48 : decode cX2_walkTo 48 = .ok (.iload_n 1, 1) := by decide +kernel
theorem dX2_walkTo_49 : decode cX2_walkTo 49 = .ok (.aload_n 0, 1) := by decide +kernel
theorem dX2_walkTo_50 : decode cX2_walkTo 50 = .ok (.getfield 43, 3) := by decide +kernel
theorem dX2_walkTo_53 : decode cX2_walkTo 53 = .ok (.isub, 1) := by decide +kernel
theorem dX2_walkTo_54 : decode cX2_walkTo 54 = .ok (.invokestatic 80, 3) := by decide +kernel
theorem dX2_walkTo_57 : decode cX2_walkTo 57 = .ok (.iadd, 1) := by decide +kernel
theorem dX2_walkTo_58 : decode cX2_walkTo 58 = .ok (.putfield 58, 3) := by decide +kernel
theorem dX2_walkTo_61 : decode cX2_walkTo 61 = .ok (.aload_n 0, 1) := by decide +kernel
theorem dX2_walkTo_62 : decode cX2_walkTo 62 = .ok (.iload_n 1, 1) := by decide +kernel
theorem dX2_walkTo_63 : decode cX2_walkTo 63 = .ok (.putfield 43, 3) := by decide +kernel
theorem dX2_walkTo_66 : decode cX2_walkTo 66 = .ok (.aload_n 0, 1) := by decide +kernel
theorem dX2_walkTo_67 : decode cX2_walkTo 67 = .ok (.getfield 30, 3) := by decide +kernel
theorem dX2_walkTo_70 : decode cX2_walkTo 70 = .ok (.ireturn, 1) := by decide +kernel
theorem dX2_buyLeather_0 : decode cX2_buyLeather 0 = .ok (.iload_n 1, 1) := by decide +kernel
theorem dX2_buyLeather_1 : decode cX2_buyLeather 1 = .ok (.iconst 1, 1) := by decide +kernel
theorem dX2_buyLeather_2 : decode cX2_buyLeather 2 = .ok (.if_icmp .lt 10, 3) := by decide +kernel
theorem dX2_buyLeather_5 : decode cX2_buyLeather 5 = .ok (.iload_n 1, 1) := by decide +kernel
theorem dX2_buyLeather_6 : decode cX2_buyLeather 6 = .ok (.sipush 999, 3) := by decide +kernel
theorem dX2_buyLeather_9 : decode cX2_buyLeather 9 = .ok (.if_icmp .le 6, 3) := by decide +kernel
theorem dX2_buyLeather_12 : decode cX2_buyLeather 12 = .ok (.ldc 69, 2) := by decide +kernel
theorem dX2_buyLeather_14 : decode cX2_buyLeather 14 = .ok (.ireturn, 1) := by decide +kernel
theorem dX2_buyLeather_15 : decode cX2_buyLeather 15 = .ok (.aload_n 0, 1) := by decide +kernel
theorem dX2_buyLeather_16 : decode cX2_buyLeather 16 = .ok (.getfield 43, 3) := by decide +kernel
theorem dX2_buyLeather_19 : decode cX2_buyLeather 19 = .ok (.ifCond .eq 6, 3) := by decide +kernel
theorem dX2_buyLeather_22 : decode cX2_buyLeather 22 = .ok (.ldc 79, 2) := by decide +kernel
theorem dX2_buyLeather_24 : decode cX2_buyLeather 24 = .ok (.ireturn, 1) := by decide +kernel
theorem dX2_buyLeather_25 : decode cX2_buyLeather 25 = .ok (.aload_n 0, 1) := by decide +kernel
theorem dX2_buyLeather_26 : decode cX2_buyLeather 26 = .ok (.getfield 46, 3) := by decide +kernel
theorem dX2_buyLeather_29 : decode cX2_buyLeather 29 = .ok (.iload_n 1, 1) := by decide +kernel
theorem dX2_buyLeather_30 : decode cX2_buyLeather 30 = .ok (.iadd, 1) := by decide +kernel
theorem dX2_buyLeather_31 : decode cX2_buyLeather 31 = .ok (.sipush 999, 3) := by decide +kernel
theorem dX2_buyLeather_34 : decode cX2_buyLeather 34 = .ok (.if_icmp .le 6, 3) := by decide +kernel
theorem dX2_buyLeather_37 : decode cX2_buyLeather 37 = .ok (.ldc 70, 2) := by decide +kernel
theorem dX2_buyLeather_39 : decode cX2_buyLeather 39 = .ok (.ireturn, 1) := by decide +kernel
theorem dX2_buyLeather_40 : decode cX2_buyLeather 40 = .ok (.iconst 2, 1) := by decide +kernel
theorem dX2_buyLeather_41 : decode cX2_buyLeather 41 = .ok (.iload_n 1, 1) := by decide +kernel
theorem dX2_buyLeather_42 : decode cX2_buyLeather 42 = .ok (.imul, 1) := by decide +kernel
theorem dX2_buyLeather_43 : decode cX2_buyLeather 43 = .ok (.istore_n 2, 1) := by decide +kernel
theorem dX2_buyLeather_44 : decode cX2_buyLeather 44 = .ok (.aload_n 0, 1) := by decide +kernel
theorem dX2_buyLeather_45 : decode cX2_buyLeather 45 = .ok (.dup, 1) := by decide +kernel
theorem dX2_buyLeather_46 : decode cX2_buyLeather 46 = .ok (.getfield 46, 3) := by decide +kernel
theorem dX2_buyLeather_49 : decode cX2_buyLeather 49 = .ok (.iload_n 1, 1) := by decide +kernel
theorem dX2_buyLeather_50 : decode cX2_buyLeather 50 = .ok (.iadd, 1) := by decide +kernel
theorem dX2_buyLeather_51 : decode cX2_buyLeather 51 = .ok (.putfield 46, 3) := by decide +kernel
theorem dX2_buyLeather_54 : decode cX2_buyLeather 54 = .ok (.aload_n 0, 1) := by decide +kernel
theorem dX2_buyLeather_55 : decode cX2_buyLeather 55 = .ok (.dup, 1) := by decide +kernel
theorem dX2_buyLeather_56 : decode cX2_buyLeather 56 = .ok (.getfield 33, 3) := by decide +kernel
theorem dX2_buyLeather_59 : decode cX2_buyLeather 59 = .ok (.iload_n 2, 1) := by decide +kernel
theorem dX2_buyLeather_60 : decode cX2_buyLeather 60 = .ok (.isub, 1) := by decide +kernel
theorem dX2_buyLeather_61 : decode cX2_buyLeather 61 = .ok (.putfield 33, 3) := by decide +kernel
theorem dX2_buyLeather_64 : decode cX2_buyLeather 64 = .ok (.aload_n 0, 1) := by decide +kernel
theorem dX2_buyLeather_65 : decode cX2_buyLeather 65 = .ok (.dup, 1) := by decide +kernel
theorem dX2_buyLeather_66 : decode cX2_buyLeather 66 = .ok (.getfield 49, 3) := by decide +kernel
theorem dX2_buyLeather_69 : decode cX2_buyLeather 69 = .ok (.iload_n 2, 1) := by decide +kernel
theorem dX2_buyLeather_70 : decode cX2_buyLeather 70 = .ok (.iadd, 1) := by decide +kernel
theorem dX2_buyLeather_71 : decode cX2_buyLeather 71 = .ok (.putfield 49, 3) := by decide +kernel
theorem dX2_buyLeather_74 : decode cX2_buyLeather 74 = .ok (.aload_n 0, 1) := by decide +kernel
theorem dX2_buyLeather_75 : decode cX2_buyLeather 75 = .ok (.getfield 46, 3) := by decide +kernel
theorem dX2_buyLeather_78 : decode cX2_buyLeather 78 = .ok (.ireturn, 1) := by decide +kernel
set_option maxRecDepth 20000 in
theorem ggX2_mendBellows_X2_find : GoodIn wsX2_mendBellows wsX2_find := goodIn_r _ [13, 14, 15, 48, 49, 50, 51, 52, 53, 54, 55, 56, 57, 58, 59, 60, 61, 62] (by decide +kernel) (by decide +kernel)
set_option maxRecDepth 20000 in
theorem gX2_mendBellows_X2_find : GoodIn wsX2_mendBellows (wsV RX2 61 RX2 yX2_find wsX2_find) := goodIn_app (goodIn_of _ (by decide +kernel)) ggX2_mendBellows_X2_find
set_option maxRecDepth 20000 in
theorem ggX2_mendBellows_X2_reasonAgainst : GoodIn wsX2_mendBellows wsX2_reasonAgainst := goodIn_r _ [19, 20, 21, 3, 4, 22, 23, 24, 25, 26, 27, 28, 29, 30, 31, 32, 33, 34, 35, 36, 12, 37, 6, 38, 7, 63, 64, 65, 66, 67, 68, 69, 70, 48, 49, 50, 51, 52, 53, 54, 55, 56, 57, 58, 59, 60, 61, 62] (by decide +kernel) (by decide +kernel)
set_option maxRecDepth 20000 in
theorem gX2_mendBellows_X2_reasonAgainst : GoodIn wsX2_mendBellows (wsV RX2 86 RX2 yX2_reasonAgainst wsX2_reasonAgainst) := goodIn_app (goodIn_of _ (by decide +kernel)) ggX2_mendBellows_X2_reasonAgainst
set_option maxRecDepth 20000 in
theorem ggX2_mendBellows_X2_priceOfMend : GoodIn wsX2_mendBellows wsX2_priceOfMend := goodIn_r _ [42, 43, 22, 23, 24, 25, 26, 27, 28, 29, 30, 31, 32, 33, 48, 49, 50, 51, 52, 53, 54, 55, 56, 57, 58, 59, 60, 61, 62, 63, 64, 65, 66, 67, 68, 69, 70] (by decide +kernel) (by decide +kernel)
set_option maxRecDepth 20000 in
theorem gX2_mendBellows_X2_priceOfMend : GoodIn wsX2_mendBellows (wsV RX2 90 RX2 yX2_priceOfMend wsX2_priceOfMend) := goodIn_app (goodIn_of _ (by decide +kernel)) ggX2_mendBellows_X2_priceOfMend
set_option maxRecDepth 20000 in
theorem ggX2_mendBellows_X3_hoursOfMend : GoodIn wsX2_mendBellows wsX3_hoursOfMend := goodIn_r _ [24] (by decide +kernel) (by decide +kernel)
set_option maxRecDepth 20000 in
theorem gX2_mendBellows_X3_hoursOfMend_n93 : GoodIn wsX2_mendBellows (wsX3_hoursOfMend) := ggX2_mendBellows_X3_hoursOfMend
set_option maxRecDepth 20000 in
theorem ggX2_mendBellows_X1_leatherOfMend : GoodIn wsX2_mendBellows wsX1_leatherOfMend := goodIn_r _ [29, 30, 31, 32, 23, 33, 63, 64, 65, 66, 67, 68, 69, 70] (by decide +kernel) (by decide +kernel)
set_option maxRecDepth 20000 in
theorem gX2_mendBellows_X1_leatherOfMend : GoodIn wsX2_mendBellows (wsV RX2 97 RX1 yX1_leatherOfMend wsX1_leatherOfMend) := goodIn_app (goodIn_of _ (by decide +kernel)) ggX2_mendBellows_X1_leatherOfMend
set_option maxRecDepth 20000 in
theorem ggX2_mendBellows_X1_wearBehindMend : GoodIn wsX2_mendBellows wsX1_wearBehindMend := goodIn_r _ [47, 31, 63, 64, 65, 66, 67, 68, 69, 70] (by decide +kernel) (by decide +kernel)
set_option maxRecDepth 20000 in
theorem gX2_mendBellows_X1_wearBehindMend : GoodIn wsX2_mendBellows (wsV RX2 103 RX1 yX1_wearBehindMend wsX1_wearBehindMend) := goodIn_app (goodIn_of _ (by decide +kernel)) ggX2_mendBellows_X1_wearBehindMend
theorem dX2_mendBellows_0 : decode cX2_mendBellows 0 = .ok (.aload_n 0, 1) := by decide +kernel
theorem dX2_mendBellows_1 : decode cX2_mendBellows 1 = .ok (.iload_n 1, 1) := by decide +kernel
theorem dX2_mendBellows_2 : decode cX2_mendBellows 2 = .ok (.invokevirtual 61, 3) := by decide +kernel
theorem dX2_mendBellows_5 : decode cX2_mendBellows 5 = .ok (.astore_n 3, 1) := by decide +kernel
theorem dX2_mendBellows_6 : decode cX2_mendBellows 6 = .ok (.aload_n 3, 1) := by decide +kernel
theorem dX2_mendBellows_7 : decode cX2_mendBellows 7 = .ok (.ifnonnull 6, 3) := by decide +kernel
theorem dX2_mendBellows_10 : decode cX2_mendBellows 10 = .ok (.ldc 69, 2) := by decide +kernel
theorem dX2_mendBellows_12 : decode cX2_mendBellows 12 = .ok (.ireturn, 1) := by decide +kernel
theorem dX2_mendBellows_13 : decode cX2_mendBellows 13 = .ok (.aload_n 0, 1) := by decide +kernel
theorem dX2_mendBellows_14 : decode cX2_mendBellows 14 = .ok (.aload_n 3, 1) := by decide +kernel
theorem dX2_mendBellows_15 : decode cX2_mendBellows 15 = .ok (.iload_n 2, 1) := by decide +kernel
theorem dX2_mendBellows_16 : decode cX2_mendBellows 16 = .ok (.invokevirtual 86, 3) := by decide +kernel
theorem dX2_mendBellows_19 : decode cX2_mendBellows 19 = .ok (.ifCond .eq 6, 3) := by decide +kernel
theorem dX2_mendBellows_22 : decode cX2_mendBellows 22 = .ok (.ldc 79, 2) := by decide +kernel
theorem dX2_mendBellows_24 : decode cX2_mendBellows 24 = .ok (.ireturn, 1) := by decide +kernel
theorem dX2_mendBellows_25 : decode cX2_mendBellows 25 = .ok (.aload_n 0, 1) := by decide +kernel
theorem dX2_mendBellows_26 : decode cX2_mendBellows 26 = .ok (.aload_n 3, 1) := by decide +kernel
theorem dX2_mendBellows_27 : decode cX2_mendBellows 27 = .ok (.iload_n 2, 1) := by decide +kernel
theorem dX2_mendBellows_28 : decode cX2_mendBellows 28 = .ok (.invokevirtual 90, 3) := by decide +kernel
theorem dX2_mendBellows_31 : decode cX2_mendBellows 31 = .ok (.istore 4, 2) := by decide +kernel
theorem dX2_mendBellows_33 : decode cX2_mendBellows 33 = .ok (.aload_n 0, 1) := by decide +kernel
theorem dX2_mendBellows_34 : decode cX2_mendBellows 34 = .ok (.dup, 1) := by decide +kernel
theorem dX2_mendBellows_35 : decode cX2_mendBellows 35 = .ok (.getfield 30, 3) := by decide +kernel
theorem dX2_mendBellows_38 : decode cX2_mendBellows 38 = .ok (.iload_n 2, 1) := by decide +kernel
theorem dX2_mendBellows_39 : decode cX2_mendBellows 39 = .ok (.invokestatic 93, 3) := by decide +kernel
theorem dX2_mendBellows_42 : decode cX2_mendBellows 42 = .ok (.isub, 1) := by decide +kernel
theorem dX2_mendBellows_43 : decode cX2_mendBellows 43 = .ok (.putfield 30, 3) := by decide +kernel
theorem dX2_mendBellows_46 : decode cX2_mendBellows 46 = .ok (.aload_n 0, 1) := by decide +kernel
theorem dX2_mendBellows_47 : decode cX2_mendBellows 47 = .ok (.dup, 1) := by decide +kernel
theorem dX2_mendBellows_48 : decode cX2_mendBellows 48 = .ok (.getfield 46, 3) := by decide +kernel
theorem dX2_mendBellows_51 : decode cX2_mendBellows 51 = .ok (.aload_n 3, 1) := by decide +kernel
theorem dX2_mendBellows_52 : decode cX2_mendBellows 52 = .ok (.iload_n 2, 1) := by decide +kernel
theorem dX2_mendBellows_53 : decode cX2_mendBellows 53 = .ok (.invokevirtual 97, 3) := by decide +kernel
theorem dX2_mendBellows_56 : decode cX2_mendBellows 56 = .ok (.isub, 1) := by decide +kernel
theorem dX2_mendBellows_57 : decode cX2_mendBellows 57 = .ok (.putfield 46, 3) := by decide +kernel
theorem dX2_mendBellows_60 : decode cX2_mendBellows 60 = .ok (.aload_n 0, 1) := by decide +kernel
theorem dX2_mendBellows_61 : decode cX2_mendBellows 61 = .ok (.dup, 1) := by decide +kernel
theorem dX2_mendBellows_62 : decode cX2_mendBellows 62 = .ok (.getfield 52, 3) := by decide +kernel
theorem dX2_mendBellows_65 : decode cX2_mendBellows 65 = .ok (.iload 4, 2) := by decide +kernel
theorem dX2_mendBellows_67 : decode cX2_mendBellows 67 = .ok (.iadd, 1) := by decide +kernel
theorem dX2_mendBellows_68 : decode cX2_mendBellows 68 = .ok (.putfield 52, 3) := by decide +kernel
theorem dX2_mendBellows_71 : decode cX2_mendBellows 71 = .ok (.aload_n 3, 1) := by decide +kernel
theorem dX2_mendBellows_72 : decode cX2_mendBellows 72 = .ok (.dup, 1) := by decide +kernel
theorem dX2_mendBellows_73 : decode cX2_mendBellows 73 = .ok (.getfield 100, 3) := by decide +kernel
theorem dX2_mendBellows_76 : decode cX2_mendBellows 76 = .ok (.iload 4, 2) := by decide +kernel
theorem dX2_mendBellows_78 : decode cX2_mendBellows 78 = .ok (.iadd, 1) := by decide +kernel
theorem dX2_mendBellows_79 : decode cX2_mendBellows 79 = .ok (.putfield 100, 3) := by decide +kernel
theorem dX2_mendBellows_82 : decode cX2_mendBellows 82 = .ok (.aload_n 3, 1) := by decide +kernel
theorem dX2_mendBellows_83 : decode cX2_mendBellows 83 = .ok (.aload_n 3, 1) := by decide +kernel
theorem dX2_mendBellows_84 : decode cX2_mendBellows 84 = .ok (.iload_n 2, 1) := by decide +kernel
theorem dX2_mendBellows_85 : decode cX2_mendBellows 85 = .ok (.invokevirtual 103, 3) := by decide +kernel
theorem dX2_mendBellows_88 : decode cX2_mendBellows 88 = .ok (.putfield 106, 3) := by decide +kernel
theorem dX2_mendBellows_91 : decode cX2_mendBellows 91 = .ok (.aload_n 3, 1) := by decide +kernel
theorem dX2_mendBellows_92 : decode cX2_mendBellows 92 = .ok (.dup, 1) := by decide +kernel
theorem dX2_mendBellows_93 : decode cX2_mendBellows 93 = .ok (.getfield 109, 3) := by decide +kernel
theorem dX2_mendBellows_96 : decode cX2_mendBellows 96 = .ok (.iconst 1, 1) := by decide +kernel
theorem dX2_mendBellows_97 : decode cX2_mendBellows 97 = .ok (.iadd, 1) := by decide +kernel
theorem dX2_mendBellows_98 : decode cX2_mendBellows 98 = .ok (.putfield 109, 3) := by decide +kernel
theorem dX2_mendBellows_101 : decode cX2_mendBellows 101 = .ok (.iload_n 2, 1) := by decide +kernel
theorem dX2_mendBellows_102 : decode cX2_mendBellows 102 = .ok (.ifCond .eq 10, 3) := by decide +kernel
theorem dX2_mendBellows_105 : decode cX2_mendBellows 105 = .ok (.aload_n 3, 1) := by decide +kernel
theorem dX2_mendBellows_106 : decode cX2_mendBellows 106 = .ok (.getfield 100, 3) := by decide +kernel
theorem dX2_mendBellows_109 : decode cX2_mendBellows 109 = .ok (.goto 7, 3) := by decide +kernel
theorem dX2_mendBellows_112 : decode cX2_mendBellows 112 = .ok (.aload_n 3, 1) := by decide +kernel
theorem dX2_mendBellows_113 : decode cX2_mendBellows 113 = .ok (.getfield 106, 3) := by decide +kernel
theorem dX2_mendBellows_116 : decode cX2_mendBellows 116 = .ok (.ireturn, 1) := by decide +kernel
set_option maxRecDepth 20000 in
theorem ggX2_collectDebt_X2_find : GoodIn wsX2_collectDebt wsX2_find := goodIn_r _ [13, 14, 15, 29, 30, 31, 32, 33, 34, 35, 36, 37, 38, 39, 40, 41, 42, 43] (by decide +kernel) (by decide +kernel)
set_option maxRecDepth 20000 in
theorem gX2_collectDebt_X2_find : GoodIn wsX2_collectDebt (wsV RX2 61 RX2 yX2_find wsX2_find) := goodIn_app (goodIn_of _ (by decide +kernel)) ggX2_collectDebt_X2_find
set_option maxRecDepth 20000 in
theorem ggX2_collectDebt_X2_isCold : GoodIn wsX2_collectDebt wsX2_isCold := goodIn_r _ [19, 20, 29, 30, 31, 32, 33, 34, 35, 36, 37, 38, 39, 40, 41, 42, 43] (by decide +kernel) (by decide +kernel)
set_option maxRecDepth 20000 in
theorem gX2_collectDebt_X2_isCold : GoodIn wsX2_collectDebt (wsV RX2 116 RX2 yX2_isCold wsX2_isCold) := goodIn_app (goodIn_of _ (by decide +kernel)) ggX2_collectDebt_X2_isCold
theorem dX2_collectDebt_0 : decode cX2_collectDebt 0 = .ok (.aload_n 0, 1) := by decide +kernel
theorem dX2_collectDebt_1 : decode cX2_collectDebt 1 = .ok (.iload_n 1, 1) := by decide +kernel
theorem dX2_collectDebt_2 : decode cX2_collectDebt 2 = .ok (.invokevirtual 61, 3) := by decide +kernel
theorem dX2_collectDebt_5 : decode cX2_collectDebt 5 = .ok (.astore_n 2, 1) := by decide +kernel
theorem dX2_collectDebt_6 : decode cX2_collectDebt 6 = .ok (.aload_n 2, 1) := by decide +kernel
theorem dX2_collectDebt_7 : decode cX2_collectDebt 7 = .ok (.ifnonnull 6, 3) := by decide +kernel
theorem dX2_collectDebt_10 : decode cX2_collectDebt 10 = .ok (.ldc 69, 2) := by decide +kernel
theorem dX2_collectDebt_12 : decode cX2_collectDebt 12 = .ok (.ireturn, 1) := by decide +kernel
theorem dX2_collectDebt_13 : decode cX2_collectDebt 13 = .ok (.aload_n 2, 1) := by decide +kernel
theorem dX2_collectDebt_14 : decode cX2_collectDebt 14 = .ok (.getfield 112, 3) := by decide +kernel
theorem dX2_collectDebt_17 : decode cX2_collectDebt 17 = .ok (.aload_n 0, 1) := by decide +kernel
theorem dX2_collectDebt_18 : decode cX2_collectDebt 18 = .ok (.getfield 43, 3) := by decide +kernel
theorem dX2_collectDebt_21 : decode cX2_collectDebt 21 = .ok (.if_icmp .ne 10, 3) := by decide +kernel
theorem dX2_collectDebt_24 : decode cX2_collectDebt 24 = .ok (.aload_n 2, 1) := by decide +kernel
theorem dX2_collectDebt_25 : decode cX2_collectDebt 25 = .ok (.getfield 100, 3) := by decide +kernel
theorem dX2_collectDebt_28 : decode cX2_collectDebt 28 = .ok (.ifCond .gt 6, 3) := by decide +kernel
theorem dX2_collectDebt_31 : decode cX2_collectDebt 31 = .ok (.ldc 79, 2) := by decide +kernel
theorem dX2_collectDebt_33 : decode cX2_collectDebt 33 = .ok (.ireturn, 1) := by decide +kernel
theorem dX2_collectDebt_34 : decode cX2_collectDebt 34 = .ok (.aload_n 0, 1) := by decide +kernel
theorem dX2_collectDebt_35 : decode cX2_collectDebt 35 = .ok (.aload_n 2, 1) := by decide +kernel
theorem dX2_collectDebt_36 : decode cX2_collectDebt 36 = .ok (.getfield 113, 3) := by decide +kernel
theorem dX2_collectDebt_39 : decode cX2_collectDebt 39 = .ok (.invokevirtual 116, 3) := by decide +kernel
theorem dX2_collectDebt_42 : decode cX2_collectDebt 42 = .ok (.ifCond .eq 12, 3) := by decide +kernel
theorem dX2_collectDebt_45 : decode cX2_collectDebt 45 = .ok (.aload_n 2, 1) := by decide +kernel
theorem dX2_collectDebt_46 : decode cX2_collectDebt 46 = .ok (.getfield 100, 3) := by decide +kernel
theorem dX2_collectDebt_49 : decode cX2_collectDebt 49 = .ok (.iconst 2, 1) := by decide +kernel
theorem dX2_collectDebt_50 : decode cX2_collectDebt 50 = .ok (.idiv, 1) := by decide +kernel
theorem dX2_collectDebt_51 : decode cX2_collectDebt 51 = .ok (.goto 7, 3) := by decide +kernel
theorem dX2_collectDebt_54 : decode cX2_collectDebt 54 = .ok (.aload_n 2, 1) := by decide +kernel
theorem dX2_collectDebt_55 : decode cX2_collectDebt 55 = .ok (.getfield 100, 3) := by decide +kernel
theorem dX2_collectDebt_58 : decode cX2_collectDebt 58 = .ok (.istore_n 3, 1) := by decide +kernel
theorem dX2_collectDebt_59 : decode cX2_collectDebt 59 = .ok (.aload_n 2, 1) := by decide +kernel
theorem dX2_collectDebt_60 : decode cX2_collectDebt 60 = .ok (.dup, 1) := by decide +kernel
theorem dX2_collectDebt_61 : decode cX2_collectDebt 61 = .ok (.getfield 100, 3) := by decide +kernel
theorem dX2_collectDebt_64 : decode cX2_collectDebt 64 = .ok (.iload_n 3, 1) := by decide +kernel
theorem dX2_collectDebt_65 : decode cX2_collectDebt 65 = .ok (.isub, 1) := by decide +kernel
theorem dX2_collectDebt_66 : decode cX2_collectDebt 66 = .ok (.putfield 100, 3) := by decide +kernel
theorem dX2_collectDebt_69 : decode cX2_collectDebt 69 = .ok (.aload_n 2, 1) := by decide +kernel
theorem dX2_collectDebt_70 : decode cX2_collectDebt 70 = .ok (.dup, 1) := by decide +kernel
theorem dX2_collectDebt_71 : decode cX2_collectDebt 71 = .ok (.getfield 120, 3) := by decide +kernel
theorem dX2_collectDebt_74 : decode cX2_collectDebt 74 = .ok (.iload_n 3, 1) := by decide +kernel
theorem dX2_collectDebt_75 : decode cX2_collectDebt 75 = .ok (.iadd, 1) := by decide +kernel
theorem dX2_collectDebt_76 : decode cX2_collectDebt 76 = .ok (.putfield 120, 3) := by decide +kernel
theorem dX2_collectDebt_79 : decode cX2_collectDebt 79 = .ok (.aload_n 0, 1) := by decide +kernel
theorem dX2_collectDebt_80 : decode cX2_collectDebt 80 = .ok (.dup, 1) := by decide +kernel
theorem dX2_collectDebt_81 : decode cX2_collectDebt 81 = .ok (.getfield 33, 3) := by decide +kernel
theorem dX2_collectDebt_84 : decode cX2_collectDebt 84 = .ok (.iload_n 3, 1) := by decide +kernel
theorem dX2_collectDebt_85 : decode cX2_collectDebt 85 = .ok (.iadd, 1) := by decide +kernel
theorem dX2_collectDebt_86 : decode cX2_collectDebt 86 = .ok (.putfield 33, 3) := by decide +kernel
theorem dX2_collectDebt_89 : decode cX2_collectDebt 89 = .ok (.iload_n 3, 1) := by decide +kernel
theorem dX2_collectDebt_90 : decode cX2_collectDebt 90 = .ok (.ireturn, 1) := by decide +kernel
set_option maxRecDepth 20000 in
theorem ggX2_endDays_X2_find : GoodIn wsX2_endDays wsX2_find := goodIn_r _ [11, 4, 12, 54, 55, 56, 57, 58, 59, 60, 61, 62, 63, 64, 65, 66, 67, 68] (by decide +kernel) (by decide +kernel)
set_option maxRecDepth 20000 in
theorem gX2_endDays_X2_find : GoodIn wsX2_endDays (wsV RX2 61 RX2 yX2_find wsX2_find) := goodIn_app (goodIn_of _ (by decide +kernel)) ggX2_endDays_X2_find
set_option maxRecDepth 20000 in
theorem ggX2_endDays_X2_endDayOf : GoodIn wsX2_endDays wsX2_endDayOf := goodIn_r _ [16, 17, 18, 19, 20, 21, 22, 23, 24, 25, 26, 27, 28, 29, 30, 31, 32, 33, 34, 35, 36, 37, 38, 39, 40, 10, 41, 42, 69, 70, 71, 72, 73, 74, 75, 76, 54, 55, 56, 57, 58, 59, 60, 61, 62, 63, 64, 65, 66, 67, 68] (by decide +kernel) (by decide +kernel)
set_option maxRecDepth 20000 in
theorem gX2_endDays_X2_endDayOf : GoodIn wsX2_endDays (wsV RX2 123 RX2 yX2_endDayOf wsX2_endDayOf) := goodIn_app (goodIn_of _ (by decide +kernel)) ggX2_endDays_X2_endDayOf
set_option maxRecDepth 20000 in
theorem ggX2_endDays_X2_coldSet : GoodIn wsX2_endDays wsX2_coldSet := goodIn_r _ [46, 4, 19, 7, 8, 9, 10, 11, 12, 38, 39, 40, 41, 42, 54, 55, 56, 57, 58, 59, 60, 61, 62, 63, 64, 65, 66, 67, 68, 69, 70, 71, 72, 73, 74, 75, 76] (by decide +kernel) (by decide +kernel)
set_option maxRecDepth 20000 in
theorem gX2_endDays_X2_coldSet : GoodIn wsX2_endDays (wsV RX2 126 RX2 yX2_coldSet wsX2_coldSet) := goodIn_app (goodIn_of _ (by decide +kernel)) ggX2_endDays_X2_coldSet
set_option maxRecDepth 20000 in
theorem ggX2_endDays_J6_bitCount_0f7a4 : GoodIn wsX2_endDays wsJ6_bitCount_0f7a4 := goodIn_r _ [50, 51, 52, 53] (by decide +kernel) (by decide +kernel)
set_option maxRecDepth 20000 in
theorem gX2_endDays_J6_bitCount_0f7a4 : GoodIn wsX2_endDays (va_wsS RX2 130 yJ6_bitCount_0f7a4 wsJ6_bitCount_0f7a4) := goodIn_app (goodIn_of _ (by decide +kernel)) ggX2_endDays_J6_bitCount_0f7a4
theorem dX2_endDays_0 : decode cX2_endDays 0 = .ok (.iload_n 1, 1) := by decide +kernel
theorem dX2_endDays_1 : decode cX2_endDays 1 = .ok (.iconst 1, 1) := by decide +kernel
theorem dX2_endDays_2 : decode cX2_endDays 2 = .ok (.if_icmp .lt 9, 3) := by decide +kernel
theorem dX2_endDays_5 : decode cX2_endDays 5 = .ok (.iload_n 1, 1) := by decide +kernel
theorem dX2_endDays_6 : decode cX2_endDays 6 = .ok (.bipush 99, 2) := by decide +kernel
theorem dX2_endDays_8 : decode cX2_endDays 8 = .ok (.if_icmp .le 6, 3) := by decide +kernel
theorem dX2_endDays_11 : decode cX2_endDays 11 = .ok (.ldc 69, 2) := by decide +kernel
theorem dX2_endDays_13 : decode cX2_endDays 13 = .ok (.ireturn, 1) := by decide +kernel
theorem dX2_endDays_14 : decode cX2_endDays 14 = .ok (.aload_n 0, 1) := by decide +kernel
theorem dX2_endDays_15 : decode cX2_endDays 15 = .ok (.getfield 40, 3) := by decide +kernel
theorem dX2_endDays_18 : decode cX2_endDays 18 = .ok (.iload_n 1, 1) := by decide +kernel
theorem dX2_endDays_19 : decode cX2_endDays 19 = .ok (.iadd, 1) := by decide +kernel
theorem dX2_endDays_20 : decode cX2_endDays 20 = .ok (.sipush 9999, 3) := by decide +kernel
theorem dX2_endDays_23 : decode cX2_endDays 23 = .ok (.if_icmp .le 6, 3) := by decide +kernel
theorem dX2_endDays_26 : decode cX2_endDays 26 = .ok (.ldc 70, 2) := by decide +kernel
theorem dX2_endDays_28 : decode cX2_endDays 28 = .ok (.ireturn, 1) := by decide +kernel
theorem dX2_endDays_29 : decode cX2_endDays 29 = .ok (.iconst 0, 1) := by decide +kernel
theorem dX2_endDays_30 : decode cX2_endDays 30 = .ok (.istore_n 2, 1) := by decide +kernel
theorem dX2_endDays_31 : decode cX2_endDays 31 = .ok (.iload_n 2, 1) := by decide +kernel
theorem dX2_endDays_32 : decode cX2_endDays 32 = .ok (.aload_n 0, 1) := by decide +kernel
theorem dX2_endDays_33 : decode cX2_endDays 33 = .ok (.getfield 37, 3) := by decide +kernel
theorem dX2_endDays_36 : decode cX2_endDays 36 = .ok (.if_icmp .ge 39, 3) := by decide +kernel
theorem dX2_endDays_39 : decode cX2_endDays 39 = .ok (.aload_n 0, 1) := by decide +kernel
theorem dX2_endDays_40 : decode cX2_endDays 40 = .ok (.iload_n 2, 1) := by decide +kernel
theorem dX2_endDays_41 : decode cX2_endDays 41 = .ok (.invokevirtual 61, 3) := by decide +kernel
theorem dX2_endDays_44 : decode cX2_endDays 44 = .ok (.astore_n 3, 1) := by decide +kernel
theorem dX2_endDays_45 : decode cX2_endDays 45 = .ok (.iconst 0, 1) := by decide +kernel
theorem dX2_endDays_46 : decode cX2_endDays 46 = .ok (.istore 4, 2) := by decide +kernel
theorem dX2_endDays_48 : decode cX2_endDays 48 = .ok (.iload 4, 2) := by decide +kernel
theorem dX2_endDays_50 : decode cX2_endDays 50 = .ok (.iload_n 1, 1) := by decide +kernel
theorem dX2_endDays_51 : decode cX2_endDays 51 = .ok (.if_icmp .ge 18, 3) := by decide +kernel
theorem dX2_endDays_54 : decode cX2_endDays 54 = .ok (.aload_n 3, 1) := by decide +kernel
theorem dX2_endDays_55 : decode cX2_endDays 55 = .ok (.ifnull 14, 3) := by decide +kernel
theorem dX2_endDays_58 : decode cX2_endDays 58 = .ok (.aload_n 0, 1) := by decide +kernel
theorem dX2_endDays_59 : decode cX2_endDays 59 = .ok (.aload_n 3, 1) := by decide +kernel
theorem dX2_endDays_60 : decode cX2_endDays 60 = .ok (.invokevirtual 123, 3) := by decide +kernel
theorem dX2_endDays_63 : decode cX2_endDays 63 = .ok (.iinc 4 1, 3) := by decide +kernel
theorem dX2_endDays_66 : decode cX2_endDays 66 = .ok (.goto (-18), 3) := by decide +kernel
theorem dX2_endDays_69 : decode cX2_endDays 69 = .ok (.iinc 2 1, 3) := by decide +kernel
theorem dX2_endDays_72 : decode cX2_endDays 72 = .ok (.goto (-41), 3) := by decide +kernel
theorem dX2_endDays_75 : decode cX2_endDays 75 = .ok (.aload_n 0, 1) := by decide +kernel
theorem dX2_endDays_76 : decode cX2_endDays 76 = .ok (.dup, 1) := by decide +kernel
theorem dX2_endDays_77 : decode cX2_endDays 77 = .ok (.getfield 40, 3) := by decide +kernel
theorem dX2_endDays_80 : decode cX2_endDays 80 = .ok (.iload_n 1, 1) := by decide +kernel
theorem dX2_endDays_81 : decode cX2_endDays 81 = .ok (.iadd, 1) := by decide +kernel
theorem dX2_endDays_82 : decode cX2_endDays 82 = .ok (.putfield 40, 3) := by decide +kernel
theorem dX2_endDays_85 : decode cX2_endDays 85 = .ok (.aload_n 0, 1) := by decide +kernel
theorem dX2_endDays_86 : decode cX2_endDays 86 = .ok (.aload_n 0, 1) := by decide +kernel
theorem dX2_endDays_87 : decode cX2_endDays 87 = .ok (.getfield 21, 3) := by decide +kernel
theorem dX2_endDays_90 : decode cX2_endDays 90 = .ok (.putfield 30, 3) := by decide +kernel
theorem dX2_endDays_93 : decode cX2_endDays 93 = .ok (.aload_n 0, 1) := by decide +kernel
theorem dX2_endDays_94 : decode cX2_endDays 94 = .ok (.invokevirtual 126, 3) := by decide +kernel
theorem dX2_endDays_97 : decode cX2_endDays 97 = .ok (.invokestatic 130, 3) := by decide +kernel
theorem dX2_endDays_100 : decode cX2_endDays 100 = .ok (.ireturn, 1) := by decide +kernel
set_option maxRecDepth 20000 in
theorem ggX2_endDayOf_X3_wearBehindDay : GoodIn wsX2_endDayOf wsX3_wearBehindDay := goodIn_r _ [12, 13, 14, 8, 15] (by decide +kernel) (by decide +kernel)
set_option maxRecDepth 20000 in
theorem gX2_endDayOf_X3_wearBehindDay_n138 : GoodIn wsX2_endDayOf (wsX3_wearBehindDay) := ggX2_endDayOf_X3_wearBehindDay
set_option maxRecDepth 20000 in
theorem ggX2_endDayOf_X3_heatBehindDay : GoodIn wsX2_endDayOf wsX3_heatBehindDay := goodIn_r _ [17, 13, 14, 8, 15, 18, 7, 9, 19, 20, 11, 21] (by decide +kernel) (by decide +kernel)
set_option maxRecDepth 20000 in
theorem gX2_endDayOf_X3_heatBehindDay_n141 : GoodIn wsX2_endDayOf (wsX3_heatBehindDay) := ggX2_endDayOf_X3_heatBehindDay
set_option maxRecDepth 20000 in
theorem ggX2_endDayOf_X2_isCold : GoodIn wsX2_endDayOf wsX2_isCold := goodIn_r _ [26, 27, 36, 37, 38, 39, 40, 41, 42, 43, 44, 45, 46, 47, 48, 49, 50] (by decide +kernel) (by decide +kernel)
set_option maxRecDepth 20000 in
theorem gX2_endDayOf_X2_isCold : GoodIn wsX2_endDayOf (wsV RX2 116 RX2 yX2_isCold wsX2_isCold) := goodIn_app (goodIn_of _ (by decide +kernel)) ggX2_endDayOf_X2_isCold
theorem dX2_endDayOf_0 : decode cX2_endDayOf 0 = .ok (.aload_n 1, 1) := by decide +kernel
theorem dX2_endDayOf_1 : decode cX2_endDayOf 1 = .ok (.aload_n 1, 1) := by decide +kernel
theorem dX2_endDayOf_2 : decode cX2_endDayOf 2 = .ok (.getfield 106, 3) := by decide +kernel
theorem dX2_endDayOf_5 : decode cX2_endDayOf 5 = .ok (.aload_n 1, 1) := by decide +kernel
theorem dX2_endDayOf_6 : decode cX2_endDayOf 6 = .ok (.getfield 135, 3) := by decide +kernel
theorem dX2_endDayOf_9 : decode cX2_endDayOf 9 = .ok (.invokestatic 138, 3) := by decide +kernel
theorem dX2_endDayOf_12 : decode cX2_endDayOf 12 = .ok (.putfield 106, 3) := by decide +kernel
theorem dX2_endDayOf_15 : decode cX2_endDayOf 15 = .ok (.aload_n 1, 1) := by decide +kernel
theorem dX2_endDayOf_16 : decode cX2_endDayOf 16 = .ok (.aload_n 1, 1) := by decide +kernel
theorem dX2_endDayOf_17 : decode cX2_endDayOf 17 = .ok (.getfield 113, 3) := by decide +kernel
theorem dX2_endDayOf_20 : decode cX2_endDayOf 20 = .ok (.aload_n 1, 1) := by decide +kernel
theorem dX2_endDayOf_21 : decode cX2_endDayOf 21 = .ok (.getfield 106, 3) := by decide +kernel
theorem dX2_endDayOf_24 : decode cX2_endDayOf 24 = .ok (.invokestatic 141, 3) := by decide +kernel
theorem dX2_endDayOf_27 : decode cX2_endDayOf 27 = .ok (.putfield 113, 3) := by decide +kernel
theorem dX2_endDayOf_30 : decode cX2_endDayOf 30 = .ok (.aload_n 1, 1) := by decide +kernel
theorem dX2_endDayOf_31 : decode cX2_endDayOf 31 = .ok (.aload_n 0, 1) := by decide +kernel
theorem dX2_endDayOf_32 : decode cX2_endDayOf 32 = .ok (.aload_n 1, 1) := by decide +kernel
theorem dX2_endDayOf_33 : decode cX2_endDayOf 33 = .ok (.getfield 113, 3) := by decide +kernel
theorem dX2_endDayOf_36 : decode cX2_endDayOf 36 = .ok (.invokevirtual 116, 3) := by decide +kernel
theorem dX2_endDayOf_39 : decode cX2_endDayOf 39 = .ok (.ifCond .eq 12, 3) := by decide +kernel
theorem dX2_endDayOf_42 : decode cX2_endDayOf 42 = .ok (.aload_n 1, 1) := by decide +kernel
theorem dX2_endDayOf_43 : decode cX2_endDayOf 43 = .ok (.getfield 144, 3) := by decide +kernel
theorem dX2_endDayOf_46 : decode cX2_endDayOf 46 = .ok (.iconst 1, 1) := by decide +kernel
theorem dX2_endDayOf_47 : decode cX2_endDayOf 47 = .ok (.iadd, 1) := by decide +kernel
theorem dX2_endDayOf_48 : decode cX2_endDayOf 48 = .ok (.goto 4, 3) := by decide +kernel
theorem dX2_endDayOf_51 : decode cX2_endDayOf 51 = .ok (.iconst 0, 1) := by decide +kernel
theorem dX2_endDayOf_52 : decode cX2_endDayOf 52 = .ok (.putfield 144, 3) := by decide +kernel
theorem dX2_endDayOf_55 : decode cX2_endDayOf 55 = .ok (.aload_n 0, 1) := by decide +kernel
theorem dX2_endDayOf_56 : decode cX2_endDayOf 56 = .ok (.aload_n 0, 1) := by decide +kernel
theorem dX2_endDayOf_57 : decode cX2_endDayOf 57 = .ok (.getfield 55, 3) := by decide +kernel
theorem dX2_endDayOf_60 : decode cX2_endDayOf 60 = .ok (.aload_n 1, 1) := by decide +kernel
theorem dX2_endDayOf_61 : decode cX2_endDayOf 61 = .ok (.getfield 144, 3) := by decide +kernel
theorem dX2_endDayOf_64 : decode cX2_endDayOf 64 = .ok (.invokestatic 147, 3) := by decide +kernel
theorem dX2_endDayOf_67 : decode cX2_endDayOf 67 = .ok (.putfield 55, 3) := by decide +kernel
theorem dX2_endDayOf_70 : decode cX2_endDayOf 70 = .ok (.return_, 1) := by decide +kernel
set_option maxRecDepth 20000 in
theorem ggX2_changeSetting_X2_isInRange : GoodIn wsX2_changeSetting wsX2_isInRange := goodIn_r _ [9] (by decide +kernel) (by decide +kernel)
set_option maxRecDepth 20000 in
theorem gX2_changeSetting_X2_isInRange : GoodIn wsX2_changeSetting (va_wsS RX2 150 yX2_isInRange wsX2_isInRange) := goodIn_app (goodIn_of _ (by decide +kernel)) ggX2_changeSetting_X2_isInRange
theorem dX2_changeSetting_0 : decode cX2_changeSetting 0 = .ok (.iload_n 1, 1) := by decide +kernel
theorem dX2_changeSetting_1 : decode cX2_changeSetting 1 = .ok (.iload_n 2, 1) := by decide +kernel
theorem dX2_changeSetting_2 : decode cX2_changeSetting 2 = .ok (.invokestatic 150, 3) := by decide +kernel
theorem dX2_changeSetting_5 : decode cX2_changeSetting 5 = .ok (.ifCond .ne 6, 3) := by decide +kernel
theorem dX2_changeSetting_8 : decode cX2_changeSetting 8 = .ok (.ldc 69, 2) := by decide +kernel
theorem dX2_changeSetting_10 : decode cX2_changeSetting 10 = .ok (.ireturn, 1) := by decide +kernel
theorem dX2_changeSetting_11 : decode cX2_changeSetting 11 = .ok (.iload_n 1, 1) := by decide +kernel
theorem dX2_changeSetting_12 : decode cX2_changeSetting 12 = .ok (.tableswitch 64 0 2 #[28, 40, 52], 28) := by decide +kernel
theorem dX2_changeSetting_40 : decode cX2_changeSetting 40 = .ok (.aload_n 0, 1) := by decide +kernel
theorem dX2_changeSetting_41 : decode cX2_changeSetting 41 = .ok (.getfield 17, 3) := by decide +kernel
theorem dX2_changeSetting_44 : decode cX2_changeSetting 44 = .ok (.istore_n 3, 1) := by decide +kernel
theorem dX2_changeSetting_45 : decode cX2_changeSetting 45 = .ok (.aload_n 0, 1) := by decide +kernel
theorem dX2_changeSetting_46 : decode cX2_changeSetting 46 = .ok (.iload_n 2, 1) := by decide +kernel
theorem dX2_changeSetting_47 : decode cX2_changeSetting 47 = .ok (.putfield 17, 3) := by decide +kernel
theorem dX2_changeSetting_50 : decode cX2_changeSetting 50 = .ok (.iload_n 3, 1) := by decide +kernel
theorem dX2_changeSetting_51 : decode cX2_changeSetting 51 = .ok (.ireturn, 1) := by decide +kernel
theorem dX2_changeSetting_52 : decode cX2_changeSetting 52 = .ok (.aload_n 0, 1) := by decide +kernel
theorem dX2_changeSetting_53 : decode cX2_changeSetting 53 = .ok (.getfield 21, 3) := by decide +kernel
theorem dX2_changeSetting_56 : decode cX2_changeSetting 56 = .ok (.istore_n 3, 1) := by decide +kernel
theorem dX2_changeSetting_57 : decode cX2_changeSetting 57 = .ok (.aload_n 0, 1) := by decide +kernel
theorem dX2_changeSetting_58 : decode cX2_changeSetting 58 = .ok (.iload_n 2, 1) := by decide +kernel
theorem dX2_changeSetting_59 : decode cX2_changeSetting 59 = .ok (.putfield 21, 3) := by decide +kernel
theorem dX2_changeSetting_62 : decode cX2_changeSetting 62 = .ok (.iload_n 3, 1) := by decide +kernel
theorem dX2_changeSetting_63 : decode cX2_changeSetting 63 = .ok (.ireturn, 1) := by decide +kernel
theorem dX2_changeSetting_64 : decode cX2_changeSetting 64 = .ok (.aload_n 0, 1) := by decide +kernel
theorem dX2_changeSetting_65 : decode cX2_changeSetting 65 = .ok (.getfield 24, 3) := by decide +kernel
theorem dX2_changeSetting_68 : decode cX2_changeSetting 68 = .ok (.istore_n 3, 1) := by decide +kernel
theorem dX2_changeSetting_69 : decode cX2_changeSetting 69 = .ok (.aload_n 0, 1) := by decide +kernel
theorem dX2_changeSetting_70 : decode cX2_changeSetting 70 = .ok (.iload_n 2, 1) := by decide +kernel
theorem dX2_changeSetting_71 : decode cX2_changeSetting 71 = .ok (.putfield 24, 3) := by decide +kernel
theorem dX2_changeSetting_74 : decode cX2_changeSetting 74 = .ok (.iload_n 3, 1) := by decide +kernel
theorem dX2_changeSetting_75 : decode cX2_changeSetting 75 = .ok (.ireturn, 1) := by decide +kernel
theorem dX2_changeSetting_76 : decode cX2_changeSetting 76 = .ok (.aload_n 0, 1) := by decide +kernel
theorem dX2_changeSetting_77 : decode cX2_changeSetting 77 = .ok (.getfield 27, 3) := by decide +kernel
theorem dX2_changeSetting_80 : decode cX2_changeSetting 80 = .ok (.istore_n 3, 1) := by decide +kernel
theorem dX2_changeSetting_81 : decode cX2_changeSetting 81 = .ok (.aload_n 0, 1) := by decide +kernel
theorem dX2_changeSetting_82 : decode cX2_changeSetting 82 = .ok (.iload_n 2, 1) := by decide +kernel
theorem dX2_changeSetting_83 : decode cX2_changeSetting 83 = .ok (.putfield 27, 3) := by decide +kernel
theorem dX2_changeSetting_86 : decode cX2_changeSetting 86 = .ok (.iload_n 3, 1) := by decide +kernel
theorem dX2_changeSetting_87 : decode cX2_changeSetting 87 = .ok (.ireturn, 1) := by decide +kernel
theorem dX2_isInRange_0 : decode cX2_isInRange 0 = .ok (.iload_n 0, 1) := by decide +kernel
theorem dX2_isInRange_1 : decode cX2_isInRange 1 = .ok (.tableswitch 98 0 3 #[31, 48, 65, 81], 31) := by decide +kernel
theorem dX2_isInRange_32 : decode cX2_isInRange 32 = .ok (.iload_n 1, 1) := by decide +kernel
theorem dX2_isInRange_33 : decode cX2_isInRange 33 = .ok (.iconst 1, 1) := by decide +kernel
theorem dX2_isInRange_34 : decode cX2_isInRange 34 = .ok (.if_icmp .lt 13, 3) := by decide +kernel
theorem dX2_isInRange_37 : decode cX2_isInRange 37 = .ok (.iload_n 1, 1) := by decide +kernel
theorem dX2_isInRange_38 : decode cX2_isInRange 38 = .ok (.bipush 99, 2) := by decide +kernel
theorem dX2_isInRange_40 : decode cX2_isInRange 40 = .ok (.if_icmp .gt 7, 3) := by decide +kernel
theorem dX2_isInRange_43 : decode cX2_isInRange 43 = .ok (.iconst 1, 1) := by decide +kernel
theorem dX2_isInRange_44 : decode cX2_isInRange 44 = .ok (.goto 4, 3) := by decide +kernel
theorem dX2_isInRange_47 : decode cX2_isInRange 47 = .ok (.iconst 0, 1) := by decide +kernel
theorem dX2_isInRange_48 : decode cX2_isInRange 48 = .ok (.ireturn, 1) := by decide +kernel
theorem dX2_isInRange_49 : decode cX2_isInRange 49 = .ok (.iload_n 1, 1) := by decide +kernel
theorem dX2_isInRange_50 : decode cX2_isInRange 50 = .ok (.iconst 1, 1) := by decide +kernel
theorem dX2_isInRange_51 : decode cX2_isInRange 51 = .ok (.if_icmp .lt 13, 3) := by decide +kernel
theorem dX2_isInRange_54 : decode cX2_isInRange 54 = .ok (.iload_n 1, 1) := by decide +kernel
theorem dX2_isInRange_55 : decode cX2_isInRange 55 = .ok (.bipush 24, 2) := by decide +kernel
theorem dX2_isInRange_57 : decode cX2_isInRange 57 = .ok (.if_icmp .gt 7, 3) := by decide +kernel
theorem dX2_isInRange_60 : decode cX2_isInRange 60 = .ok (.iconst 1, 1) := by decide +kernel
theorem dX2_isInRange_61 : decode cX2_isInRange 61 = .ok (.goto 4, 3) := by decide +kernel
theorem dX2_isInRange_64 : decode cX2_isInRange 64 = .ok (.iconst 0, 1) := by decide +kernel
theorem dX2_isInRange_65 : decode cX2_isInRange 65 = .ok (.ireturn, 1) := by decide +kernel
theorem dX2_isInRange_66 : decode cX2_isInRange 66 = .ok (.iload_n 1, 1) := by decide +kernel
theorem dX2_isInRange_67 : decode cX2_isInRange 67 = .ok (.ifCond .lt 13, 3) := by decide +kernel
theorem dX2_isInRange_70 : decode cX2_isInRange 70 = .ok (.iload_n 1, 1) := by decide +kernel
theorem dX2_isInRange_71 : decode cX2_isInRange 71 = .ok (.bipush 20, 2) := by decide +kernel
theorem dX2_isInRange_73 : decode cX2_isInRange 73 = .ok (.if_icmp .gt 7, 3) := by decide +kernel
theorem dX2_isInRange_76 : decode cX2_isInRange 76 = .ok (.iconst 1, 1) := by decide +kernel
theorem dX2_isInRange_77 : decode cX2_isInRange 77 = .ok (.goto 4, 3) := by decide +kernel
theorem dX2_isInRange_80 : decode cX2_isInRange 80 = .ok (.iconst 0, 1) := by decide +kernel
theorem dX2_isInRange_81 : decode cX2_isInRange 81 = .ok (.ireturn, 1) := by decide +kernel
theorem dX2_isInRange_82 : decode cX2_isInRange 82 = .ok (.iload_n 1, 1) := by decide +kernel
theorem dX2_isInRange_83 : decode cX2_isInRange 83 = .ok (.ifCond .lt 14, 3) := by decide +kernel
theorem dX2_isInRange_86 : decode cX2_isInRange 86 = .ok (.iload_n 1, 1) := by decide +kernel
theorem dX2_isInRange_87 : decode cX2_isInRange 87 = .ok (.sipush 500, 3) := by decide +kernel
theorem dX2_isInRange_90 : decode cX2_isInRange 90 = .ok (.if_icmp .gt 7, 3) := by decide +kernel
theorem dX2_isInRange_93 : decode cX2_isInRange 93 = .ok (.iconst 1, 1) := by decide +kernel
theorem dX2_isInRange_94 : decode cX2_isInRange 94 = .ok (.goto 4, 3) := by decide +kernel
theorem dX2_isInRange_97 : decode cX2_isInRange 97 = .ok (.iconst 0, 1) := by decide +kernel
theorem dX2_isInRange_98 : decode cX2_isInRange 98 = .ok (.ireturn, 1) := by decide +kernel
theorem dX2_isInRange_99 : decode cX2_isInRange 99 = .ok (.iconst 0, 1) := by decide +kernel
theorem dX2_isInRange_100 : decode cX2_isInRange 100 = .ok (.ireturn, 1) := by decide +kernel
set_option maxRecDepth 20000 in
theorem ggX2_doOrder_X2_walkTo : GoodIn wsX2_doOrder wsX2_walkTo := goodIn_r _ [6, 1, 7, 8, 9, 10, 11, 12, 13, 14, 15, 16, 17, 18, 19, 20, 21, 121, 122, 123, 124, 125, 126, 127, 128, 129, 130, 131, 132, 133, 134, 135] (by decide +kernel) (by decide +kernel)
set_option maxRecDepth 20000 in
theorem gX2_doOrder_X2_walkTo : GoodIn wsX2_doOrder (wsV RX2 154 RX2 yX2_walkTo wsX2_walkTo) := goodIn_app (goodIn_of _ (by decide +kernel)) ggX2_doOrder_X2_walkTo
set_option maxRecDepth 20000 in
theorem ggX2_doOrder_X2_buyLeather : GoodIn wsX2_doOrder wsX2_buyLeather := goodIn_r _ [25, 1, 7, 9, 26, 27, 28, 29, 121, 122, 123, 124, 125, 126, 127, 128, 129, 130, 131, 132, 133, 134, 135] (by decide +kernel) (by decide +kernel)
set_option maxRecDepth 20000 in
theorem gX2_doOrder_X2_buyLeather : GoodIn wsX2_doOrder (wsV RX2 157 RX2 yX2_buyLeather wsX2_buyLeather) := goodIn_app (goodIn_of _ (by decide +kernel)) ggX2_doOrder_X2_buyLeather
set_option maxRecDepth 20000 in
theorem ggX2_doOrder_X2_mendBellows : GoodIn wsX2_doOrder wsX2_mendBellows := goodIn_r _ [33, 1, 9, 8, 26, 34, 35, 36, 37, 38, 39, 40, 5, 41, 42, 43, 44, 45, 46, 47, 48, 7, 49, 16, 50, 51, 52, 53, 54, 55, 56, 57, 20, 21, 58, 59, 60, 61, 62, 63, 64, 65, 66, 67, 68, 69, 70, 71, 121, 122, 123, 124, 125, 126, 127, 128, 129, 130, 131, 132, 133, 134, 135, 136, 137, 138, 139, 140, 141, 142, 143] (by decide +kernel) (by decide +kernel)
set_option maxRecDepth 20000 in
theorem gX2_doOrder_X2_mendBellows : GoodIn wsX2_doOrder (wsV RX2 160 RX2 yX2_mendBellows wsX2_mendBellows) := goodIn_app (goodIn_of _ (by decide +kernel)) ggX2_doOrder_X2_mendBellows
set_option maxRecDepth 20000 in
theorem ggX2_doOrder_X2_collectDebt : GoodIn wsX2_doOrder wsX2_collectDebt := goodIn_r _ [75, 1, 48, 7, 35, 9, 76, 77, 28, 38, 39, 40, 5, 41, 42, 43, 78, 79, 80, 81, 82, 136, 137, 138, 139, 140, 141, 142, 143, 121, 122, 123, 124, 125, 126, 127, 128, 129, 130, 131, 132, 133, 134, 135] (by decide +kernel) (by decide +kernel)
set_option maxRecDepth 20000 in
theorem gX2_doOrder_X2_collectDebt : GoodIn wsX2_doOrder (wsV RX2 164 RX2 yX2_collectDebt wsX2_collectDebt) := goodIn_app (goodIn_of _ (by decide +kernel)) ggX2_doOrder_X2_collectDebt
set_option maxRecDepth 20000 in
theorem ggX2_doOrder_X2_endDays : GoodIn wsX2_doOrder wsX2_endDays := goodIn_r _ [86, 1, 87, 27, 42, 88, 8, 38, 39, 40, 5, 41, 43, 89, 90, 91, 92, 36, 93, 76, 94, 95, 96, 97, 13, 98, 99, 16, 100, 101, 102, 103, 104, 105, 106, 107, 108, 109, 78, 79, 80, 81, 82, 110, 111, 112, 113, 114, 115, 116, 117, 118, 119, 120, 121, 122, 123, 124, 125, 126, 127, 128, 129, 130, 131, 132, 133, 134, 135, 136, 137, 138, 139, 140, 141, 142, 143] (by decide +kernel) (by decide +kernel)
set_option maxRecDepth 20000 in
theorem gX2_doOrder_X2_endDays : GoodIn wsX2_doOrder (wsV RX2 167 RX2 yX2_endDays wsX2_endDays) := goodIn_app (goodIn_of _ (by decide +kernel)) ggX2_doOrder_X2_endDays
theorem dX2_doOrder_0 : decode cX2_doOrder 0 = .ok (.iload_n 1, 1) := by decide +kernel
theorem dX2_doOrder_1 : decode cX2_doOrder 1 = .ok (.lookupswitch 97 #[(98, 65), (99, 85), (100, 91), (104, 78), (112, 71), (119, 59)], 59) := by decide +kernel
theorem dX2_doOrder_60 : decode cX2_doOrder 60 = .ok (.aload_n 0, 1) := by decide +kernel
theorem dX2_doOrder_61 : decode cX2_doOrder 61 = .ok (.iload_n 2, 1) := by decide +kernel
theorem dX2_doOrder_62 : decode cX2_doOrder 62 = .ok (.invokevirtual 154, 3) := by decide +kernel
theorem dX2_doOrder_65 : decode cX2_doOrder 65 = .ok (.ireturn, 1) := by decide +kernel
theorem dX2_doOrder_66 : decode cX2_doOrder 66 = .ok (.aload_n 0, 1) := by decide +kernel
theorem dX2_doOrder_67 : decode cX2_doOrder 67 = .ok (.iload_n 2, 1) := by decide +kernel
theorem dX2_doOrder_68 : decode cX2_doOrder 68 = .ok (.invokevirtual 157, 3) := by decide +kernel
theorem dX2_doOrder_71 : decode cX2_doOrder 71 = .ok (.ireturn, 1) := by decide +kernel
theorem dX2_doOrder_72 : decode cX2_doOrder 72 = .ok (.aload_n 0, 1) := by decide +kernel
theorem dX2_doOrder_73 : decode cX2_doOrder 73 = .ok (.iload_n 2, 1) := by decide +kernel
theorem dX2_doOrder_74 : decode cX2_doOrder 74 = .ok (.iconst 0, 1) := by decide +kernel
theorem dX2_doOrder_75 : decode cX2_doOrder 75 = .ok (.invokevirtual 160, 3) := by decide +kernel
theorem dX2_doOrder_78 : decode cX2_doOrder 78 = .ok (.ireturn, 1) := by decide +kernel
theorem dX2_doOrder_79 : decode cX2_doOrder 79 = .ok (.aload_n 0, 1) := by decide +kernel
theorem dX2_doOrder_80 : decode cX2_doOrder 80 = .ok (.iload_n 2, 1) := by decide +kernel
theorem dX2_doOrder_81 : decode cX2_doOrder 81 = .ok (.iconst 1, 1) := by decide +kernel
theorem dX2_doOrder_82 : decode cX2_doOrder 82 = .ok (.invokevirtual 160, 3) := by decide +kernel
theorem dX2_doOrder_85 : decode cX2_doOrder 85 = .ok (.ireturn, 1) := by decide +kernel
theorem dX2_doOrder_86 : decode cX2_doOrder 86 = .ok (.aload_n 0, 1) := by decide +kernel
theorem dX2_doOrder_87 : decode cX2_doOrder 87 = .ok (.iload_n 2, 1) := by decide +kernel
theorem dX2_doOrder_88 : decode cX2_doOrder 88 = .ok (.invokevirtual 164, 3) := by decide +kernel
theorem dX2_doOrder_91 : decode cX2_doOrder 91 = .ok (.ireturn, 1) := by decide +kernel
theorem dX2_doOrder_92 : decode cX2_doOrder 92 = .ok (.aload_n 0, 1) := by decide +kernel
theorem dX2_doOrder_93 : decode cX2_doOrder 93 = .ok (.iload_n 2, 1) := by decide +kernel
theorem dX2_doOrder_94 : decode cX2_doOrder 94 = .ok (.invokevirtual 167, 3) := by decide +kernel
theorem dX2_doOrder_97 : decode cX2_doOrder 97 = .ok (.ireturn, 1) := by decide +kernel
theorem dX2_doOrder_98 : decode cX2_doOrder 98 = .ok (.ldc 69, 2) := by decide +kernel
theorem dX2_doOrder_100 : decode cX2_doOrder 100 = .ok (.ireturn, 1) := by decide +kernel
theorem dX2_isCold_0 : decode cX2_isCold 0 = .ok (.iload_n 1, 1) := by decide +kernel
theorem dX2_isCold_1 : decode cX2_isCold 1 = .ok (.aload_n 0, 1) := by decide +kernel
theorem dX2_isCold_2 : decode cX2_isCold 2 = .ok (.getfield 17, 3) := by decide +kernel
theorem dX2_isCold_5 : decode cX2_isCold 5 = .ok (.if_icmp .ge 7, 3) := by decide +kernel
theorem dX2_isCold_8 : decode cX2_isCold 8 = .ok (.iconst 1, 1) := by decide +kernel
theorem dX2_isCold_9 : decode cX2_isCold 9 = .ok (.goto 4, 3) := by decide +kernel
theorem dX2_isCold_12 : decode cX2_isCold 12 = .ok (.iconst 0, 1) := by decide +kernel
theorem dX2_isCold_13 : decode cX2_isCold 13 = .ok (.ireturn, 1) := by decide +kernel
set_option maxRecDepth 20000 in
theorem ggX2_coldSet_X2_find : GoodIn wsX2_coldSet wsX2_find := goodIn_r _ [7, 1, 8, 14, 15, 16, 17, 18, 19, 20, 21, 22, 23, 24, 25, 26, 27, 28] (by decide +kernel) (by decide +kernel)
set_option maxRecDepth 20000 in
theorem gX2_coldSet_X2_find : GoodIn wsX2_coldSet (wsV RX2 61 RX2 yX2_find wsX2_find) := goodIn_app (goodIn_of _ (by decide +kernel)) ggX2_coldSet_X2_find
set_option maxRecDepth 20000 in
theorem ggX2_coldSet_X2_isCold : GoodIn wsX2_coldSet wsX2_isCold := goodIn_r _ [12, 13, 14, 15, 16, 17, 18, 19, 20, 21, 22, 23, 24, 25, 26, 27, 28] (by decide +kernel) (by decide +kernel)
set_option maxRecDepth 20000 in
theorem gX2_coldSet_X2_isCold : GoodIn wsX2_coldSet (wsV RX2 116 RX2 yX2_isCold wsX2_isCold) := goodIn_app (goodIn_of _ (by decide +kernel)) ggX2_coldSet_X2_isCold
theorem dX2_coldSet_0 : decode cX2_coldSet 0 = .ok (.iconst 0, 1) := by decide +kernel
theorem dX2_coldSet_1 : decode cX2_coldSet 1 = .ok (.istore_n 1, 1) := by decide +kernel
theorem dX2_coldSet_2 : decode cX2_coldSet 2 = .ok (.iconst 0, 1) := by decide +kernel
theorem dX2_coldSet_3 : decode cX2_coldSet 3 = .ok (.istore_n 2, 1) := by decide +kernel
theorem dX2_coldSet_4 : decode cX2_coldSet 4 = .ok (.iload_n 2, 1) := by decide +kernel
theorem dX2_coldSet_5 : decode cX2_coldSet 5 = .ok (.aload_n 0, 1) := by decide +kernel
theorem dX2_coldSet_6 : decode cX2_coldSet 6 = .ok (.getfield 37, 3) := by decide +kernel
theorem dX2_coldSet_9 : decode cX2_coldSet 9 = .ok (.if_icmp .ge 36, 3) := by decide +kernel
theorem dX2_coldSet_12 : decode cX2_coldSet 12 = .ok (.aload_n 0, 1) := by decide +kernel
theorem dX2_coldSet_13 : decode cX2_coldSet 13 = .ok (.iload_n 2, 1) := by decide +kernel
theorem dX2_coldSet_14 : decode cX2_coldSet 14 = .ok (.invokevirtual 61, 3) := by decide +kernel
theorem dX2_coldSet_17 : decode cX2_coldSet 17 = .ok (.astore_n 3, 1) := by decide +kernel
theorem dX2_coldSet_18 : decode cX2_coldSet 18 = .ok (.aload_n 3, 1) := by decide +kernel
theorem dX2_coldSet_19 : decode cX2_coldSet 19 = .ok (.ifnull 20, 3) := by decide +kernel
theorem dX2_coldSet_22 : decode cX2_coldSet 22 = .ok (.aload_n 0, 1) := by decide +kernel
theorem dX2_coldSet_23 : decode cX2_coldSet 23 = .ok (.aload_n 3, 1) := by decide +kernel
theorem dX2_coldSet_24 : decode cX2_coldSet 24 = .ok (.getfield 113, 3) := by decide +kernel
theorem dX2_coldSet_27 : decode cX2_coldSet 27 = .ok (.invokevirtual 116, 3) := by decide +kernel
theorem dX2_coldSet_30 : decode cX2_coldSet 30 = .ok (.ifCond .eq 9, 3) := by decide +kernel
theorem dX2_coldSet_33 : decode cX2_coldSet 33 = .ok (.iload_n 1, 1) := by decide +kernel
theorem dX2_coldSet_34 : decode cX2_coldSet 34 = .ok (.iconst 1, 1) := by decide +kernel
theorem dX2_coldSet_35 : decode cX2_coldSet 35 = .ok (.iload_n 2, 1) := by decide +kernel
theorem dX2_coldSet_36 : decode cX2_coldSet 36 = .ok (.ishl, 1) := by decide +kernel
theorem dX2_coldSet_37 : decode cX2_coldSet 37 = .ok (.ior, 1) := by decide +kernel
theorem dX2_coldSet_38 : decode cX2_coldSet 38 = .ok (.istore_n 1, 1) := by decide +kernel
theorem dX2_coldSet_39 : decode cX2_coldSet 39 = .ok (.iinc 2 1, 3) := by decide +kernel
theorem dX2_coldSet_42 : decode cX2_coldSet 42 = .ok (.goto (-38), 3) := by decide +kernel
theorem dX2_coldSet_45 : decode cX2_coldSet 45 = .ok (.iload_n 1, 1) := by decide +kernel
theorem dX2_coldSet_46 : decode cX2_coldSet 46 = .ok (.ireturn, 1) := by decide +kernel
set_option maxRecDepth 20000 in
theorem ggX2_wearTogether_X2_find : GoodIn wsX2_wearTogether wsX2_find := goodIn_r _ [7, 1, 8, 9, 10, 11, 12, 13, 14, 15, 16, 17, 18, 19, 20, 21, 22, 23] (by decide +kernel) (by decide +kernel)
set_option maxRecDepth 20000 in
theorem gX2_wearTogether_X2_find : GoodIn wsX2_wearTogether (wsV RX2 61 RX2 yX2_find wsX2_find) := goodIn_app (goodIn_of _ (by decide +kernel)) ggX2_wearTogether_X2_find
theorem dX2_wearTogether_0 : decode cX2_wearTogether 0 = .ok (.iconst 0, 1) := by decide +kernel
theorem dX2_wearTogether_1 : decode cX2_wearTogether 1 = .ok (.istore_n 1, 1) := by decide +kernel
theorem dX2_wearTogether_2 : decode cX2_wearTogether 2 = .ok (.iconst 0, 1) := by decide +kernel
theorem dX2_wearTogether_3 : decode cX2_wearTogether 3 = .ok (.istore_n 2, 1) := by decide +kernel
theorem dX2_wearTogether_4 : decode cX2_wearTogether 4 = .ok (.iload_n 2, 1) := by decide +kernel
theorem dX2_wearTogether_5 : decode cX2_wearTogether 5 = .ok (.aload_n 0, 1) := by decide +kernel
theorem dX2_wearTogether_6 : decode cX2_wearTogether 6 = .ok (.getfield 37, 3) := by decide +kernel
theorem dX2_wearTogether_9 : decode cX2_wearTogether 9 = .ok (.if_icmp .ge 26, 3) := by decide +kernel
theorem dX2_wearTogether_12 : decode cX2_wearTogether 12 = .ok (.aload_n 0, 1) := by decide +kernel
theorem dX2_wearTogether_13 : decode cX2_wearTogether 13 = .ok (.iload_n 2, 1) := by decide +kernel
theorem dX2_wearTogether_14 : decode cX2_wearTogether 14 = .ok (.invokevirtual 61, 3) := by decide +kernel
theorem dX2_wearTogether_17 : decode cX2_wearTogether 17 = .ok (.astore_n 3, 1) := by decide +kernel
theorem dX2_wearTogether_18 : decode cX2_wearTogether 18 = .ok (.aload_n 3, 1) := by decide +kernel
theorem dX2_wearTogether_19 : decode cX2_wearTogether 19 = .ok (.ifnull 10, 3) := by decide +kernel
theorem dX2_wearTogether_22 : decode cX2_wearTogether 22 = .ok (.iload_n 1, 1) := by decide +kernel
theorem dX2_wearTogether_23 : decode cX2_wearTogether 23 = .ok (.aload_n 3, 1) := by decide +kernel
theorem dX2_wearTogether_24 : decode cX2_wearTogether 24 = .ok (.getfield 106, 3) := by decide +kernel
theorem dX2_wearTogether_27 : decode cX2_wearTogether 27 = .ok (.iadd, 1) := by decide +kernel
theorem dX2_wearTogether_28 : decode cX2_wearTogether 28 = .ok (.istore_n 1, 1) := by decide +kernel
theorem dX2_wearTogether_29 : decode cX2_wearTogether 29 = .ok (.iinc 2 1, 3) := by decide +kernel
theorem dX2_wearTogether_32 : decode cX2_wearTogether 32 = .ok (.goto (-28), 3) := by decide +kernel
theorem dX2_wearTogether_35 : decode cX2_wearTogether 35 = .ok (.iload_n 1, 1) := by decide +kernel
theorem dX2_wearTogether_36 : decode cX2_wearTogether 36 = .ok (.ireturn, 1) := by decide +kernel
set_option maxRecDepth 20000 in
theorem ggX2_debtsTogether_X2_find : GoodIn wsX2_debtsTogether wsX2_find := goodIn_r _ [7, 1, 8, 9, 10, 11, 12, 13, 14, 15, 16, 17, 18, 19, 20, 21, 22, 23] (by decide +kernel) (by decide +kernel)
set_option maxRecDepth 20000 in
theorem gX2_debtsTogether_X2_find : GoodIn wsX2_debtsTogether (wsV RX2 61 RX2 yX2_find wsX2_find) := goodIn_app (goodIn_of _ (by decide +kernel)) ggX2_debtsTogether_X2_find
theorem dX2_debtsTogether_0 : decode cX2_debtsTogether 0 = .ok (.iconst 0, 1) := by decide +kernel
theorem dX2_debtsTogether_1 : decode cX2_debtsTogether 1 = .ok (.istore_n 1, 1) := by decide +kernel
theorem dX2_debtsTogether_2 : decode cX2_debtsTogether 2 = .ok (.iconst 0, 1) := by decide +kernel
theorem dX2_debtsTogether_3 : decode cX2_debtsTogether 3 = .ok (.istore_n 2, 1) := by decide +kernel
theorem dX2_debtsTogether_4 : decode cX2_debtsTogether 4 = .ok (.iload_n 2, 1) := by decide +kernel
theorem dX2_debtsTogether_5 : decode cX2_debtsTogether 5 = .ok (.aload_n 0, 1) := by decide +kernel
theorem dX2_debtsTogether_6 : decode cX2_debtsTogether 6 = .ok (.getfield 37, 3) := by decide +kernel
theorem dX2_debtsTogether_9 : decode cX2_debtsTogether 9 = .ok (.if_icmp .ge 26, 3) := by decide +kernel
theorem dX2_debtsTogether_12 : decode cX2_debtsTogether 12 = .ok (.aload_n 0, 1) := by decide +kernel
theorem dX2_debtsTogether_13 : decode cX2_debtsTogether 13 = .ok (.iload_n 2, 1) := by decide +kernel
theorem dX2_debtsTogether_14 : decode cX2_debtsTogether 14 = .ok (.invokevirtual 61, 3) := by decide +kernel
theorem dX2_debtsTogether_17 : decode cX2_debtsTogether 17 = .ok (.astore_n 3, 1) := by decide +kernel
theorem dX2_debtsTogether_18 : decode cX2_debtsTogether 18 = .ok (.aload_n 3, 1) := by decide +kernel
theorem dX2_debtsTogether_19 : decode cX2_debtsTogether 19 = .ok (.ifnull 10, 3) := by decide +kernel
theorem dX2_debtsTogether_22 : decode cX2_debtsTogether 22 = .ok (.iload_n 1, 1) := by decide +kernel
theorem dX2_debtsTogether_23 : decode cX2_debtsTogether 23 = .ok (.aload_n 3, 1) := by decide +kernel
theorem dX2_debtsTogether_24 : decode cX2_debtsTogether 24 = .ok (.getfield 100, 3) := by decide +kernel
theorem dX2_debtsTogether_27 : decode cX2_debtsTogether 27 = .ok (.iadd, 1) := by decide +kernel
theorem dX2_debtsTogether_28 : decode cX2_debtsTogether 28 = .ok (.istore_n 1, 1) := by decide +kernel
theorem dX2_debtsTogether_29 : decode cX2_debtsTogether 29 = .ok (.iinc 2 1, 3) := by decide +kernel
theorem dX2_debtsTogether_32 : decode cX2_debtsTogether 32 = .ok (.goto (-28), 3) := by decide +kernel
theorem dX2_debtsTogether_35 : decode cX2_debtsTogether 35 = .ok (.iload_n 1, 1) := by decide +kernel
theorem dX2_debtsTogether_36 : decode cX2_debtsTogether 36 = .ok (.ireturn, 1) := by decide +kernel
set_option maxRecDepth 20000 in
theorem ggX2_priceOfMend_X3_hoursOfMend : GoodIn wsX2_priceOfMend wsX3_hoursOfMend := goodIn_r _ [4] (by decide +kernel) (by decide +kernel)
set_option maxRecDepth 20000 in
theorem gX2_priceOfMend_X3_hoursOfMend_n93 : GoodIn wsX2_priceOfMend (wsX3_hoursOfMend) := ggX2_priceOfMend_X3_hoursOfMend
set_option maxRecDepth 20000 in
theorem ggX2_priceOfMend_X1_leatherOfMend : GoodIn wsX2_priceOfMend wsX1_leatherOfMend := goodIn_r _ [9, 10, 11, 12, 3, 13, 29, 30, 31, 32, 33, 34, 35, 36] (by decide +kernel) (by decide +kernel)
set_option maxRecDepth 20000 in
theorem gX2_priceOfMend_X1_leatherOfMend : GoodIn wsX2_priceOfMend (wsV RX2 97 RX1 yX1_leatherOfMend wsX1_leatherOfMend) := goodIn_app (goodIn_of _ (by decide +kernel)) ggX2_priceOfMend_X1_leatherOfMend
theorem dX2_priceOfMend_0 : decode cX2_priceOfMend 0 = .ok (.aload_n 0, 1) := by decide +kernel
theorem dX2_priceOfMend_1 : decode cX2_priceOfMend 1 = .ok (.getfield 24, 3) := by decide +kernel
theorem dX2_priceOfMend_4 : decode cX2_priceOfMend 4 = .ok (.iload_n 2, 1) := by decide +kernel
theorem dX2_priceOfMend_5 : decode cX2_priceOfMend 5 = .ok (.invokestatic 93, 3) := by decide +kernel
theorem dX2_priceOfMend_8 : decode cX2_priceOfMend 8 = .ok (.imul, 1) := by decide +kernel
theorem dX2_priceOfMend_9 : decode cX2_priceOfMend 9 = .ok (.iconst 3, 1) := by decide +kernel
theorem dX2_priceOfMend_10 : decode cX2_priceOfMend 10 = .ok (.aload_n 1, 1) := by decide +kernel
theorem dX2_priceOfMend_11 : decode cX2_priceOfMend 11 = .ok (.iload_n 2, 1) := by decide +kernel
theorem dX2_priceOfMend_12 : decode cX2_priceOfMend 12 = .ok (.invokevirtual 97, 3) := by decide +kernel
theorem dX2_priceOfMend_15 : decode cX2_priceOfMend 15 = .ok (.imul, 1) := by decide +kernel
theorem dX2_priceOfMend_16 : decode cX2_priceOfMend 16 = .ok (.iadd, 1) := by decide +kernel
theorem dX2_priceOfMend_17 : decode cX2_priceOfMend 17 = .ok (.ireturn, 1) := by decide +kernel
set_option maxRecDepth 20000 in
theorem ggX2_reasonAgainst_X3_hoursOfMend : GoodIn wsX2_reasonAgainst wsX3_hoursOfMend := goodIn_r _ [7] (by decide +kernel) (by decide +kernel)
set_option maxRecDepth 20000 in
theorem gX2_reasonAgainst_X3_hoursOfMend_n93 : GoodIn wsX2_reasonAgainst (wsX3_hoursOfMend) := ggX2_reasonAgainst_X3_hoursOfMend
set_option maxRecDepth 20000 in
theorem ggX2_reasonAgainst_X1_leatherOfMend : GoodIn wsX2_reasonAgainst wsX1_leatherOfMend := goodIn_r _ [12, 13, 14, 15, 6, 16, 25, 26, 27, 28, 29, 30, 31, 32] (by decide +kernel) (by decide +kernel)
set_option maxRecDepth 20000 in
theorem gX2_reasonAgainst_X1_leatherOfMend : GoodIn wsX2_reasonAgainst (wsV RX2 97 RX1 yX1_leatherOfMend wsX1_leatherOfMend) := goodIn_app (goodIn_of _ (by decide +kernel)) ggX2_reasonAgainst_X1_leatherOfMend
set_option maxRecDepth 20000 in
theorem ggX2_reasonAgainst_X2_reasonOfSmithy : GoodIn wsX2_reasonAgainst wsX2_reasonOfSmithy := goodIn_r _ [21, 22, 23, 24, 25, 26, 27, 28, 29, 30, 31, 32, 33, 34, 35, 36, 37, 38, 39, 40, 41, 42, 43, 44, 45, 46, 47] (by decide +kernel) (by decide +kernel)
set_option maxRecDepth 20000 in
theorem gX2_reasonAgainst_X2_reasonOfSmithy : GoodIn wsX2_reasonAgainst (wsV RX2 170 RX2 yX2_reasonOfSmithy wsX2_reasonOfSmithy) := goodIn_app (goodIn_of _ (by decide +kernel)) ggX2_reasonAgainst_X2_reasonOfSmithy
theorem dX2_reasonAgainst_0 : decode cX2_reasonAgainst 0 = .ok (.aload_n 1, 1) := by decide +kernel
theorem dX2_reasonAgainst_1 : decode cX2_reasonAgainst 1 = .ok (.getfield 112, 3) := by decide +kernel
theorem dX2_reasonAgainst_4 : decode cX2_reasonAgainst 4 = .ok (.aload_n 0, 1) := by decide +kernel
theorem dX2_reasonAgainst_5 : decode cX2_reasonAgainst 5 = .ok (.getfield 43, 3) := by decide +kernel
theorem dX2_reasonAgainst_8 : decode cX2_reasonAgainst 8 = .ok (.if_icmp .eq 5, 3) := by decide +kernel
theorem dX2_reasonAgainst_11 : decode cX2_reasonAgainst 11 = .ok (.iconst 1, 1) := by decide +kernel
theorem dX2_reasonAgainst_12 : decode cX2_reasonAgainst 12 = .ok (.ireturn, 1) := by decide +kernel
theorem dX2_reasonAgainst_13 : decode cX2_reasonAgainst 13 = .ok (.iload_n 2, 1) := by decide +kernel
theorem dX2_reasonAgainst_14 : decode cX2_reasonAgainst 14 = .ok (.invokestatic 93, 3) := by decide +kernel
theorem dX2_reasonAgainst_17 : decode cX2_reasonAgainst 17 = .ok (.aload_n 0, 1) := by decide +kernel
theorem dX2_reasonAgainst_18 : decode cX2_reasonAgainst 18 = .ok (.getfield 30, 3) := by decide +kernel
theorem dX2_reasonAgainst_21 : decode cX2_reasonAgainst 21 = .ok (.if_icmp .le 5, 3) := by decide +kernel
theorem dX2_reasonAgainst_24 : decode cX2_reasonAgainst 24 = .ok (.iconst 2, 1) := by decide +kernel
theorem dX2_reasonAgainst_25 : decode cX2_reasonAgainst 25 = .ok (.ireturn, 1) := by decide +kernel
theorem dX2_reasonAgainst_26 : decode cX2_reasonAgainst 26 = .ok (.aload_n 1, 1) := by decide +kernel
theorem dX2_reasonAgainst_27 : decode cX2_reasonAgainst 27 = .ok (.iload_n 2, 1) := by decide +kernel
theorem dX2_reasonAgainst_28 : decode cX2_reasonAgainst 28 = .ok (.invokevirtual 97, 3) := by decide +kernel
theorem dX2_reasonAgainst_31 : decode cX2_reasonAgainst 31 = .ok (.aload_n 0, 1) := by decide +kernel
theorem dX2_reasonAgainst_32 : decode cX2_reasonAgainst 32 = .ok (.getfield 46, 3) := by decide +kernel
theorem dX2_reasonAgainst_35 : decode cX2_reasonAgainst 35 = .ok (.if_icmp .le 5, 3) := by decide +kernel
theorem dX2_reasonAgainst_38 : decode cX2_reasonAgainst 38 = .ok (.iconst 3, 1) := by decide +kernel
theorem dX2_reasonAgainst_39 : decode cX2_reasonAgainst 39 = .ok (.ireturn, 1) := by decide +kernel
theorem dX2_reasonAgainst_40 : decode cX2_reasonAgainst 40 = .ok (.aload_n 0, 1) := by decide +kernel
theorem dX2_reasonAgainst_41 : decode cX2_reasonAgainst 41 = .ok (.aload_n 1, 1) := by decide +kernel
theorem dX2_reasonAgainst_42 : decode cX2_reasonAgainst 42 = .ok (.invokevirtual 170, 3) := by decide +kernel
theorem dX2_reasonAgainst_45 : decode cX2_reasonAgainst 45 = .ok (.ireturn, 1) := by decide +kernel
theorem dX2_reasonOfSmithy_0 : decode cX2_reasonOfSmithy 0 = .ok (.aload_n 1, 1) := by decide +kernel
theorem dX2_reasonOfSmithy_1 : decode cX2_reasonOfSmithy 1 = .ok (.getfield 100, 3) := by decide +kernel
theorem dX2_reasonOfSmithy_4 : decode cX2_reasonOfSmithy 4 = .ok (.aload_n 0, 1) := by decide +kernel
theorem dX2_reasonOfSmithy_5 : decode cX2_reasonOfSmithy 5 = .ok (.getfield 27, 3) := by decide +kernel
theorem dX2_reasonOfSmithy_8 : decode cX2_reasonOfSmithy 8 = .ok (.if_icmp .le 5, 3) := by decide +kernel
theorem dX2_reasonOfSmithy_11 : decode cX2_reasonOfSmithy 11 = .ok (.iconst 4, 1) := by decide +kernel
theorem dX2_reasonOfSmithy_12 : decode cX2_reasonOfSmithy 12 = .ok (.ireturn, 1) := by decide +kernel
theorem dX2_reasonOfSmithy_13 : decode cX2_reasonOfSmithy 13 = .ok (.aload_n 1, 1) := by decide +kernel
theorem dX2_reasonOfSmithy_14 : decode cX2_reasonOfSmithy 14 = .ok (.getfield 106, 3) := by decide +kernel
theorem dX2_reasonOfSmithy_17 : decode cX2_reasonOfSmithy 17 = .ok (.ifCond .ne 7, 3) := by decide +kernel
theorem dX2_reasonOfSmithy_20 : decode cX2_reasonOfSmithy 20 = .ok (.iconst 5, 1) := by decide +kernel
theorem dX2_reasonOfSmithy_21 : decode cX2_reasonOfSmithy 21 = .ok (.goto 4, 3) := by decide +kernel
theorem dX2_reasonOfSmithy_24 : decode cX2_reasonOfSmithy 24 = .ok (.iconst 0, 1) := by decide +kernel
theorem dX2_reasonOfSmithy_25 : decode cX2_reasonOfSmithy 25 = .ok (.ireturn, 1) := by decide +kernel
set_option maxRecDepth 20000 in
theorem ggX2_coldDaysAhead_X2_isCold : GoodIn wsX2_coldDaysAhead wsX2_isCold := goodIn_r _ [8, 9, 33, 34, 35, 36, 37, 38, 39, 40, 41, 42, 43, 44, 45, 46, 47] (by decide +kernel) (by decide +kernel)
set_option maxRecDepth 20000 in
theorem gX2_coldDaysAhead_X2_isCold : GoodIn wsX2_coldDaysAhead (wsV RX2 116 RX2 yX2_isCold wsX2_isCold) := goodIn_app (goodIn_of _ (by decide +kernel)) ggX2_coldDaysAhead_X2_isCold
set_option maxRecDepth 20000 in
theorem ggX2_coldDaysAhead_X3_wearBehindDay : GoodIn wsX2_coldDaysAhead wsX3_wearBehindDay := goodIn_r _ [12, 13, 14, 15, 16] (by decide +kernel) (by decide +kernel)
set_option maxRecDepth 20000 in
theorem gX2_coldDaysAhead_X3_wearBehindDay_n138 : GoodIn wsX2_coldDaysAhead (wsX3_wearBehindDay) := ggX2_coldDaysAhead_X3_wearBehindDay
set_option maxRecDepth 20000 in
theorem ggX2_coldDaysAhead_X3_heatBehindDay : GoodIn wsX2_coldDaysAhead wsX3_heatBehindDay := goodIn_r _ [18, 13, 14, 15, 16, 19, 20, 21, 22, 23, 11, 24] (by decide +kernel) (by decide +kernel)
set_option maxRecDepth 20000 in
theorem gX2_coldDaysAhead_X3_heatBehindDay_n141 : GoodIn wsX2_coldDaysAhead (wsX3_heatBehindDay) := ggX2_coldDaysAhead_X3_heatBehindDay
theorem dX2_coldDaysAhead_0 : decode cX2_coldDaysAhead 0 = .ok (.aload_n 1, 1) := by decide +kernel
theorem dX2_coldDaysAhead_1 : decode cX2_coldDaysAhead 1 = .ok (.getfield 106, 3) := by decide +kernel
theorem dX2_coldDaysAhead_4 : decode cX2_coldDaysAhead 4 = .ok (.istore_n 2, 1) := by decide +kernel
theorem dX2_coldDaysAhead_5 : decode cX2_coldDaysAhead 5 = .ok (.aload_n 1, 1) := by decide +kernel
theorem dX2_coldDaysAhead_6 : decode cX2_coldDaysAhead 6 = .ok (.getfield 113, 3) := by decide +kernel
theorem dX2_coldDaysAhead_9 : decode cX2_coldDaysAhead 9 = .ok (.istore_n 3, 1) := by decide +kernel
theorem dX2_coldDaysAhead_10 : decode cX2_coldDaysAhead 10 = .ok (.aload_n 0, 1) := by decide +kernel
theorem dX2_coldDaysAhead_11 : decode cX2_coldDaysAhead 11 = .ok (.iload_n 3, 1) := by decide +kernel
theorem dX2_coldDaysAhead_12 : decode cX2_coldDaysAhead 12 = .ok (.invokevirtual 116, 3) := by decide +kernel
theorem dX2_coldDaysAhead_15 : decode cX2_coldDaysAhead 15 = .ok (.ifCond .eq 5, 3) := by decide +kernel
theorem dX2_coldDaysAhead_18 : decode cX2_coldDaysAhead 18 = .ok (.iconst 0, 1) := by decide +kernel
theorem dX2_coldDaysAhead_19 : decode cX2_coldDaysAhead 19 = .ok (.ireturn, 1) := by decide +kernel
theorem dX2_coldDaysAhead_20 : decode cX2_coldDaysAhead 20 = .ok (.iconst 1, 1) := by decide +kernel
theorem dX2_coldDaysAhead_21 : decode cX2_coldDaysAhead 21 = .ok (.istore 4, 2) := by decide +kernel
theorem dX2_coldDaysAhead_23 : decode cX2_coldDaysAhead 23 = .ok (.iload 4, 2) := by decide +kernel
theorem dX2_coldDaysAhead_25 : decode cX2_coldDaysAhead 25 = .ok (.sipush 200, 3) := by decide +kernel
theorem dX2_coldDaysAhead_28 : decode cX2_coldDaysAhead 28 = .ok (.if_icmp .gt 35, 3) := by decide +kernel
theorem dX2_coldDaysAhead_31 : decode cX2_coldDaysAhead 31 = .ok (.iload_n 2, 1) := by decide +kernel
theorem dX2_coldDaysAhead_32 : decode cX2_coldDaysAhead 32 = .ok (.aload_n 1, 1) := by decide +kernel
theorem dX2_coldDaysAhead_33 : decode cX2_coldDaysAhead 33 = .ok (.getfield 135, 3) := by decide +kernel
theorem dX2_coldDaysAhead_36 : decode cX2_coldDaysAhead 36 = .ok (.invokestatic 138, 3) := by decide +kernel
theorem dX2_coldDaysAhead_39 : decode cX2_coldDaysAhead 39 = .ok (.istore_n 2, 1) := by decide +kernel
theorem dX2_coldDaysAhead_40 : decode cX2_coldDaysAhead 40 = .ok (.iload_n 3, 1) := by decide +kernel
theorem dX2_coldDaysAhead_41 : decode cX2_coldDaysAhead 41 = .ok (.iload_n 2, 1) := by decide +kernel
theorem dX2_coldDaysAhead_42 : decode cX2_coldDaysAhead 42 = .ok (.invokestatic 141, 3) := by decide +kernel
theorem dX2_coldDaysAhead_45 : decode cX2_coldDaysAhead 45 = .ok (.istore_n 3, 1) := by decide +kernel
theorem dX2_coldDaysAhead_46 : decode cX2_coldDaysAhead 46 = .ok (.aload_n 0, 1) := by decide +kernel
theorem dX2_coldDaysAhead_47 : decode cX2_coldDaysAhead 47 = .ok (.iload_n 3, 1) := by decide +kernel
theorem dX2_coldDaysAhead_48 : decode cX2_coldDaysAhead 48 = .ok (.invokevirtual 116, 3) := by decide +kernel
theorem dX2_coldDaysAhead_51 : decode cX2_coldDaysAhead 51 = .ok (.ifCond .eq 6, 3) := by decide +kernel
theorem dX2_coldDaysAhead_54 : decode cX2_coldDaysAhead 54 = .ok (.iload 4, 2) := by decide +kernel
theorem dX2_coldDaysAhead_56 : decode cX2_coldDaysAhead 56 = .ok (.ireturn, 1) := by decide +kernel
theorem dX2_coldDaysAhead_57 : decode cX2_coldDaysAhead 57 = .ok (.iinc 4 1, 3) := by decide +kernel
theorem dX2_coldDaysAhead_60 : decode cX2_coldDaysAhead 60 = .ok (.goto (-37), 3) := by decide +kernel
theorem dX2_coldDaysAhead_63 : decode cX2_coldDaysAhead 63 = .ok (.sipush 201, 3) := by decide +kernel
theorem dX2_coldDaysAhead_66 : decode cX2_coldDaysAhead 66 = .ok (.ireturn, 1) := by decide +kernel
set_option maxRecDepth 20000 in
theorem ggX2_smithyToBeNext_X2_find : GoodIn wsX2_smithyToBeNext wsX2_find := goodIn_r _ [8, 2, 9, 45, 46, 47, 48, 49, 50, 51, 52, 53, 54, 55, 56, 57, 58, 59] (by decide +kernel) (by decide +kernel)
set_option maxRecDepth 20000 in
theorem gX2_smithyToBeNext_X2_find : GoodIn wsX2_smithyToBeNext (wsV RX2 61 RX2 yX2_find wsX2_find) := goodIn_app (goodIn_of _ (by decide +kernel)) ggX2_smithyToBeNext_X2_find
set_option maxRecDepth 20000 in
theorem ggX2_smithyToBeNext_X2_comesBefore : GoodIn wsX2_smithyToBeNext wsX2_comesBefore := goodIn_r _ [13, 3, 14, 15, 16, 17, 18, 19, 20, 21, 22, 7, 23, 24, 25, 26, 27, 28, 29, 30, 31, 32, 33, 34, 35, 36, 37, 38, 39, 40, 41, 42, 43, 44, 60, 61, 62, 63, 64, 65, 66, 67, 45, 46, 47, 48, 49, 50, 51, 52, 53, 54, 55, 56, 57, 58, 59] (by decide +kernel) (by decide +kernel)
set_option maxRecDepth 20000 in
theorem gX2_smithyToBeNext_X2_comesBefore : GoodIn wsX2_smithyToBeNext (wsV RX2 175 RX2 yX2_comesBefore wsX2_comesBefore) := goodIn_app (goodIn_of _ (by decide +kernel)) ggX2_smithyToBeNext_X2_comesBefore
theorem dX2_smithyToBeNext_0 : decode cX2_smithyToBeNext 0 = .ok (.ldc 174, 2) := by decide +kernel
theorem dX2_smithyToBeNext_2 : decode cX2_smithyToBeNext 2 = .ok (.istore_n 1, 1) := by decide +kernel
theorem dX2_smithyToBeNext_3 : decode cX2_smithyToBeNext 3 = .ok (.aconst_null, 1) := by decide +kernel
theorem dX2_smithyToBeNext_4 : decode cX2_smithyToBeNext 4 = .ok (.astore_n 2, 1) := by decide +kernel
theorem dX2_smithyToBeNext_5 : decode cX2_smithyToBeNext 5 = .ok (.iconst 0, 1) := by decide +kernel
theorem dX2_smithyToBeNext_6 : decode cX2_smithyToBeNext 6 = .ok (.istore_n 3, 1) := by decide +kernel
theorem dX2_smithyToBeNext_7 : decode cX2_smithyToBeNext 7 = .ok (.iload_n 3, 1) := by decide +kernel
theorem dX2_smithyToBeNext_8 : decode cX2_smithyToBeNext 8 = .ok (.aload_n 0, 1) := by decide +kernel
theorem dX2_smithyToBeNext_9 : decode cX2_smithyToBeNext 9 = .ok (.getfield 37, 3) := by decide +kernel
theorem dX2_smithyToBeNext_12 : decode cX2_smithyToBeNext 12 = .ok (.if_icmp .ge 48, 3) := by decide +kernel
theorem dX2_smithyToBeNext_15 : decode cX2_smithyToBeNext 15 = .ok (.aload_n 0, 1) := by decide +kernel
theorem dX2_smithyToBeNext_16 : decode cX2_smithyToBeNext 16 = .ok (.iload_n 3, 1) := by decide +kernel
theorem dX2_smithyToBeNext_17 : decode cX2_smithyToBeNext 17 = .ok (.invokevirtual 61, 3) := by decide +kernel
theorem dX2_smithyToBeNext_20 : decode cX2_smithyToBeNext 20 = .ok (.astore 4, 2) := by decide +kernel
theorem dX2_smithyToBeNext_22 : decode cX2_smithyToBeNext 22 = .ok (.aload 4, 2) := by decide +kernel
theorem dX2_smithyToBeNext_24 : decode cX2_smithyToBeNext 24 = .ok (.ifnull 30, 3) := by decide +kernel
theorem dX2_smithyToBeNext_27 : decode cX2_smithyToBeNext 27 = .ok (.aload 4, 2) := by decide +kernel
theorem dX2_smithyToBeNext_29 : decode cX2_smithyToBeNext 29 = .ok (.getfield 106, 3) := by decide +kernel
theorem dX2_smithyToBeNext_32 : decode cX2_smithyToBeNext 32 = .ok (.ifCond .le 22, 3) := by decide +kernel
theorem dX2_smithyToBeNext_35 : decode cX2_smithyToBeNext 35 = .ok (.aload_n 2, 1) := by decide +kernel
theorem dX2_smithyToBeNext_36 : decode cX2_smithyToBeNext 36 = .ok (.ifnull 13, 3) := by decide +kernel
theorem dX2_smithyToBeNext_39 : decode cX2_smithyToBeNext 39 = .ok (.aload_n 0, 1) := by decide +kernel
theorem dX2_smithyToBeNext_40 : decode cX2_smithyToBeNext 40 = .ok (.aload 4, 2) := by decide +kernel
theorem dX2_smithyToBeNext_42 : decode cX2_smithyToBeNext 42 = .ok (.aload_n 2, 1) := by decide +kernel
theorem dX2_smithyToBeNext_43 : decode cX2_smithyToBeNext 43 = .ok (.invokevirtual 175, 3) := by decide +kernel
theorem dX2_smithyToBeNext_46 : decode cX2_smithyToBeNext 46 = .ok (.ifCond .eq 8, 3) := by decide +kernel
theorem dX2_smithyToBeNext_49 : decode cX2_smithyToBeNext 49 = .ok (.iload_n 3, 1) := by decide +kernel
theorem dX2_smithyToBeNext_50 : decode cX2_smithyToBeNext 50 = .ok (.istore_n 1, 1) := by decide +kernel
theorem dX2_smithyToBeNext_51 : decode cX2_smithyToBeNext 51 = .ok (.aload 4, 2) := by decide +kernel
theorem dX2_smithyToBeNext_53 : decode cX2_smithyToBeNext 53 = .ok (.astore_n 2, 1) := by decide +kernel
theorem dX2_smithyToBeNext_54 : decode cX2_smithyToBeNext 54 = .ok (.iinc 3 1, 3) := by decide +kernel
theorem dX2_smithyToBeNext_57 : decode cX2_smithyToBeNext 57 = .ok (.goto (-50), 3) := by decide +kernel
theorem dX2_smithyToBeNext_60 : decode cX2_smithyToBeNext 60 = .ok (.iload_n 1, 1) := by decide +kernel
theorem dX2_smithyToBeNext_61 : decode cX2_smithyToBeNext 61 = .ok (.ireturn, 1) := by decide +kernel
set_option maxRecDepth 20000 in
theorem ggX2_comesBefore_X2_coldDaysAhead : GoodIn wsX2_comesBefore wsX2_coldDaysAhead := goodIn_r _ [12, 1, 13, 14, 15, 16, 17, 11, 18, 19, 20, 21, 22, 23, 24, 6, 25, 26, 27, 28, 29, 30, 31, 32, 33, 34, 35, 36, 37, 38, 39, 40, 41, 42, 43, 44, 45, 46, 47, 48, 49, 50, 51, 52, 53, 54, 55, 56] (by decide +kernel) (by decide +kernel)
set_option maxRecDepth 20000 in
theorem gX2_comesBefore_X2_coldDaysAhead : GoodIn wsX2_comesBefore (wsV RX2 179 RX2 yX2_coldDaysAhead wsX2_coldDaysAhead) := goodIn_app (goodIn_of _ (by decide +kernel)) ggX2_comesBefore_X2_coldDaysAhead
