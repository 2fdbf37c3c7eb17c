theorem dX2_endDayOf_56 : decode cX2_endDayOf 56 = .ok (.aload_n 0, 1) := by decide +kernel
theorem dX2_endDayOf_57 : decode cX2_endDayOf 57 = .ok (.getfield 55, 3) := by decide +kernel
theorem dX2_endDayOf_60 : decode cX2_endDayOf 60 = .ok (.aload_n 1, 1) := by decide +kernel
theorem dX2_endDayOf_61 : decode cX2_endDayOf 61 = .ok (.getfield 144, 3) := by decide +kernel
theorem dX2_endDayOf_64 : decode cX2_endDayOf 64 = .ok (.invokestatic 147, 3) := by decide +kernel
theorem dX2_endDayOf_67 : decode cX2_endDayOf 67 = .ok (.putfield 55, 3) := by decide +kernel
theorem dX2_endDayOf_70 : decode cX2_endDayOf 70 = .ok (.return_, 1) := by decide +kernel
set_option maxRecDepth 20000 in
theorem ggX2_changeSetting_X2_isInRange : GoodIn wsX2_changeSetting wsX2_isInRange := goodIn_r _ [9] (by decide +kernel) (by decide +kernel)
set_option maxRecDepth 20000 in
theorem gX2_changeSetting_X2_isInRange : GoodIn wsX2_changeSetting (va_wsS RX2 150 yX2_isInRange wsX2_isInRange) := goodIn_app (goodIn_of _ (by decide +kernel)) ggX2_changeSetting_X2_isInRange
theorem dX2_changeSetting_0 : decode cX2_changeSetting 0 = .ok (.iload_n 1, 1) := by decide +kernel
theorem dX2_changeSetting_1 : decode cX2_changeSetting 1 = .ok (.iload_n 2, 1) := by decide +kernel
theorem dX2_changeSetting_2 : decode cX2_changeSetting 2 = .ok (.invokestatic 150, 3) := by decide +kernel
theorem dX2_changeSetting_5 : decode cX2_changeSetting 5 = .ok (.ifCond .ne 6, 3) := by decide +kernel
theorem dX2_changeSetting_8 : decode cX2_changeSetting 8 = .ok (.ldc 69, 2) := by decide +kernel
theorem dX2_changeSetting_10 : decode cX2_changeSetting 10 = .ok (.ireturn, 1) := by decide +kernel
theorem dX2_changeSetting_11 : decode cX2_changeSetting 11 = .ok (.iload_n 1, 1) := by decide +kernel
theorem dX2_changeSetting_12 : decode cX2_changeSetting 12 = .ok (.tableswitch 64 0 2 #[28, 40, 52], 28) := by decide +kernel
theorem dX2_changeSetting_40 : decode cX2_changeSetting 40 = .ok (.aload_n 0, 1) := by decide +kernel
theorem dX2_changeSetting_41 : decode cX2_changeSetting 41 = .ok (.getfield 17, 3) := by decide +kernel
theorem dX2_changeSetting_44 : decode cX2_changeSetting 44 = .ok (.istore_n 3, 1) := by decide +kernel
theorem dX2_changeSetting_45 : decode cX2_changeSetting 45 = .ok (.aload_n 0, 1) := by decide +kernel
theorem dX2_changeSetting_46 : decode cX2_changeSetting 46 = .ok (.iload_n 2, 1) := by decide +kernel
theorem dX2_changeSetting_47 : decode cX2_changeSetting 47 = .ok (.putfield 17, 3) := by decide +kernel
theorem dX2_changeSetting_50 : decode cX2_changeSetting 50 = .ok (.iload_n 3, 1) := by decide +kernel
theorem dX2_changeSetting_51 : decode cX2_changeSetting 51 = .ok (.ireturn, 1) := by decide +kernel
theorem dX2_changeSetting_52 : decode cX2_changeSetting 52 = .ok (.aload_n 0, 1) := by decide +kernel
theorem dX2_changeSetting_53 : decode cX2_changeSetting 53 = .ok (.getfield 21, 3) := by decide +kernel
theorem dX2_changeSetting_56 : decode cX2_changeSetting 56 = .ok (.istore_n 3, 1) := by decide +kernel
theorem dX2_changeSetting_57 : decode cX2_changeSetting 57 = .ok (.aload_n 0, 1) := by decide +kernel
theorem dX2_changeSetting_58 : decode cX2_changeSetting 58 = .ok (.iload_n 2, 1) := by decide +kernel
theorem dX2_changeSetting_59 : decode cX2_changeSetting 59 = .ok (.putfield 21, 3) := by decide +kernel
theorem dX2_changeSetting_62 : decode cX2_changeSetting 62 = .ok (.iload_n 3, 1) := by decide +kernel
theorem dX2_changeSetting_63 : decode cX2_changeSetting 63 = .ok (.ireturn, 1) := by decide +kernel
theorem dX2_changeSetting_64 : decode cX2_changeSetting 64 = .ok (.aload_n 0, 1) := by decide +kernel
theorem dX2_changeSetting_65 : decode cX2_changeSetting 65 = .ok (.getfield 24, 3) := by decide +kernel
theorem dX2_changeSetting_68 : decode cX2_changeSetting 68 = .ok (.istore_n 3, 1) := by decide +kernel
theorem dX2_changeSetting_69 : decode cX2_changeSetting 69 = .ok (.aload_n 0, 1) := by decide +kernel
theorem dX2_changeSetting_70 : decode cX2_changeSetting 70 = .ok (.iload_n 2, 1) := by decide +kernel
theorem dX2_changeSetting_71 : decode cX2_changeSetting 71 = .ok (.putfield 24, 3) := by decide +kernel
theorem dX2_changeSetting_74 : decode cX2_changeSetting 74 = .ok (.iload_n 3, 1) := by decide +kernel
theorem dX2_changeSetting_75 : decode cX2_changeSetting 75 = .ok (.ireturn, 1) := by decide +kernel
theorem dX2_changeSetting_76 : decode cX2_changeSetting 76 = .ok (.aload_n 0, 1) := by decide +kernel
theorem dX2_changeSetting_77 : decode cX2_changeSetting 77 = .ok (.getfield 27, 3) := by decide +kernel
theorem dX2_changeSetting_80 : decode cX2_changeSetting 80 = .ok (.istore_n 3, 1) := by decide +kernel
theorem dX2_changeSetting_81 : decode cX2_changeSetting 81 = .ok (.aload_n 0, 1) := by decide +kernel
theorem dX2_changeSetting_82 : decode cX2_changeSetting 82 = .ok (.iload_n 2, 1) := by decide +kernel
theorem dX2_changeSetting_83 : decode cX2_changeSetting 83 = .ok (.putfield 27, 3) := by decide +kernel
theorem dX2_changeSetting_86 : decode cX2_changeSetting 86 = .ok (.iload_n 3, 1) := by decide +kernel
theorem dX2_changeSetting_87 : decode cX2_changeSetting 87 = .ok (.ireturn, 1) := by decide +kernel
theorem dX2_isInRange_0 : decode cX2_isInRange 0 = .ok (.iload_n 0, 1) := by decide +kernel
theorem dX2_isInRange_1 : decode cX2_isInRange 1 = .ok (.tableswitch 98 0 3 #[31, 48, 65, 81], 31) := by decide +kernel
theorem dX2_isInRange_32 : decode cX2_isInRange 32 = .ok (.iload_n 1, 1) := by decide +kernel
theorem dX2_isInRange_33 : decode cX2_isInRange 33 = .ok (.iconst 1, 1) := by decide +kernel
theorem dX2_isInRange_34 : decode cX2_isInRange 34 = .ok (.if_icmp .lt 13, 3) := by decide +kernel
theorem dX2_isInRange_37 : decode cX2_isInRange 37 = .ok (.iload_n 1, 1) := by decide +kernel
theorem dX2_isInRange_38 : decode cX2_isInRange 38 = .ok (.bipush 99, 2) := by decide +kernel
theorem dX2_isInRange_40 : decode cX2_isInRange 40 = .ok (.if_icmp .gt 7, 3) := by decide +kernel
theorem dX2_isInRange_43 : decode cX2_isInRange 43 = .ok (.iconst 1, 1) := by decide +kernel
theorem dX2_isInRange_44 : decode cX2_isInRange 44 = .ok (.goto 4, 3) := by decide +kernel
theorem dX2_isInRange_47 : decode cX2_isInRange 47 = .ok (.iconst 0, 1) := by decide +kernel
theorem dX2_isInRange_48 : decode cX2_isInRange 48 = .ok (.ireturn, 1) := by decide +kernel
theorem dX2_isInRange_49 : decode cX2_isInRange 49 = .ok (.iload_n 1, 1) := by decide +kernel
theorem dX2_isInRange_50 : decode cX2_isInRange 50 = .ok (.iconst 1, 1) := by decide +kernel
theorem dX2_isInRange_51 : decode cX2_isInRange 51 = .ok (.if_icmp .lt 13, 3) := by decide +kernel
theorem dX2_isInRange_54 : decode cX2_isInRange 54 = .ok (.iload_n 1, 1) := by decide +kernel
theorem dX2_isInRange_55 : decode cX2_isInRange 55 = .ok (.bipush 24, 2) := by decide +kernel
theorem dX2_isInRange_57 : decode cX2_isInRange 57 = .ok (.if_icmp .gt 7, 3) := by decide +kernel
theorem dX2_isInRange_60 : decode cX2_isInRange 60 = .ok (.iconst 1, 1) := by decide +kernel
theorem dX2_isInRange_61 : decode cX2_isInRange 61 = .ok (.goto 4, 3) := by decide +kernel
theorem dX2_isInRange_64 : decode cX2_isInRange 64 = .ok (.iconst 0, 1) := by decide +kernel
theorem dX2_isInRange_65 : decode cX2_isInRange 65 = .ok (.ireturn, 1) := by decide +kernel
theorem dX2_isInRange_66 : decode cX2_isInRange 66 = .ok (.iload_n 1, 1) := by decide +kernel
theorem dX2_isInRange_67 : decode cX2_isInRange 67 = .ok (.ifCond .lt 13, 3) := by decide +kernel
theorem dX2_isInRange_70 : decode cX2_isInRange 70 = .ok (.iload_n 1, 1) := by decide +kernel
theorem dX2_isInRange_71 : decode cX2_isInRange 71 = .ok (.bipush 20, 2) := by decide +kernel
theorem dX2_isInRange_73 : decode cX2_isInRange 73 = .ok (.if_icmp .gt 7, 3) := by decide +kernel
theorem dX2_isInRange_76 : decode cX2_isInRange 76 = .ok (.iconst 1, 1) := by decide +kernel
theorem dX2_isInRange_77 : decode cX2_isInRange 77 = .ok (.goto 4, 3) := by decide +kernel
theorem dX2_isInRange_80 : decode cX2_isInRange 80 = .ok (.iconst 0, 1) := by decide +kernel
theorem dX2_isInRange_81 : decode cX2_isInRange 81 = .ok (.ireturn, 1) := by decide +kernel
theorem dX2_isInRange_82 : decode cX2_isInRange 82 = .ok (.iload_n 1, 1) := by decide +kernel
theorem dX2_isInRange_83 : decode cX2_isInRange 83 = .ok (.ifCond .lt 14, 3) := by decide +kernel
theorem dX2_isInRange_86 : decode cX2_isInRange 86 = .ok (.iload_n 1, 1) := by decide +kernel
theorem dX2_isInRange_87 : decode cX2_isInRange 87 = .ok (.sipush 500, 3) := by decide +kernel
theorem dX2_isInRange_90 : decode cX2_isInRange 90 = .ok (.if_icmp .gt 7, 3) := by decide +kernel
theorem dX2_isInRange_93 : decode cX2_isInRange 93 = .ok (.iconst 1, 1) := by decide +kernel
theorem dX2_isInRange_94 : decode cX2_isInRange 94 = .ok (.goto 4, 3) := by decide +kernel
theorem dX2_isInRange_97 : decode cX2_isInRange 97 = .ok (.iconst 0, 1) := by decide +kernel
theorem dX2_isInRange_98 : decode cX2_isInRange 98 = .ok (.ireturn, 1) := by decide +kernel
theorem dX2_isInRange_99 : decode cX2_isInRange 99 = .ok (.iconst 0, 1) := by decide +kernel
theorem dX2_isInRange_100 : decode cX2_isInRange 100 = .ok (.ireturn, 1) := by decide +kernel
theorem dX2_isCold_0 : decode cX2_isCold 0 = .ok (.iload_n 1, 1) := by decide +kernel
theorem dX2_isCold_1 : decode cX2_isCold 1 = .ok (.aload_n 0, 1) := by decide +kernel
theorem dX2_isCold_2 : decode cX2_isCold 2 = .ok (.getfield 17, 3) := by decide +kernel
theorem dX2_isCold_5 : decode cX2_isCold 5 = .ok (.if_icmp .ge 7, 3) := by decide +kernel
theorem dX2_isCold_8 : decode cX2_isCold 8 = .ok (.iconst 1, 1) := by decide +kernel
theorem dX2_isCold_9 : decode cX2_isCold 9 = .ok (.goto 4, 3) := by decide +kernel
theorem dX2_isCold_12 : decode cX2_isCold 12 = .ok (.iconst 0, 1) := by decide +kernel
theorem dX2_isCold_13 : decode cX2_isCold 13 = .ok (.ireturn, 1) := by decide +kernel
set_option maxRecDepth 20000 in
theorem ggX2_coldSet_X2_find : GoodIn wsX2_coldSet wsX2_find := goodIn_r _ [7, 1, 8, 14, 15, 16, 17, 18, 19, 20, 21, 22, 23, 24, 25, 26, 27, 28] (by decide +kernel) (by decide +kernel)
set_option maxRecDepth 20000 in
theorem gX2_coldSet_X2_find : GoodIn wsX2_coldSet (wsV RX2 61 RX2 yX2_find wsX2_find) := goodIn_app (goodIn_of _ (by decide +kernel)) ggX2_coldSet_X2_find
set_option maxRecDepth 20000 in
theorem ggX2_coldSet_X2_isCold : GoodIn wsX2_coldSet wsX2_isCold := goodIn_r _ [12, 13, 14, 15, 16, 17, 18, 19, 20, 21, 22, 23, 24, 25, 26, 27, 28] (by decide +kernel) (by decide +kernel)
set_option maxRecDepth 20000 in
theorem gX2_coldSet_X2_isCold : GoodIn wsX2_coldSet (wsV RX2 116 RX2 yX2_isCold wsX2_isCold) := goodIn_app (goodIn_of _ (by decide +kernel)) ggX2_coldSet_X2_isCold
theorem dX2_coldSet_0 : decode cX2_coldSet 0 = .ok (.iconst 0, 1) := by decide +kernel
theorem dX2_coldSet_1 : decode cX2_coldSet 1 = .ok (.istore_n 1, 1) := by decide +kernel
theorem dX2_coldSet_2 : decode cX2_coldSet 2 = .ok (.iconst 0, 1) := by decide +kernel
theorem dX2_coldSet_3 : decode cX2_coldSet 3 = .ok (.istore_n 2, 1) := by decide +kernel
theorem dX2_coldSet_4 : decode cX2_coldSet 4 = .ok (.iload_n 2, 1) := by decide +kernel
theorem dX2_coldSet_5 : decode cX2_coldSet 5 = .ok (.aload_n 0, 1) := by decide +kernel
theorem dX2_coldSet_6 : decode cX2_coldSet 6 = .ok (.getfield 37, 3) := by decide +kernel
theorem dX2_coldSet_9 : decode cX2_coldSet 9 = .ok (.if_icmp .ge 36, 3) := by decide +kernel
theorem dX2_coldSet_12 : decode cX2_coldSet 12 = .ok (.aload_n 0, 1) := by decide +kernel
theorem dX2_coldSet_13 : decode cX2_coldSet 13 = .ok (.iload_n 2, 1) := by decide +kernel
theorem dX2_coldSet_14 : decode cX2_coldSet 14 = .ok (.invokevirtual 61, 3) := by decide +kernel
theorem dX2_coldSet_17 : decode cX2_coldSet 17 = .ok (.astore_n 3, 1) := by decide +kernel
theorem dX2_coldSet_18 : decode cX2_coldSet 18 = .ok (.aload_n 3, 1) := by decide +kernel
theorem dX2_coldSet_19 : decode cX2_coldSet 19 = .ok (.ifnull 20, 3) := by decide +kernel
theorem dX2_coldSet_22 : decode cX2_coldSet 22 = .ok (.aload_n 0, 1) := by decide +kernel
theorem dX2_coldSet_23 : decode cX2_coldSet 23 = .ok (.aload_n 3, 1) := by decide +kernel
theorem dX2_coldSet_24 : decode cX2_coldSet 24 = .ok (.getfield 113, 3) := by decide +kernel
theorem dX2_coldSet_27 : decode cX2_coldSet 27 = .ok (.invokevirtual 116, 3) := by decide +kernel
theorem dX2_coldSet_30 : decode cX2_coldSet 30 = .ok (.ifCond .eq 9, 3) := by decide +kernel
theorem dX2_coldSet_33 : decode cX2_coldSet 33 = .ok (.iload_n 1, 1) := by decide +kernel
theorem dX2_coldSet_34 : decode cX2_coldSet 34 = .ok (.iconst 1, 1) := by decide +kernel
theorem dX2_coldSet_35 : decode cX2_coldSet 35 = .ok (.iload_n 2, 1) := by decide +kernel
theorem dX2_coldSet_36 : decode cX2_coldSet 36 = .ok (.ishl, 1) := by decide +kernel
theorem dX2_coldSet_37 : decode cX2_coldSet 37 = .ok (.ior, 1) := by decide +kernel
theorem dX2_coldSet_38 : decode cX2_coldSet 38 = .ok (.istore_n 1, 1) := by decide +kernel
theorem dX2_coldSet_39 : decode cX2_coldSet 39 = .ok (.iinc 2 1, 3) := by decide +kernel
theorem dX2_coldSet_42 : decode cX2_coldSet 42 = .ok (.goto (-38), 3) := by decide +kernel
theorem dX2_coldSet_45 : decode cX2_coldSet 45 = .ok (.iload_n 1, 1) := by decide +kernel
theorem dX2_coldSet_46 : decode cX2_coldSet 46 = .ok (.ireturn, 1) := by decide +kernel
set_option maxRecDepth 20000 in
theorem ggX2_debtsTogether_X2_find : GoodIn wsX2_debtsTogether wsX2_find := goodIn_r _ [7, 1, 8, 9, 10, 11, 12, 13, 14, 15, 16, 17, 18, 19, 20, 21, 22, 23] (by decide +kernel) (by decide +kernel)
set_option maxRecDepth 20000 in
theorem gX2_debtsTogether_X2_find : GoodIn wsX2_debtsTogether (wsV RX2 61 RX2 yX2_find wsX2_find) := goodIn_app (goodIn_of _ (by decide +kernel)) ggX2_debtsTogether_X2_find
theorem dX2_debtsTogether_0 : decode cX2_debtsTogether 0 = .ok (.iconst 0, 1) := by decide +kernel
theorem dX2_debtsTogether_1 : decode cX2_debtsTogether 1 = .ok (.istore_n 1, 1) := by decide +kernel
theorem dX2_debtsTogether_2 : decode cX2_debtsTogether 2 = .ok (.iconst 0, 1) := by decide +kernel
theorem dX2_debtsTogether_3 : decode cX2_debtsTogether 3 = .ok (.istore_n 2, 1) := by decide +kernel
theorem dX2_debtsTogether_4 : decode cX2_debtsTogether 4 = .ok (.iload_n 2, 1) := by decide +kernel
theorem dX2_debtsTogether_5 : decode cX2_debtsTogether 5 = .ok (.aload_n 0, 1) := by decide +kernel
theorem dX2_debtsTogether_6 : decode cX2_debtsTogether 6 = .ok (.getfield 37, 3) := by decide +kernel
theorem dX2_debtsTogether_9 : decode cX2_debtsTogether 9 = .ok (.if_icmp .ge 26, 3) := by decide +kernel
theorem dX2_debtsTogether_12 : decode cX2_debtsTogether 12 = .ok (.aload_n 0, 1) := by decide +kernel
theorem dX2_debtsTogether_13 : decode cX2_debtsTogether 13 = .ok (.iload_n 2, 1) := by decide +kernel
theorem dX2_debtsTogether_14 : decode cX2_debtsTogether 14 = .ok (.invokevirtual 61, 3) := by decide +kernel
theorem dX2_debtsTogether_17 : decode cX2_debtsTogether 17 = .ok (.astore_n 3, 1) := by decide +kernel
theorem dX2_debtsTogether_18 : decode cX2_debtsTogether 18 = .ok (.aload_n 3, 1) := by decide +kernel
theorem dX2_debtsTogether_19 : decode cX2_debtsTogether 19 = .ok (.ifnull 10, 3) := by decide +kernel
theorem dX2_debtsTogether_22 : decode cX2_debtsTogether 22 = .ok (.iload_n 1, 1) := by decide +kernel
theorem dX2_debtsTogether_23 : decode cX2_debtsTogether 23 = .ok (.aload_n 3, 1) := by decide +kernel
theorem dX2_debtsTogether_24 : decode cX2_debtsTogether 24 = .ok (.getfield 100, 3) := by decide +kernel
theorem dX2_debtsTogether_27 : decode cX2_debtsTogether 27 = .ok (.iadd, 1) := by decide +kernel
theorem dX2_debtsTogether_28 : decode cX2_debtsTogether 28 = .ok (.istore_n 1, 1) := by decide +kernel
theorem dX2_debtsTogether_29 : decode cX2_debtsTogether 29 = .ok (.iinc 2 1, 3) := by decide +kernel
theorem dX2_debtsTogether_32 : decode cX2_debtsTogether 32 = .ok (.goto (-28), 3) := by decide +kernel
theorem dX2_debtsTogether_35 : decode cX2_debtsTogether 35 = .ok (.iload_n 1, 1) := by decide +kernel
theorem dX2_debtsTogether_36 : decode cX2_debtsTogether 36 = .ok (.ireturn, 1) := by decide +kernel
set_option maxRecDepth 20000 in
theorem ggX2_priceOfMend_X3_hoursOfMend : GoodIn wsX2_priceOfMend wsX3_hoursOfMend := goodIn_r _ [4] (by decide +kernel) (by decide +kernel)
set_option maxRecDepth 20000 in
theorem gX2_priceOfMend_X3_hoursOfMend_n93 : GoodIn wsX2_priceOfMend (wsX3_hoursOfMend) := ggX2_priceOfMend_X3_hoursOfMend
set_option maxRecDepth 20000 in
theorem ggX2_priceOfMend_X1_leatherOfMend : GoodIn wsX2_priceOfMend wsX1_leatherOfMend := goodIn_r _ [9, 10, 11, 12, 3, 13, 29, 30, 31, 32, 33, 34, 35, 36] (by decide +kernel) (by decide +kernel)
set_option maxRecDepth 20000 in
theorem gX2_priceOfMend_X1_leatherOfMend : GoodIn wsX2_priceOfMend (wsV RX2 97 RX1 yX1_leatherOfMend wsX1_leatherOfMend) := goodIn_app (goodIn_of _ (by decide +kernel)) ggX2_priceOfMend_X1_leatherOfMend
theorem dX2_priceOfMend_0 : decode cX2_priceOfMend 0 = .ok (.aload_n 0, 1) := by decide +kernel
theorem dX2_priceOfMend_1 : decode cX2_priceOfMend 1 = .ok (.getfield 24, 3) := by decide +kernel
theorem dX2_priceOfMend_4 : decode cX2_priceOfMend 4 = .ok (.iload_n 2, 1) := by decide +kernel
theorem dX2_priceOfMend_5 : decode cX2_priceOfMend 5 = .ok (.invokestatic 93, 3) := by decide +kernel
theorem dX2_priceOfMend_8 : decode cX2_priceOfMend 8 = .ok (.imul, 1) := by decide +kernel
theorem dX2_priceOfMend_9 : decode cX2_priceOfMend 9 = .ok (.iconst 3, 1) := by decide +kernel
theorem dX2_priceOfMend_10 : decode cX2_priceOfMend 10 = .ok (.aload_n 1, 1) := by decide +kernel
theorem dX2_priceOfMend_11 : decode cX2_priceOfMend 11 = .ok (.iload_n 2, 1) := by decide +kernel
theorem dX2_priceOfMend_12 : decode cX2_priceOfMend 12 = .ok (.invokevirtual 97, 3) := by decide +kernel
theorem dX2_priceOfMend_15 : decode cX2_priceOfMend 15 = .ok (.imul, 1) := by decide +kernel
theorem dX2_priceOfMend_16 : decode cX2_priceOfMend 16 = .ok (.iadd, 1) := by decide +kernel
theorem dX2_priceOfMend_17 : decode cX2_priceOfMend 17 = .ok (.ireturn, 1) := by decide +kernel
set_option maxRecDepth 20000 in
theorem ggX2_reasonAgainst_X3_hoursOfMend : GoodIn wsX2_reasonAgainst wsX3_hoursOfMend := goodIn_r _ [7] (by decide +kernel) (by decide +kernel)
set_option maxRecDepth 20000 in
theorem gX2_reasonAgainst_X3_hoursOfMend_n93 : GoodIn wsX2_reasonAgainst (wsX3_hoursOfMend) := ggX2_reasonAgainst_X3_hoursOfMend
set_option maxRecDepth 20000 in
theorem ggX2_reasonAgainst_X1_leatherOfMend : GoodIn wsX2_reasonAgainst wsX1_leatherOfMend := goodIn_r _ [12, 13, 14, 15, 6, 16, 25, 26, 27, 28, 29, 30, 31, 32] (by decide +kernel) (by decide +kernel)
set_option maxRecDepth 20000 in
theorem gX2_reasonAgainst_X1_leatherOfMend : GoodIn wsX2_reasonAgainst (wsV RX2 97 RX1 yX1_leatherOfMend wsX1_leatherOfMend) := goodIn_app (goodIn_of _ (by decide +kernel)) ggX2_reasonAgainst_X1_leatherOfMend
set_option maxRecDepth 20000 in
theorem ggX2_reasonAgainst_X2_reasonOfSmithy : GoodIn wsX2_reasonAgainst wsX2_reasonOfSmithy := goodIn_r _ [21, 22, 23, 24, 25, 26, 27, 28, 29, 30, 31, 32, 33, 34, 35, 36, 37, 38, 39, 40, 41, 42, 43, 44, 45, 46, 47] (by decide +kernel) (by decide +kernel)
set_option maxRecDepth 20000 in
theorem gX2_reasonAgainst_X2_reasonOfSmithy : GoodIn wsX2_reasonAgainst (wsV RX2 170 RX2 yX2_reasonOfSmithy wsX2_reasonOfSmithy) := goodIn_app (goodIn_of _ (by decide +kernel)) ggX2_reasonAgainst_X2_reasonOfSmithy
theorem dX2_reasonAgainst_0 : decode cX2_reasonAgainst 0 = .ok (.aload_n 1, 1) := by decide +kernel
theorem dX2_reasonAgainst_1 : decode cX2_reasonAgainst 1 = .ok (.getfield 112, 3) := by decide +kernel
theorem dX2_reasonAgainst_4 : decode cX2_reasonAgainst 4 = .ok (.aload_n 0, 1) := by decide +kernel
theorem dX2_reasonAgainst_5 : decode cX2_reasonAgainst 5 = .ok (.getfield 43, 3) := by decide +kernel
theorem dX2_reasonAgainst_8 : decode cX2_reasonAgainst 8 = .ok (.if_icmp .eq 5, 3) := by decide +kernel
theorem dX2_reasonAgainst_11 : decode cX2_reasonAgainst 11 = .ok (.iconst 1, 1) := by decide +kernel
theorem dX2_reasonAgainst_12 : decode cX2_reasonAgainst 12 = .ok (.ireturn, 1) := by decide +kernel
theorem dX2_reasonAgainst_13 : decode cX2_reasonAgainst 13 = .ok (.iload_n 2, 1) := by decide +kernel
theorem dX2_reasonAgainst_14 : decode cX2_reasonAgainst 14 = .ok (.invokestatic 93, 3) := by decide +kernel
theorem dX2_reasonAgainst_17 : decode cX2_reasonAgainst 17 = .ok (.aload_n 0, 1) := by decide +kernel
theorem dX2_reasonAgainst_18 : decode cX2_reasonAgainst 18 = .ok (.getfield 30, 3) := by decide +kernel
theorem dX2_reasonAgainst_21 : decode cX2_reasonAgainst 21 = .ok (.if_icmp .le 5, 3) := by decide +kernel
theorem dX2_reasonAgainst_24 : decode cX2_reasonAgainst 24 = .ok (.iconst 2, 1) := by decide +kernel
theorem dX2_reasonAgainst_25 : decode cX2_reasonAgainst 25 = .ok (.ireturn, 1) := by decide +kernel
theorem dX2_reasonAgainst_26 : decode cX2_reasonAgainst 26 = .ok (.aload_n 1, 1) := by decide +kernel
theorem dX2_reasonAgainst_27 : decode cX2_reasonAgainst 27 = .ok (.iload_n 2, 1) := by decide +kernel
theorem dX2_reasonAgainst_28 : decode cX2_reasonAgainst 28 = .ok (.invokevirtual 97, 3) := by decide +kernel
theorem dX2_reasonAgainst_31 : decode cX2_reasonAgainst 31 = .ok (.aload_n 0, 1) := by decide +kernel
theorem dX2_reasonAgainst_32 : decode cX2_reasonAgainst 32 = .ok (.getfield 46, 3) := by decide +kernel
theorem dX2_reasonAgainst_35 : decode cX2_reasonAgainst 35 = .ok (.if_icmp .le 5, 3) := by decide +kernel
theorem dX2_reasonAgainst_38 : decode cX2_reasonAgainst 38 = .ok (.iconst 3, 1) := by decide +kernel
theorem dX2_reasonAgainst_39 : decode cX2_reasonAgainst 39 = .ok (.ireturn, 1) := by decide +kernel
theorem dX2_reasonAgainst_40 : decode cX2_reasonAgainst 40 = .ok (.aload_n 0, 1) := by decide +kernel
theorem dX2_reasonAgainst_41 : decode cX2_reasonAgainst 41 = .ok (.aload_n 1, 1) := by decide +kernel
theorem dX2_reasonAgainst_42 : decode cX2_reasonAgainst 42 = .ok (.invokevirtual 170, 3) := by decide +kernel
theorem dX2_reasonAgainst_45 : decode cX2_reasonAgainst 45 = .ok (.ireturn, 1) := by decide +kernel
theorem dX2_reasonOfSmithy_0 : decode cX2_reasonOfSmithy 0 = .ok (.aload_n 1, 1) := by decide +kernel
theorem dX2_reasonOfSmithy_1 : decode cX2_reasonOfSmithy 1 = .ok (.getfield 100, 3) := by decide +kernel
theorem dX2_reasonOfSmithy_4 : decode cX2_reasonOfSmithy 4 = .ok (.aload_n 0, 1) := by decide +kernel
theorem dX2_reasonOfSmithy_5 : decode cX2_reasonOfSmithy 5 = .ok (.getfield 27, 3) := by decide +kernel
theorem dX2_reasonOfSmithy_8 : decode cX2_reasonOfSmithy 8 = .ok (.if_icmp .le 5, 3) := by decide +kernel
theorem dX2_reasonOfSmithy_11 : decode cX2_reasonOfSmithy 11 = .ok (.iconst 4, 1) := by decide +kernel
theorem dX2_reasonOfSmithy_12 : decode cX2_reasonOfSmithy 12 = .ok (.ireturn, 1) := by decide +kernel
theorem dX2_reasonOfSmithy_13 : decode cX2_reasonOfSmithy 13 = .ok (.aload_n 1, 1) := by decide +kernel
theorem dX2_reasonOfSmithy_14 : decode cX2_reasonOfSmithy 14 = .ok (.getfield 106, 3) := by decide +kernel
theorem dX2_reasonOfSmithy_17 : decode cX2_reasonOfSmithy 17 = .ok (.ifCond .ne 7, 3) := by decide +kernel
theorem dX2_reasonOfSmithy_20 : decode cX2_reasonOfSmithy 20 = .ok (.iconst 5, 1) := by decide +kernel
theorem dX2_reasonOfSmithy_21 : decode cX2_reasonOfSmithy 21 = .ok (.goto 4, 3) := by decide +kernel
theorem dX2_reasonOfSmithy_24 : decode cX2_reasonOfSmithy 24 = .ok (.iconst 0, 1) := by decide +kernel
theorem dX2_reasonOfSmithy_25 : decode cX2_reasonOfSmithy 25 = .ok (.ireturn, 1) := by decide +kernel
set_option maxRecDepth 20000 in
theorem ggX3_init_X2_init : GoodIn wsX3_init wsX2_init := goodIn_r _ [16, 17, 2, 3, 18, 19, 20, 21, 22, 23, 24, 25, 26, 27, 28, 29, 30, 36, 37, 38, 39, 40, 41, 42, 43, 44, 45, 46, 47, 48, 49, 50, 66, 67, 68, 69, 70, 71, 72, 73] (by decide +kernel) (by decide +kernel)
set_option maxRecDepth 20000 in
theorem gX3_init_X2_init : GoodIn wsX3_init (wsX2_init) := ggX3_init_X2_init
set_option maxRecDepth 20000 in
theorem ggX3_init_X0_init : GoodIn wsX3_init wsX0_init := goodIn_r _ [32, 33, 2, 3, 34, 35, 60, 61, 62, 63, 64, 65] (by decide +kernel) (by decide +kernel)
set_option maxRecDepth 20000 in
theorem gX3_init_X0_init_n25 : GoodIn wsX3_init (wsX0_init) := ggX3_init_X0_init
theorem dX3_init_0 : decode cX3_init 0 = .ok (.aload_n 0, 1) := by decide +kernel
theorem dX3_init_1 : decode cX3_init 1 = .ok (.invokespecial 3, 3) := by decide +kernel
theorem dX3_init_4 : decode cX3_init 4 = .ok (.aload_n 0, 1) := by decide +kernel
theorem dX3_init_5 : decode cX3_init 5 = .ok (.new 9, 3) := by decide +kernel
theorem dX3_init_8 : decode cX3_init 8 = .ok (.dup, 1) := by decide +kernel
theorem dX3_init_9 : decode cX3_init 9 = .ok (.invokespecial 11, 3) := by decide +kernel
theorem dX3_init_12 : decode cX3_init 12 = .ok (.putfield 12, 3) := by decide +kernel
theorem dX3_init_15 : decode cX3_init 15 = .ok (.aload_n 0, 1) := by decide +kernel
theorem dX3_init_16 : decode cX3_init 16 = .ok (.new 9, 3) := by decide +kernel
theorem dX3_init_19 : decode cX3_init 19 = .ok (.dup, 1) := by decide +kernel
theorem dX3_init_20 : decode cX3_init 20 = .ok (.invokespecial 11, 3) := by decide +kernel
theorem dX3_init_23 : decode cX3_init 23 = .ok (.putfield 16, 3) := by decide +kernel
theorem dX3_init_26 : decode cX3_init 26 = .ok (.aload_n 0, 1) := by decide +kernel
theorem dX3_init_27 : decode cX3_init 27 = .ok (.iconst 4, 1) := by decide +kernel
theorem dX3_init_28 : decode cX3_init 28 = .ok (.anewarray 9, 3) := by decide +kernel
theorem dX3_init_31 : decode cX3_init 31 = .ok (.putfield 19, 3) := by decide +kernel
theorem dX3_init_34 : decode cX3_init 34 = .ok (.aload_n 0, 1) := by decide +kernel
theorem dX3_init_35 : decode cX3_init 35 = .ok (.new 23, 3) := by decide +kernel
theorem dX3_init_38 : decode cX3_init 38 = .ok (.dup, 1) := by decide +kernel
theorem dX3_init_39 : decode cX3_init 39 = .ok (.invokespecial 25, 3) := by decide +kernel
theorem dX3_init_42 : decode cX3_init 42 = .ok (.putfield 26, 3) := by decide +kernel
theorem dX3_init_45 : decode cX3_init 45 = .ok (.iconst 0, 1) := by decide +kernel
theorem dX3_init_46 : decode cX3_init 46 = .ok (.istore_n 1, 1) := by decide +kernel
theorem dX3_init_47 : decode cX3_init 47 = .ok (.iload_n 1, 1) := by decide +kernel
theorem dX3_init_48 : decode cX3_init 48 = .ok (.aload_n 0, 1) := by decide +kernel
theorem dX3_init_49 : decode cX3_init 49 = .ok (.getfield 19, 3) := by decide +kernel
theorem dX3_init_52 : decode cX3_init 52 = .ok (.arraylength, 1) := by decide +kernel
theorem dX3_init_53 : decode cX3_init 53 = .ok (.if_icmp .ge 22, 3) := by decide +kernel
theorem dX3_init_56 : decode cX3_init 56 = .ok (.aload_n 0, 1) := by decide +kernel
theorem dX3_init_57 : decode cX3_init 57 = .ok (.getfield 19, 3) := by decide +kernel
theorem dX3_init_60 : decode cX3_init 60 = .ok (.iload_n 1, 1) := by decide +kernel
theorem dX3_init_61 : decode cX3_init 61 = .ok (.new 9, 3) := by decide +kernel
theorem dX3_init_64 : decode cX3_init 64 = .ok (.dup, 1) := by decide +kernel
theorem dX3_init_65 : decode cX3_init 65 = .ok (.invokespecial 11, 3) := by decide +kernel
theorem dX3_init_68 : decode cX3_init 68 = .ok (.aastore, 1) := by decide +kernel
theorem dX3_init_69 : decode cX3_init 69 = .ok (.iinc 1 1, 3) := by decide +kernel
theorem dX3_init_72 : decode cX3_init 72 = .ok (.goto (-25), 3) := by decide +kernel
theorem dX3_init_75 : decode cX3_init 75 = .ok (.return_, 1) := by decide +kernel
set_option maxRecDepth 20000 in
theorem ggX3_smithy_X2_copyFrom : GoodIn wsX3_smithy wsX2_copyFrom := goodIn_r _ [7, 8, 9, 10, 11, 12, 13, 14, 15, 16, 17, 18, 19, 20, 21, 22, 23, 24, 6, 25, 26, 27, 28, 29, 30, 31, 32, 33, 34, 35, 36, 37, 38, 39, 74, 75, 76, 77, 78, 79, 80, 81, 82, 83, 84, 85, 86, 87, 88, 89, 90, 91, 92, 93, 94, 95, 96] (by decide +kernel) (by decide +kernel)
set_option maxRecDepth 20000 in
theorem gX3_smithy_X2_copyFrom : GoodIn wsX3_smithy (wsV RX3 30 RX2 yX2_copyFrom wsX2_copyFrom) := goodIn_app (goodIn_of _ (by decide +kernel)) ggX3_smithy_X2_copyFrom
set_option maxRecDepth 20000 in
theorem ggX3_smithy_X2_addSmithy : GoodIn wsX3_smithy wsX2_addSmithy := goodIn_r _ [43, 44, 8, 45, 22, 23, 24, 6, 25, 26, 46, 47, 48, 30, 49, 32, 33, 34, 35, 36, 37, 38, 39, 74, 75, 76, 77, 78, 79, 80, 81, 82, 83, 84, 85, 86, 87, 88, 89, 90, 91, 92, 93, 94, 95, 96] (by decide +kernel) (by decide +kernel)
set_option maxRecDepth 20000 in
theorem gX3_smithy_X2_addSmithy : GoodIn wsX3_smithy (wsV RX3 34 RX2 yX2_addSmithy wsX2_addSmithy) := goodIn_app (goodIn_of _ (by decide +kernel)) ggX3_smithy_X2_addSmithy
set_option maxRecDepth 20000 in
theorem ggX3_smithy_X3_commit : GoodIn wsX3_smithy wsX3_commit := goodIn_r _ [54, 2, 1, 55, 56, 57, 53, 58, 59, 60, 61, 62, 63, 64, 3, 4, 5, 6, 7, 8, 9, 10, 11, 12, 13, 14, 15, 16, 17, 18, 19, 20, 21, 22, 23, 24, 25, 26, 27, 28, 29, 30, 31, 32, 33, 34, 35, 36, 37, 38, 39, 65, 66, 67, 68, 69, 70, 71, 72, 73, 74, 75, 76, 77, 78, 79, 80, 81, 82, 83, 84, 85, 86, 87, 88, 89, 90, 91, 92, 93, 94, 95, 96] (by decide +kernel) (by decide +kernel)
set_option maxRecDepth 20000 in
theorem gX3_smithy_X3_commit : GoodIn wsX3_smithy (wsV RX3 38 RX3 yX3_commit wsX3_commit) := goodIn_app (goodIn_of _ (by decide +kernel)) ggX3_smithy_X3_commit
theorem dX3_smithy_0 : decode cX3_smithy 0 = .ok (.aload_n 0, 1) := by decide +kernel
theorem dX3_smithy_1 : decode cX3_smithy 1 = .ok (.getfield 16, 3) := by decide +kernel
theorem dX3_smithy_4 : decode cX3_smithy 4 = .ok (.aload_n 0, 1) := by decide +kernel
theorem dX3_smithy_5 : decode cX3_smithy 5 = .ok (.getfield 12, 3) := by decide +kernel
theorem dX3_smithy_8 : decode cX3_smithy 8 = .ok (.invokevirtual 30, 3) := by decide +kernel
theorem dX3_smithy_11 : decode cX3_smithy 11 = .ok (.aload_n 0, 1) := by decide +kernel
theorem dX3_smithy_12 : decode cX3_smithy 12 = .ok (.aload_n 0, 1) := by decide +kernel
theorem dX3_smithy_13 : decode cX3_smithy 13 = .ok (.getfield 16, 3) := by decide +kernel
theorem dX3_smithy_16 : decode cX3_smithy 16 = .ok (.iload_n 1, 1) := by decide +kernel
theorem dX3_smithy_17 : decode cX3_smithy 17 = .ok (.iload_n 2, 1) := by decide +kernel
theorem dX3_smithy_18 : decode cX3_smithy 18 = .ok (.invokevirtual 34, 3) := by decide +kernel
theorem dX3_smithy_21 : decode cX3_smithy 21 = .ok (.invokevirtual 38, 3) := by decide +kernel
theorem dX3_smithy_24 : decode cX3_smithy 24 = .ok (.ireturn, 1) := by decide +kernel
set_option maxRecDepth 20000 in
theorem ggX3_walk_X2_copyFrom : GoodIn wsX3_walk wsX2_copyFrom := goodIn_r _ [7, 8, 9, 10, 11, 12, 13, 14, 15, 16, 17, 18, 19, 20, 21, 22, 23, 24, 6, 25, 26, 27, 28, 29, 30, 31, 32, 33, 34, 35, 36, 37, 38, 39, 80, 81, 82, 83, 84, 85, 86, 87, 88, 89, 90, 91, 92, 93, 94, 95, 96, 97, 98, 99, 100, 101, 102] (by decide +kernel) (by decide +kernel)
set_option maxRecDepth 20000 in
theorem gX3_walk_X2_copyFrom : GoodIn wsX3_walk (wsV RX3 30 RX2 yX2_copyFrom wsX2_copyFrom) := goodIn_app (goodIn_of _ (by decide +kernel)) ggX3_walk_X2_copyFrom
set_option maxRecDepth 20000 in
theorem ggX3_walk_X2_walkTo : GoodIn wsX3_walk wsX2_walkTo := goodIn_r _ [43, 44, 14, 15, 45, 21, 46, 47, 48, 49, 50, 51, 52, 53, 54, 55, 56, 80, 81, 82, 83, 84, 85, 86, 87, 88, 89, 90, 91, 92, 93, 94] (by decide +kernel) (by decide +kernel)
set_option maxRecDepth 20000 in
theorem gX3_walk_X2_walkTo : GoodIn wsX3_walk (wsV RX3 42 RX2 yX2_walkTo wsX2_walkTo) := goodIn_app (goodIn_of _ (by decide +kernel)) ggX3_walk_X2_walkTo
set_option maxRecDepth 20000 in
theorem ggX3_walk_X3_commit : GoodIn wsX3_walk wsX3_commit := goodIn_r _ [60, 2, 1, 61, 62, 63, 51, 64, 65, 66, 67, 68, 69, 70, 3, 4, 5, 6, 7, 8, 9, 10, 11, 12, 13, 14, 15, 16, 17, 18, 19, 20, 21, 22, 23, 24, 25, 26, 27, 28, 29, 30, 31, 32, 33, 34, 35, 36, 37, 38, 39, 71, 72, 73, 74, 75, 76, 77, 78, 79, 80, 81, 82, 83, 84, 85, 86, 87, 88, 89, 90, 91, 92, 93, 94, 95, 96, 97, 98, 99, 100, 101, 102] (by decide +kernel) (by decide +kernel)
set_option maxRecDepth 20000 in
theorem gX3_walk_X3_commit : GoodIn wsX3_walk (wsV RX3 38 RX3 yX3_commit wsX3_commit) := goodIn_app (goodIn_of _ (by decide +kernel)) ggX3_walk_X3_commit
theorem dX3_walk_0 : decode cX3_walk 0 = .ok (.aload_n 0, 1) := by decide +kernel
theorem dX3_walk_1 : decode cX3_walk 1 = .ok (.getfield 16, 3) := by decide +kernel
theorem dX3_walk_4 : decode cX3_walk 4 = .ok (.aload_n 0, 1) := by decide +kernel
theorem dX3_walk_5 : decode cX3_walk 5 = .ok (.getfield 12, 3) := by decide +kernel
theorem dX3_walk_8 : decode cX3_walk 8 = .ok (.invokevirtual 30, 3) := by decide +kernel
theorem dX3_walk_11 : decode cX3_walk 11 = .ok (.aload_n 0, 1) := by decide +kernel
theorem dX3_walk_12 : decode cX3_walk 12 = .ok (.aload_n 0, 1) := by decide +kernel
theorem dX3_walk_13 : decode cX3_walk 13 = .ok (.getfield 16, 3) := by decide +kernel
theorem dX3_walk_16 : decode cX3_walk 16 = .ok (.iload_n 1, 1) := by decide +kernel
theorem dX3_walk_17 : decode cX3_walk 17 = .ok (.invokevirtual 42, 3) := by decide +kernel
theorem dX3_walk_20 : decode cX3_walk 20 = .ok (.invokevirtual 38, 3) := by decide +kernel
theorem dX3_walk_23 : decode cX3_walk 23 = .ok (.ireturn, 1) := by decide +kernel
set_option maxRecDepth 20000 in
theorem ggX3_buy_X2_copyFrom : GoodIn wsX3_buy wsX2_copyFrom := goodIn_r _ [7, 8, 9, 10, 11, 12, 13, 14, 15, 16, 17, 18, 19, 20, 21, 22, 23, 24, 6, 25, 26, 27, 28, 29, 30, 31, 32, 33, 34, 35, 36, 37, 38, 39, 71, 72, 73, 74, 75, 76, 77, 78, 79, 80, 81, 82, 83, 84, 85, 86, 87, 88, 89, 90, 91, 92, 93] (by decide +kernel) (by decide +kernel)
set_option maxRecDepth 20000 in
theorem gX3_buy_X2_copyFrom : GoodIn wsX3_buy (wsV RX3 30 RX2 yX2_copyFrom wsX2_copyFrom) := goodIn_app (goodIn_of _ (by decide +kernel)) ggX3_buy_X2_copyFrom
set_option maxRecDepth 20000 in
theorem ggX3_buy_X2_buyLeather : GoodIn wsX3_buy wsX2_buyLeather := goodIn_r _ [43, 44, 14, 45, 16, 46, 17, 18, 71, 72, 73, 74, 75, 76, 77, 78, 79, 80, 81, 82, 83, 84, 85] (by decide +kernel) (by decide +kernel)
set_option maxRecDepth 20000 in
theorem gX3_buy_X2_buyLeather : GoodIn wsX3_buy (wsV RX3 45 RX2 yX2_buyLeather wsX2_buyLeather) := goodIn_app (goodIn_of _ (by decide +kernel)) ggX3_buy_X2_buyLeather
set_option maxRecDepth 20000 in
theorem ggX3_buy_X3_commit : GoodIn wsX3_buy wsX3_commit := goodIn_r _ [51, 2, 1, 52, 53, 54, 50, 55, 56, 57, 58, 59, 60, 61, 3, 4, 5, 6, 7, 8, 9, 10, 11, 12, 13, 14, 15, 16, 17, 18, 19, 20, 21, 22, 23, 24, 25, 26, 27, 28, 29, 30, 31, 32, 33, 34, 35, 36, 37, 38, 39, 62, 63, 64, 65, 66, 67, 68, 69, 70, 71, 72, 73, 74, 75, 76, 77, 78, 79, 80, 81, 82, 83, 84, 85, 86, 87, 88, 89, 90, 91, 92, 93] (by decide +kernel) (by decide +kernel)
set_option maxRecDepth 20000 in
theorem gX3_buy_X3_commit : GoodIn wsX3_buy (wsV RX3 38 RX3 yX3_commit wsX3_commit) := goodIn_app (goodIn_of _ (by decide +kernel)) ggX3_buy_X3_commit
theorem dX3_buy_0 : decode cX3_buy 0 = .ok (.aload_n 0, 1) := by decide +kernel
theorem dX3_buy_1 : decode cX3_buy 1 = .ok (.getfield 16, 3) := by decide +kernel
theorem dX3_buy_4 : decode cX3_buy 4 = .ok (.aload_n 0, 1) := by decide +kernel
theorem dX3_buy_5 : decode cX3_buy 5 = .ok (.getfield 12, 3) := by decide +kernel
theorem dX3_buy_8 : decode cX3_buy 8 = .ok (.invokevirtual 30, 3) := by decide +kernel
theorem dX3_buy_11 : decode cX3_buy 11 = .ok (.aload_n 0, 1) := by decide +kernel
theorem dX3_buy_12 : decode cX3_buy 12 = .ok (.aload_n 0, 1) := by decide +kernel
theorem dX3_buy_13 : decode cX3_buy 13 = .ok (.getfield 16, 3) := by decide +kernel
theorem dX3_buy_16 : decode cX3_buy 16 = .ok (.iload_n 1, 1) := by decide +kernel
theorem dX3_buy_17 : decode cX3_buy 17 = .ok (.invokevirtual 45, 3) := by decide +kernel
theorem dX3_buy_20 : decode cX3_buy 20 = .ok (.invokevirtual 38, 3) := by decide +kernel
theorem dX3_buy_23 : decode cX3_buy 23 = .ok (.ireturn, 1) := by decide +kernel
set_option maxRecDepth 20000 in
theorem ggX3_patch_X2_copyFrom : GoodIn wsX3_patch wsX2_copyFrom := goodIn_r _ [7, 8, 9, 10, 11, 12, 13, 14, 15, 16, 17, 18, 19, 20, 21, 22, 23, 24, 6, 25, 26, 27, 28, 29, 30, 31, 32, 33, 34, 35, 36, 37, 38, 39, 98, 99, 100, 101, 102, 103, 104, 105, 106, 107, 108, 109, 110, 111, 112, 113, 114, 115, 116, 117, 118, 119, 120] (by decide +kernel) (by decide +kernel)
set_option maxRecDepth 20000 in
theorem gX3_patch_X2_copyFrom : GoodIn wsX3_patch (wsV RX3 30 RX2 yX2_copyFrom wsX2_copyFrom) := goodIn_app (goodIn_of _ (by decide +kernel)) ggX3_patch_X2_copyFrom
set_option maxRecDepth 20000 in
theorem ggX3_patch_X2_mendBellows : GoodIn wsX3_patch wsX2_mendBellows := goodIn_r _ [43, 44, 45, 15, 16, 19, 46, 47, 48, 22, 23, 24, 6, 25, 8, 26, 49, 50, 51, 52, 53, 14, 54, 55, 56, 57, 58, 59, 30, 60, 33, 34, 61, 62, 63, 64, 65, 66, 12, 67, 68, 69, 70, 11, 71, 72, 73, 74, 98, 99, 100, 101, 102, 103, 104, 105, 106, 107, 108, 109, 110, 111, 112, 113, 114, 115, 116, 117, 118, 119, 120] (by decide +kernel) (by decide +kernel)
set_option maxRecDepth 20000 in
theorem gX3_patch_X2_mendBellows : GoodIn wsX3_patch (wsV RX3 48 RX2 yX2_mendBellows wsX2_mendBellows) := goodIn_app (goodIn_of _ (by decide +kernel)) ggX3_patch_X2_mendBellows
set_option maxRecDepth 20000 in
theorem ggX3_patch_X3_commit : GoodIn wsX3_patch wsX3_commit := goodIn_r _ [78, 2, 1, 79, 80, 81, 55, 82, 83, 84, 85, 86, 87, 88, 3, 4, 5, 6, 7, 8, 9, 10, 11, 12, 13, 14, 15, 16, 17, 18, 19, 20, 21, 22, 23, 24, 25, 26, 27, 28, 29, 30, 31, 32, 33, 34, 35, 36, 37, 38, 39, 89, 90, 91, 92, 93, 94, 95, 96, 97, 98, 99, 100, 101, 102, 103, 104, 105, 106, 107, 108, 109, 110, 111, 112, 113, 114, 115, 116, 117, 118, 119, 120] (by decide +kernel) (by decide +kernel)
set_option maxRecDepth 20000 in
theorem gX3_patch_X3_commit : GoodIn wsX3_patch (wsV RX3 38 RX3 yX3_commit wsX3_commit) := goodIn_app (goodIn_of _ (by decide +kernel)) ggX3_patch_X3_commit
theorem dX3_patch_0 : decode cX3_patch 0 = .ok (.aload_n 0, 1) := by decide +kernel
theorem dX3_patch_1 : decode cX3_patch 1 = .ok (.getfield 16, 3) := by decide +kernel
theorem dX3_patch_4 : decode cX3_patch 4 = .ok (.aload_n 0, 1) := by decide +kernel
theorem dX3_patch_5 : decode cX3_patch 5 = .ok (.getfield 12, 3) := by decide +kernel
theorem dX3_patch_8 : decode cX3_patch 8 = .ok (.invokevirtual 30, 3) := by decide +kernel
theorem dX3_patch_11 : decode cX3_patch 11 = .ok (.aload_n 0, 1) := by decide +kernel
theorem dX3_patch_12 : decode cX3_patch 12 = .ok (.aload_n 0, 1) := by decide +kernel
theorem dX3_patch_13 : decode cX3_patch 13 = .ok (.getfield 16, 3) := by decide +kernel
theorem dX3_patch_16 : decode cX3_patch 16 = .ok (.iload_n 1, 1) := by decide +kernel
theorem dX3_patch_17 : decode cX3_patch 17 = .ok (.iconst 0, 1) := by decide +kernel
theorem dX3_patch_18 : decode cX3_patch 18 = .ok (.invokevirtual 48, 3) := by decide +kernel
theorem dX3_patch_21 : decode cX3_patch 21 = .ok (.invokevirtual 38, 3) := by decide +kernel
theorem dX3_patch_24 : decode cX3_patch 24 = .ok (.ireturn, 1) := by decide +kernel
set_option maxRecDepth 20000 in
theorem ggX3_hide_X2_copyFrom : GoodIn wsX3_hide wsX2_copyFrom := goodIn_r _ [7, 8, 9, 10, 11, 12, 13, 14, 15, 16, 17, 18, 19, 20, 21, 22, 23, 24, 6, 25, 26, 27, 28, 29, 30, 31, 32, 33, 34, 35, 36, 37, 38, 39, 98, 99, 100, 101, 102, 103, 104, 105, 106, 107, 108, 109, 110, 111, 112, 113, 114, 115, 116, 117, 118, 119, 120] (by decide +kernel) (by decide +kernel)
set_option maxRecDepth 20000 in
theorem gX3_hide_X2_copyFrom : GoodIn wsX3_hide (wsV RX3 30 RX2 yX2_copyFrom wsX2_copyFrom) := goodIn_app (goodIn_of _ (by decide +kernel)) ggX3_hide_X2_copyFrom
set_option maxRecDepth 20000 in
theorem ggX3_hide_X2_mendBellows : GoodIn wsX3_hide wsX2_mendBellows := goodIn_r _ [43, 44, 45, 15, 16, 19, 46, 47, 48, 22, 23, 24, 6, 25, 8, 26, 49, 50, 51, 52, 53, 14, 54, 55, 56, 57, 58, 59, 30, 60, 33, 34, 61, 62, 63, 64, 65, 66, 12, 67, 68, 69, 70, 11, 71, 72, 73, 74, 98, 99, 100, 101, 102, 103, 104, 105, 106, 107, 108, 109, 110, 111, 112, 113, 114, 115, 116, 117, 118, 119, 120] (by decide +kernel) (by decide +kernel)
set_option maxRecDepth 20000 in
theorem gX3_hide_X2_mendBellows : GoodIn wsX3_hide (wsV RX3 48 RX2 yX2_mendBellows wsX2_mendBellows) := goodIn_app (goodIn_of _ (by decide +kernel)) ggX3_hide_X2_mendBellows
set_option maxRecDepth 20000 in
theorem ggX3_hide_X3_commit : GoodIn wsX3_hide wsX3_commit := goodIn_r _ [78, 2, 1, 79, 80, 81, 55, 82, 83, 84, 85, 86, 87, 88, 3, 4, 5, 6, 7, 8, 9, 10, 11, 12, 13, 14, 15, 16, 17, 18, 19, 20, 21, 22, 23, 24, 25, 26, 27, 28, 29, 30, 31, 32, 33, 34, 35, 36, 37, 38, 39, 89, 90, 91, 92, 93, 94, 95, 96, 97, 98, 99, 100, 101, 102, 103, 104, 105, 106, 107, 108, 109, 110, 111, 112, 113, 114, 115, 116, 117, 118, 119, 120] (by decide +kernel) (by decide +kernel)
set_option maxRecDepth 20000 in
theorem gX3_hide_X3_commit : GoodIn wsX3_hide (wsV RX3 38 RX3 yX3_commit wsX3_commit) := goodIn_app (goodIn_of _ (by decide +kernel)) ggX3_hide_X3_commit
theorem dX3_hide_0 : decode cX3_hide 0 = .ok (.aload_n 0, 1) := by decide +kernel
theorem dX3_hide_1 : decode cX3_hide 1 = .ok (.getfield 16, 3) := by decide +kernel
theorem dX3_hide_4 : decode cX3_hide 4 = .ok (.aload_n 0, 1) := by decide +kernel
theorem dX3_hide_5 : decode cX3_hide 5 = .ok (.getfield 12, 3) := by decide +kernel
theorem dX3_hide_8 : decode cX3_hide 8 = .ok (.invokevirtual 30, 3) := by decide +kernel
theorem dX3_hide_11 : decode cX3_hide 11 = .ok (.aload_n 0, 1) := by decide +kernel
theorem dX3_hide_12 : decode cX3_hide 12 = .ok (.aload_n 0, 1) := by decide +kernel
theorem dX3_hide_13 : decode cX3_hide 13 = .ok (.getfield 16, 3) := by decide +kernel
theorem dX3_hide_16 : decode cX3_hide 16 = .ok (.iload_n 1, 1) := by decide +kernel
theorem dX3_hide_17 : decode cX3_hide 17 = .ok (.iconst 1, 1) := by decide +kernel
theorem dX3_hide_18 : decode cX3_hide 18 = .ok (.invokevirtual 48, 3) := by decide +kernel
theorem dX3_hide_21 : decode cX3_hide 21 = .ok (.invokevirtual 38, 3) := by decide +kernel
theorem dX3_hide_24 : decode cX3_hide 24 = .ok (.ireturn, 1) := by decide +kernel
set_option maxRecDepth 20000 in
theorem ggX3_collect_X2_copyFrom : GoodIn wsX3_collect wsX2_copyFrom := goodIn_r _ [7, 8, 9, 10, 11, 12, 13, 14, 15, 16, 17, 18, 19, 20, 21, 22, 23, 24, 6, 25, 26, 27, 28, 29, 30, 31, 32, 33, 34, 35, 36, 37, 38, 39, 78, 79, 80, 81, 82, 83, 84, 85, 86, 87, 88, 89, 90, 91, 92, 93, 94, 95, 96, 97, 98, 99, 100] (by decide +kernel) (by decide +kernel)
set_option maxRecDepth 20000 in
theorem gX3_collect_X2_copyFrom : GoodIn wsX3_collect (wsV RX3 30 RX2 yX2_copyFrom wsX2_copyFrom) := goodIn_app (goodIn_of _ (by decide +kernel)) ggX3_collect_X2_copyFrom
set_option maxRecDepth 20000 in
theorem ggX3_collect_X2_collectDebt : GoodIn wsX3_collect wsX2_collectDebt := goodIn_r _ [43, 44, 45, 14, 46, 47, 48, 49, 17, 22, 23, 24, 6, 25, 8, 26, 50, 51, 52, 53, 9, 93, 94, 95, 96, 97, 98, 99, 100, 78, 79, 80, 81, 82, 83, 84, 85, 86, 87, 88, 89, 90, 91, 92] (by decide +kernel) (by decide +kernel)
set_option maxRecDepth 20000 in
theorem gX3_collect_X2_collectDebt : GoodIn wsX3_collect (wsV RX3 52 RX2 yX2_collectDebt wsX2_collectDebt) := goodIn_app (goodIn_of _ (by decide +kernel)) ggX3_collect_X2_collectDebt
set_option maxRecDepth 20000 in
theorem ggX3_collect_X3_commit : GoodIn wsX3_collect wsX3_commit := goodIn_r _ [58, 2, 1, 59, 60, 61, 57, 62, 63, 64, 65, 66, 67, 68, 3, 4, 5, 6, 7, 8, 9, 10, 11, 12, 13, 14, 15, 16, 17, 18, 19, 20, 21, 22, 23, 24, 25, 26, 27, 28, 29, 30, 31, 32, 33, 34, 35, 36, 37, 38, 39, 69, 70, 71, 72, 73, 74, 75, 76, 77, 78, 79, 80, 81, 82, 83, 84, 85, 86, 87, 88, 89, 90, 91, 92, 93, 94, 95, 96, 97, 98, 99, 100] (by decide +kernel) (by decide +kernel)
set_option maxRecDepth 20000 in
theorem gX3_collect_X3_commit : GoodIn wsX3_collect (wsV RX3 38 RX3 yX3_commit wsX3_commit) := goodIn_app (goodIn_of _ (by decide +kernel)) ggX3_collect_X3_commit
theorem dX3_collect_0 : decode cX3_collect 0 = .ok (.aload_n 0, 1) := by decide +kernel
theorem dX3_collect_1 : decode cX3_collect 1 = .ok (.getfield 16, 3) := by decide +kernel
theorem dX3_collect_4 : decode cX3_collect 4 = .ok (.aload_n 0, 1) := by decide +kernel
theorem dX3_collect_5 : decode cX3_collect 5 = .ok (.getfield 12, 3) := by decide +kernel
theorem dX3_collect_8 : decode cX3_collect 8 = .ok (.invokevirtual 30, 3) := by decide +kernel
theorem dX3_collect_11 : decode cX3_collect 11 = .ok (.aload_n 0, 1) := by decide +kernel
theorem dX3_collect_12 : decode cX3_collect 12 = .ok (.aload_n 0, 1) := by decide +kernel
theorem dX3_collect_13 : decode cX3_collect 13 = .ok (.getfield 16, 3) := by decide +kernel
theorem dX3_collect_16 : decode cX3_collect 16 = .ok (.iload_n 1, 1) := by decide +kernel
theorem dX3_collect_17 : decode cX3_collect 17 = .ok (.invokevirtual 52, 3) := by decide +kernel
theorem dX3_collect_20 : decode cX3_collect 20 = .ok (.invokevirtual 38, 3) := by decide +kernel
theorem dX3_collect_23 : decode cX3_collect 23 = .ok (.ireturn, 1) := by decide +kernel
set_option maxRecDepth 20000 in
theorem ggX3_end_X2_copyFrom : GoodIn wsX3_end wsX2_copyFrom := goodIn_r _ [7, 8, 9, 10, 11, 12, 13, 14, 15, 16, 17, 18, 19, 20, 21, 22, 23, 24, 6, 25, 26, 27, 28, 29, 30, 31, 32, 33, 34, 35, 36, 37, 38, 39, 108, 109, 110, 111, 112, 113, 114, 115, 116, 117, 118, 119, 120, 121, 122, 123, 124, 125, 126, 127, 128, 129, 130] (by decide +kernel) (by decide +kernel)
set_option maxRecDepth 20000 in
theorem gX3_end_X2_copyFrom : GoodIn wsX3_end (wsV RX3 30 RX2 yX2_copyFrom wsX2_copyFrom) := goodIn_app (goodIn_of _ (by decide +kernel)) ggX3_end_X2_copyFrom
set_option maxRecDepth 20000 in
theorem ggX3_end_X2_endDays : GoodIn wsX3_end wsX2_endDays := goodIn_r _ [43, 44, 13, 45, 8, 10, 15, 22, 23, 24, 6, 25, 26, 46, 47, 48, 49, 50, 51, 52, 53, 20, 54, 55, 56, 57, 58, 59, 60, 61, 62, 63, 64, 65, 66, 67, 68, 69, 70, 71, 72, 73, 9, 74, 75, 76, 77, 78, 79, 80, 81, 82, 83, 84, 108, 109, 110, 111, 112, 113, 114, 115, 116, 117, 118, 119, 120, 121, 122, 123, 124, 125, 126, 127, 128, 129, 130] (by decide +kernel) (by decide +kernel)
set_option maxRecDepth 20000 in
theorem gX3_end_X2_endDays : GoodIn wsX3_end (wsV RX3 55 RX2 yX2_endDays wsX2_endDays) := goodIn_app (goodIn_of _ (by decide +kernel)) ggX3_end_X2_endDays
set_option maxRecDepth 20000 in
theorem ggX3_end_X3_commit : GoodIn wsX3_end wsX3_commit := goodIn_r _ [88, 2, 1, 89, 90, 91, 59, 92, 93, 94, 95, 96, 97, 98, 3, 4, 5, 6, 7, 8, 9, 10, 11, 12, 13, 14, 15, 16, 17, 18, 19, 20, 21, 22, 23, 24, 25, 26, 27, 28, 29, 30, 31, 32, 33, 34, 35, 36, 37, 38, 39, 99, 100, 101, 102, 103, 104, 105, 106, 107, 108, 109, 110, 111, 112, 113, 114, 115, 116, 117, 118, 119, 120, 121, 122, 123, 124, 125, 126, 127, 128, 129, 130] (by decide +kernel) (by decide +kernel)
set_option maxRecDepth 20000 in
theorem gX3_end_X3_commit : GoodIn wsX3_end (wsV RX3 38 RX3 yX3_commit wsX3_commit) := goodIn_app (goodIn_of _ (by decide +kernel)) ggX3_end_X3_commit
theorem dX3_end_0 : decode cX3_end 0 = .ok (.aload_n 0, 1) := by decide +kernel
theorem dX3_end_1 : decode cX3_end 1 = .ok (.getfield 16, 3) := by decide +kernel
theorem dX3_end_4 : decode cX3_end 4 = .ok (.aload_n 0, 1) := by decide +kernel
theorem dX3_end_5 : decode cX3_end 5 = .ok (.getfield 12, 3) := by decide +kernel
theorem dX3_end_8 : decode cX3_end 8 = .ok (.invokevirtual 30, 3) := by decide +kernel
theorem dX3_end_11 : decode cX3_end 11 = .ok (.aload_n 0, 1) := by decide +kernel
theorem dX3_end_12 : decode cX3_end 12 = .ok (.aload_n 0, 1) := by decide +kernel
theorem dX3_end_13 : decode cX3_end 13 = .ok (.getfield 16, 3) := by decide +kernel
theorem dX3_end_16 : decode cX3_end 16 = .ok (.iload_n 1, 1) := by decide +kernel
theorem dX3_end_17 : decode cX3_end 17 = .ok (.invokevirtual 55, 3) := by decide +kernel
theorem dX3_end_20 : decode cX3_end 20 = .ok (.invokevirtual 38, 3) := by decide +kernel
theorem dX3_end_23 : decode cX3_end 23 = .ok (.ireturn, 1) := by decide +kernel
set_option maxRecDepth 20000 in
theorem ggX3_set_X2_copyFrom : GoodIn wsX3_set wsX2_copyFrom := goodIn_r _ [7, 8, 9, 10, 11, 12, 13, 14, 15, 16, 17, 18, 19, 20, 21, 22, 23, 24, 6, 25, 26, 27, 28, 29, 30, 31, 32, 33, 34, 35, 36, 37, 38, 39, 72, 73, 74, 75, 76, 77, 78, 79, 80, 81, 82, 83, 84, 85, 86, 87, 88, 89, 90, 91, 92, 93, 94] (by decide +kernel) (by decide +kernel)
set_option maxRecDepth 20000 in
theorem gX3_set_X2_copyFrom : GoodIn wsX3_set (wsV RX3 30 RX2 yX2_copyFrom wsX2_copyFrom) := goodIn_app (goodIn_of _ (by decide +kernel)) ggX3_set_X2_copyFrom
set_option maxRecDepth 20000 in
theorem ggX3_set_X2_changeSetting : GoodIn wsX3_set wsX2_changeSetting := goodIn_r _ [43, 44, 9, 10, 11, 12, 45, 46, 6, 47, 72, 73, 74, 75, 76, 77, 78, 79, 80, 81, 82, 83, 84, 85, 86] (by decide +kernel) (by decide +kernel)
set_option maxRecDepth 20000 in
theorem gX3_set_X2_changeSetting : GoodIn wsX3_set (wsV RX3 58 RX2 yX2_changeSetting wsX2_changeSetting) := goodIn_app (goodIn_of _ (by decide +kernel)) ggX3_set_X2_changeSetting
set_option maxRecDepth 20000 in
theorem ggX3_set_X3_commit : GoodIn wsX3_set wsX3_commit := goodIn_r _ [52, 2, 1, 53, 54, 55, 51, 56, 57, 58, 59, 60, 61, 62, 3, 4, 5, 6, 7, 8, 9, 10, 11, 12, 13, 14, 15, 16, 17, 18, 19, 20, 21, 22, 23, 24, 25, 26, 27, 28, 29, 30, 31, 32, 33, 34, 35, 36, 37, 38, 39, 63, 64, 65, 66, 67, 68, 69, 70, 71, 72, 73, 74, 75, 76, 77, 78, 79, 80, 81, 82, 83, 84, 85, 86, 87, 88, 89, 90, 91, 92, 93, 94] (by decide +kernel) (by decide +kernel)
set_option maxRecDepth 20000 in
theorem gX3_set_X3_commit : GoodIn wsX3_set (wsV RX3 38 RX3 yX3_commit wsX3_commit) := goodIn_app (goodIn_of _ (by decide +kernel)) ggX3_set_X3_commit
theorem dX3_set_0 : decode cX3_set 0 = .ok (.aload_n 0, 1) := by decide +kernel
theorem dX3_set_1 : decode cX3_set 1 = .ok (.getfield 16, 3) := by decide +kernel
theorem dX3_set_4 : decode cX3_set 4 = .ok (.aload_n 0, 1) := by decide +kernel
theorem dX3_set_5 : decode cX3_set 5 = .ok (.getfield 12, 3) := by decide +kernel
theorem dX3_set_8 : decode cX3_set 8 = .ok (.invokevirtual 30, 3) := by decide +kernel
theorem dX3_set_11 : decode cX3_set 11 = .ok (.aload_n 0, 1) := by decide +kernel
theorem dX3_set_12 : decode cX3_set 12 = .ok (.aload_n 0, 1) := by decide +kernel
theorem dX3_set_13 : decode cX3_set 13 = .ok (.getfield 16, 3) := by decide +kernel
theorem dX3_set_16 : decode cX3_set 16 = .ok (.iload_n 1, 1) := by decide +kernel
theorem dX3_set_17 : decode cX3_set 17 = .ok (.iload_n 2, 1) := by decide +kernel
theorem dX3_set_18 : decode cX3_set 18 = .ok (.invokevirtual 58, 3) := by decide +kernel
theorem dX3_set_21 : decode cX3_set 21 = .ok (.invokevirtual 38, 3) := by decide +kernel
theorem dX3_set_24 : decode cX3_set 24 = .ok (.ireturn, 1) := by decide +kernel
set_option maxRecDepth 20000 in
theorem ggX3_smithyOf_X2_find : GoodIn wsX3_smithyOf wsX2_find := goodIn_r _ [16, 17, 18, 55, 56, 57, 58, 59, 60, 61, 62, 63, 64, 65, 66, 67, 68, 69] (by decide +kernel) (by decide +kernel)
set_option maxRecDepth 20000 in
theorem gX3_smithyOf_X2_find : GoodIn wsX3_smithyOf (wsV RX3 61 RX2 yX2_find wsX2_find) := goodIn_app (goodIn_of _ (by decide +kernel)) ggX3_smithyOf_X2_find
set_option maxRecDepth 20000 in
theorem ggX3_smithyOf_X3_leakOf : GoodIn wsX3_smithyOf wsX3_leakOf := goodIn_r _ [22] (by decide +kernel) (by decide +kernel)
set_option maxRecDepth 20000 in
theorem gX3_smithyOf_X3_leakOf : GoodIn wsX3_smithyOf (va_wsS RX3 78 yX3_leakOf wsX3_leakOf) := goodIn_app (goodIn_of _ (by decide +kernel)) ggX3_smithyOf_X3_leakOf
set_option maxRecDepth 20000 in
theorem ggX3_smithyOf_X2_isCold : GoodIn wsX3_smithyOf wsX2_isCold := goodIn_r _ [26, 27, 55, 56, 57, 58, 59, 60, 61, 62, 63, 64, 65, 66, 67, 68, 69] (by decide +kernel) (by decide +kernel)
set_option maxRecDepth 20000 in
theorem gX3_smithyOf_X2_isCold : GoodIn wsX3_smithyOf (wsV RX3 84 RX2 yX2_isCold wsX2_isCold) := goodIn_app (goodIn_of _ (by decide +kernel)) ggX3_smithyOf_X2_isCold
set_option maxRecDepth 20000 in
theorem ggX3_smithyOf_X3_hoursOfWay : GoodIn wsX3_smithyOf wsX3_hoursOfWay := goodIn_r _ [30, 31, 32, 33, 34, 35, 36, 21, 37] (by decide +kernel) (by decide +kernel)
set_option maxRecDepth 20000 in
theorem gX3_smithyOf_X3_hoursOfWay : GoodIn wsX3_smithyOf (va_wsS RX3 101 yX3_hoursOfWay wsX3_hoursOfWay) := goodIn_app (goodIn_of _ (by decide +kernel)) ggX3_smithyOf_X3_hoursOfWay
theorem dX3_smithyOf_0 : decode cX3_smithyOf 0 = .ok (.aload_n 0, 1) := by decide +kernel
theorem dX3_smithyOf_1 : decode cX3_smithyOf 1 = .ok (.getfield 12, 3) := by decide +kernel
theorem dX3_smithyOf_4 : decode cX3_smithyOf 4 = .ok (.iload_n 1, 1) := by decide +kernel
theorem dX3_smithyOf_5 : decode cX3_smithyOf 5 = .ok (.invokevirtual 61, 3) := by decide +kernel
theorem dX3_smithyOf_8 : decode cX3_smithyOf 8 = .ok (.astore_n 3, 1) := by decide +kernel
theorem dX3_smithyOf_9 : decode cX3_smithyOf 9 = .ok (.aload_n 3, 1) := by decide +kernel
theorem dX3_smithyOf_10 : decode cX3_smithyOf 10 = .ok (.ifnonnull 6, 3) := by decide +kernel
theorem dX3_smithyOf_13 : decode cX3_smithyOf 13 = .ok (.ldc 65, 2) := by decide +kernel
theorem dX3_smithyOf_15 : decode cX3_smithyOf 15 = .ok (.ireturn, 1) := by decide +kernel
theorem dX3_smithyOf_16 : decode cX3_smithyOf 16 = .ok (.iload_n 2, 1) := by decide +kernel
theorem dX3_smithyOf_17 : decode cX3_smithyOf 17 = .ok (.tableswitch 142 0 10 #[59, 64, 69, 74, 82, 87, 107, 112, 117, 122, 127], 59) := by decide +kernel
theorem dX3_smithyOf_76 : decode cX3_smithyOf 76 = .ok (.aload_n 3, 1) := by decide +kernel
theorem dX3_smithyOf_77 : decode cX3_smithyOf 77 = .ok (.getfield 66, 3) := by decide +kernel
theorem dX3_smithyOf_80 : decode cX3_smithyOf 80 = .ok (.ireturn, 1) := by decide +kernel
theorem dX3_smithyOf_81 : decode cX3_smithyOf 81 = .ok (.aload_n 3, 1) := by decide +kernel
theorem dX3_smithyOf_82 : decode cX3_smithyOf 82 = .ok (.getfield 72, 3) := by decide +kernel
theorem dX3_smithyOf_85 : decode cX3_smithyOf 85 = .ok (.ireturn, 1) := by decide +kernel
theorem dX3_smithyOf_86 : decode cX3_smithyOf 86 = .ok (.aload_n 3, 1) := by decide +kernel
theorem dX3_smithyOf_87 : decode cX3_smithyOf 87 = .ok (.getfield 75, 3) := by decide +kernel
theorem dX3_smithyOf_90 : decode cX3_smithyOf 90 = .ok (.ireturn, 1) := by decide +kernel
theorem dX3_smithyOf_91 : decode cX3_smithyOf 91 = .ok (.aload_n 3, 1) := by decide +kernel
theorem dX3_smithyOf_92 : decode cX3_smithyOf 92 = .ok (.getfield 75, 3) := by decide +kernel
theorem dX3_smithyOf_95 : decode cX3_smithyOf 95 = .ok (.invokestatic 78, 3) := by decide +kernel
theorem dX3_smithyOf_98 : decode cX3_smithyOf 98 = .ok (.ireturn, 1) := by decide +kernel
theorem dX3_smithyOf_99 : decode cX3_smithyOf 99 = .ok (.aload_n 3, 1) := by decide +kernel
theorem dX3_smithyOf_100 : decode cX3_smithyOf 100 = .ok (.getfield 81, 3) := by decide +kernel
theorem dX3_smithyOf_103 : decode cX3_smithyOf 103 = .ok (.ireturn, 1) := by decide +kernel
theorem dX3_smithyOf_104 : decode cX3_smithyOf 104 = .ok (.aload_n 0, 1) := by decide +kernel
theorem dX3_smithyOf_105 : decode cX3_smithyOf 105 = .ok (.getfield 12, 3) := by decide +kernel
theorem dX3_smithyOf_108 : decode cX3_smithyOf 108 = .ok (.aload_n 3, 1) := by decide +kernel
theorem dX3_smithyOf_109 : decode cX3_smithyOf 109 = .ok (.getfield 81, 3) := by decide +kernel
theorem dX3_smithyOf_112 : decode cX3_smithyOf 112 = .ok (.invokevirtual 84, 3) := by decide +kernel
theorem dX3_smithyOf_115 : decode cX3_smithyOf 115 = .ok (.ifCond .eq 7, 3) := by decide +kernel
theorem dX3_smithyOf_118 : decode cX3_smithyOf 118 = .ok (.iconst 1, 1) := by decide +kernel
theorem dX3_smithyOf_119 : decode cX3_smithyOf 119 = .ok (.goto 4, 3) := by decide +kernel
theorem dX3_smithyOf_122 : decode cX3_smithyOf 122 = .ok (.iconst 0, 1) := by decide +kernel
theorem dX3_smithyOf_123 : decode cX3_smithyOf 123 = .ok (.ireturn, 1) := by decide +kernel
theorem dX3_smithyOf_124 : decode cX3_smithyOf 124 = .ok (.aload_n 3, 1) := by decide +kernel
theorem dX3_smithyOf_125 : decode cX3_smithyOf 125 = .ok (.getfield 88, 3) := by decide +kernel
theorem dX3_smithyOf_128 : decode cX3_smithyOf 128 = .ok (.ireturn, 1) := by decide +kernel
theorem dX3_smithyOf_129 : decode cX3_smithyOf 129 = .ok (.aload_n 3, 1) := by decide +kernel
theorem dX3_smithyOf_130 : decode cX3_smithyOf 130 = .ok (.getfield 91, 3) := by decide +kernel
theorem dX3_smithyOf_133 : decode cX3_smithyOf 133 = .ok (.ireturn, 1) := by decide +kernel
theorem dX3_smithyOf_134 : decode cX3_smithyOf 134 = .ok (.aload_n 3, 1) := by decide +kernel
theorem dX3_smithyOf_135 : decode cX3_smithyOf 135 = .ok (.getfield 94, 3) := by decide +kernel
theorem dX3_smithyOf_138 : decode cX3_smithyOf 138 = .ok (.ireturn, 1) := by decide +kernel
theorem dX3_smithyOf_139 : decode cX3_smithyOf 139 = .ok (.aload_n 3, 1) := by decide +kernel
theorem dX3_smithyOf_140 : decode cX3_smithyOf 140 = .ok (.getfield 97, 3) := by decide +kernel
theorem dX3_smithyOf_143 : decode cX3_smithyOf 143 = .ok (.ireturn, 1) := by decide +kernel
theorem dX3_smithyOf_144 : decode cX3_smithyOf 144 = .ok (.aload_n 0, 1) := by decide +kernel
theorem dX3_smithyOf_145 : decode cX3_smithyOf 145 = .ok (.getfield 12, 3) := by decide +kernel
theorem dX3_smithyOf_148 : decode cX3_smithyOf 148 = .ok (.getfield 100, 3) := by decide +kernel
theorem dX3_smithyOf_151 : decode cX3_smithyOf 151 = .ok (.aload_n 3, 1) := by decide +kernel
theorem dX3_smithyOf_152 : decode cX3_smithyOf 152 = .ok (.getfield 66, 3) := by decide +kernel
theorem dX3_smithyOf_155 : decode cX3_smithyOf 155 = .ok (.invokestatic 101, 3) := by decide +kernel
theorem dX3_smithyOf_158 : decode cX3_smithyOf 158 = .ok (.ireturn, 1) := by decide +kernel
theorem dX3_smithyOf_159 : decode cX3_smithyOf 159 = .ok (.ldc 65, 2) := by decide +kernel
theorem dX3_smithyOf_161 : decode cX3_smithyOf 161 = .ok (.ireturn, 1) := by decide +kernel
set_option maxRecDepth 20000 in
theorem ggX3_why_X2_find : GoodIn wsX3_why wsX2_find := goodIn_r _ [7, 8, 9, 49, 50, 51, 52, 53, 54, 55, 56, 57, 58, 59, 60, 61, 62, 63] (by decide +kernel) (by decide +kernel)
set_option maxRecDepth 20000 in
theorem gX3_why_X2_find : GoodIn wsX3_why (wsV RX3 61 RX2 yX2_find wsX2_find) := goodIn_app (goodIn_of _ (by decide +kernel)) ggX3_why_X2_find
set_option maxRecDepth 20000 in
theorem ggX3_why_X3_isFlag : GoodIn wsX3_why wsX3_isFlag := goodIn_r _ [13] (by decide +kernel) (by decide +kernel)
set_option maxRecDepth 20000 in
theorem gX3_why_X3_isFlag : GoodIn wsX3_why (va_wsS RX3 104 yX3_isFlag wsX3_isFlag) := goodIn_app (goodIn_of _ (by decide +kernel)) ggX3_why_X3_isFlag
set_option maxRecDepth 20000 in
theorem ggX3_why_X2_reasonAgainst : GoodIn wsX3_why wsX2_reasonAgainst := goodIn_r _ [17, 18, 19, 20, 21, 22, 12, 23, 24, 25, 26, 27, 28, 29, 30, 31, 32, 33, 34, 35, 6, 36, 37, 38, 39, 64, 65, 66, 67, 68, 69, 70, 71, 49, 50, 51, 52, 53, 54, 55, 56, 57, 58, 59, 60, 61, 62, 63] (by decide +kernel) (by decide +kernel)
set_option maxRecDepth 20000 in
theorem gX3_why_X2_reasonAgainst : GoodIn wsX3_why (wsV RX3 107 RX2 yX2_reasonAgainst wsX2_reasonAgainst) := goodIn_app (goodIn_of _ (by decide +kernel)) ggX3_why_X2_reasonAgainst
theorem dX3_why_0 : decode cX3_why 0 = .ok (.aload_n 0, 1) := by decide +kernel
theorem dX3_why_1 : decode cX3_why 1 = .ok (.getfield 12, 3) := by decide +kernel
theorem dX3_why_4 : decode cX3_why 4 = .ok (.iload_n 1, 1) := by decide +kernel
theorem dX3_why_5 : decode cX3_why 5 = .ok (.invokevirtual 61, 3) := by decide +kernel
theorem dX3_why_8 : decode cX3_why 8 = .ok (.astore_n 3, 1) := by decide +kernel
theorem dX3_why_9 : decode cX3_why 9 = .ok (.aload_n 3, 1) := by decide +kernel
theorem dX3_why_10 : decode cX3_why 10 = .ok (.ifnull 10, 3) := by decide +kernel
theorem dX3_why_13 : decode cX3_why 13 = .ok (.iload_n 2, 1) := by decide +kernel
theorem dX3_why_14 : decode cX3_why 14 = .ok (.invokestatic 104, 3) := by decide +kernel
theorem dX3_why_17 : decode cX3_why 17 = .ok (.ifCond .ne 6, 3) := by decide +kernel
theorem dX3_why_20 : decode cX3_why 20 = .ok (.ldc 65, 2) := by decide +kernel
theorem dX3_why_22 : decode cX3_why 22 = .ok (.ireturn, 1) := by decide +kernel
theorem dX3_why_23 : decode cX3_why 23 = .ok (.aload_n 0, 1) := by decide +kernel
theorem dX3_why_24 : decode cX3_why 24 = .ok (.getfield 12, 3) := by decide +kernel
theorem dX3_why_27 : decode cX3_why 27 = .ok (.aload_n 3, 1) := by decide +kernel
theorem dX3_why_28 : decode cX3_why 28 = .ok (.iload_n 2, 1) := by decide +kernel
theorem dX3_why_29 : decode cX3_why 29 = .ok (.iconst 1, 1) := by decide +kernel
theorem dX3_why_30 : decode cX3_why 30 = .ok (.if_icmp .ne 7, 3) := by decide +kernel
theorem dX3_why_33 : decode cX3_why 33 = .ok (.iconst 1, 1) := by decide +kernel
theorem dX3_why_34 : decode cX3_why 34 = .ok (.goto 4, 3) := by decide +kernel
theorem dX3_why_37 : decode cX3_why 37 = .ok (.iconst 0, 1) := by decide +kernel
theorem dX3_why_38 : decode cX3_why 38 = .ok (.invokevirtual 107, 3) := by decide +kernel
