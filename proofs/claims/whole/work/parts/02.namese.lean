theorem dX4_smithyOf_80 : decode cX4_smithyOf 80 = .ok (.ireturn, 1) := by decide +kernel
theorem dX4_smithyOf_81 : decode cX4_smithyOf 81 = .ok (.aload_n 0, 1) := by decide +kernel
theorem dX4_smithyOf_82 : decode cX4_smithyOf 82 = .ok (.iload_n 1, 1) := by decide +kernel
theorem dX4_smithyOf_83 : decode cX4_smithyOf 83 = .ok (.invokevirtual 45, 3) := by decide +kernel
theorem dX4_smithyOf_86 : decode cX4_smithyOf 86 = .ok (.ifCond .eq 7, 3) := by decide +kernel
theorem dX4_smithyOf_89 : decode cX4_smithyOf 89 = .ok (.iconst 1, 1) := by decide +kernel
theorem dX4_smithyOf_90 : decode cX4_smithyOf 90 = .ok (.goto 4, 3) := by decide +kernel
theorem dX4_smithyOf_93 : decode cX4_smithyOf 93 = .ok (.iconst 0, 1) := by decide +kernel
theorem dX4_smithyOf_94 : decode cX4_smithyOf 94 = .ok (.ireturn, 1) := by decide +kernel
theorem dX4_smithyOf_95 : decode cX4_smithyOf 95 = .ok (.aload_n 0, 1) := by decide +kernel
theorem dX4_smithyOf_96 : decode cX4_smithyOf 96 = .ok (.iload_n 1, 1) := by decide +kernel
theorem dX4_smithyOf_97 : decode cX4_smithyOf 97 = .ok (.iload_n 2, 1) := by decide +kernel
theorem dX4_smithyOf_98 : decode cX4_smithyOf 98 = .ok (.iconst 2, 1) := by decide +kernel
theorem dX4_smithyOf_99 : decode cX4_smithyOf 99 = .ok (.isub, 1) := by decide +kernel
theorem dX4_smithyOf_100 : decode cX4_smithyOf 100 = .ok (.invokevirtual 33, 3) := by decide +kernel
theorem dX4_smithyOf_103 : decode cX4_smithyOf 103 = .ok (.ireturn, 1) := by decide +kernel
theorem dX4_smithyOf_104 : decode cX4_smithyOf 104 = .ok (.aload_n 0, 1) := by decide +kernel
theorem dX4_smithyOf_105 : decode cX4_smithyOf 105 = .ok (.getfield 7, 3) := by decide +kernel
theorem dX4_smithyOf_108 : decode cX4_smithyOf 108 = .ok (.iconst 2, 1) := by decide +kernel
theorem dX4_smithyOf_109 : decode cX4_smithyOf 109 = .ok (.iaload, 1) := by decide +kernel
theorem dX4_smithyOf_110 : decode cX4_smithyOf 110 = .ok (.aload_n 0, 1) := by decide +kernel
theorem dX4_smithyOf_111 : decode cX4_smithyOf 111 = .ok (.iload_n 1, 1) := by decide +kernel
theorem dX4_smithyOf_112 : decode cX4_smithyOf 112 = .ok (.iconst 0, 1) := by decide +kernel
theorem dX4_smithyOf_113 : decode cX4_smithyOf 113 = .ok (.invokevirtual 33, 3) := by decide +kernel
theorem dX4_smithyOf_116 : decode cX4_smithyOf 116 = .ok (.invokestatic 68, 3) := by decide +kernel
theorem dX4_smithyOf_119 : decode cX4_smithyOf 119 = .ok (.ireturn, 1) := by decide +kernel
theorem dX4_smithyOf_120 : decode cX4_smithyOf 120 = .ok (.aload_n 0, 1) := by decide +kernel
theorem dX4_smithyOf_121 : decode cX4_smithyOf 121 = .ok (.iload_n 1, 1) := by decide +kernel
theorem dX4_smithyOf_122 : decode cX4_smithyOf 122 = .ok (.iload_n 2, 1) := by decide +kernel
theorem dX4_smithyOf_123 : decode cX4_smithyOf 123 = .ok (.invokevirtual 33, 3) := by decide +kernel
theorem dX4_smithyOf_126 : decode cX4_smithyOf 126 = .ok (.ireturn, 1) := by decide +kernel
set_option maxRecDepth 20000 in
theorem ggX4_why_X4_isSmithy : GoodIn wsX4_why wsX4_isSmithy := goodIn_r _ [6, 7, 29, 30, 31, 32, 33, 34, 35, 36, 37, 38, 39, 40, 41, 42, 43] (by decide +kernel) (by decide +kernel)
set_option maxRecDepth 20000 in
theorem gX4_why_X4_isSmithy : GoodIn wsX4_why (wsV RX4 81 RX4 yX4_isSmithy wsX4_isSmithy) := goodIn_app (goodIn_of _ (by decide +kernel)) ggX4_why_X4_isSmithy
set_option maxRecDepth 20000 in
theorem ggX4_why_X4_in : GoodIn wsX4_why wsX4_in := goodIn_r _ [10] (by decide +kernel) (by decide +kernel)
set_option maxRecDepth 20000 in
theorem gX4_why_X4_in : GoodIn wsX4_why (va_wsS RX4 53 yX4_in wsX4_in) := goodIn_app (goodIn_of _ (by decide +kernel)) ggX4_why_X4_in
set_option maxRecDepth 20000 in
theorem ggX4_why_X4_whyNot : GoodIn wsX4_why wsX4_whyNot := goodIn_r _ [14, 7, 15, 16, 17, 5, 18, 19, 20, 21, 22, 23, 24, 25, 26, 27, 28, 29, 30, 31, 32, 33, 34, 35, 36, 37, 38, 39, 40, 41, 42, 43] (by decide +kernel) (by decide +kernel)
set_option maxRecDepth 20000 in
theorem gX4_why_X4_whyNot : GoodIn wsX4_why (wsV RX4 84 RX4 yX4_whyNot wsX4_whyNot) := goodIn_app (goodIn_of _ (by decide +kernel)) ggX4_why_X4_whyNot
theorem dX4_why_0 : decode cX4_why 0 = .ok (.aload_n 0, 1) := by decide +kernel
theorem dX4_why_1 : decode cX4_why 1 = .ok (.iload_n 1, 1) := by decide +kernel
theorem dX4_why_2 : decode cX4_why 2 = .ok (.invokevirtual 81, 3) := by decide +kernel
theorem dX4_why_5 : decode cX4_why 5 = .ok (.ifCond .eq 21, 3) := by decide +kernel
theorem dX4_why_8 : decode cX4_why 8 = .ok (.iload_n 2, 1) := by decide +kernel
theorem dX4_why_9 : decode cX4_why 9 = .ok (.iconst 0, 1) := by decide +kernel
theorem dX4_why_10 : decode cX4_why 10 = .ok (.iconst 1, 1) := by decide +kernel
theorem dX4_why_11 : decode cX4_why 11 = .ok (.invokestatic 53, 3) := by decide +kernel
theorem dX4_why_14 : decode cX4_why 14 = .ok (.ifCond .eq 12, 3) := by decide +kernel
theorem dX4_why_17 : decode cX4_why 17 = .ok (.aload_n 0, 1) := by decide +kernel
theorem dX4_why_18 : decode cX4_why 18 = .ok (.iload_n 1, 1) := by decide +kernel
theorem dX4_why_19 : decode cX4_why 19 = .ok (.iload_n 2, 1) := by decide +kernel
theorem dX4_why_20 : decode cX4_why 20 = .ok (.invokevirtual 84, 3) := by decide +kernel
theorem dX4_why_23 : decode cX4_why 23 = .ok (.goto 5, 3) := by decide +kernel
theorem dX4_why_26 : decode cX4_why 26 = .ok (.ldc 57, 2) := by decide +kernel
theorem dX4_why_28 : decode cX4_why 28 = .ok (.ireturn, 1) := by decide +kernel
set_option maxRecDepth 20000 in
theorem ggX4_mend_X4_isSmithy : GoodIn wsX4_mend wsX4_isSmithy := goodIn_r _ [6, 7, 29, 30, 31, 32, 33, 34, 35, 36, 37, 38, 39, 40, 41, 42, 43] (by decide +kernel) (by decide +kernel)
set_option maxRecDepth 20000 in
theorem gX4_mend_X4_isSmithy : GoodIn wsX4_mend (wsV RX4 81 RX4 yX4_isSmithy wsX4_isSmithy) := goodIn_app (goodIn_of _ (by decide +kernel)) ggX4_mend_X4_isSmithy
set_option maxRecDepth 20000 in
theorem ggX4_mend_X4_in : GoodIn wsX4_mend wsX4_in := goodIn_r _ [10] (by decide +kernel) (by decide +kernel)
set_option maxRecDepth 20000 in
theorem gX4_mend_X4_in : GoodIn wsX4_mend (va_wsS RX4 53 yX4_in wsX4_in) := goodIn_app (goodIn_of _ (by decide +kernel)) ggX4_mend_X4_in
set_option maxRecDepth 20000 in
theorem ggX4_mend_X4_hoursOf : GoodIn wsX4_mend wsX4_hoursOf := goodIn_r _ [13] (by decide +kernel) (by decide +kernel)
set_option maxRecDepth 20000 in
theorem gX4_mend_X4_hoursOf : GoodIn wsX4_mend (va_wsS RX4 72 yX4_hoursOf wsX4_hoursOf) := goodIn_app (goodIn_of _ (by decide +kernel)) ggX4_mend_X4_hoursOf
set_option maxRecDepth 20000 in
theorem ggX4_mend_X4_leatherOf : GoodIn wsX4_mend wsX4_leatherOf := goodIn_r _ [17, 18, 19, 20, 5, 21, 7, 22, 23, 24, 29, 30, 31, 32, 33, 34, 35, 36, 37, 38, 39, 40, 41, 42, 43] (by decide +kernel) (by decide +kernel)
set_option maxRecDepth 20000 in
theorem gX4_mend_X4_leatherOf : GoodIn wsX4_mend (wsV RX4 75 RX4 yX4_leatherOf wsX4_leatherOf) := goodIn_app (goodIn_of _ (by decide +kernel)) ggX4_mend_X4_leatherOf
set_option maxRecDepth 20000 in
theorem ggX4_mend_X4_owes : GoodIn wsX4_mend wsX4_owes := goodIn_r _ [28, 7, 11, 12, 5, 13, 14, 15, 16, 17, 18, 19, 20, 21, 22, 23, 24, 29, 30, 31, 32, 33, 34, 35, 36, 37, 38, 39, 40, 41, 42, 43] (by decide +kernel) (by decide +kernel)
set_option maxRecDepth 20000 in
theorem gX4_mend_X4_owes : GoodIn wsX4_mend (wsV RX4 78 RX4 yX4_owes wsX4_owes) := goodIn_app (goodIn_of _ (by decide +kernel)) ggX4_mend_X4_owes
set_option maxRecDepth 20000 in
theorem ggX4_mend_X4_of : GoodIn wsX4_mend wsX4_of := goodIn_r _ [21, 7, 29, 30, 31, 32, 33, 34, 35, 36, 37, 38, 39, 40, 41, 42, 43] (by decide +kernel) (by decide +kernel)
set_option maxRecDepth 20000 in
theorem gX4_mend_X4_of : GoodIn wsX4_mend (wsV RX4 33 RX4 yX4_of wsX4_of) := goodIn_app (goodIn_of _ (by decide +kernel)) ggX4_mend_X4_of
theorem dX4_mend_0 : decode cX4_mend 0 = .ok (.aload_n 0, 1) := by decide +kernel
theorem dX4_mend_1 : decode cX4_mend 1 = .ok (.iload_n 1, 1) := by decide +kernel
theorem dX4_mend_2 : decode cX4_mend 2 = .ok (.invokevirtual 81, 3) := by decide +kernel
theorem dX4_mend_5 : decode cX4_mend 5 = .ok (.ifCond .eq 21, 3) := by decide +kernel
theorem dX4_mend_8 : decode cX4_mend 8 = .ok (.iload_n 2, 1) := by decide +kernel
theorem dX4_mend_9 : decode cX4_mend 9 = .ok (.iconst 0, 1) := by decide +kernel
theorem dX4_mend_10 : decode cX4_mend 10 = .ok (.iconst 1, 1) := by decide +kernel
theorem dX4_mend_11 : decode cX4_mend 11 = .ok (.invokestatic 53, 3) := by decide +kernel
theorem dX4_mend_14 : decode cX4_mend 14 = .ok (.ifCond .eq 12, 3) := by decide +kernel
theorem dX4_mend_17 : decode cX4_mend 17 = .ok (.iload_n 3, 1) := by decide +kernel
theorem dX4_mend_18 : decode cX4_mend 18 = .ok (.iconst 0, 1) := by decide +kernel
theorem dX4_mend_19 : decode cX4_mend 19 = .ok (.iconst 3, 1) := by decide +kernel
theorem dX4_mend_20 : decode cX4_mend 20 = .ok (.invokestatic 53, 3) := by decide +kernel
theorem dX4_mend_23 : decode cX4_mend 23 = .ok (.ifCond .ne 6, 3) := by decide +kernel
theorem dX4_mend_26 : decode cX4_mend 26 = .ok (.ldc 57, 2) := by decide +kernel
theorem dX4_mend_28 : decode cX4_mend 28 = .ok (.ireturn, 1) := by decide +kernel
theorem dX4_mend_29 : decode cX4_mend 29 = .ok (.iload_n 3, 1) := by decide +kernel
theorem dX4_mend_30 : decode cX4_mend 30 = .ok (.ifCond .ne 10, 3) := by decide +kernel
theorem dX4_mend_33 : decode cX4_mend 33 = .ok (.iload_n 2, 1) := by decide +kernel
theorem dX4_mend_34 : decode cX4_mend 34 = .ok (.invokestatic 72, 3) := by decide +kernel
theorem dX4_mend_37 : decode cX4_mend 37 = .ok (.goto 48, 3) := by decide +kernel
theorem dX4_mend_40 : decode cX4_mend 40 = .ok (.iload_n 3, 1) := by decide +kernel
theorem dX4_mend_41 : decode cX4_mend 41 = .ok (.iconst 1, 1) := by decide +kernel
theorem dX4_mend_42 : decode cX4_mend 42 = .ok (.if_icmp .ne 12, 3) := by decide +kernel
theorem dX4_mend_45 : decode cX4_mend 45 = .ok (.aload_n 0, 1) := by decide +kernel
theorem dX4_mend_46 : decode cX4_mend 46 = .ok (.iload_n 1, 1) := by decide +kernel
theorem dX4_mend_47 : decode cX4_mend 47 = .ok (.iload_n 2, 1) := by decide +kernel
theorem dX4_mend_48 : decode cX4_mend 48 = .ok (.invokevirtual 75, 3) := by decide +kernel
theorem dX4_mend_51 : decode cX4_mend 51 = .ok (.goto 34, 3) := by decide +kernel
theorem dX4_mend_54 : decode cX4_mend 54 = .ok (.iload_n 3, 1) := by decide +kernel
theorem dX4_mend_55 : decode cX4_mend 55 = .ok (.iconst 2, 1) := by decide +kernel
theorem dX4_mend_56 : decode cX4_mend 56 = .ok (.if_icmp .ne 12, 3) := by decide +kernel
theorem dX4_mend_59 : decode cX4_mend 59 = .ok (.aload_n 0, 1) := by decide +kernel
theorem dX4_mend_60 : decode cX4_mend 60 = .ok (.iload_n 1, 1) := by decide +kernel
theorem dX4_mend_61 : decode cX4_mend 61 = .ok (.iload_n 2, 1) := by decide +kernel
theorem dX4_mend_62 : decode cX4_mend 62 = .ok (.invokevirtual 78, 3) := by decide +kernel
theorem dX4_mend_65 : decode cX4_mend 65 = .ok (.goto 20, 3) := by decide +kernel
theorem dX4_mend_68 : decode cX4_mend 68 = .ok (.iload_n 2, 1) := by decide +kernel
theorem dX4_mend_69 : decode cX4_mend 69 = .ok (.iconst 1, 1) := by decide +kernel
theorem dX4_mend_70 : decode cX4_mend 70 = .ok (.if_icmp .ne 7, 3) := by decide +kernel
theorem dX4_mend_73 : decode cX4_mend 73 = .ok (.iconst 0, 1) := by decide +kernel
theorem dX4_mend_74 : decode cX4_mend 74 = .ok (.goto 11, 3) := by decide +kernel
theorem dX4_mend_77 : decode cX4_mend 77 = .ok (.aload_n 0, 1) := by decide +kernel
theorem dX4_mend_78 : decode cX4_mend 78 = .ok (.iload_n 1, 1) := by decide +kernel
theorem dX4_mend_79 : decode cX4_mend 79 = .ok (.iconst 2, 1) := by decide +kernel
theorem dX4_mend_80 : decode cX4_mend 80 = .ok (.invokevirtual 33, 3) := by decide +kernel
theorem dX4_mend_83 : decode cX4_mend 83 = .ok (.iconst 3, 1) := by decide +kernel
theorem dX4_mend_84 : decode cX4_mend 84 = .ok (.idiv, 1) := by decide +kernel
theorem dX4_mend_85 : decode cX4_mend 85 = .ok (.ireturn, 1) := by decide +kernel
set_option maxRecDepth 20000 in
theorem ggX4_coldDays_X4_copies : GoodIn wsX4_coldDays wsX4_copies := goodIn_r _ [7] (by decide +kernel) (by decide +kernel)
set_option maxRecDepth 20000 in
theorem gX4_coldDays_X4_copies : GoodIn wsX4_coldDays (va_wsS RX4 105 yX4_copies wsX4_copies) := goodIn_app (goodIn_of _ (by decide +kernel)) ggX4_coldDays_X4_copies
set_option maxRecDepth 20000 in
theorem ggX4_coldDays_X4_isCold : GoodIn wsX4_coldDays wsX4_isCold := goodIn_r _ [11, 1, 12, 13, 14, 6, 15, 28, 29, 30, 31, 32, 33, 34, 35, 36, 37, 38, 39, 40, 41, 42] (by decide +kernel) (by decide +kernel)
set_option maxRecDepth 20000 in
theorem gX4_coldDays_X4_isCold : GoodIn wsX4_coldDays (wsV RX4 45 RX4 yX4_isCold wsX4_isCold) := goodIn_app (goodIn_of _ (by decide +kernel)) ggX4_coldDays_X4_isCold
set_option maxRecDepth 20000 in
theorem ggX4_coldDays_X4_ages : GoodIn wsX4_coldDays wsX4_ages := goodIn_r _ [19, 1, 12, 13, 14, 6, 15, 20, 21, 22, 23, 24, 25, 26, 27, 8, 9, 10, 11, 28, 29, 30, 31, 32, 33, 34, 35, 36, 37, 38, 39, 40, 41, 42] (by decide +kernel) (by decide +kernel)
set_option maxRecDepth 20000 in
theorem gX4_coldDays_X4_ages : GoodIn wsX4_coldDays (wsV RX4 49 RX4 yX4_ages wsX4_ages) := goodIn_app (goodIn_of _ (by decide +kernel)) ggX4_coldDays_X4_ages
theorem dX4_coldDays_0 : decode cX4_coldDays 0 = .ok (.aload_n 0, 1) := by decide +kernel
theorem dX4_coldDays_1 : decode cX4_coldDays 1 = .ok (.getfield 7, 3) := by decide +kernel
theorem dX4_coldDays_4 : decode cX4_coldDays 4 = .ok (.aload_n 0, 1) := by decide +kernel
theorem dX4_coldDays_5 : decode cX4_coldDays 5 = .ok (.getfield 19, 3) := by decide +kernel
theorem dX4_coldDays_8 : decode cX4_coldDays 8 = .ok (.invokestatic 105, 3) := by decide +kernel
theorem dX4_coldDays_11 : decode cX4_coldDays 11 = .ok (.iconst 0, 1) := by decide +kernel
theorem dX4_coldDays_12 : decode cX4_coldDays 12 = .ok (.istore_n 2, 1) := by decide +kernel
theorem dX4_coldDays_13 : decode cX4_coldDays 13 = .ok (.iload_n 2, 1) := by decide +kernel
theorem dX4_coldDays_14 : decode cX4_coldDays 14 = .ok (.sipush 200, 3) := by decide +kernel
theorem dX4_coldDays_17 : decode cX4_coldDays 17 = .ok (.if_icmp .ge 22, 3) := by decide +kernel
theorem dX4_coldDays_20 : decode cX4_coldDays 20 = .ok (.aload_n 0, 1) := by decide +kernel
theorem dX4_coldDays_21 : decode cX4_coldDays 21 = .ok (.iload_n 1, 1) := by decide +kernel
theorem dX4_coldDays_22 : decode cX4_coldDays 22 = .ok (.invokevirtual 45, 3) := by decide +kernel
theorem dX4_coldDays_25 : decode cX4_coldDays 25 = .ok (.ifCond .ne 14, 3) := by decide +kernel
theorem dX4_coldDays_28 : decode cX4_coldDays 28 = .ok (.aload_n 0, 1) := by decide +kernel
theorem dX4_coldDays_29 : decode cX4_coldDays 29 = .ok (.iload_n 1, 1) := by decide +kernel
theorem dX4_coldDays_30 : decode cX4_coldDays 30 = .ok (.invokevirtual 49, 3) := by decide +kernel
theorem dX4_coldDays_33 : decode cX4_coldDays 33 = .ok (.iinc 2 1, 3) := by decide +kernel
theorem dX4_coldDays_36 : decode cX4_coldDays 36 = .ok (.goto (-23), 3) := by decide +kernel
theorem dX4_coldDays_39 : decode cX4_coldDays 39 = .ok (.aload_n 0, 1) := by decide +kernel
theorem dX4_coldDays_40 : decode cX4_coldDays 40 = .ok (.iload_n 1, 1) := by decide +kernel
theorem dX4_coldDays_41 : decode cX4_coldDays 41 = .ok (.invokevirtual 45, 3) := by decide +kernel
theorem dX4_coldDays_44 : decode cX4_coldDays 44 = .ok (.istore_n 3, 1) := by decide +kernel
theorem dX4_coldDays_45 : decode cX4_coldDays 45 = .ok (.aload_n 0, 1) := by decide +kernel
theorem dX4_coldDays_46 : decode cX4_coldDays 46 = .ok (.getfield 19, 3) := by decide +kernel
theorem dX4_coldDays_49 : decode cX4_coldDays 49 = .ok (.aload_n 0, 1) := by decide +kernel
theorem dX4_coldDays_50 : decode cX4_coldDays 50 = .ok (.getfield 7, 3) := by decide +kernel
theorem dX4_coldDays_53 : decode cX4_coldDays 53 = .ok (.invokestatic 105, 3) := by decide +kernel
theorem dX4_coldDays_56 : decode cX4_coldDays 56 = .ok (.iload_n 3, 1) := by decide +kernel
theorem dX4_coldDays_57 : decode cX4_coldDays 57 = .ok (.ifCond .eq 7, 3) := by decide +kernel
theorem dX4_coldDays_60 : decode cX4_coldDays 60 = .ok (.iload_n 2, 1) := by decide +kernel
theorem dX4_coldDays_61 : decode cX4_coldDays 61 = .ok (.goto 5, 3) := by decide +kernel
theorem dX4_coldDays_64 : decode cX4_coldDays 64 = .ok (.ldc 109, 2) := by decide +kernel
theorem dX4_coldDays_66 : decode cX4_coldDays 66 = .ok (.ireturn, 1) := by decide +kernel
set_option maxRecDepth 20000 in
theorem ggX4_coldIn_X4_isSmithy : GoodIn wsX4_coldIn wsX4_isSmithy := goodIn_r _ [6, 7, 37, 38, 39, 40, 41, 42, 43, 44, 45, 46, 47, 48, 49, 50, 51] (by decide +kernel) (by decide +kernel)
set_option maxRecDepth 20000 in
theorem gX4_coldIn_X4_isSmithy : GoodIn wsX4_coldIn (wsV RX4 81 RX4 yX4_isSmithy wsX4_isSmithy) := goodIn_app (goodIn_of _ (by decide +kernel)) ggX4_coldIn_X4_isSmithy
set_option maxRecDepth 20000 in
theorem ggX4_coldIn_X4_coldDays : GoodIn wsX4_coldIn wsX4_coldDays := goodIn_r _ [11, 7, 12, 13, 14, 15, 5, 16, 17, 18, 19, 20, 21, 22, 23, 24, 25, 26, 27, 28, 29, 30, 31, 32, 33, 34, 35, 36, 37, 38, 39, 40, 41, 42, 43, 44, 45, 46, 47, 48, 49, 50, 51] (by decide +kernel) (by decide +kernel)
set_option maxRecDepth 20000 in
theorem gX4_coldIn_X4_coldDays : GoodIn wsX4_coldIn (wsV RX4 110 RX4 yX4_coldDays wsX4_coldDays) := goodIn_app (goodIn_of _ (by decide +kernel)) ggX4_coldIn_X4_coldDays
theorem dX4_coldIn_0 : decode cX4_coldIn 0 = .ok (.aload_n 0, 1) := by decide +kernel
theorem dX4_coldIn_1 : decode cX4_coldIn 1 = .ok (.iload_n 1, 1) := by decide +kernel
theorem dX4_coldIn_2 : decode cX4_coldIn 2 = .ok (.invokevirtual 81, 3) := by decide +kernel
theorem dX4_coldIn_5 : decode cX4_coldIn 5 = .ok (.ifCond .eq 11, 3) := by decide +kernel
theorem dX4_coldIn_8 : decode cX4_coldIn 8 = .ok (.aload_n 0, 1) := by decide +kernel
theorem dX4_coldIn_9 : decode cX4_coldIn 9 = .ok (.iload_n 1, 1) := by decide +kernel
theorem dX4_coldIn_10 : decode cX4_coldIn 10 = .ok (.invokevirtual 110, 3) := by decide +kernel
theorem dX4_coldIn_13 : decode cX4_coldIn 13 = .ok (.goto 5, 3) := by decide +kernel
theorem dX4_coldIn_16 : decode cX4_coldIn 16 = .ok (.ldc 57, 2) := by decide +kernel
theorem dX4_coldIn_18 : decode cX4_coldIn 18 = .ok (.ireturn, 1) := by decide +kernel
set_option maxRecDepth 20000 in
theorem ggX4_isAhead_X4_of : GoodIn wsX4_isAhead wsX4_of := goodIn_r _ [6, 1, 10, 11, 12, 13, 14, 15, 16, 17, 18, 19, 20, 21, 22, 23, 24] (by decide +kernel) (by decide +kernel)
set_option maxRecDepth 20000 in
theorem gX4_isAhead_X4_of : GoodIn wsX4_isAhead (wsV RX4 33 RX4 yX4_of wsX4_of) := goodIn_app (goodIn_of _ (by decide +kernel)) ggX4_isAhead_X4_of
set_option maxRecDepth 20000 in
theorem ggX4_isAhead_X4_size : GoodIn wsX4_isAhead wsX4_size := goodIn_r _ [9] (by decide +kernel) (by decide +kernel)
set_option maxRecDepth 20000 in
theorem gX4_isAhead_X4_size : GoodIn wsX4_isAhead (va_wsS RX4 62 yX4_size wsX4_size) := goodIn_app (goodIn_of _ (by decide +kernel)) ggX4_isAhead_X4_size
theorem dX4_isAhead_0 : decode cX4_isAhead 0 = .ok (.iload_n 2, 1) := by decide +kernel
theorem dX4_isAhead_1 : decode cX4_isAhead 1 = .ok (.ifCond .ge 9, 3) := by decide +kernel
theorem dX4_isAhead_4 : decode cX4_isAhead 4 = .ok (.sipush 201, 3) := by decide +kernel
theorem dX4_isAhead_7 : decode cX4_isAhead 7 = .ok (.goto 4, 3) := by decide +kernel
theorem dX4_isAhead_10 : decode cX4_isAhead 10 = .ok (.iload_n 2, 1) := by decide +kernel
theorem dX4_isAhead_11 : decode cX4_isAhead 11 = .ok (.istore 5, 2) := by decide +kernel
theorem dX4_isAhead_13 : decode cX4_isAhead 13 = .ok (.iload 4, 2) := by decide +kernel
theorem dX4_isAhead_15 : decode cX4_isAhead 15 = .ok (.ifCond .ge 9, 3) := by decide +kernel
theorem dX4_isAhead_18 : decode cX4_isAhead 18 = .ok (.sipush 201, 3) := by decide +kernel
theorem dX4_isAhead_21 : decode cX4_isAhead 21 = .ok (.goto 5, 3) := by decide +kernel
theorem dX4_isAhead_24 : decode cX4_isAhead 24 = .ok (.iload 4, 2) := by decide +kernel
theorem dX4_isAhead_26 : decode cX4_isAhead 26 = .ok (.istore 6, 2) := by decide +kernel
theorem dX4_isAhead_28 : decode cX4_isAhead 28 = .ok (.iload 5, 2) := by decide +kernel
theorem dX4_isAhead_30 : decode cX4_isAhead 30 = .ok (.iload 6, 2) := by decide +kernel
theorem dX4_isAhead_32 : decode cX4_isAhead 32 = .ok (.if_icmp .eq 16, 3) := by decide +kernel
theorem dX4_isAhead_35 : decode cX4_isAhead 35 = .ok (.iload 5, 2) := by decide +kernel
theorem dX4_isAhead_37 : decode cX4_isAhead 37 = .ok (.iload 6, 2) := by decide +kernel
theorem dX4_isAhead_39 : decode cX4_isAhead 39 = .ok (.if_icmp .ge 7, 3) := by decide +kernel
theorem dX4_isAhead_42 : decode cX4_isAhead 42 = .ok (.iconst 1, 1) := by decide +kernel
theorem dX4_isAhead_43 : decode cX4_isAhead 43 = .ok (.goto 4, 3) := by decide +kernel
theorem dX4_isAhead_46 : decode cX4_isAhead 46 = .ok (.iconst 0, 1) := by decide +kernel
theorem dX4_isAhead_47 : decode cX4_isAhead 47 = .ok (.ireturn, 1) := by decide +kernel
theorem dX4_isAhead_48 : decode cX4_isAhead 48 = .ok (.aload_n 0, 1) := by decide +kernel
theorem dX4_isAhead_49 : decode cX4_isAhead 49 = .ok (.iload_n 1, 1) := by decide +kernel
theorem dX4_isAhead_50 : decode cX4_isAhead 50 = .ok (.iconst 2, 1) := by decide +kernel
theorem dX4_isAhead_51 : decode cX4_isAhead 51 = .ok (.invokevirtual 33, 3) := by decide +kernel
theorem dX4_isAhead_54 : decode cX4_isAhead 54 = .ok (.aload_n 0, 1) := by decide +kernel
theorem dX4_isAhead_55 : decode cX4_isAhead 55 = .ok (.iload_n 3, 1) := by decide +kernel
theorem dX4_isAhead_56 : decode cX4_isAhead 56 = .ok (.iconst 2, 1) := by decide +kernel
theorem dX4_isAhead_57 : decode cX4_isAhead 57 = .ok (.invokevirtual 33, 3) := by decide +kernel
theorem dX4_isAhead_60 : decode cX4_isAhead 60 = .ok (.if_icmp .eq 24, 3) := by decide +kernel
theorem dX4_isAhead_63 : decode cX4_isAhead 63 = .ok (.aload_n 0, 1) := by decide +kernel
theorem dX4_isAhead_64 : decode cX4_isAhead 64 = .ok (.iload_n 1, 1) := by decide +kernel
theorem dX4_isAhead_65 : decode cX4_isAhead 65 = .ok (.iconst 2, 1) := by decide +kernel
theorem dX4_isAhead_66 : decode cX4_isAhead 66 = .ok (.invokevirtual 33, 3) := by decide +kernel
theorem dX4_isAhead_69 : decode cX4_isAhead 69 = .ok (.aload_n 0, 1) := by decide +kernel
theorem dX4_isAhead_70 : decode cX4_isAhead 70 = .ok (.iload_n 3, 1) := by decide +kernel
theorem dX4_isAhead_71 : decode cX4_isAhead 71 = .ok (.iconst 2, 1) := by decide +kernel
theorem dX4_isAhead_72 : decode cX4_isAhead 72 = .ok (.invokevirtual 33, 3) := by decide +kernel
theorem dX4_isAhead_75 : decode cX4_isAhead 75 = .ok (.if_icmp .le 7, 3) := by decide +kernel
theorem dX4_isAhead_78 : decode cX4_isAhead 78 = .ok (.iconst 1, 1) := by decide +kernel
theorem dX4_isAhead_79 : decode cX4_isAhead 79 = .ok (.goto 4, 3) := by decide +kernel
theorem dX4_isAhead_82 : decode cX4_isAhead 82 = .ok (.iconst 0, 1) := by decide +kernel
theorem dX4_isAhead_83 : decode cX4_isAhead 83 = .ok (.ireturn, 1) := by decide +kernel
theorem dX4_isAhead_84 : decode cX4_isAhead 84 = .ok (.aload_n 0, 1) := by decide +kernel
theorem dX4_isAhead_85 : decode cX4_isAhead 85 = .ok (.iload_n 1, 1) := by decide +kernel
theorem dX4_isAhead_86 : decode cX4_isAhead 86 = .ok (.iconst 0, 1) := by decide +kernel
theorem dX4_isAhead_87 : decode cX4_isAhead 87 = .ok (.invokevirtual 33, 3) := by decide +kernel
theorem dX4_isAhead_90 : decode cX4_isAhead 90 = .ok (.aload_n 0, 1) := by decide +kernel
theorem dX4_isAhead_91 : decode cX4_isAhead 91 = .ok (.getfield 7, 3) := by decide +kernel
theorem dX4_isAhead_94 : decode cX4_isAhead 94 = .ok (.iconst 2, 1) := by decide +kernel
theorem dX4_isAhead_95 : decode cX4_isAhead 95 = .ok (.iaload, 1) := by decide +kernel
theorem dX4_isAhead_96 : decode cX4_isAhead 96 = .ok (.isub, 1) := by decide +kernel
theorem dX4_isAhead_97 : decode cX4_isAhead 97 = .ok (.invokestatic 62, 3) := by decide +kernel
theorem dX4_isAhead_100 : decode cX4_isAhead 100 = .ok (.aload_n 0, 1) := by decide +kernel
theorem dX4_isAhead_101 : decode cX4_isAhead 101 = .ok (.iload_n 3, 1) := by decide +kernel
theorem dX4_isAhead_102 : decode cX4_isAhead 102 = .ok (.iconst 0, 1) := by decide +kernel
theorem dX4_isAhead_103 : decode cX4_isAhead 103 = .ok (.invokevirtual 33, 3) := by decide +kernel
theorem dX4_isAhead_106 : decode cX4_isAhead 106 = .ok (.aload_n 0, 1) := by decide +kernel
theorem dX4_isAhead_107 : decode cX4_isAhead 107 = .ok (.getfield 7, 3) := by decide +kernel
theorem dX4_isAhead_110 : decode cX4_isAhead 110 = .ok (.iconst 2, 1) := by decide +kernel
theorem dX4_isAhead_111 : decode cX4_isAhead 111 = .ok (.iaload, 1) := by decide +kernel
theorem dX4_isAhead_112 : decode cX4_isAhead 112 = .ok (.isub, 1) := by decide +kernel
theorem dX4_isAhead_113 : decode cX4_isAhead 113 = .ok (.invokestatic 62, 3) := by decide +kernel
theorem dX4_isAhead_116 : decode cX4_isAhead 116 = .ok (.if_icmp .ge 7, 3) := by decide +kernel
theorem dX4_isAhead_119 : decode cX4_isAhead 119 = .ok (.iconst 1, 1) := by decide +kernel
theorem dX4_isAhead_120 : decode cX4_isAhead 120 = .ok (.goto 4, 3) := by decide +kernel
theorem dX4_isAhead_123 : decode cX4_isAhead 123 = .ok (.iconst 0, 1) := by decide +kernel
theorem dX4_isAhead_124 : decode cX4_isAhead 124 = .ok (.ireturn, 1) := by decide +kernel
set_option maxRecDepth 20000 in
theorem ggX4_next_X4_coldDays : GoodIn wsX4_next wsX4_coldDays := goodIn_r _ [7, 2, 8, 1, 9, 10, 6, 11, 12, 13, 14, 15, 16, 17, 18, 19, 20, 21, 22, 23, 24, 25, 26, 27, 28, 29, 30, 31, 39, 40, 41, 42, 43, 44, 45, 46, 47, 48, 49, 50, 51, 52, 53] (by decide +kernel) (by decide +kernel)
set_option maxRecDepth 20000 in
theorem gX4_next_X4_coldDays : GoodIn wsX4_next (wsV RX4 110 RX4 yX4_coldDays wsX4_coldDays) := goodIn_app (goodIn_of _ (by decide +kernel)) ggX4_next_X4_coldDays
set_option maxRecDepth 20000 in
theorem ggX4_next_X4_of : GoodIn wsX4_next wsX4_of := goodIn_r _ [19, 2, 39, 40, 41, 42, 43, 44, 45, 46, 47, 48, 49, 50, 51, 52, 53] (by decide +kernel) (by decide +kernel)
set_option maxRecDepth 20000 in
theorem gX4_next_X4_of : GoodIn wsX4_next (wsV RX4 33 RX4 yX4_of wsX4_of) := goodIn_app (goodIn_of _ (by decide +kernel)) ggX4_next_X4_of
set_option maxRecDepth 20000 in
theorem ggX4_next_X4_isAhead : GoodIn wsX4_next wsX4_isAhead := goodIn_r _ [35, 2, 16, 17, 18, 6, 19, 36, 37, 38, 39, 40, 41, 42, 43, 44, 45, 46, 47, 48, 49, 50, 51, 52, 53] (by decide +kernel) (by decide +kernel)
set_option maxRecDepth 20000 in
theorem gX4_next_X4_isAhead : GoodIn wsX4_next (wsV RX4 113 RX4 yX4_isAhead wsX4_isAhead) := goodIn_app (goodIn_of _ (by decide +kernel)) ggX4_next_X4_isAhead
theorem dX4_next_0 : decode cX4_next 0 = .ok (.ldc 109, 2) := by decide +kernel
theorem dX4_next_2 : decode cX4_next 2 = .ok (.istore_n 1, 1) := by decide +kernel
theorem dX4_next_3 : decode cX4_next 3 = .ok (.iconst 0, 1) := by decide +kernel
theorem dX4_next_4 : decode cX4_next 4 = .ok (.istore_n 2, 1) := by decide +kernel
theorem dX4_next_5 : decode cX4_next 5 = .ok (.iconst 0, 1) := by decide +kernel
theorem dX4_next_6 : decode cX4_next 6 = .ok (.istore_n 3, 1) := by decide +kernel
theorem dX4_next_7 : decode cX4_next 7 = .ok (.iload_n 3, 1) := by decide +kernel
theorem dX4_next_8 : decode cX4_next 8 = .ok (.aload_n 0, 1) := by decide +kernel
theorem dX4_next_9 : decode cX4_next 9 = .ok (.getfield 7, 3) := by decide +kernel
theorem dX4_next_12 : decode cX4_next 12 = .ok (.iconst 0, 1) := by decide +kernel
theorem dX4_next_13 : decode cX4_next 13 = .ok (.iaload, 1) := by decide +kernel
theorem dX4_next_14 : decode cX4_next 14 = .ok (.if_icmp .ge 71, 3) := by decide +kernel
theorem dX4_next_17 : decode cX4_next 17 = .ok (.aload_n 0, 1) := by decide +kernel
theorem dX4_next_18 : decode cX4_next 18 = .ok (.iload_n 3, 1) := by decide +kernel
theorem dX4_next_19 : decode cX4_next 19 = .ok (.invokevirtual 110, 3) := by decide +kernel
theorem dX4_next_22 : decode cX4_next 22 = .ok (.istore 4, 2) := by decide +kernel
theorem dX4_next_24 : decode cX4_next 24 = .ok (.aload_n 0, 1) := by decide +kernel
theorem dX4_next_25 : decode cX4_next 25 = .ok (.iload_n 3, 1) := by decide +kernel
theorem dX4_next_26 : decode cX4_next 26 = .ok (.iconst 2, 1) := by decide +kernel
theorem dX4_next_27 : decode cX4_next 27 = .ok (.invokevirtual 33, 3) := by decide +kernel
theorem dX4_next_30 : decode cX4_next 30 = .ok (.ifCond .le 23, 3) := by decide +kernel
theorem dX4_next_33 : decode cX4_next 33 = .ok (.iload_n 1, 1) := by decide +kernel
theorem dX4_next_34 : decode cX4_next 34 = .ok (.ifCond .lt 15, 3) := by decide +kernel
theorem dX4_next_37 : decode cX4_next 37 = .ok (.aload_n 0, 1) := by decide +kernel
theorem dX4_next_38 : decode cX4_next 38 = .ok (.iload_n 3, 1) := by decide +kernel
theorem dX4_next_39 : decode cX4_next 39 = .ok (.iload 4, 2) := by decide +kernel
theorem dX4_next_41 : decode cX4_next 41 = .ok (.iload_n 1, 1) := by decide +kernel
theorem dX4_next_42 : decode cX4_next 42 = .ok (.iload_n 2, 1) := by decide +kernel
theorem dX4_next_43 : decode cX4_next 43 = .ok (.invokevirtual 113, 3) := by decide +kernel
theorem dX4_next_46 : decode cX4_next 46 = .ok (.ifCond .eq 7, 3) := by decide +kernel
theorem dX4_next_49 : decode cX4_next 49 = .ok (.iconst 1, 1) := by decide +kernel
theorem dX4_next_50 : decode cX4_next 50 = .ok (.goto 4, 3) := by decide +kernel
theorem dX4_next_53 : decode cX4_next 53 = .ok (.iconst 0, 1) := by decide +kernel
theorem dX4_next_54 : decode cX4_next 54 = .ok (.istore 5, 2) := by decide +kernel
theorem dX4_next_56 : decode cX4_next 56 = .ok (.iload 5, 2) := by decide +kernel
theorem dX4_next_58 : decode cX4_next 58 = .ok (.ifCond .eq 7, 3) := by decide +kernel
theorem dX4_next_61 : decode cX4_next 61 = .ok (.iload_n 3, 1) := by decide +kernel
theorem dX4_next_62 : decode cX4_next 62 = .ok (.goto 4, 3) := by decide +kernel
theorem dX4_next_65 : decode cX4_next 65 = .ok (.iload_n 1, 1) := by decide +kernel
theorem dX4_next_66 : decode cX4_next 66 = .ok (.istore_n 1, 1) := by decide +kernel
theorem dX4_next_67 : decode cX4_next 67 = .ok (.iload 5, 2) := by decide +kernel
theorem dX4_next_69 : decode cX4_next 69 = .ok (.ifCond .eq 8, 3) := by decide +kernel
theorem dX4_next_72 : decode cX4_next 72 = .ok (.iload 4, 2) := by decide +kernel
theorem dX4_next_74 : decode cX4_next 74 = .ok (.goto 4, 3) := by decide +kernel
theorem dX4_next_77 : decode cX4_next 77 = .ok (.iload_n 2, 1) := by decide +kernel
theorem dX4_next_78 : decode cX4_next 78 = .ok (.istore_n 2, 1) := by decide +kernel
theorem dX4_next_79 : decode cX4_next 79 = .ok (.iinc 3 1, 3) := by decide +kernel
theorem dX4_next_82 : decode cX4_next 82 = .ok (.goto (-75), 3) := by decide +kernel
theorem dX4_next_85 : decode cX4_next 85 = .ok (.iload_n 1, 1) := by decide +kernel
theorem dX4_next_86 : decode cX4_next 86 = .ok (.ireturn, 1) := by decide +kernel
set_option maxRecDepth 20000 in
theorem ggX4_nearest_X4_of : GoodIn wsX4_nearest wsX4_of := goodIn_r _ [7, 2, 8, 9, 10, 11, 12, 13, 14, 15, 16, 17, 18, 19, 20, 21, 22] (by decide +kernel) (by decide +kernel)
set_option maxRecDepth 20000 in
theorem gX4_nearest_X4_of : GoodIn wsX4_nearest (wsV RX4 33 RX4 yX4_of wsX4_of) := goodIn_app (goodIn_of _ (by decide +kernel)) ggX4_nearest_X4_of
theorem dX4_nearest_0 : decode cX4_nearest 0 = .ok (.ldc 109, 2) := by decide +kernel
theorem dX4_nearest_2 : decode cX4_nearest 2 = .ok (.istore_n 2, 1) := by decide +kernel
theorem dX4_nearest_3 : decode cX4_nearest 3 = .ok (.iconst 0, 1) := by decide +kernel
theorem dX4_nearest_4 : decode cX4_nearest 4 = .ok (.istore_n 3, 1) := by decide +kernel
theorem dX4_nearest_5 : decode cX4_nearest 5 = .ok (.iload_n 3, 1) := by decide +kernel
theorem dX4_nearest_6 : decode cX4_nearest 6 = .ok (.aload_n 0, 1) := by decide +kernel
theorem dX4_nearest_7 : decode cX4_nearest 7 = .ok (.getfield 7, 3) := by decide +kernel
theorem dX4_nearest_10 : decode cX4_nearest 10 = .ok (.iconst 0, 1) := by decide +kernel
theorem dX4_nearest_11 : decode cX4_nearest 11 = .ok (.iaload, 1) := by decide +kernel
theorem dX4_nearest_12 : decode cX4_nearest 12 = .ok (.if_icmp .ge 55, 3) := by decide +kernel
theorem dX4_nearest_15 : decode cX4_nearest 15 = .ok (.iload_n 1, 1) := by decide +kernel
theorem dX4_nearest_16 : decode cX4_nearest 16 = .ok (.iload_n 3, 1) := by decide +kernel
theorem dX4_nearest_17 : decode cX4_nearest 17 = .ok (.ishr, 1) := by decide +kernel
theorem dX4_nearest_18 : decode cX4_nearest 18 = .ok (.iconst 1, 1) := by decide +kernel
theorem dX4_nearest_19 : decode cX4_nearest 19 = .ok (.iand, 1) := by decide +kernel
theorem dX4_nearest_20 : decode cX4_nearest 20 = .ok (.iconst 1, 1) := by decide +kernel
theorem dX4_nearest_21 : decode cX4_nearest 21 = .ok (.if_icmp .ne 26, 3) := by decide +kernel
theorem dX4_nearest_24 : decode cX4_nearest 24 = .ok (.iload_n 2, 1) := by decide +kernel
theorem dX4_nearest_25 : decode cX4_nearest 25 = .ok (.ifCond .lt 18, 3) := by decide +kernel
theorem dX4_nearest_28 : decode cX4_nearest 28 = .ok (.aload_n 0, 1) := by decide +kernel
theorem dX4_nearest_29 : decode cX4_nearest 29 = .ok (.iload_n 3, 1) := by decide +kernel
theorem dX4_nearest_30 : decode cX4_nearest 30 = .ok (.iconst 0, 1) := by decide +kernel
theorem dX4_nearest_31 : decode cX4_nearest 31 = .ok (.invokevirtual 33, 3) := by decide +kernel
theorem dX4_nearest_34 : decode cX4_nearest 34 = .ok (.aload_n 0, 1) := by decide +kernel
theorem dX4_nearest_35 : decode cX4_nearest 35 = .ok (.iload_n 2, 1) := by decide +kernel
theorem dX4_nearest_36 : decode cX4_nearest 36 = .ok (.iconst 0, 1) := by decide +kernel
theorem dX4_nearest_37 : decode cX4_nearest 37 = .ok (.invokevirtual 33, 3) := by decide +kernel
theorem dX4_nearest_40 : decode cX4_nearest 40 = .ok (.if_icmp .ge 7, 3) := by decide +kernel
theorem dX4_nearest_43 : decode cX4_nearest 43 = .ok (.iconst 1, 1) := by decide +kernel
theorem dX4_nearest_44 : decode cX4_nearest 44 = .ok (.goto 4, 3) := by decide +kernel
theorem dX4_nearest_47 : decode cX4_nearest 47 = .ok (.iconst 0, 1) := by decide +kernel
theorem dX4_nearest_48 : decode cX4_nearest 48 = .ok (.istore 4, 2) := by decide +kernel
theorem dX4_nearest_50 : decode cX4_nearest 50 = .ok (.iload 4, 2) := by decide +kernel
theorem dX4_nearest_52 : decode cX4_nearest 52 = .ok (.ifCond .eq 7, 3) := by decide +kernel
theorem dX4_nearest_55 : decode cX4_nearest 55 = .ok (.iload_n 3, 1) := by decide +kernel
theorem dX4_nearest_56 : decode cX4_nearest 56 = .ok (.goto 4, 3) := by decide +kernel
theorem dX4_nearest_59 : decode cX4_nearest 59 = .ok (.iload_n 2, 1) := by decide +kernel
theorem dX4_nearest_60 : decode cX4_nearest 60 = .ok (.istore_n 2, 1) := by decide +kernel
theorem dX4_nearest_61 : decode cX4_nearest 61 = .ok (.iinc 3 1, 3) := by decide +kernel
theorem dX4_nearest_64 : decode cX4_nearest 64 = .ok (.goto (-59), 3) := by decide +kernel
theorem dX4_nearest_67 : decode cX4_nearest 67 = .ok (.iload_n 2, 1) := by decide +kernel
theorem dX4_nearest_68 : decode cX4_nearest 68 = .ok (.ireturn, 1) := by decide +kernel
set_option maxRecDepth 20000 in
theorem ggX4_round_X4_in : GoodIn wsX4_round wsX4_in := goodIn_r _ [6] (by decide +kernel) (by decide +kernel)
set_option maxRecDepth 20000 in
theorem gX4_round_X4_in : GoodIn wsX4_round (va_wsS RX4 53 yX4_in wsX4_in) := goodIn_app (goodIn_of _ (by decide +kernel)) ggX4_round_X4_in
set_option maxRecDepth 20000 in
theorem ggX4_round_X4_nearest : GoodIn wsX4_round wsX4_nearest := goodIn_r _ [10, 11, 1, 12, 13, 14, 5, 15, 36, 37, 38, 39, 40, 41, 42, 43, 44, 45, 46, 47, 48, 49, 50] (by decide +kernel) (by decide +kernel)
set_option maxRecDepth 20000 in
theorem gX4_round_X4_nearest : GoodIn wsX4_round (wsV RX4 117 RX4 yX4_nearest wsX4_nearest) := goodIn_app (goodIn_of _ (by decide +kernel)) ggX4_round_X4_nearest
set_option maxRecDepth 20000 in
theorem ggX4_round_X4_of : GoodIn wsX4_round wsX4_of := goodIn_r _ [15, 1, 36, 37, 38, 39, 40, 41, 42, 43, 44, 45, 46, 47, 48, 49, 50] (by decide +kernel) (by decide +kernel)
set_option maxRecDepth 20000 in
theorem gX4_round_X4_of : GoodIn wsX4_round (wsV RX4 33 RX4 yX4_of wsX4_of) := goodIn_app (goodIn_of _ (by decide +kernel)) ggX4_round_X4_of
set_option maxRecDepth 20000 in
theorem ggX4_round_X4_hoursBetween : GoodIn wsX4_round wsX4_hoursBetween := goodIn_r _ [18, 19, 20, 5, 21, 22, 23, 24] (by decide +kernel) (by decide +kernel)
set_option maxRecDepth 20000 in
theorem gX4_round_X4_hoursBetween : GoodIn wsX4_round (va_wsS RX4 68 yX4_hoursBetween wsX4_hoursBetween) := goodIn_app (goodIn_of _ (by decide +kernel)) ggX4_round_X4_hoursBetween
set_option maxRecDepth 20000 in
theorem ggX4_round_X4_hoursOf : GoodIn wsX4_round wsX4_hoursOf := goodIn_r _ [27] (by decide +kernel) (by decide +kernel)
set_option maxRecDepth 20000 in
theorem gX4_round_X4_hoursOf : GoodIn wsX4_round (va_wsS RX4 72 yX4_hoursOf wsX4_hoursOf) := goodIn_app (goodIn_of _ (by decide +kernel)) ggX4_round_X4_hoursOf
set_option maxRecDepth 20000 in
theorem ggX4_round_X4_leatherOf : GoodIn wsX4_round wsX4_leatherOf := goodIn_r _ [31, 12, 13, 14, 5, 15, 1, 22, 23, 24, 36, 37, 38, 39, 40, 41, 42, 43, 44, 45, 46, 47, 48, 49, 50] (by decide +kernel) (by decide +kernel)
set_option maxRecDepth 20000 in
theorem gX4_round_X4_leatherOf : GoodIn wsX4_round (wsV RX4 75 RX4 yX4_leatherOf wsX4_leatherOf) := goodIn_app (goodIn_of _ (by decide +kernel)) ggX4_round_X4_leatherOf
set_option maxRecDepth 20000 in
theorem ggX4_round_X4_owes : GoodIn wsX4_round wsX4_owes := goodIn_r _ [35, 1, 25, 26, 5, 27, 28, 29, 30, 31, 12, 13, 14, 15, 22, 23, 24, 36, 37, 38, 39, 40, 41, 42, 43, 44, 45, 46, 47, 48, 49, 50] (by decide +kernel) (by decide +kernel)
set_option maxRecDepth 20000 in
theorem gX4_round_X4_owes : GoodIn wsX4_round (wsV RX4 78 RX4 yX4_owes wsX4_owes) := goodIn_app (goodIn_of _ (by decide +kernel)) ggX4_round_X4_owes
theorem dX4_round_0 : decode cX4_round 0 = .ok (.iload_n 1, 1) := by decide +kernel
theorem dX4_round_1 : decode cX4_round 1 = .ok (.iconst 1, 1) := by decide +kernel
theorem dX4_round_2 : decode cX4_round 2 = .ok (.iconst 1, 1) := by decide +kernel
theorem dX4_round_3 : decode cX4_round 3 = .ok (.aload_n 0, 1) := by decide +kernel
theorem dX4_round_4 : decode cX4_round 4 = .ok (.getfield 7, 3) := by decide +kernel
theorem dX4_round_7 : decode cX4_round 7 = .ok (.iconst 0, 1) := by decide +kernel
theorem dX4_round_8 : decode cX4_round 8 = .ok (.iaload, 1) := by decide +kernel
theorem dX4_round_9 : decode cX4_round 9 = .ok (.ishl, 1) := by decide +kernel
theorem dX4_round_10 : decode cX4_round 10 = .ok (.iconst 1, 1) := by decide +kernel
theorem dX4_round_11 : decode cX4_round 11 = .ok (.isub, 1) := by decide +kernel
theorem dX4_round_12 : decode cX4_round 12 = .ok (.invokestatic 53, 3) := by decide +kernel
theorem dX4_round_15 : decode cX4_round 15 = .ok (.ifCond .eq 12, 3) := by decide +kernel
theorem dX4_round_18 : decode cX4_round 18 = .ok (.iload_n 2, 1) := by decide +kernel
theorem dX4_round_19 : decode cX4_round 19 = .ok (.iconst 0, 1) := by decide +kernel
theorem dX4_round_20 : decode cX4_round 20 = .ok (.iconst 2, 1) := by decide +kernel
theorem dX4_round_21 : decode cX4_round 21 = .ok (.invokestatic 53, 3) := by decide +kernel
theorem dX4_round_24 : decode cX4_round 24 = .ok (.ifCond .ne 6, 3) := by decide +kernel
theorem dX4_round_27 : decode cX4_round 27 = .ok (.ldc 57, 2) := by decide +kernel
theorem dX4_round_29 : decode cX4_round 29 = .ok (.ireturn, 1) := by decide +kernel
theorem dX4_round_30 : decode cX4_round 30 = .ok (.iconst 0, 1) := by decide +kernel
theorem dX4_round_31 : decode cX4_round 31 = .ok (.istore_n 3, 1) := by decide +kernel
theorem dX4_round_32 : decode cX4_round 32 = .ok (.iconst 0, 1) := by decide +kernel
theorem dX4_round_33 : decode cX4_round 33 = .ok (.istore 4, 2) := by decide +kernel
theorem dX4_round_35 : decode cX4_round 35 = .ok (.iconst 0, 1) := by decide +kernel
theorem dX4_round_36 : decode cX4_round 36 = .ok (.istore 5, 2) := by decide +kernel
theorem dX4_round_38 : decode cX4_round 38 = .ok (.aload_n 0, 1) := by decide +kernel
theorem dX4_round_39 : decode cX4_round 39 = .ok (.getfield 7, 3) := by decide +kernel
theorem dX4_round_42 : decode cX4_round 42 = .ok (.iconst 2, 1) := by decide +kernel
theorem dX4_round_43 : decode cX4_round 43 = .ok (.iaload, 1) := by decide +kernel
theorem dX4_round_44 : decode cX4_round 44 = .ok (.istore 6, 2) := by decide +kernel
theorem dX4_round_46 : decode cX4_round 46 = .ok (.iload_n 1, 1) := by decide +kernel
theorem dX4_round_47 : decode cX4_round 47 = .ok (.istore 7, 2) := by decide +kernel
theorem dX4_round_49 : decode cX4_round 49 = .ok (.iload 7, 2) := by decide +kernel
theorem dX4_round_51 : decode cX4_round 51 = .ok (.ifCond .eq 137, 3) := by decide +kernel
theorem dX4_round_54 : decode cX4_round 54 = .ok (.aload_n 0, 1) := by decide +kernel
theorem dX4_round_55 : decode cX4_round 55 = .ok (.iload 7, 2) := by decide +kernel
theorem dX4_round_57 : decode cX4_round 57 = .ok (.invokevirtual 117, 3) := by decide +kernel
theorem dX4_round_60 : decode cX4_round 60 = .ok (.istore 8, 2) := by decide +kernel
theorem dX4_round_62 : decode cX4_round 62 = .ok (.aload_n 0, 1) := by decide +kernel
theorem dX4_round_63 : decode cX4_round 63 = .ok (.iload 8, 2) := by decide +kernel
theorem dX4_round_65 : decode cX4_round 65 = .ok (.iconst 5, 1) := by decide +kernel
theorem dX4_round_66 : decode cX4_round 66 = .ok (.invokevirtual 33, 3) := by decide +kernel
theorem dX4_round_69 : decode cX4_round 69 = .ok (.aload_n 0, 1) := by decide +kernel
theorem dX4_round_70 : decode cX4_round 70 = .ok (.getfield 7, 3) := by decide +kernel
theorem dX4_round_73 : decode cX4_round 73 = .ok (.bipush 13, 2) := by decide +kernel
theorem dX4_round_75 : decode cX4_round 75 = .ok (.iaload, 1) := by decide +kernel
theorem dX4_round_76 : decode cX4_round 76 = .ok (.if_icmp .gt 17, 3) := by decide +kernel
theorem dX4_round_79 : decode cX4_round 79 = .ok (.aload_n 0, 1) := by decide +kernel
theorem dX4_round_80 : decode cX4_round 80 = .ok (.iload 8, 2) := by decide +kernel
theorem dX4_round_82 : decode cX4_round 82 = .ok (.iconst 2, 1) := by decide +kernel
theorem dX4_round_83 : decode cX4_round 83 = .ok (.invokevirtual 33, 3) := by decide +kernel
theorem dX4_round_86 : decode cX4_round 86 = .ok (.ifCond .le 7, 3) := by decide +kernel
theorem dX4_round_89 : decode cX4_round 89 = .ok (.iconst 1, 1) := by decide +kernel
theorem dX4_round_90 : decode cX4_round 90 = .ok (.goto 4, 3) := by decide +kernel
theorem dX4_round_93 : decode cX4_round 93 = .ok (.iconst 0, 1) := by decide +kernel
theorem dX4_round_94 : decode cX4_round 94 = .ok (.istore 9, 2) := by decide +kernel
theorem dX4_round_96 : decode cX4_round 96 = .ok (.iload_n 3, 1) := by decide +kernel
theorem dX4_round_97 : decode cX4_round 97 = .ok (.iload 6, 2) := by decide +kernel
theorem dX4_round_99 : decode cX4_round 99 = .ok (.aload_n 0, 1) := by decide +kernel
theorem dX4_round_100 : decode cX4_round 100 = .ok (.iload 8, 2) := by decide +kernel
theorem dX4_round_102 : decode cX4_round 102 = .ok (.iconst 0, 1) := by decide +kernel
theorem dX4_round_103 : decode cX4_round 103 = .ok (.invokevirtual 33, 3) := by decide +kernel
theorem dX4_round_106 : decode cX4_round 106 = .ok (.invokestatic 68, 3) := by decide +kernel
theorem dX4_round_109 : decode cX4_round 109 = .ok (.iload 9, 2) := by decide +kernel
theorem dX4_round_111 : decode cX4_round 111 = .ok (.ifCond .eq 10, 3) := by decide +kernel
theorem dX4_round_114 : decode cX4_round 114 = .ok (.iconst 0, 1) := by decide +kernel
theorem dX4_round_115 : decode cX4_round 115 = .ok (.invokestatic 72, 3) := by decide +kernel
theorem dX4_round_118 : decode cX4_round 118 = .ok (.goto 4, 3) := by decide +kernel
theorem dX4_round_121 : decode cX4_round 121 = .ok (.iconst 0, 1) := by decide +kernel
theorem dX4_round_122 : decode cX4_round 122 = .ok (.iadd, 1) := by decide +kernel
theorem dX4_round_123 : decode cX4_round 123 = .ok (.iadd, 1) := by decide +kernel
theorem dX4_round_124 : decode cX4_round 124 = .ok (.istore_n 3, 1) := by decide +kernel
theorem dX4_round_125 : decode cX4_round 125 = .ok (.iload 4, 2) := by decide +kernel
theorem dX4_round_127 : decode cX4_round 127 = .ok (.iload 9, 2) := by decide +kernel
theorem dX4_round_129 : decode cX4_round 129 = .ok (.ifCond .eq 13, 3) := by decide +kernel
theorem dX4_round_132 : decode cX4_round 132 = .ok (.aload_n 0, 1) := by decide +kernel
theorem dX4_round_133 : decode cX4_round 133 = .ok (.iload 8, 2) := by decide +kernel
theorem dX4_round_135 : decode cX4_round 135 = .ok (.iconst 0, 1) := by decide +kernel
theorem dX4_round_136 : decode cX4_round 136 = .ok (.invokevirtual 75, 3) := by decide +kernel
theorem dX4_round_139 : decode cX4_round 139 = .ok (.goto 4, 3) := by decide +kernel
theorem dX4_round_142 : decode cX4_round 142 = .ok (.iconst 0, 1) := by decide +kernel
theorem dX4_round_143 : decode cX4_round 143 = .ok (.iadd, 1) := by decide +kernel
theorem dX4_round_144 : decode cX4_round 144 = .ok (.istore 4, 2) := by decide +kernel
theorem dX4_round_146 : decode cX4_round 146 = .ok (.iload 5, 2) := by decide +kernel
theorem dX4_round_148 : decode cX4_round 148 = .ok (.iload 9, 2) := by decide +kernel
theorem dX4_round_150 : decode cX4_round 150 = .ok (.ifCond .eq 13, 3) := by decide +kernel
theorem dX4_round_153 : decode cX4_round 153 = .ok (.aload_n 0, 1) := by decide +kernel
theorem dX4_round_154 : decode cX4_round 154 = .ok (.iload 8, 2) := by decide +kernel
theorem dX4_round_156 : decode cX4_round 156 = .ok (.iconst 0, 1) := by decide +kernel
theorem dX4_round_157 : decode cX4_round 157 = .ok (.invokevirtual 78, 3) := by decide +kernel
theorem dX4_round_160 : decode cX4_round 160 = .ok (.goto 4, 3) := by decide +kernel
theorem dX4_round_163 : decode cX4_round 163 = .ok (.iconst 0, 1) := by decide +kernel
theorem dX4_round_164 : decode cX4_round 164 = .ok (.iadd, 1) := by decide +kernel
theorem dX4_round_165 : decode cX4_round 165 = .ok (.istore 5, 2) := by decide +kernel
theorem dX4_round_167 : decode cX4_round 167 = .ok (.aload_n 0, 1) := by decide +kernel
theorem dX4_round_168 : decode cX4_round 168 = .ok (.iload 8, 2) := by decide +kernel
theorem dX4_round_170 : decode cX4_round 170 = .ok (.iconst 0, 1) := by decide +kernel
theorem dX4_round_171 : decode cX4_round 171 = .ok (.invokevirtual 33, 3) := by decide +kernel
theorem dX4_round_174 : decode cX4_round 174 = .ok (.istore 6, 2) := by decide +kernel
theorem dX4_round_176 : decode cX4_round 176 = .ok (.iload 7, 2) := by decide +kernel
theorem dX4_round_178 : decode cX4_round 178 = .ok (.iconst 1, 1) := by decide +kernel
theorem dX4_round_179 : decode cX4_round 179 = .ok (.iload 8, 2) := by decide +kernel
theorem dX4_round_181 : decode cX4_round 181 = .ok (.ishl, 1) := by decide +kernel
theorem dX4_round_182 : decode cX4_round 182 = .ok (.ixor, 1) := by decide +kernel
theorem dX4_round_183 : decode cX4_round 183 = .ok (.istore 7, 2) := by decide +kernel
theorem dX4_round_185 : decode cX4_round 185 = .ok (.goto (-136), 3) := by decide +kernel
theorem dX4_round_188 : decode cX4_round 188 = .ok (.iload_n 2, 1) := by decide +kernel
theorem dX4_round_189 : decode cX4_round 189 = .ok (.ifCond .ne 7, 3) := by decide +kernel
theorem dX4_round_192 : decode cX4_round 192 = .ok (.iload_n 3, 1) := by decide +kernel
theorem dX4_round_193 : decode cX4_round 193 = .ok (.goto 15, 3) := by decide +kernel
theorem dX4_round_196 : decode cX4_round 196 = .ok (.iload_n 2, 1) := by decide +kernel
theorem dX4_round_197 : decode cX4_round 197 = .ok (.iconst 1, 1) := by decide +kernel
theorem dX4_round_198 : decode cX4_round 198 = .ok (.if_icmp .ne 8, 3) := by decide +kernel
theorem dX4_round_201 : decode cX4_round 201 = .ok (.iload 4, 2) := by decide +kernel
theorem dX4_round_203 : decode cX4_round 203 = .ok (.goto 5, 3) := by decide +kernel
theorem dX4_round_206 : decode cX4_round 206 = .ok (.iload 5, 2) := by decide +kernel
theorem dX4_round_208 : decode cX4_round 208 = .ok (.ireturn, 1) := by decide +kernel
set_option maxRecDepth 20000 in
theorem ggX4_sum_X4_of : GoodIn wsX4_sum wsX4_of := goodIn_r _ [6, 1, 7, 8, 9, 10, 11, 12, 13, 14, 15, 16, 17, 18, 19, 20, 21] (by decide +kernel) (by decide +kernel)
set_option maxRecDepth 20000 in
theorem gX4_sum_X4_of : GoodIn wsX4_sum (wsV RX4 33 RX4 yX4_of wsX4_of) := goodIn_app (goodIn_of _ (by decide +kernel)) ggX4_sum_X4_of
theorem dX4_sum_0 : decode cX4_sum 0 = .ok (.iconst 0, 1) := by decide +kernel
theorem dX4_sum_1 : decode cX4_sum 1 = .ok (.istore_n 2, 1) := by decide +kernel
theorem dX4_sum_2 : decode cX4_sum 2 = .ok (.iconst 0, 1) := by decide +kernel
theorem dX4_sum_3 : decode cX4_sum 3 = .ok (.istore_n 3, 1) := by decide +kernel
theorem dX4_sum_4 : decode cX4_sum 4 = .ok (.iload_n 3, 1) := by decide +kernel
theorem dX4_sum_5 : decode cX4_sum 5 = .ok (.aload_n 0, 1) := by decide +kernel
theorem dX4_sum_6 : decode cX4_sum 6 = .ok (.getfield 7, 3) := by decide +kernel
theorem dX4_sum_9 : decode cX4_sum 9 = .ok (.iconst 0, 1) := by decide +kernel
theorem dX4_sum_10 : decode cX4_sum 10 = .ok (.iaload, 1) := by decide +kernel
theorem dX4_sum_11 : decode cX4_sum 11 = .ok (.if_icmp .ge 18, 3) := by decide +kernel
theorem dX4_sum_14 : decode cX4_sum 14 = .ok (.iload_n 2, 1) := by decide +kernel
theorem dX4_sum_15 : decode cX4_sum 15 = .ok (.aload_n 0, 1) := by decide +kernel
theorem dX4_sum_16 : decode cX4_sum 16 = .ok (.iload_n 3, 1) := by decide +kernel
theorem dX4_sum_17 : decode cX4_sum 17 = .ok (.iload_n 1, 1) := by decide +kernel
theorem dX4_sum_18 : decode cX4_sum 18 = .ok (.invokevirtual 33, 3) := by decide +kernel
theorem dX4_sum_21 : decode cX4_sum 21 = .ok (.iadd, 1) := by decide +kernel
theorem dX4_sum_22 : decode cX4_sum 22 = .ok (.istore_n 2, 1) := by decide +kernel
theorem dX4_sum_23 : decode cX4_sum 23 = .ok (.iinc 3 1, 3) := by decide +kernel
theorem dX4_sum_26 : decode cX4_sum 26 = .ok (.goto (-22), 3) := by decide +kernel
theorem dX4_sum_29 : decode cX4_sum 29 = .ok (.iload_n 2, 1) := by decide +kernel
theorem dX4_sum_30 : decode cX4_sum 30 = .ok (.ireturn, 1) := by decide +kernel
set_option maxRecDepth 20000 in
theorem ggX4_mean_X4_sum : GoodIn wsX4_mean wsX4_sum := goodIn_r _ [7, 1, 8, 9, 10, 6, 11, 24, 25, 26, 27, 28, 29, 30, 31, 32, 33, 34, 35, 36, 37, 38] (by decide +kernel) (by decide +kernel)
set_option maxRecDepth 20000 in
theorem gX4_mean_X4_sum : GoodIn wsX4_mean (wsV RX4 120 RX4 yX4_sum wsX4_sum) := goodIn_app (goodIn_of _ (by decide +kernel)) ggX4_mean_X4_sum
set_option maxRecDepth 20000 in
theorem ggX4_mean_Jxf58ca_floatToIntBits_5c35a : GoodIn wsX4_mean wsJxf58ca_floatToIntBits_5c35a := goodIn_r _ [15, 16, 17, 18, 19, 20, 21, 22, 14, 23] (by decide +kernel) (by decide +kernel)
set_option maxRecDepth 20000 in
theorem gX4_mean_Jxf58ca_floatToIntBits_5c35a : GoodIn wsX4_mean (va_wsS RX4 123 yJxf58ca_floatToIntBits_5c35a wsJxf58ca_floatToIntBits_5c35a) := goodIn_app (goodIn_of _ (by decide +kernel)) ggX4_mean_Jxf58ca_floatToIntBits_5c35a
theorem dX4_mean_0 : decode cX4_mean 0 = .ok (.aload_n 0, 1) := by decide +kernel
theorem dX4_mean_1 : decode cX4_mean 1 = .ok (.iconst 2, 1) := by decide +kernel
theorem dX4_mean_2 : decode cX4_mean 2 = .ok (.invokevirtual 120, 3) := by decide +kernel
theorem dX4_mean_5 : decode cX4_mean 5 = .ok (.i2f, 1) := by decide +kernel
theorem dX4_mean_6 : decode cX4_mean 6 = .ok (.aload_n 0, 1) := by decide +kernel
theorem dX4_mean_7 : decode cX4_mean 7 = .ok (.getfield 7, 3) := by decide +kernel
theorem dX4_mean_10 : decode cX4_mean 10 = .ok (.iconst 0, 1) := by decide +kernel
theorem dX4_mean_11 : decode cX4_mean 11 = .ok (.iaload, 1) := by decide +kernel
theorem dX4_mean_12 : decode cX4_mean 12 = .ok (.ifCond .ne 7, 3) := by decide +kernel
theorem dX4_mean_15 : decode cX4_mean 15 = .ok (.iconst 1, 1) := by decide +kernel
theorem dX4_mean_16 : decode cX4_mean 16 = .ok (.goto 9, 3) := by decide +kernel
theorem dX4_mean_19 : decode cX4_mean 19 = .ok (.aload_n 0, 1) := by decide +kernel
theorem dX4_mean_20 : decode cX4_mean 20 = .ok (.getfield 7, 3) := by decide +kernel
theorem dX4_mean_23 : decode cX4_mean 23 = .ok (.iconst 0, 1) := by decide +kernel
theorem dX4_mean_24 : decode cX4_mean 24 = .ok (.iaload, 1) := by decide +kernel
theorem dX4_mean_25 : decode cX4_mean 25 = .ok (.i2f, 1) := by decide +kernel
theorem dX4_mean_26 : decode cX4_mean 26 = .ok (.fdiv, 1) := by decide +kernel
theorem dX4_mean_27 : decode cX4_mean 27 = .ok (.fstore_n 1, 1) := by decide +kernel
theorem dX4_mean_28 : decode cX4_mean 28 = .ok (.aload_n 0, 1) := by decide +kernel
theorem dX4_mean_29 : decode cX4_mean 29 = .ok (.getfield 7, 3) := by decide +kernel
theorem dX4_mean_32 : decode cX4_mean 32 = .ok (.iconst 0, 1) := by decide +kernel
theorem dX4_mean_33 : decode cX4_mean 33 = .ok (.iaload, 1) := by decide +kernel
theorem dX4_mean_34 : decode cX4_mean 34 = .ok (.ifCond .ne 8, 3) := by decide +kernel
theorem dX4_mean_37 : decode cX4_mean 37 = .ok (.ldc 109, 2) := by decide +kernel
theorem dX4_mean_39 : decode cX4_mean 39 = .ok (.goto 7, 3) := by decide +kernel
theorem dX4_mean_42 : decode cX4_mean 42 = .ok (.fload_n 1, 1) := by decide +kernel
theorem dX4_mean_43 : decode cX4_mean 43 = .ok (.invokestatic 123, 3) := by decide +kernel
theorem dX4_mean_46 : decode cX4_mean 46 = .ok (.ireturn, 1) := by decide +kernel
set_option maxRecDepth 20000 in
theorem ggX4_count_X4_sum : GoodIn wsX4_count wsX4_sum := goodIn_r _ [9, 1, 10, 11, 12, 8, 13, 25, 26, 27, 28, 29, 30, 31, 32, 33, 34, 35, 36, 37, 38, 39] (by decide +kernel) (by decide +kernel)
set_option maxRecDepth 20000 in
theorem gX4_count_X4_sum : GoodIn wsX4_count (wsV RX4 120 RX4 yX4_sum wsX4_sum) := goodIn_app (goodIn_of _ (by decide +kernel)) ggX4_count_X4_sum
set_option maxRecDepth 20000 in
theorem ggX4_count_X4_coldOnes : GoodIn wsX4_count wsX4_coldOnes := goodIn_r _ [17, 1, 18, 19, 20, 8, 21, 10, 11, 12, 13, 25, 26, 27, 28, 29, 30, 31, 32, 33, 34, 35, 36, 37, 38, 39] (by decide +kernel) (by decide +kernel)
set_option maxRecDepth 20000 in
theorem gX4_count_X4_coldOnes : GoodIn wsX4_count (wsV RX4 94 RX4 yX4_coldOnes wsX4_coldOnes) := goodIn_app (goodIn_of _ (by decide +kernel)) ggX4_count_X4_coldOnes
set_option maxRecDepth 20000 in
theorem ggX4_count_X4_in : GoodIn wsX4_count wsX4_in := goodIn_r _ [24] (by decide +kernel) (by decide +kernel)
set_option maxRecDepth 20000 in
theorem gX4_count_X4_in : GoodIn wsX4_count (va_wsS RX4 53 yX4_in wsX4_in) := goodIn_app (goodIn_of _ (by decide +kernel)) ggX4_count_X4_in
theorem dX4_count_0 : decode cX4_count 0 = .ok (.iload_n 1, 1) := by decide +kernel
theorem dX4_count_1 : decode cX4_count 1 = .ok (.tableswitch 124 0 13 #[71, 71, 71, 71, 71, 71, 78, 84, 84, 93, 98, 106, 114, 119], 71) := by decide +kernel
theorem dX4_count_72 : decode cX4_count 72 = .ok (.aload_n 0, 1) := by decide +kernel
theorem dX4_count_73 : decode cX4_count 73 = .ok (.getfield 7, 3) := by decide +kernel
theorem dX4_count_76 : decode cX4_count 76 = .ok (.iload_n 1, 1) := by decide +kernel
theorem dX4_count_77 : decode cX4_count 77 = .ok (.iaload, 1) := by decide +kernel
theorem dX4_count_78 : decode cX4_count 78 = .ok (.ireturn, 1) := by decide +kernel
theorem dX4_count_79 : decode cX4_count 79 = .ok (.aload_n 0, 1) := by decide +kernel
theorem dX4_count_80 : decode cX4_count 80 = .ok (.iconst 5, 1) := by decide +kernel
theorem dX4_count_81 : decode cX4_count 81 = .ok (.invokevirtual 120, 3) := by decide +kernel
theorem dX4_count_84 : decode cX4_count 84 = .ok (.ireturn, 1) := by decide +kernel
theorem dX4_count_85 : decode cX4_count 85 = .ok (.aload_n 0, 1) := by decide +kernel
theorem dX4_count_86 : decode cX4_count 86 = .ok (.getfield 7, 3) := by decide +kernel
theorem dX4_count_89 : decode cX4_count 89 = .ok (.iload_n 1, 1) := by decide +kernel
theorem dX4_count_90 : decode cX4_count 90 = .ok (.iconst 1, 1) := by decide +kernel
theorem dX4_count_91 : decode cX4_count 91 = .ok (.isub, 1) := by decide +kernel
theorem dX4_count_92 : decode cX4_count 92 = .ok (.iaload, 1) := by decide +kernel
theorem dX4_count_93 : decode cX4_count 93 = .ok (.ireturn, 1) := by decide +kernel
theorem dX4_count_94 : decode cX4_count 94 = .ok (.aload_n 0, 1) := by decide +kernel
theorem dX4_count_95 : decode cX4_count 95 = .ok (.invokevirtual 94, 3) := by decide +kernel
theorem dX4_count_98 : decode cX4_count 98 = .ok (.ireturn, 1) := by decide +kernel
theorem dX4_count_99 : decode cX4_count 99 = .ok (.aload_n 0, 1) := by decide +kernel
theorem dX4_count_100 : decode cX4_count 100 = .ok (.getfield 7, 3) := by decide +kernel
theorem dX4_count_103 : decode cX4_count 103 = .ok (.bipush 8, 2) := by decide +kernel
theorem dX4_count_105 : decode cX4_count 105 = .ok (.iaload, 1) := by decide +kernel
theorem dX4_count_106 : decode cX4_count 106 = .ok (.ireturn, 1) := by decide +kernel
theorem dX4_count_107 : decode cX4_count 107 = .ok (.aload_n 0, 1) := by decide +kernel
theorem dX4_count_108 : decode cX4_count 108 = .ok (.getfield 7, 3) := by decide +kernel
theorem dX4_count_111 : decode cX4_count 111 = .ok (.bipush 9, 2) := by decide +kernel
theorem dX4_count_113 : decode cX4_count 113 = .ok (.iaload, 1) := by decide +kernel
theorem dX4_count_114 : decode cX4_count 114 = .ok (.ireturn, 1) := by decide +kernel
theorem dX4_count_115 : decode cX4_count 115 = .ok (.aload_n 0, 1) := by decide +kernel
theorem dX4_count_116 : decode cX4_count 116 = .ok (.getfield 29, 3) := by decide +kernel
theorem dX4_count_119 : decode cX4_count 119 = .ok (.ireturn, 1) := by decide +kernel
theorem dX4_count_120 : decode cX4_count 120 = .ok (.aload_n 0, 1) := by decide +kernel
theorem dX4_count_121 : decode cX4_count 121 = .ok (.getfield 129, 3) := by decide +kernel
theorem dX4_count_124 : decode cX4_count 124 = .ok (.ireturn, 1) := by decide +kernel
theorem dX4_count_125 : decode cX4_count 125 = .ok (.iload_n 1, 1) := by decide +kernel
theorem dX4_count_126 : decode cX4_count 126 = .ok (.bipush 20, 2) := by decide +kernel
theorem dX4_count_128 : decode cX4_count 128 = .ok (.bipush 23, 2) := by decide +kernel
theorem dX4_count_130 : decode cX4_count 130 = .ok (.invokestatic 53, 3) := by decide +kernel
theorem dX4_count_133 : decode cX4_count 133 = .ok (.ifCond .eq 18, 3) := by decide +kernel
theorem dX4_count_136 : decode cX4_count 136 = .ok (.aload_n 0, 1) := by decide +kernel
theorem dX4_count_137 : decode cX4_count 137 = .ok (.getfield 7, 3) := by decide +kernel
theorem dX4_count_140 : decode cX4_count 140 = .ok (.bipush 10, 2) := by decide +kernel
theorem dX4_count_142 : decode cX4_count 142 = .ok (.iload_n 1, 1) := by decide +kernel
theorem dX4_count_143 : decode cX4_count 143 = .ok (.iadd, 1) := by decide +kernel
theorem dX4_count_144 : decode cX4_count 144 = .ok (.bipush 20, 2) := by decide +kernel
theorem dX4_count_146 : decode cX4_count 146 = .ok (.isub, 1) := by decide +kernel
theorem dX4_count_147 : decode cX4_count 147 = .ok (.iaload, 1) := by decide +kernel
theorem dX4_count_148 : decode cX4_count 148 = .ok (.goto 5, 3) := by decide +kernel
theorem dX4_count_151 : decode cX4_count 151 = .ok (.ldc 57, 2) := by decide +kernel
theorem dX4_count_153 : decode cX4_count 153 = .ok (.ireturn, 1) := by decide +kernel
theorem dX4_undo_0 : decode cX4_undo 0 = .ok (.aload_n 0, 1) := by decide +kernel
theorem dX4_undo_1 : decode cX4_undo 1 = .ok (.getfield 29, 3) := by decide +kernel
theorem dX4_undo_4 : decode cX4_undo 4 = .ok (.ifCond .ne 6, 3) := by decide +kernel
theorem dX4_undo_7 : decode cX4_undo 7 = .ok (.ldc 71, 2) := by decide +kernel
theorem dX4_undo_9 : decode cX4_undo 9 = .ok (.ireturn, 1) := by decide +kernel
theorem dX4_undo_10 : decode cX4_undo 10 = .ok (.aload_n 0, 1) := by decide +kernel
theorem dX4_undo_11 : decode cX4_undo 11 = .ok (.dup, 1) := by decide +kernel
theorem dX4_undo_12 : decode cX4_undo 12 = .ok (.getfield 29, 3) := by decide +kernel
theorem dX4_undo_15 : decode cX4_undo 15 = .ok (.iconst 1, 1) := by decide +kernel
theorem dX4_undo_16 : decode cX4_undo 16 = .ok (.isub, 1) := by decide +kernel
theorem dX4_undo_17 : decode cX4_undo 17 = .ok (.putfield 29, 3) := by decide +kernel
theorem dX4_undo_20 : decode cX4_undo 20 = .ok (.iconst 0, 1) := by decide +kernel
theorem dX4_undo_21 : decode cX4_undo 21 = .ok (.istore_n 1, 1) := by decide +kernel
theorem dX4_undo_22 : decode cX4_undo 22 = .ok (.iload_n 1, 1) := by decide +kernel
theorem dX4_undo_23 : decode cX4_undo 23 = .ok (.bipush 78, 2) := by decide +kernel
theorem dX4_undo_25 : decode cX4_undo 25 = .ok (.if_icmp .ge 29, 3) := by decide +kernel
theorem dX4_undo_28 : decode cX4_undo 28 = .ok (.aload_n 0, 1) := by decide +kernel
theorem dX4_undo_29 : decode cX4_undo 29 = .ok (.getfield 7, 3) := by decide +kernel
theorem dX4_undo_32 : decode cX4_undo 32 = .ok (.iload_n 1, 1) := by decide +kernel
theorem dX4_undo_33 : decode cX4_undo 33 = .ok (.aload_n 0, 1) := by decide +kernel
theorem dX4_undo_34 : decode cX4_undo 34 = .ok (.getfield 13, 3) := by decide +kernel
theorem dX4_undo_37 : decode cX4_undo 37 = .ok (.bipush 78, 2) := by decide +kernel
theorem dX4_undo_39 : decode cX4_undo 39 = .ok (.aload_n 0, 1) := by decide +kernel
theorem dX4_undo_40 : decode cX4_undo 40 = .ok (.getfield 29, 3) := by decide +kernel
theorem dX4_undo_43 : decode cX4_undo 43 = .ok (.imul, 1) := by decide +kernel
theorem dX4_undo_44 : decode cX4_undo 44 = .ok (.iload_n 1, 1) := by decide +kernel
theorem dX4_undo_45 : decode cX4_undo 45 = .ok (.iadd, 1) := by decide +kernel
theorem dX4_undo_46 : decode cX4_undo 46 = .ok (.iaload, 1) := by decide +kernel
theorem dX4_undo_47 : decode cX4_undo 47 = .ok (.iastore, 1) := by decide +kernel
theorem dX4_undo_48 : decode cX4_undo 48 = .ok (.iinc 1 1, 3) := by decide +kernel
theorem dX4_undo_51 : decode cX4_undo 51 = .ok (.goto (-29), 3) := by decide +kernel
theorem dX4_undo_54 : decode cX4_undo 54 = .ok (.aload_n 0, 1) := by decide +kernel
theorem dX4_undo_55 : decode cX4_undo 55 = .ok (.getfield 29, 3) := by decide +kernel
theorem dX4_undo_58 : decode cX4_undo 58 = .ok (.ireturn, 1) := by decide +kernel
set_option maxRecDepth 20000 in
theorem ggX4_type_X4_in : GoodIn wsX4_type wsX4_in := goodIn_r _ [8] (by decide +kernel) (by decide +kernel)
set_option maxRecDepth 20000 in
theorem gX4_type_X4_in : GoodIn wsX4_type (va_wsS RX4 53 yX4_in wsX4_in) := goodIn_app (goodIn_of _ (by decide +kernel)) ggX4_type_X4_in
theorem dX4_type_0 : decode cX4_type 0 = .ok (.iload_n 1, 1) := by decide +kernel
theorem dX4_type_1 : decode cX4_type 1 = .ok (.bipush 32, 2) := by decide +kernel
theorem dX4_type_3 : decode cX4_type 3 = .ok (.bipush 126, 2) := by decide +kernel
theorem dX4_type_5 : decode cX4_type 5 = .ok (.invokestatic 53, 3) := by decide +kernel
theorem dX4_type_8 : decode cX4_type 8 = .ok (.ifCond .ne 6, 3) := by decide +kernel
theorem dX4_type_11 : decode cX4_type 11 = .ok (.ldc 57, 2) := by decide +kernel
theorem dX4_type_13 : decode cX4_type 13 = .ok (.ireturn, 1) := by decide +kernel
theorem dX4_type_14 : decode cX4_type 14 = .ok (.aload_n 0, 1) := by decide +kernel
theorem dX4_type_15 : decode cX4_type 15 = .ok (.getfield 129, 3) := by decide +kernel
theorem dX4_type_18 : decode cX4_type 18 = .ok (.bipush 60, 2) := by decide +kernel
theorem dX4_type_20 : decode cX4_type 20 = .ok (.if_icmp .ne 6, 3) := by decide +kernel
theorem dX4_type_23 : decode cX4_type 23 = .ok (.ldc 58, 2) := by decide +kernel
theorem dX4_type_25 : decode cX4_type 25 = .ok (.ireturn, 1) := by decide +kernel
theorem dX4_type_26 : decode cX4_type 26 = .ok (.aload_n 0, 1) := by decide +kernel
theorem dX4_type_27 : decode cX4_type 27 = .ok (.getfield 22, 3) := by decide +kernel
theorem dX4_type_30 : decode cX4_type 30 = .ok (.aload_n 0, 1) := by decide +kernel
theorem dX4_type_31 : decode cX4_type 31 = .ok (.getfield 129, 3) := by decide +kernel
theorem dX4_type_34 : decode cX4_type 34 = .ok (.iload_n 1, 1) := by decide +kernel
theorem dX4_type_35 : decode cX4_type 35 = .ok (.iastore, 1) := by decide +kernel
theorem dX4_type_36 : decode cX4_type 36 = .ok (.aload_n 0, 1) := by decide +kernel
theorem dX4_type_37 : decode cX4_type 37 = .ok (.dup, 1) := by decide +kernel
theorem dX4_type_38 : decode cX4_type 38 = .ok (.getfield 129, 3) := by decide +kernel
theorem dX4_type_41 : decode cX4_type 41 = .ok (.iconst 1, 1) := by decide +kernel
theorem dX4_type_42 : decode cX4_type 42 = .ok (.iadd, 1) := by decide +kernel
theorem dX4_type_43 : decode cX4_type 43 = .ok (.putfield 129, 3) := by decide +kernel
theorem dX4_type_46 : decode cX4_type 46 = .ok (.aload_n 0, 1) := by decide +kernel
theorem dX4_type_47 : decode cX4_type 47 = .ok (.getfield 129, 3) := by decide +kernel
theorem dX4_type_50 : decode cX4_type 50 = .ok (.ireturn, 1) := by decide +kernel
theorem dX4_clearText_0 : decode cX4_clearText 0 = .ok (.aload_n 0, 1) := by decide +kernel
theorem dX4_clearText_1 : decode cX4_clearText 1 = .ok (.getfield 129, 3) := by decide +kernel
theorem dX4_clearText_4 : decode cX4_clearText 4 = .ok (.istore_n 1, 1) := by decide +kernel
theorem dX4_clearText_5 : decode cX4_clearText 5 = .ok (.aload_n 0, 1) := by decide +kernel
theorem dX4_clearText_6 : decode cX4_clearText 6 = .ok (.iconst 0, 1) := by decide +kernel
theorem dX4_clearText_7 : decode cX4_clearText 7 = .ok (.putfield 129, 3) := by decide +kernel
theorem dX4_clearText_10 : decode cX4_clearText 10 = .ok (.iload_n 1, 1) := by decide +kernel
theorem dX4_clearText_11 : decode cX4_clearText 11 = .ok (.ireturn, 1) := by decide +kernel
set_option maxRecDepth 20000 in
theorem ggX4_isAt_X4_in : GoodIn wsX4_isAt wsX4_in := goodIn_r _ [7] (by decide +kernel) (by decide +kernel)
set_option maxRecDepth 20000 in
theorem gX4_isAt_X4_in : GoodIn wsX4_isAt (va_wsS RX4 53 yX4_in wsX4_in) := goodIn_app (goodIn_of _ (by decide +kernel)) ggX4_isAt_X4_in
theorem dX4_isAt_0 : decode cX4_isAt 0 = .ok (.aload_n 0, 1) := by decide +kernel
theorem dX4_isAt_1 : decode cX4_isAt 1 = .ok (.getfield 132, 3) := by decide +kernel
theorem dX4_isAt_4 : decode cX4_isAt 4 = .ok (.aload_n 0, 1) := by decide +kernel
theorem dX4_isAt_5 : decode cX4_isAt 5 = .ok (.getfield 129, 3) := by decide +kernel
theorem dX4_isAt_8 : decode cX4_isAt 8 = .ok (.if_icmp .ge 24, 3) := by decide +kernel
theorem dX4_isAt_11 : decode cX4_isAt 11 = .ok (.aload_n 0, 1) := by decide +kernel
theorem dX4_isAt_12 : decode cX4_isAt 12 = .ok (.getfield 22, 3) := by decide +kernel
theorem dX4_isAt_15 : decode cX4_isAt 15 = .ok (.aload_n 0, 1) := by decide +kernel
theorem dX4_isAt_16 : decode cX4_isAt 16 = .ok (.getfield 132, 3) := by decide +kernel
theorem dX4_isAt_19 : decode cX4_isAt 19 = .ok (.iaload, 1) := by decide +kernel
theorem dX4_isAt_20 : decode cX4_isAt 20 = .ok (.iload_n 1, 1) := by decide +kernel
theorem dX4_isAt_21 : decode cX4_isAt 21 = .ok (.iload_n 2, 1) := by decide +kernel
theorem dX4_isAt_22 : decode cX4_isAt 22 = .ok (.invokestatic 53, 3) := by decide +kernel
theorem dX4_isAt_25 : decode cX4_isAt 25 = .ok (.ifCond .eq 7, 3) := by decide +kernel
theorem dX4_isAt_28 : decode cX4_isAt 28 = .ok (.iconst 1, 1) := by decide +kernel
theorem dX4_isAt_29 : decode cX4_isAt 29 = .ok (.goto 4, 3) := by decide +kernel
theorem dX4_isAt_32 : decode cX4_isAt 32 = .ok (.iconst 0, 1) := by decide +kernel
theorem dX4_isAt_33 : decode cX4_isAt 33 = .ok (.ireturn, 1) := by decide +kernel
set_option maxRecDepth 20000 in
theorem ggX4_reads_X4_isAt : GoodIn wsX4_reads wsX4_isAt := goodIn_r _ [9, 2, 10, 1, 11, 12, 8, 13, 14, 15, 16, 17, 18, 19, 20, 21, 22, 23, 24, 25, 26, 27, 28] (by decide +kernel) (by decide +kernel)
set_option maxRecDepth 20000 in
theorem gX4_reads_X4_isAt : GoodIn wsX4_reads (wsV RX4 135 RX4 yX4_isAt wsX4_isAt) := goodIn_app (goodIn_of _ (by decide +kernel)) ggX4_reads_X4_isAt
theorem dX4_reads_0 : decode cX4_reads 0 = .ok (.aload_n 0, 1) := by decide +kernel
theorem dX4_reads_1 : decode cX4_reads 1 = .ok (.aload_n 0, 1) := by decide +kernel
theorem dX4_reads_2 : decode cX4_reads 2 = .ok (.bipush 33, 2) := by decide +kernel
theorem dX4_reads_4 : decode cX4_reads 4 = .ok (.bipush 126, 2) := by decide +kernel
theorem dX4_reads_6 : decode cX4_reads 6 = .ok (.invokevirtual 135, 3) := by decide +kernel
theorem dX4_reads_9 : decode cX4_reads 9 = .ok (.ifCond .eq 15, 3) := by decide +kernel
theorem dX4_reads_12 : decode cX4_reads 12 = .ok (.aload_n 0, 1) := by decide +kernel
theorem dX4_reads_13 : decode cX4_reads 13 = .ok (.getfield 22, 3) := by decide +kernel
theorem dX4_reads_16 : decode cX4_reads 16 = .ok (.aload_n 0, 1) := by decide +kernel
theorem dX4_reads_17 : decode cX4_reads 17 = .ok (.getfield 132, 3) := by decide +kernel
theorem dX4_reads_20 : decode cX4_reads 20 = .ok (.iaload, 1) := by decide +kernel
theorem dX4_reads_21 : decode cX4_reads 21 = .ok (.goto 4, 3) := by decide +kernel
theorem dX4_reads_24 : decode cX4_reads 24 = .ok (.iconst 0, 1) := by decide +kernel
theorem dX4_reads_25 : decode cX4_reads 25 = .ok (.putfield 138, 3) := by decide +kernel
theorem dX4_reads_28 : decode cX4_reads 28 = .ok (.aload_n 0, 1) := by decide +kernel
theorem dX4_reads_29 : decode cX4_reads 29 = .ok (.getfield 138, 3) := by decide +kernel
theorem dX4_reads_32 : decode cX4_reads 32 = .ok (.bipush 119, 2) := by decide +kernel
theorem dX4_reads_34 : decode cX4_reads 34 = .ok (.if_icmp .eq 50, 3) := by decide +kernel
theorem dX4_reads_37 : decode cX4_reads 37 = .ok (.aload_n 0, 1) := by decide +kernel
theorem dX4_reads_38 : decode cX4_reads 38 = .ok (.getfield 138, 3) := by decide +kernel
theorem dX4_reads_41 : decode cX4_reads 41 = .ok (.bipush 98, 2) := by decide +kernel
theorem dX4_reads_43 : decode cX4_reads 43 = .ok (.if_icmp .eq 41, 3) := by decide +kernel
theorem dX4_reads_46 : decode cX4_reads 46 = .ok (.aload_n 0, 1) := by decide +kernel
theorem dX4_reads_47 : decode cX4_reads 47 = .ok (.getfield 138, 3) := by decide +kernel
theorem dX4_reads_50 : decode cX4_reads 50 = .ok (.bipush 112, 2) := by decide +kernel
theorem dX4_reads_52 : decode cX4_reads 52 = .ok (.if_icmp .eq 32, 3) := by decide +kernel
theorem dX4_reads_55 : decode cX4_reads 55 = .ok (.aload_n 0, 1) := by decide +kernel
theorem dX4_reads_56 : decode cX4_reads 56 = .ok (.getfield 138, 3) := by decide +kernel
theorem dX4_reads_59 : decode cX4_reads 59 = .ok (.bipush 104, 2) := by decide +kernel
theorem dX4_reads_61 : decode cX4_reads 61 = .ok (.if_icmp .eq 23, 3) := by decide +kernel
theorem dX4_reads_64 : decode cX4_reads 64 = .ok (.aload_n 0, 1) := by decide +kernel
theorem dX4_reads_65 : decode cX4_reads 65 = .ok (.getfield 138, 3) := by decide +kernel
theorem dX4_reads_68 : decode cX4_reads 68 = .ok (.bipush 99, 2) := by decide +kernel
theorem dX4_reads_70 : decode cX4_reads 70 = .ok (.if_icmp .eq 14, 3) := by decide +kernel
theorem dX4_reads_73 : decode cX4_reads 73 = .ok (.aload_n 0, 1) := by decide +kernel
theorem dX4_reads_74 : decode cX4_reads 74 = .ok (.getfield 138, 3) := by decide +kernel
theorem dX4_reads_77 : decode cX4_reads 77 = .ok (.bipush 100, 2) := by decide +kernel
theorem dX4_reads_79 : decode cX4_reads 79 = .ok (.if_icmp .eq 5, 3) := by decide +kernel
theorem dX4_reads_82 : decode cX4_reads 82 = .ok (.iconst 0, 1) := by decide +kernel
theorem dX4_reads_83 : decode cX4_reads 83 = .ok (.ireturn, 1) := by decide +kernel
theorem dX4_reads_84 : decode cX4_reads 84 = .ok (.aload_n 0, 1) := by decide +kernel
theorem dX4_reads_85 : decode cX4_reads 85 = .ok (.dup, 1) := by decide +kernel
theorem dX4_reads_86 : decode cX4_reads 86 = .ok (.getfield 132, 3) := by decide +kernel
theorem dX4_reads_89 : decode cX4_reads 89 = .ok (.iconst 1, 1) := by decide +kernel
theorem dX4_reads_90 : decode cX4_reads 90 = .ok (.iadd, 1) := by decide +kernel
theorem dX4_reads_91 : decode cX4_reads 91 = .ok (.putfield 132, 3) := by decide +kernel
theorem dX4_reads_94 : decode cX4_reads 94 = .ok (.aload_n 0, 1) := by decide +kernel
theorem dX4_reads_95 : decode cX4_reads 95 = .ok (.getfield 132, 3) := by decide +kernel
theorem dX4_reads_98 : decode cX4_reads 98 = .ok (.istore_n 1, 1) := by decide +kernel
theorem dX4_reads_99 : decode cX4_reads 99 = .ok (.aload_n 0, 1) := by decide +kernel
theorem dX4_reads_100 : decode cX4_reads 100 = .ok (.iconst 0, 1) := by decide +kernel
theorem dX4_reads_101 : decode cX4_reads 101 = .ok (.putfield 141, 3) := by decide +kernel
theorem dX4_reads_104 : decode cX4_reads 104 = .ok (.aload_n 0, 1) := by decide +kernel
theorem dX4_reads_105 : decode cX4_reads 105 = .ok (.bipush 48, 2) := by decide +kernel
theorem dX4_reads_107 : decode cX4_reads 107 = .ok (.bipush 57, 2) := by decide +kernel
theorem dX4_reads_109 : decode cX4_reads 109 = .ok (.invokevirtual 135, 3) := by decide +kernel
theorem dX4_reads_112 : decode cX4_reads 112 = .ok (.ifCond .eq 50, 3) := by decide +kernel
theorem dX4_reads_115 : decode cX4_reads 115 = .ok (.aload_n 0, 1) := by decide +kernel
theorem dX4_reads_116 : decode cX4_reads 116 = .ok (.getfield 132, 3) := by decide +kernel
theorem dX4_reads_119 : decode cX4_reads 119 = .ok (.iload_n 1, 1) := by decide +kernel
theorem dX4_reads_120 : decode cX4_reads 120 = .ok (.isub, 1) := by decide +kernel
theorem dX4_reads_121 : decode cX4_reads 121 = .ok (.iconst 3, 1) := by decide +kernel
theorem dX4_reads_122 : decode cX4_reads 122 = .ok (.if_icmp .ge 40, 3) := by decide +kernel
theorem dX4_reads_125 : decode cX4_reads 125 = .ok (.aload_n 0, 1) := by decide +kernel
theorem dX4_reads_126 : decode cX4_reads 126 = .ok (.bipush 10, 2) := by decide +kernel
theorem dX4_reads_128 : decode cX4_reads 128 = .ok (.aload_n 0, 1) := by decide +kernel
theorem dX4_reads_129 : decode cX4_reads 129 = .ok (.getfield 141, 3) := by decide +kernel
theorem dX4_reads_132 : decode cX4_reads 132 = .ok (.imul, 1) := by decide +kernel
theorem dX4_reads_133 : decode cX4_reads 133 = .ok (.aload_n 0, 1) := by decide +kernel
theorem dX4_reads_134 : decode cX4_reads 134 = .ok (.getfield 22, 3) := by decide +kernel
theorem dX4_reads_137 : decode cX4_reads 137 = .ok (.aload_n 0, 1) := by decide +kernel
theorem dX4_reads_138 : decode cX4_reads 138 = .ok (.getfield 132, 3) := by decide +kernel
theorem dX4_reads_141 : decode cX4_reads 141 = .ok (.iaload, 1) := by decide +kernel
theorem dX4_reads_142 : decode cX4_reads 142 = .ok (.iadd, 1) := by decide +kernel
theorem dX4_reads_143 : decode cX4_reads 143 = .ok (.bipush 48, 2) := by decide +kernel
theorem dX4_reads_145 : decode cX4_reads 145 = .ok (.isub, 1) := by decide +kernel
theorem dX4_reads_146 : decode cX4_reads 146 = .ok (.putfield 141, 3) := by decide +kernel
theorem dX4_reads_149 : decode cX4_reads 149 = .ok (.aload_n 0, 1) := by decide +kernel
theorem dX4_reads_150 : decode cX4_reads 150 = .ok (.dup, 1) := by decide +kernel
theorem dX4_reads_151 : decode cX4_reads 151 = .ok (.getfield 132, 3) := by decide +kernel
theorem dX4_reads_154 : decode cX4_reads 154 = .ok (.iconst 1, 1) := by decide +kernel
theorem dX4_reads_155 : decode cX4_reads 155 = .ok (.iadd, 1) := by decide +kernel
theorem dX4_reads_156 : decode cX4_reads 156 = .ok (.putfield 132, 3) := by decide +kernel
theorem dX4_reads_159 : decode cX4_reads 159 = .ok (.goto (-55), 3) := by decide +kernel
theorem dX4_reads_162 : decode cX4_reads 162 = .ok (.aload_n 0, 1) := by decide +kernel
theorem dX4_reads_163 : decode cX4_reads 163 = .ok (.getfield 132, 3) := by decide +kernel
theorem dX4_reads_166 : decode cX4_reads 166 = .ok (.iload_n 1, 1) := by decide +kernel
theorem dX4_reads_167 : decode cX4_reads 167 = .ok (.if_icmp .le 18, 3) := by decide +kernel
theorem dX4_reads_170 : decode cX4_reads 170 = .ok (.aload_n 0, 1) := by decide +kernel
theorem dX4_reads_171 : decode cX4_reads 171 = .ok (.bipush 59, 2) := by decide +kernel
theorem dX4_reads_173 : decode cX4_reads 173 = .ok (.bipush 59, 2) := by decide +kernel
theorem dX4_reads_175 : decode cX4_reads 175 = .ok (.invokevirtual 135, 3) := by decide +kernel
theorem dX4_reads_178 : decode cX4_reads 178 = .ok (.ifCond .eq 7, 3) := by decide +kernel
theorem dX4_reads_181 : decode cX4_reads 181 = .ok (.iconst 1, 1) := by decide +kernel
theorem dX4_reads_182 : decode cX4_reads 182 = .ok (.goto 4, 3) := by decide +kernel
theorem dX4_reads_185 : decode cX4_reads 185 = .ok (.iconst 0, 1) := by decide +kernel
theorem dX4_reads_186 : decode cX4_reads 186 = .ok (.istore_n 2, 1) := by decide +kernel
theorem dX4_reads_187 : decode cX4_reads 187 = .ok (.aload_n 0, 1) := by decide +kernel
theorem dX4_reads_188 : decode cX4_reads 188 = .ok (.dup, 1) := by decide +kernel
theorem dX4_reads_189 : decode cX4_reads 189 = .ok (.getfield 132, 3) := by decide +kernel
theorem dX4_reads_192 : decode cX4_reads 192 = .ok (.iload_n 2, 1) := by decide +kernel
theorem dX4_reads_193 : decode cX4_reads 193 = .ok (.ifCond .eq 7, 3) := by decide +kernel
theorem dX4_reads_196 : decode cX4_reads 196 = .ok (.iconst 1, 1) := by decide +kernel
theorem dX4_reads_197 : decode cX4_reads 197 = .ok (.goto 4, 3) := by decide +kernel
theorem dX4_reads_200 : decode cX4_reads 200 = .ok (.iconst 0, 1) := by decide +kernel
theorem dX4_reads_201 : decode cX4_reads 201 = .ok (.iadd, 1) := by decide +kernel
theorem dX4_reads_202 : decode cX4_reads 202 = .ok (.putfield 132, 3) := by decide +kernel
theorem dX4_reads_205 : decode cX4_reads 205 = .ok (.iload_n 2, 1) := by decide +kernel
theorem dX4_reads_206 : decode cX4_reads 206 = .ok (.ireturn, 1) := by decide +kernel
set_option maxRecDepth 20000 in
theorem ggX4_calls_X4_walk : GoodIn wsX4_calls wsX4_walk := goodIn_r _ [7, 8, 9, 10, 11, 12, 6, 13, 14, 15, 16, 17, 18, 19, 20, 21, 22, 23, 24, 25, 26, 27, 28, 29, 105, 106, 107, 108, 109, 110, 111, 112, 113, 114, 115, 116, 117, 118, 119] (by decide +kernel) (by decide +kernel)
set_option maxRecDepth 20000 in
theorem gX4_calls_X4_walk : GoodIn wsX4_calls (wsV RX4 144 RX4 yX4_walk wsX4_walk) := goodIn_app (goodIn_of _ (by decide +kernel)) ggX4_calls_X4_walk
set_option maxRecDepth 20000 in
theorem ggX4_calls_X4_buy : GoodIn wsX4_calls wsX4_buy := goodIn_r _ [33, 8, 9, 10, 34, 11, 12, 6, 13, 23, 24, 25, 26, 27, 28, 29, 105, 106, 107, 108, 109, 110, 111, 112, 113, 114, 115, 116, 117, 118, 119] (by decide +kernel) (by decide +kernel)
set_option maxRecDepth 20000 in
theorem gX4_calls_X4_buy : GoodIn wsX4_calls (wsV RX4 147 RX4 yX4_buy wsX4_buy) := goodIn_app (goodIn_of _ (by decide +kernel)) ggX4_calls_X4_buy
set_option maxRecDepth 20000 in
theorem ggX4_calls_X4_patch : GoodIn wsX4_calls wsX4_patch := goodIn_r _ [38, 8, 10, 39, 40, 41, 6, 42, 9, 43, 44, 45, 46, 47, 48, 49, 50, 51, 52, 53, 54, 55, 56, 57, 20, 21, 22, 23, 24, 25, 26, 27, 28, 29, 58, 59, 60, 61, 62, 63, 64, 65, 66, 67, 68, 69, 105, 106, 107, 108, 109, 110, 111, 112, 113, 114, 115, 116, 117, 118, 119] (by decide +kernel) (by decide +kernel)
set_option maxRecDepth 20000 in
theorem gX4_calls_X4_patch : GoodIn wsX4_calls (wsV RX4 150 RX4 yX4_patch wsX4_patch) := goodIn_app (goodIn_of _ (by decide +kernel)) ggX4_calls_X4_patch
set_option maxRecDepth 20000 in
theorem ggX4_calls_X4_hide : GoodIn wsX4_calls wsX4_hide := goodIn_r _ [73, 8, 10, 39, 40, 41, 6, 42, 9, 43, 44, 45, 46, 47, 48, 49, 50, 51, 52, 53, 54, 55, 56, 57, 20, 21, 22, 23, 24, 25, 26, 27, 28, 29, 58, 59, 60, 61, 62, 63, 64, 65, 66, 67, 68, 69, 105, 106, 107, 108, 109, 110, 111, 112, 113, 114, 115, 116, 117, 118, 119] (by decide +kernel) (by decide +kernel)
set_option maxRecDepth 20000 in
theorem gX4_calls_X4_hide : GoodIn wsX4_calls (wsV RX4 153 RX4 yX4_hide wsX4_hide) := goodIn_app (goodIn_of _ (by decide +kernel)) ggX4_calls_X4_hide
set_option maxRecDepth 20000 in
theorem ggX4_calls_X4_collect : GoodIn wsX4_calls wsX4_collect := goodIn_r _ [77, 8, 9, 10, 39, 40, 41, 6, 42, 47, 48, 49, 50, 23, 24, 25, 26, 27, 28, 29, 78, 79, 80, 81, 66, 67, 68, 69, 105, 106, 107, 108, 109, 110, 111, 112, 113, 114, 115, 116, 117, 118, 119] (by decide +kernel) (by decide +kernel)
set_option maxRecDepth 20000 in
theorem gX4_calls_X4_collect : GoodIn wsX4_calls (wsV RX4 156 RX4 yX4_collect wsX4_collect) := goodIn_app (goodIn_of _ (by decide +kernel)) ggX4_calls_X4_collect
set_option maxRecDepth 20000 in
theorem ggX4_calls_X4_end : GoodIn wsX4_calls wsX4_end := goodIn_r _ [85, 8, 9, 34, 11, 12, 6, 13, 23, 24, 25, 26, 27, 28, 29, 86, 87, 88, 89, 90, 91, 92, 93, 47, 48, 49, 50, 66, 67, 68, 69, 94, 95, 96, 97, 78, 79, 80, 81, 98, 99, 100, 101, 102, 103, 104, 105, 106, 107, 108, 109, 110, 111, 112, 113, 114, 115, 116, 117, 118, 119] (by decide +kernel) (by decide +kernel)
set_option maxRecDepth 20000 in
theorem gX4_calls_X4_end : GoodIn wsX4_calls (wsV RX4 159 RX4 yX4_end wsX4_end) := goodIn_app (goodIn_of _ (by decide +kernel)) ggX4_calls_X4_end
theorem dX4_calls_0 : decode cX4_calls 0 = .ok (.aload_n 0, 1) := by decide +kernel
theorem dX4_calls_1 : decode cX4_calls 1 = .ok (.getfield 138, 3) := by decide +kernel
theorem dX4_calls_4 : decode cX4_calls 4 = .ok (.lookupswitch 97 #[(98, 61), (99, 88), (104, 79), (112, 70), (119, 52)], 52) := by decide +kernel
theorem dX4_calls_56 : decode cX4_calls 56 = .ok (.aload_n 0, 1) := by decide +kernel
theorem dX4_calls_57 : decode cX4_calls 57 = .ok (.aload_n 0, 1) := by decide +kernel
theorem dX4_calls_58 : decode cX4_calls 58 = .ok (.getfield 141, 3) := by decide +kernel
theorem dX4_calls_61 : decode cX4_calls 61 = .ok (.invokevirtual 144, 3) := by decide +kernel
theorem dX4_calls_64 : decode cX4_calls 64 = .ok (.ireturn, 1) := by decide +kernel
theorem dX4_calls_65 : decode cX4_calls 65 = .ok (.aload_n 0, 1) := by decide +kernel
theorem dX4_calls_66 : decode cX4_calls 66 = .ok (.aload_n 0, 1) := by decide +kernel
theorem dX4_calls_67 : decode cX4_calls 67 = .ok (.getfield 141, 3) := by decide +kernel
theorem dX4_calls_70 : decode cX4_calls 70 = .ok (.invokevirtual 147, 3) := by decide +kernel
theorem dX4_calls_73 : decode cX4_calls 73 = .ok (.ireturn, 1) := by decide +kernel
theorem dX4_calls_74 : decode cX4_calls 74 = .ok (.aload_n 0, 1) := by decide +kernel
theorem dX4_calls_75 : decode cX4_calls 75 = .ok (.aload_n 0, 1) := by decide +kernel
theorem dX4_calls_76 : decode cX4_calls 76 = .ok (.getfield 141, 3) := by decide +kernel
theorem dX4_calls_79 : decode cX4_calls 79 = .ok (.invokevirtual 150, 3) := by decide +kernel
theorem dX4_calls_82 : decode cX4_calls 82 = .ok (.ireturn, 1) := by decide +kernel
theorem dX4_calls_83 : decode cX4_calls 83 = .ok (.aload_n 0, 1) := by decide +kernel
theorem dX4_calls_84 : decode cX4_calls 84 = .ok (.aload_n 0, 1) := by decide +kernel
theorem dX4_calls_85 : decode cX4_calls 85 = .ok (.getfield 141, 3) := by decide +kernel
theorem dX4_calls_88 : decode cX4_calls 88 = .ok (.invokevirtual 153, 3) := by decide +kernel
theorem dX4_calls_91 : decode cX4_calls 91 = .ok (.ireturn, 1) := by decide +kernel
theorem dX4_calls_92 : decode cX4_calls 92 = .ok (.aload_n 0, 1) := by decide +kernel
theorem dX4_calls_93 : decode cX4_calls 93 = .ok (.aload_n 0, 1) := by decide +kernel
theorem dX4_calls_94 : decode cX4_calls 94 = .ok (.getfield 141, 3) := by decide +kernel
theorem dX4_calls_97 : decode cX4_calls 97 = .ok (.invokevirtual 156, 3) := by decide +kernel
theorem dX4_calls_100 : decode cX4_calls 100 = .ok (.ireturn, 1) := by decide +kernel
theorem dX4_calls_101 : decode cX4_calls 101 = .ok (.aload_n 0, 1) := by decide +kernel
theorem dX4_calls_102 : decode cX4_calls 102 = .ok (.aload_n 0, 1) := by decide +kernel
theorem dX4_calls_103 : decode cX4_calls 103 = .ok (.getfield 141, 3) := by decide +kernel
theorem dX4_calls_106 : decode cX4_calls 106 = .ok (.invokevirtual 159, 3) := by decide +kernel
theorem dX4_calls_109 : decode cX4_calls 109 = .ok (.ireturn, 1) := by decide +kernel
set_option maxRecDepth 20000 in
theorem ggX4_plays_X4_reads : GoodIn wsX4_plays wsX4_reads := goodIn_r _ [12, 13, 2, 14, 15, 16, 17, 18, 11, 19, 5, 20, 21, 22, 124, 125, 126, 127, 128, 129, 130, 131, 132, 133, 134, 135, 136, 137, 138] (by decide +kernel) (by decide +kernel)
set_option maxRecDepth 20000 in
theorem gX4_plays_X4_reads : GoodIn wsX4_plays (wsV RX4 168 RX4 yX4_reads wsX4_reads) := goodIn_app (goodIn_of _ (by decide +kernel)) ggX4_plays_X4_reads
set_option maxRecDepth 20000 in
theorem ggX4_plays_X4_calls : GoodIn wsX4_plays wsX4_calls := goodIn_r _ [26, 14, 15, 27, 28, 29, 11, 30, 31, 32, 33, 20, 21, 22, 34, 35, 36, 37, 38, 39, 40, 41, 42, 43, 44, 45, 46, 1, 47, 48, 49, 50, 51, 52, 53, 54, 55, 56, 57, 58, 59, 60, 61, 62, 63, 64, 65, 66, 67, 68, 69, 70, 71, 72, 73, 74, 75, 76, 77, 78, 79, 80, 81, 82, 83, 84, 85, 86, 87, 88, 89, 90, 91, 92, 93, 94, 95, 96, 97, 98, 99, 100, 101, 102, 103, 104, 105, 106, 107, 108, 109, 110, 111, 112, 113, 114, 115, 116, 117, 118, 119, 120, 121, 122, 123, 124, 125, 126, 127, 128, 129, 130, 131, 132, 133, 134, 135, 136, 137, 138] (by decide +kernel) (by decide +kernel)
set_option maxRecDepth 20000 in
theorem gX4_plays_X4_calls : GoodIn wsX4_plays (wsV RX4 172 RX4 yX4_calls wsX4_calls) := goodIn_app (goodIn_of _ (by decide +kernel)) ggX4_plays_X4_calls
theorem dX4_plays_0 : decode cX4_plays 0 = .ok (.aload_n 0, 1) := by decide +kernel
theorem dX4_plays_1 : decode cX4_plays 1 = .ok (.iconst 1, 1) := by decide +kernel
theorem dX4_plays_2 : decode cX4_plays 2 = .ok (.putfield 25, 3) := by decide +kernel
theorem dX4_plays_5 : decode cX4_plays 5 = .ok (.aload_n 0, 1) := by decide +kernel
theorem dX4_plays_6 : decode cX4_plays 6 = .ok (.iconst 0, 1) := by decide +kernel
theorem dX4_plays_7 : decode cX4_plays 7 = .ok (.putfield 132, 3) := by decide +kernel
theorem dX4_plays_10 : decode cX4_plays 10 = .ok (.aload_n 0, 1) := by decide +kernel
theorem dX4_plays_11 : decode cX4_plays 11 = .ok (.iconst 0, 1) := by decide +kernel
theorem dX4_plays_12 : decode cX4_plays 12 = .ok (.putfield 162, 3) := by decide +kernel
theorem dX4_plays_15 : decode cX4_plays 15 = .ok (.aload_n 0, 1) := by decide +kernel
theorem dX4_plays_16 : decode cX4_plays 16 = .ok (.iconst 0, 1) := by decide +kernel
theorem dX4_plays_17 : decode cX4_plays 17 = .ok (.putfield 165, 3) := by decide +kernel
theorem dX4_plays_20 : decode cX4_plays 20 = .ok (.iconst 1, 1) := by decide +kernel
theorem dX4_plays_21 : decode cX4_plays 21 = .ok (.istore_n 1, 1) := by decide +kernel
theorem dX4_plays_22 : decode cX4_plays 22 = .ok (.aload_n 0, 1) := by decide +kernel
theorem dX4_plays_23 : decode cX4_plays 23 = .ok (.getfield 132, 3) := by decide +kernel
theorem dX4_plays_26 : decode cX4_plays 26 = .ok (.aload_n 0, 1) := by decide +kernel
theorem dX4_plays_27 : decode cX4_plays 27 = .ok (.getfield 129, 3) := by decide +kernel
theorem dX4_plays_30 : decode cX4_plays 30 = .ok (.if_icmp .ge 94, 3) := by decide +kernel
theorem dX4_plays_33 : decode cX4_plays 33 = .ok (.iload_n 1, 1) := by decide +kernel
theorem dX4_plays_34 : decode cX4_plays 34 = .ok (.ifCond .eq 90, 3) := by decide +kernel
theorem dX4_plays_37 : decode cX4_plays 37 = .ok (.aload_n 0, 1) := by decide +kernel
theorem dX4_plays_38 : decode cX4_plays 38 = .ok (.aload_n 0, 1) := by decide +kernel
theorem dX4_plays_39 : decode cX4_plays 39 = .ok (.getfield 132, 3) := by decide +kernel
theorem dX4_plays_42 : decode cX4_plays 42 = .ok (.putfield 162, 3) := by decide +kernel
theorem dX4_plays_45 : decode cX4_plays 45 = .ok (.aload_n 0, 1) := by decide +kernel
theorem dX4_plays_46 : decode cX4_plays 46 = .ok (.invokevirtual 168, 3) := by decide +kernel
theorem dX4_plays_49 : decode cX4_plays 49 = .ok (.istore_n 2, 1) := by decide +kernel
theorem dX4_plays_50 : decode cX4_plays 50 = .ok (.iload_n 2, 1) := by decide +kernel
theorem dX4_plays_51 : decode cX4_plays 51 = .ok (.ifCond .eq 10, 3) := by decide +kernel
theorem dX4_plays_54 : decode cX4_plays 54 = .ok (.aload_n 0, 1) := by decide +kernel
theorem dX4_plays_55 : decode cX4_plays 55 = .ok (.invokevirtual 172, 3) := by decide +kernel
theorem dX4_plays_58 : decode cX4_plays 58 = .ok (.goto 4, 3) := by decide +kernel
theorem dX4_plays_61 : decode cX4_plays 61 = .ok (.iconst 0, 1) := by decide +kernel
theorem dX4_plays_62 : decode cX4_plays 62 = .ok (.istore_n 3, 1) := by decide +kernel
theorem dX4_plays_63 : decode cX4_plays 63 = .ok (.iload_n 2, 1) := by decide +kernel
theorem dX4_plays_64 : decode cX4_plays 64 = .ok (.ifCond .eq 11, 3) := by decide +kernel
theorem dX4_plays_67 : decode cX4_plays 67 = .ok (.iload_n 3, 1) := by decide +kernel
theorem dX4_plays_68 : decode cX4_plays 68 = .ok (.ifCond .lt 7, 3) := by decide +kernel
theorem dX4_plays_71 : decode cX4_plays 71 = .ok (.iconst 1, 1) := by decide +kernel
theorem dX4_plays_72 : decode cX4_plays 72 = .ok (.goto 4, 3) := by decide +kernel
theorem dX4_plays_75 : decode cX4_plays 75 = .ok (.iconst 0, 1) := by decide +kernel
theorem dX4_plays_76 : decode cX4_plays 76 = .ok (.istore_n 1, 1) := by decide +kernel
theorem dX4_plays_77 : decode cX4_plays 77 = .ok (.aload_n 0, 1) := by decide +kernel
theorem dX4_plays_78 : decode cX4_plays 78 = .ok (.iload_n 2, 1) := by decide +kernel
theorem dX4_plays_79 : decode cX4_plays 79 = .ok (.ifCond .eq 7, 3) := by decide +kernel
theorem dX4_plays_82 : decode cX4_plays 82 = .ok (.iconst 2, 1) := by decide +kernel
theorem dX4_plays_83 : decode cX4_plays 83 = .ok (.goto 4, 3) := by decide +kernel
theorem dX4_plays_86 : decode cX4_plays 86 = .ok (.iconst 1, 1) := by decide +kernel
theorem dX4_plays_87 : decode cX4_plays 87 = .ok (.putfield 175, 3) := by decide +kernel
theorem dX4_plays_90 : decode cX4_plays 90 = .ok (.aload_n 0, 1) := by decide +kernel
theorem dX4_plays_91 : decode cX4_plays 91 = .ok (.iload_n 2, 1) := by decide +kernel
theorem dX4_plays_92 : decode cX4_plays 92 = .ok (.ifCond .eq 7, 3) := by decide +kernel
theorem dX4_plays_95 : decode cX4_plays 95 = .ok (.iload_n 3, 1) := by decide +kernel
theorem dX4_plays_96 : decode cX4_plays 96 = .ok (.goto 12, 3) := by decide +kernel
theorem dX4_plays_99 : decode cX4_plays 99 = .ok (.aload_n 0, 1) := by decide +kernel
theorem dX4_plays_100 : decode cX4_plays 100 = .ok (.getfield 132, 3) := by decide +kernel
theorem dX4_plays_103 : decode cX4_plays 103 = .ok (.aload_n 0, 1) := by decide +kernel
theorem dX4_plays_104 : decode cX4_plays 104 = .ok (.getfield 162, 3) := by decide +kernel
theorem dX4_plays_107 : decode cX4_plays 107 = .ok (.isub, 1) := by decide +kernel
theorem dX4_plays_108 : decode cX4_plays 108 = .ok (.putfield 178, 3) := by decide +kernel
theorem dX4_plays_111 : decode cX4_plays 111 = .ok (.aload_n 0, 1) := by decide +kernel
theorem dX4_plays_112 : decode cX4_plays 112 = .ok (.dup, 1) := by decide +kernel
theorem dX4_plays_113 : decode cX4_plays 113 = .ok (.getfield 165, 3) := by decide +kernel
theorem dX4_plays_116 : decode cX4_plays 116 = .ok (.iconst 1, 1) := by decide +kernel
theorem dX4_plays_117 : decode cX4_plays 117 = .ok (.iadd, 1) := by decide +kernel
theorem dX4_plays_118 : decode cX4_plays 118 = .ok (.putfield 165, 3) := by decide +kernel
theorem dX4_plays_121 : decode cX4_plays 121 = .ok (.goto (-99), 3) := by decide +kernel
theorem dX4_plays_124 : decode cX4_plays 124 = .ok (.aload_n 0, 1) := by decide +kernel
theorem dX4_plays_125 : decode cX4_plays 125 = .ok (.iconst 0, 1) := by decide +kernel
theorem dX4_plays_126 : decode cX4_plays 126 = .ok (.putfield 25, 3) := by decide +kernel
theorem dX4_plays_129 : decode cX4_plays 129 = .ok (.iload_n 1, 1) := by decide +kernel
theorem dX4_plays_130 : decode cX4_plays 130 = .ok (.ireturn, 1) := by decide +kernel
set_option maxRecDepth 20000 in
theorem ggX4_fault_X4_in : GoodIn wsX4_fault wsX4_in := goodIn_r _ [11] (by decide +kernel) (by decide +kernel)
set_option maxRecDepth 20000 in
theorem gX4_fault_X4_in : GoodIn wsX4_fault (va_wsS RX4 53 yX4_in wsX4_in) := goodIn_app (goodIn_of _ (by decide +kernel)) ggX4_fault_X4_in
set_option maxRecDepth 20000 in
theorem ggX4_fault_X4_copies : GoodIn wsX4_fault wsX4_copies := goodIn_r _ [14] (by decide +kernel) (by decide +kernel)
set_option maxRecDepth 20000 in
theorem gX4_fault_X4_copies : GoodIn wsX4_fault (va_wsS RX4 105 yX4_copies wsX4_copies) := goodIn_app (goodIn_of _ (by decide +kernel)) ggX4_fault_X4_copies
set_option maxRecDepth 20000 in
theorem ggX4_fault_X4_plays : GoodIn wsX4_fault wsX4_plays := goodIn_r _ [18, 19, 20, 5, 21, 22, 6, 7, 23, 24, 25, 10, 26, 27, 28, 29, 30, 31, 32, 33, 8, 9, 11, 34, 35, 36, 37, 38, 39, 40, 41, 1, 2, 42, 43, 44, 45, 46, 47, 48, 49, 50, 51, 52, 53, 54, 55, 56, 57, 58, 59, 60, 61, 62, 63, 64, 65, 66, 67, 68, 69, 70, 71, 72, 73, 74, 75, 76, 77, 78, 79, 80, 81, 82, 83, 84, 85, 86, 87, 88, 89, 90, 91, 92, 93, 94, 95, 96, 97, 98, 99, 100, 101, 102, 103, 104, 105, 106, 107, 108, 109, 110, 111, 112, 113, 114, 115, 116, 117, 118, 119, 120, 121, 122, 123, 124, 125, 126, 127, 128, 129, 130, 131, 132, 133, 134, 135, 136, 137, 138, 139, 140, 141, 142, 143, 144, 145, 146, 147] (by decide +kernel) (by decide +kernel)
set_option maxRecDepth 20000 in
theorem gX4_fault_X4_plays : GoodIn wsX4_fault (wsV RX4 181 RX4 yX4_plays wsX4_plays) := goodIn_app (goodIn_of _ (by decide +kernel)) ggX4_fault_X4_plays
theorem dX4_fault_0 : decode cX4_fault 0 = .ok (.iload_n 1, 1) := by decide +kernel
theorem dX4_fault_1 : decode cX4_fault 1 = .ok (.iconst 0, 1) := by decide +kernel
theorem dX4_fault_2 : decode cX4_fault 2 = .ok (.iconst 2, 1) := by decide +kernel
theorem dX4_fault_3 : decode cX4_fault 3 = .ok (.invokestatic 53, 3) := by decide +kernel
theorem dX4_fault_6 : decode cX4_fault 6 = .ok (.ifCond .ne 6, 3) := by decide +kernel
theorem dX4_fault_9 : decode cX4_fault 9 = .ok (.ldc 57, 2) := by decide +kernel
theorem dX4_fault_11 : decode cX4_fault 11 = .ok (.ireturn, 1) := by decide +kernel
theorem dX4_fault_12 : decode cX4_fault 12 = .ok (.aload_n 0, 1) := by decide +kernel
theorem dX4_fault_13 : decode cX4_fault 13 = .ok (.getfield 7, 3) := by decide +kernel
theorem dX4_fault_16 : decode cX4_fault 16 = .ok (.aload_n 0, 1) := by decide +kernel
theorem dX4_fault_17 : decode cX4_fault 17 = .ok (.getfield 16, 3) := by decide +kernel
theorem dX4_fault_20 : decode cX4_fault 20 = .ok (.invokestatic 105, 3) := by decide +kernel
theorem dX4_fault_23 : decode cX4_fault 23 = .ok (.aload_n 0, 1) := by decide +kernel
theorem dX4_fault_24 : decode cX4_fault 24 = .ok (.invokevirtual 181, 3) := by decide +kernel
theorem dX4_fault_27 : decode cX4_fault 27 = .ok (.istore_n 2, 1) := by decide +kernel
theorem dX4_fault_28 : decode cX4_fault 28 = .ok (.aload_n 0, 1) := by decide +kernel
theorem dX4_fault_29 : decode cX4_fault 29 = .ok (.getfield 16, 3) := by decide +kernel
theorem dX4_fault_32 : decode cX4_fault 32 = .ok (.aload_n 0, 1) := by decide +kernel
theorem dX4_fault_33 : decode cX4_fault 33 = .ok (.getfield 7, 3) := by decide +kernel
theorem dX4_fault_36 : decode cX4_fault 36 = .ok (.invokestatic 105, 3) := by decide +kernel
theorem dX4_fault_39 : decode cX4_fault 39 = .ok (.iload_n 2, 1) := by decide +kernel
theorem dX4_fault_40 : decode cX4_fault 40 = .ok (.ifCond .eq 8, 3) := by decide +kernel
theorem dX4_fault_43 : decode cX4_fault 43 = .ok (.ldc 109, 2) := by decide +kernel
theorem dX4_fault_45 : decode cX4_fault 45 = .ok (.goto 30, 3) := by decide +kernel
theorem dX4_fault_48 : decode cX4_fault 48 = .ok (.iload_n 1, 1) := by decide +kernel
theorem dX4_fault_49 : decode cX4_fault 49 = .ok (.ifCond .ne 10, 3) := by decide +kernel
theorem dX4_fault_52 : decode cX4_fault 52 = .ok (.aload_n 0, 1) := by decide +kernel
theorem dX4_fault_53 : decode cX4_fault 53 = .ok (.getfield 162, 3) := by decide +kernel
theorem dX4_fault_56 : decode cX4_fault 56 = .ok (.goto 19, 3) := by decide +kernel
theorem dX4_fault_59 : decode cX4_fault 59 = .ok (.iload_n 1, 1) := by decide +kernel
theorem dX4_fault_60 : decode cX4_fault 60 = .ok (.iconst 1, 1) := by decide +kernel
theorem dX4_fault_61 : decode cX4_fault 61 = .ok (.if_icmp .ne 10, 3) := by decide +kernel
theorem dX4_fault_64 : decode cX4_fault 64 = .ok (.aload_n 0, 1) := by decide +kernel
theorem dX4_fault_65 : decode cX4_fault 65 = .ok (.getfield 175, 3) := by decide +kernel
theorem dX4_fault_68 : decode cX4_fault 68 = .ok (.goto 7, 3) := by decide +kernel
theorem dX4_fault_71 : decode cX4_fault 71 = .ok (.aload_n 0, 1) := by decide +kernel
theorem dX4_fault_72 : decode cX4_fault 72 = .ok (.getfield 178, 3) := by decide +kernel
theorem dX4_fault_75 : decode cX4_fault 75 = .ok (.ireturn, 1) := by decide +kernel
set_option maxRecDepth 20000 in
theorem ggX4_play_X4_copies : GoodIn wsX4_play wsX4_copies := goodIn_r _ [9] (by decide +kernel) (by decide +kernel)
set_option maxRecDepth 20000 in
theorem gX4_play_X4_copies : GoodIn wsX4_play (va_wsS RX4 105 yX4_copies wsX4_copies) := goodIn_app (goodIn_of _ (by decide +kernel)) ggX4_play_X4_copies
set_option maxRecDepth 20000 in
theorem ggX4_play_X4_plays : GoodIn wsX4_play wsX4_plays := goodIn_r _ [13, 14, 15, 16, 4, 17, 18, 19, 20, 21, 22, 8, 23, 24, 25, 26, 27, 28, 29, 30, 31, 32, 33, 34, 35, 36, 37, 38, 39, 40, 41, 42, 1, 3, 43, 44, 45, 46, 47, 48, 49, 50, 51, 52, 53, 54, 55, 56, 57, 58, 59, 60, 61, 62, 63, 64, 65, 66, 67, 68, 69, 70, 71, 72, 73, 74, 75, 76, 77, 78, 79, 80, 81, 82, 83, 84, 85, 86, 87, 88, 89, 90, 91, 92, 93, 94, 95, 96, 97, 98, 99, 100, 101, 102, 103, 104, 105, 106, 107, 108, 109, 110, 111, 112, 113, 114, 115, 116, 117, 118, 119, 120, 121, 122, 123, 124, 125, 126, 127, 128, 129, 130, 131, 132, 133, 134, 135, 136, 137, 138, 139, 140, 141, 142, 143, 144, 145, 146, 147] (by decide +kernel) (by decide +kernel)
set_option maxRecDepth 20000 in
theorem gX4_play_X4_plays : GoodIn wsX4_play (wsV RX4 181 RX4 yX4_plays wsX4_plays) := goodIn_app (goodIn_of _ (by decide +kernel)) ggX4_play_X4_plays
set_option maxRecDepth 20000 in
theorem ggX4_play_X4_changes : GoodIn wsX4_play wsX4_changes := goodIn_r _ [55, 14, 56, 57, 1, 133, 134, 135, 136, 137, 138, 139, 140, 141, 142, 143, 144, 145, 146, 147] (by decide +kernel) (by decide +kernel)
set_option maxRecDepth 20000 in
theorem gX4_play_X4_changes : GoodIn wsX4_play (wsV RX4 59 RX4 yX4_changes wsX4_changes) := goodIn_app (goodIn_of _ (by decide +kernel)) ggX4_play_X4_changes
theorem dX4_play_0 : decode cX4_play 0 = .ok (.aload_n 0, 1) := by decide +kernel
theorem dX4_play_1 : decode cX4_play 1 = .ok (.getfield 7, 3) := by decide +kernel
theorem dX4_play_4 : decode cX4_play 4 = .ok (.aload_n 0, 1) := by decide +kernel
theorem dX4_play_5 : decode cX4_play 5 = .ok (.getfield 16, 3) := by decide +kernel
theorem dX4_play_8 : decode cX4_play 8 = .ok (.invokestatic 105, 3) := by decide +kernel
theorem dX4_play_11 : decode cX4_play 11 = .ok (.aload_n 0, 1) := by decide +kernel
theorem dX4_play_12 : decode cX4_play 12 = .ok (.invokevirtual 181, 3) := by decide +kernel
theorem dX4_play_15 : decode cX4_play 15 = .ok (.istore_n 1, 1) := by decide +kernel
theorem dX4_play_16 : decode cX4_play 16 = .ok (.aload_n 0, 1) := by decide +kernel
theorem dX4_play_17 : decode cX4_play 17 = .ok (.getfield 16, 3) := by decide +kernel
theorem dX4_play_20 : decode cX4_play 20 = .ok (.aload_n 0, 1) := by decide +kernel
theorem dX4_play_21 : decode cX4_play 21 = .ok (.getfield 7, 3) := by decide +kernel
theorem dX4_play_24 : decode cX4_play 24 = .ok (.invokestatic 105, 3) := by decide +kernel
theorem dX4_play_27 : decode cX4_play 27 = .ok (.iload_n 1, 1) := by decide +kernel
theorem dX4_play_28 : decode cX4_play 28 = .ok (.ifCond .ne 6, 3) := by decide +kernel
theorem dX4_play_31 : decode cX4_play 31 = .ok (.ldc 71, 2) := by decide +kernel
theorem dX4_play_33 : decode cX4_play 33 = .ok (.ireturn, 1) := by decide +kernel
theorem dX4_play_34 : decode cX4_play 34 = .ok (.aload_n 0, 1) := by decide +kernel
theorem dX4_play_35 : decode cX4_play 35 = .ok (.invokevirtual 59, 3) := by decide +kernel
theorem dX4_play_38 : decode cX4_play 38 = .ok (.aload_n 0, 1) := by decide +kernel
theorem dX4_play_39 : decode cX4_play 39 = .ok (.invokevirtual 181, 3) := by decide +kernel
theorem dX4_play_42 : decode cX4_play 42 = .ok (.ifCond .eq 10, 3) := by decide +kernel
theorem dX4_play_45 : decode cX4_play 45 = .ok (.aload_n 0, 1) := by decide +kernel
theorem dX4_play_46 : decode cX4_play 46 = .ok (.getfield 165, 3) := by decide +kernel
theorem dX4_play_49 : decode cX4_play 49 = .ok (.goto 5, 3) := by decide +kernel
theorem dX4_play_52 : decode cX4_play 52 = .ok (.ldc 109, 2) := by decide +kernel
theorem dX4_play_54 : decode cX4_play 54 = .ok (.ireturn, 1) := by decide +kernel
theorem dJxf58ca_isNaN_12338_0 : decode cJxf58ca_isNaN_12338 0 = .ok (.fload_n 0, 1) := by decide +kernel
theorem dJxf58ca_isNaN_12338_1 : decode cJxf58ca_isNaN_12338 1 = .ok (.fload_n 0, 1) := by decide +kernel
theorem dJxf58ca_isNaN_12338_2 : decode cJxf58ca_isNaN_12338 2 = .ok (.fcmp .l, 1) := by decide +kernel
theorem dJxf58ca_isNaN_12338_3 : decode cJxf58ca_isNaN_12338 3 = .ok (.ifCond .eq 7, 3) := by decide +kernel
theorem dJxf58ca_isNaN_12338_6 : decode cJxf58ca_isNaN_12338 6 = .ok (.iconst 1, 1) := by decide +kernel
theorem dJxf58ca_isNaN_12338_7 : decode cJxf58ca_isNaN_12338 7 = .ok (.goto 4, 3) := by decide +kernel
theorem dJxf58ca_isNaN_12338_10 : decode cJxf58ca_isNaN_12338 10 = .ok (.iconst 0, 1) := by decide +kernel
theorem dJxf58ca_isNaN_12338_11 : decode cJxf58ca_isNaN_12338 11 = .ok (.ireturn, 1) := by decide +kernel
set_option maxRecDepth 20000 in
theorem ggJxf58ca_floatToIntBits_5c35a_Jxf58ca_isNaN_12338 : GoodIn wsJxf58ca_floatToIntBits_5c35a wsJxf58ca_isNaN_12338 := goodIn_r _ [9] (by decide +kernel) (by decide +kernel)
set_option maxRecDepth 20000 in
theorem gJxf58ca_floatToIntBits_5c35a_Jxf58ca_isNaN_12338 : GoodIn wsJxf58ca_floatToIntBits_5c35a (va_wsS RJxf58ca 59 yJxf58ca_isNaN_12338 wsJxf58ca_isNaN_12338) := goodIn_app (goodIn_of _ (by decide +kernel)) ggJxf58ca_floatToIntBits_5c35a_Jxf58ca_isNaN_12338
theorem dJxf58ca_floatToIntBits_5c35a_0 : decode cJxf58ca_floatToIntBits_5c35a 0 = .ok (.fload_n 0, 1) := by decide +kernel
theorem dJxf58ca_floatToIntBits_5c35a_1 : decode cJxf58ca_floatToIntBits_5c35a 1 = .ok (.invokestatic 59, 3) := by decide +kernel
theorem dJxf58ca_floatToIntBits_5c35a_4 : decode cJxf58ca_floatToIntBits_5c35a 4 = .ok (.ifCond .ne 8, 3) := by decide +kernel
theorem dJxf58ca_floatToIntBits_5c35a_7 : decode cJxf58ca_floatToIntBits_5c35a 7 = .ok (.fload_n 0, 1) := by decide +kernel
theorem dJxf58ca_floatToIntBits_5c35a_8 : decode cJxf58ca_floatToIntBits_5c35a 8 = .ok (.invokestatic 74, 3) := by decide +kernel
theorem dJxf58ca_floatToIntBits_5c35a_11 : decode cJxf58ca_floatToIntBits_5c35a 11 = .ok (.ireturn, 1) := by decide +kernel
theorem dJxf58ca_floatToIntBits_5c35a_12 : decode cJxf58ca_floatToIntBits_5c35a 12 = .ok (.ldc 77, 2) := by decide +kernel
theorem dJxf58ca_floatToIntBits_5c35a_14 : decode cJxf58ca_floatToIntBits_5c35a 14 = .ok (.ireturn, 1) := by decide +kernel
theorem dJ6_bitCount_0f7a4_0 : decode cJ6_bitCount_0f7a4 0 = .ok (.iload_n 0, 1) := by decide +kernel
theorem dJ6_bitCount_0f7a4_1 : decode cJ6_bitCount_0f7a4 1 = .ok (.iload_n 0, 1) := by decide +kernel
theorem dJ6_bitCount_0f7a4_2 : decode cJ6_bitCount_0f7a4 2 = .ok (.iconst 1, 1) := by decide +kernel
theorem dJ6_bitCount_0f7a4_3 : decode cJ6_bitCount_0f7a4 3 = .ok (.iushr, 1) := by decide +kernel
theorem dJ6_bitCount_0f7a4_4 : decode cJ6_bitCount_0f7a4 4 = .ok (.ldc_w 265, 3) := by decide +kernel
theorem dJ6_bitCount_0f7a4_7 : decode cJ6_bitCount_0f7a4 7 = .ok (.iand, 1) := by decide +kernel
theorem dJ6_bitCount_0f7a4_8 : decode cJ6_bitCount_0f7a4 8 = .ok (.isub, 1) := by decide +kernel
theorem dJ6_bitCount_0f7a4_9 : decode cJ6_bitCount_0f7a4 9 = .ok (.istore_n 0, 1) := by decide +kernel
theorem dJ6_bitCount_0f7a4_10 : decode cJ6_bitCount_0f7a4 10 = .ok (.iload_n 0, 1) := by decide +kernel
theorem dJ6_bitCount_0f7a4_11 : decode cJ6_bitCount_0f7a4 11 = .ok (.ldc_w 266, 3) := by decide +kernel
theorem dJ6_bitCount_0f7a4_14 : decode cJ6_bitCount_0f7a4 14 = .ok (.iand, 1) := by decide +kernel
theorem dJ6_bitCount_0f7a4_15 : decode cJ6_bitCount_0f7a4 15 = .ok (.iload_n 0, 1) := by decide +kernel
theorem dJ6_bitCount_0f7a4_16 : decode cJ6_bitCount_0f7a4 16 = .ok (.iconst 2, 1) := by decide +kernel
theorem dJ6_bitCount_0f7a4_17 : decode cJ6_bitCount_0f7a4 17 = .ok (.iushr, 1) := by decide +kernel
theorem dJ6_bitCount_0f7a4_18 : decode cJ6_bitCount_0f7a4 18 = .ok (.ldc_w 266, 3) := by decide +kernel
theorem dJ6_bitCount_0f7a4_21 : decode cJ6_bitCount_0f7a4 21 = .ok (.iand, 1) := by decide +kernel
theorem dJ6_bitCount_0f7a4_22 : decode cJ6_bitCount_0f7a4 22 = .ok (.iadd, 1) := by decide +kernel
theorem dJ6_bitCount_0f7a4_23 : decode cJ6_bitCount_0f7a4 23 = .ok (.istore_n 0, 1) := by decide +kernel
theorem dJ6_bitCount_0f7a4_24 : decode cJ6_bitCount_0f7a4 24 = .ok (.iload_n 0, 1) := by decide +kernel
theorem dJ6_bitCount_0f7a4_25 : decode cJ6_bitCount_0f7a4 25 = .ok (.iload_n 0, 1) := by decide +kernel
theorem dJ6_bitCount_0f7a4_26 : decode cJ6_bitCount_0f7a4 26 = .ok (.iconst 4, 1) := by decide +kernel
theorem dJ6_bitCount_0f7a4_27 : decode cJ6_bitCount_0f7a4 27 = .ok (.iushr, 1) := by decide +kernel
theorem dJ6_bitCount_0f7a4_28 : decode cJ6_bitCount_0f7a4 28 = .ok (.iadd, 1) := by decide +kernel
theorem dJ6_bitCount_0f7a4_29 : decode cJ6_bitCount_0f7a4 29 = .ok (.ldc_w 267, 3) := by decide +kernel
theorem dJ6_bitCount_0f7a4_32 : decode cJ6_bitCount_0f7a4 32 = .ok (.iand, 1) := by decide +kernel
theorem dJ6_bitCount_0f7a4_33 : decode cJ6_bitCount_0f7a4 33 = .ok (.istore_n 0, 1) := by decide +kernel
theorem dJ6_bitCount_0f7a4_34 : decode cJ6_bitCount_0f7a4 34 = .ok (.iload_n 0, 1) := by decide +kernel
theorem dJ6_bitCount_0f7a4_35 : decode cJ6_bitCount_0f7a4 35 = .ok (.iload_n 0, 1) := by decide +kernel
theorem dJ6_bitCount_0f7a4_36 : decode cJ6_bitCount_0f7a4 36 = .ok (.bipush 8, 2) := by decide +kernel
theorem dJ6_bitCount_0f7a4_38 : decode cJ6_bitCount_0f7a4 38 = .ok (.iushr, 1) := by decide +kernel
theorem dJ6_bitCount_0f7a4_39 : decode cJ6_bitCount_0f7a4 39 = .ok (.iadd, 1) := by decide +kernel
theorem dJ6_bitCount_0f7a4_40 : decode cJ6_bitCount_0f7a4 40 = .ok (.istore_n 0, 1) := by decide +kernel
theorem dJ6_bitCount_0f7a4_41 : decode cJ6_bitCount_0f7a4 41 = .ok (.iload_n 0, 1) := by decide +kernel
theorem dJ6_bitCount_0f7a4_42 : decode cJ6_bitCount_0f7a4 42 = .ok (.iload_n 0, 1) := by decide +kernel
theorem dJ6_bitCount_0f7a4_43 : decode cJ6_bitCount_0f7a4 43 = .ok (.bipush 16, 2) := by decide +kernel
theorem dJ6_bitCount_0f7a4_45 : decode cJ6_bitCount_0f7a4 45 = .ok (.iushr, 1) := by decide +kernel
theorem dJ6_bitCount_0f7a4_46 : decode cJ6_bitCount_0f7a4 46 = .ok (.iadd, 1) := by decide +kernel
theorem dJ6_bitCount_0f7a4_47 : decode cJ6_bitCount_0f7a4 47 = .ok (.istore_n 0, 1) := by decide +kernel
theorem dJ6_bitCount_0f7a4_48 : decode cJ6_bitCount_0f7a4 48 = .ok (.iload_n 0, 1) := by decide +kernel
theorem dJ6_bitCount_0f7a4_49 : decode cJ6_bitCount_0f7a4 49 = .ok (.bipush 63, 2) := by decide +kernel
theorem dJ6_bitCount_0f7a4_51 : decode cJ6_bitCount_0f7a4 51 = .ok (.iand, 1) := by decide +kernel
theorem dJ6_bitCount_0f7a4_52 : decode cJ6_bitCount_0f7a4 52 = .ok (.ireturn, 1) := by decide +kernel
theorem dJ9_abs_0f7a4_0 : decode cJ9_abs_0f7a4 0 = .ok (.iload_n 0, 1) := by decide +kernel
theorem dJ9_abs_0f7a4_1 : decode cJ9_abs_0f7a4 1 = .ok (.ifCond .ge 8, 3) := by decide +kernel
theorem dJ9_abs_0f7a4_4 : decode cJ9_abs_0f7a4 4 = .ok (.iload_n 0, 1) := by decide +kernel
theorem dJ9_abs_0f7a4_5 : decode cJ9_abs_0f7a4 5 = .ok (.ineg, 1) := by decide +kernel
theorem dJ9_abs_0f7a4_6 : decode cJ9_abs_0f7a4 6 = .ok (.goto 4, 3) := by decide +kernel
theorem dJ9_abs_0f7a4_9 : decode cJ9_abs_0f7a4 9 = .ok (.iload_n 0, 1) := by decide +kernel
theorem dJ9_abs_0f7a4_10 : decode cJ9_abs_0f7a4 10 = .ok (.ireturn, 1) := by decide +kernel
theorem dJ9_max_7cf53_0 : decode cJ9_max_7cf53 0 = .ok (.iload_n 0, 1) := by decide +kernel
theorem dJ9_max_7cf53_1 : decode cJ9_max_7cf53 1 = .ok (.iload_n 1, 1) := by decide +kernel
theorem dJ9_max_7cf53_2 : decode cJ9_max_7cf53 2 = .ok (.if_icmp .lt 7, 3) := by decide +kernel
theorem dJ9_max_7cf53_5 : decode cJ9_max_7cf53 5 = .ok (.iload_n 0, 1) := by decide +kernel
theorem dJ9_max_7cf53_6 : decode cJ9_max_7cf53 6 = .ok (.goto 4, 3) := by decide +kernel
theorem dJ9_max_7cf53_9 : decode cJ9_max_7cf53 9 = .ok (.iload_n 1, 1) := by decide +kernel
theorem dJ9_max_7cf53_10 : decode cJ9_max_7cf53 10 = .ok (.ireturn, 1) := by decide +kernel
theorem dJ9_min_7cf53_0 : decode cJ9_min_7cf53 0 = .ok (.iload_n 0, 1) := by decide +kernel
theorem dJ9_min_7cf53_1 : decode cJ9_min_7cf53 1 = .ok (.iload_n 1, 1) := by decide +kernel
theorem dJ9_min_7cf53_2 : decode cJ9_min_7cf53 2 = .ok (.if_icmp .gt 7, 3) := by decide +kernel
theorem dJ9_min_7cf53_5 : decode cJ9_min_7cf53 5 = .ok (.iload_n 0, 1) := by decide +kernel
theorem dJ9_min_7cf53_6 : decode cJ9_min_7cf53 6 = .ok (.goto 4, 3) := by decide +kernel
theorem dJ9_min_7cf53_9 : decode cJ9_min_7cf53 9 = .ok (.iload_n 1, 1) := by decide +kernel
theorem dJ9_min_7cf53_10 : decode cJ9_min_7cf53 10 = .ok (.ireturn, 1) := by decide +kernel
