theorem dL_why_61 : decode cL_why 61 = .ok (.if_icmp .le 7, 3) := by decide +kernel
theorem dL_why_64 : decode cL_why 64 = .ok (.iconst 4, 1) := by decide +kernel
theorem dL_why_65 : decode cL_why 65 = .ok (.goto 16, 3) := by decide +kernel
theorem dL_why_68 : decode cL_why 68 = .ok (.aload_n 1, 1) := by decide +kernel
theorem dL_why_69 : decode cL_why 69 = .ok (.iload_n 2, 1) := by decide +kernel
theorem dL_why_70 : decode cL_why 70 = .ok (.iconst 2, 1) := by decide +kernel
theorem dL_why_71 : decode cL_why 71 = .ok (.iadd, 1) := by decide +kernel
theorem dL_why_72 : decode cL_why 72 = .ok (.iaload, 1) := by decide +kernel
theorem dL_why_73 : decode cL_why 73 = .ok (.ifCond .ne 7, 3) := by decide +kernel
theorem dL_why_76 : decode cL_why 76 = .ok (.iconst 5, 1) := by decide +kernel
theorem dL_why_77 : decode cL_why 77 = .ok (.goto 4, 3) := by decide +kernel
theorem dL_why_80 : decode cL_why 80 = .ok (.iconst 0, 1) := by decide +kernel
theorem dL_why_81 : decode cL_why 81 = .ok (.ireturn, 1) := by decide +kernel
set_option maxRecDepth 20000 in
theorem ggL_walks_L_apart : GoodIn wsL_walks wsL_apart := goodIn_r _ [5] (by decide +kernel) (by decide +kernel)
set_option maxRecDepth 20000 in
theorem gL_walks_L_apart : GoodIn wsL_walks (va_wsS RL 19 yL_apart wsL_apart) := goodIn_app (goodIn_of _ (by decide +kernel)) ggL_walks_L_apart
set_option maxRecDepth 20000 in
theorem ggL_walks_L_tens : GoodIn wsL_walks wsL_tens := goodIn_r _ [8] (by decide +kernel) (by decide +kernel)
set_option maxRecDepth 20000 in
theorem gL_walks_L_tens : GoodIn wsL_walks (va_wsS RL 9 yL_tens wsL_tens) := goodIn_app (goodIn_of _ (by decide +kernel)) ggL_walks_L_tens
theorem dL_walks_0 : decode cL_walks 0 = .ok (.aload_n 0, 1) := by decide +kernel
theorem dL_walks_1 : decode cL_walks 1 = .ok (.iconst 2, 1) := by decide +kernel
theorem dL_walks_2 : decode cL_walks 2 = .ok (.iaload, 1) := by decide +kernel
theorem dL_walks_3 : decode cL_walks 3 = .ok (.iload_n 1, 1) := by decide +kernel
theorem dL_walks_4 : decode cL_walks 4 = .ok (.invokestatic 19, 3) := by decide +kernel
theorem dL_walks_7 : decode cL_walks 7 = .ok (.invokestatic 9, 3) := by decide +kernel
theorem dL_walks_10 : decode cL_walks 10 = .ok (.istore_n 2, 1) := by decide +kernel
theorem dL_walks_11 : decode cL_walks 11 = .ok (.iload_n 2, 1) := by decide +kernel
theorem dL_walks_12 : decode cL_walks 12 = .ok (.aload_n 0, 1) := by decide +kernel
theorem dL_walks_13 : decode cL_walks 13 = .ok (.iconst 3, 1) := by decide +kernel
theorem dL_walks_14 : decode cL_walks 14 = .ok (.iaload, 1) := by decide +kernel
theorem dL_walks_15 : decode cL_walks 15 = .ok (.if_icmp .le 6, 3) := by decide +kernel
theorem dL_walks_18 : decode cL_walks 18 = .ok (.ldc 23, 2) := by decide +kernel
theorem dL_walks_20 : decode cL_walks 20 = .ok (.ireturn, 1) := by decide +kernel
theorem dL_walks_21 : decode cL_walks 21 = .ok (.aload_n 0, 1) := by decide +kernel
theorem dL_walks_22 : decode cL_walks 22 = .ok (.iconst 3, 1) := by decide +kernel
theorem dL_walks_23 : decode cL_walks 23 = .ok (.dup2, 1) := by decide +kernel
theorem dL_walks_24 : decode cL_walks 24 = .ok (.iaload, 1) := by decide +kernel
theorem dL_walks_25 : decode cL_walks 25 = .ok (.iload_n 2, 1) := by decide +kernel
theorem dL_walks_26 : decode cL_walks 26 = .ok (.isub, 1) := by decide +kernel
theorem dL_walks_27 : decode cL_walks 27 = .ok (.iastore, 1) := by decide +kernel
theorem dL_walks_28 : decode cL_walks 28 = .ok (.aload_n 0, 1) := by decide +kernel
theorem dL_walks_29 : decode cL_walks 29 = .ok (.bipush 9, 2) := by decide +kernel
theorem dL_walks_31 : decode cL_walks 31 = .ok (.dup2, 1) := by decide +kernel
theorem dL_walks_32 : decode cL_walks 32 = .ok (.iaload, 1) := by decide +kernel
theorem dL_walks_33 : decode cL_walks 33 = .ok (.aload_n 0, 1) := by decide +kernel
theorem dL_walks_34 : decode cL_walks 34 = .ok (.iconst 2, 1) := by decide +kernel
theorem dL_walks_35 : decode cL_walks 35 = .ok (.iaload, 1) := by decide +kernel
theorem dL_walks_36 : decode cL_walks 36 = .ok (.iload_n 1, 1) := by decide +kernel
theorem dL_walks_37 : decode cL_walks 37 = .ok (.invokestatic 19, 3) := by decide +kernel
theorem dL_walks_40 : decode cL_walks 40 = .ok (.iadd, 1) := by decide +kernel
theorem dL_walks_41 : decode cL_walks 41 = .ok (.iastore, 1) := by decide +kernel
theorem dL_walks_42 : decode cL_walks 42 = .ok (.aload_n 0, 1) := by decide +kernel
theorem dL_walks_43 : decode cL_walks 43 = .ok (.iconst 2, 1) := by decide +kernel
theorem dL_walks_44 : decode cL_walks 44 = .ok (.iload_n 1, 1) := by decide +kernel
theorem dL_walks_45 : decode cL_walks 45 = .ok (.iastore, 1) := by decide +kernel
theorem dL_walks_46 : decode cL_walks 46 = .ok (.aload_n 0, 1) := by decide +kernel
theorem dL_walks_47 : decode cL_walks 47 = .ok (.iconst 3, 1) := by decide +kernel
theorem dL_walks_48 : decode cL_walks 48 = .ok (.iaload, 1) := by decide +kernel
theorem dL_walks_49 : decode cL_walks 49 = .ok (.ireturn, 1) := by decide +kernel
theorem dL_buys_0 : decode cL_buys 0 = .ok (.aload_n 0, 1) := by decide +kernel
theorem dL_buys_1 : decode cL_buys 1 = .ok (.iconst 2, 1) := by decide +kernel
theorem dL_buys_2 : decode cL_buys 2 = .ok (.iaload, 1) := by decide +kernel
theorem dL_buys_3 : decode cL_buys 3 = .ok (.ifCond .gt 14, 3) := by decide +kernel
theorem dL_buys_6 : decode cL_buys 6 = .ok (.aload_n 0, 1) := by decide +kernel
theorem dL_buys_7 : decode cL_buys 7 = .ok (.iconst 4, 1) := by decide +kernel
theorem dL_buys_8 : decode cL_buys 8 = .ok (.iaload, 1) := by decide +kernel
theorem dL_buys_9 : decode cL_buys 9 = .ok (.iload_n 1, 1) := by decide +kernel
theorem dL_buys_10 : decode cL_buys 10 = .ok (.iadd, 1) := by decide +kernel
theorem dL_buys_11 : decode cL_buys 11 = .ok (.sipush 999, 3) := by decide +kernel
theorem dL_buys_14 : decode cL_buys 14 = .ok (.if_icmp .le 17, 3) := by decide +kernel
theorem dL_buys_17 : decode cL_buys 17 = .ok (.aload_n 0, 1) := by decide +kernel
theorem dL_buys_18 : decode cL_buys 18 = .ok (.iconst 2, 1) := by decide +kernel
theorem dL_buys_19 : decode cL_buys 19 = .ok (.iaload, 1) := by decide +kernel
theorem dL_buys_20 : decode cL_buys 20 = .ok (.ifCond .le 8, 3) := by decide +kernel
theorem dL_buys_23 : decode cL_buys 23 = .ok (.ldc 23, 2) := by decide +kernel
theorem dL_buys_25 : decode cL_buys 25 = .ok (.goto 5, 3) := by decide +kernel
theorem dL_buys_28 : decode cL_buys 28 = .ok (.ldc 24, 2) := by decide +kernel
theorem dL_buys_30 : decode cL_buys 30 = .ok (.ireturn, 1) := by decide +kernel
theorem dL_buys_31 : decode cL_buys 31 = .ok (.aload_n 0, 1) := by decide +kernel
theorem dL_buys_32 : decode cL_buys 32 = .ok (.iconst 4, 1) := by decide +kernel
theorem dL_buys_33 : decode cL_buys 33 = .ok (.dup2, 1) := by decide +kernel
theorem dL_buys_34 : decode cL_buys 34 = .ok (.iaload, 1) := by decide +kernel
theorem dL_buys_35 : decode cL_buys 35 = .ok (.iload_n 1, 1) := by decide +kernel
theorem dL_buys_36 : decode cL_buys 36 = .ok (.iadd, 1) := by decide +kernel
theorem dL_buys_37 : decode cL_buys 37 = .ok (.iastore, 1) := by decide +kernel
theorem dL_buys_38 : decode cL_buys 38 = .ok (.aload_n 0, 1) := by decide +kernel
theorem dL_buys_39 : decode cL_buys 39 = .ok (.iconst 5, 1) := by decide +kernel
theorem dL_buys_40 : decode cL_buys 40 = .ok (.dup2, 1) := by decide +kernel
theorem dL_buys_41 : decode cL_buys 41 = .ok (.iaload, 1) := by decide +kernel
theorem dL_buys_42 : decode cL_buys 42 = .ok (.iconst 2, 1) := by decide +kernel
theorem dL_buys_43 : decode cL_buys 43 = .ok (.iload_n 1, 1) := by decide +kernel
theorem dL_buys_44 : decode cL_buys 44 = .ok (.imul, 1) := by decide +kernel
theorem dL_buys_45 : decode cL_buys 45 = .ok (.isub, 1) := by decide +kernel
theorem dL_buys_46 : decode cL_buys 46 = .ok (.iastore, 1) := by decide +kernel
theorem dL_buys_47 : decode cL_buys 47 = .ok (.aload_n 0, 1) := by decide +kernel
theorem dL_buys_48 : decode cL_buys 48 = .ok (.bipush 6, 2) := by decide +kernel
theorem dL_buys_50 : decode cL_buys 50 = .ok (.dup2, 1) := by decide +kernel
theorem dL_buys_51 : decode cL_buys 51 = .ok (.iaload, 1) := by decide +kernel
theorem dL_buys_52 : decode cL_buys 52 = .ok (.iconst 2, 1) := by decide +kernel
theorem dL_buys_53 : decode cL_buys 53 = .ok (.iload_n 1, 1) := by decide +kernel
theorem dL_buys_54 : decode cL_buys 54 = .ok (.imul, 1) := by decide +kernel
theorem dL_buys_55 : decode cL_buys 55 = .ok (.iadd, 1) := by decide +kernel
theorem dL_buys_56 : decode cL_buys 56 = .ok (.iastore, 1) := by decide +kernel
theorem dL_buys_57 : decode cL_buys 57 = .ok (.aload_n 0, 1) := by decide +kernel
theorem dL_buys_58 : decode cL_buys 58 = .ok (.iconst 4, 1) := by decide +kernel
theorem dL_buys_59 : decode cL_buys 59 = .ok (.iaload, 1) := by decide +kernel
theorem dL_buys_60 : decode cL_buys 60 = .ok (.ireturn, 1) := by decide +kernel
set_option maxRecDepth 20000 in
theorem ggL_mends_L_why : GoodIn wsL_mends wsL_why := goodIn_r _ [5, 6, 7, 4, 8, 9, 10, 11] (by decide +kernel) (by decide +kernel)
set_option maxRecDepth 20000 in
theorem gL_mends_L_why : GoodIn wsL_mends (va_wsS RL 25 yL_why wsL_why) := goodIn_app (goodIn_of _ (by decide +kernel)) ggL_mends_L_why
set_option maxRecDepth 20000 in
theorem ggL_mends_L_owes : GoodIn wsL_mends wsL_owes := goodIn_r _ [14, 6, 7, 4, 8, 9, 10, 11] (by decide +kernel) (by decide +kernel)
set_option maxRecDepth 20000 in
theorem gL_mends_L_owes : GoodIn wsL_mends (va_wsS RL 29 yL_owes wsL_owes) := goodIn_app (goodIn_of _ (by decide +kernel)) ggL_mends_L_owes
set_option maxRecDepth 20000 in
theorem ggL_mends_L_takes : GoodIn wsL_mends wsL_takes := goodIn_r _ [8, 9, 10, 4, 11] (by decide +kernel) (by decide +kernel)
set_option maxRecDepth 20000 in
theorem gL_mends_L_takes : GoodIn wsL_mends (va_wsS RL 15 yL_takes wsL_takes) := goodIn_app (goodIn_of _ (by decide +kernel)) ggL_mends_L_takes
theorem dL_mends_0 : decode cL_mends 0 = .ok (.aload_n 0, 1) := by decide +kernel
theorem dL_mends_1 : decode cL_mends 1 = .ok (.aload_n 1, 1) := by decide +kernel
theorem dL_mends_2 : decode cL_mends 2 = .ok (.iload_n 2, 1) := by decide +kernel
theorem dL_mends_3 : decode cL_mends 3 = .ok (.iload_n 3, 1) := by decide +kernel
theorem dL_mends_4 : decode cL_mends 4 = .ok (.invokestatic 25, 3) := by decide +kernel
theorem dL_mends_7 : decode cL_mends 7 = .ok (.ifCond .le 6, 3) := by decide +kernel
theorem dL_mends_10 : decode cL_mends 10 = .ok (.ldc 23, 2) := by decide +kernel
theorem dL_mends_12 : decode cL_mends 12 = .ok (.ireturn, 1) := by decide +kernel
theorem dL_mends_13 : decode cL_mends 13 = .ok (.aload_n 0, 1) := by decide +kernel
theorem dL_mends_14 : decode cL_mends 14 = .ok (.aload_n 1, 1) := by decide +kernel
theorem dL_mends_15 : decode cL_mends 15 = .ok (.iload_n 2, 1) := by decide +kernel
theorem dL_mends_16 : decode cL_mends 16 = .ok (.iload_n 3, 1) := by decide +kernel
theorem dL_mends_17 : decode cL_mends 17 = .ok (.invokestatic 29, 3) := by decide +kernel
theorem dL_mends_20 : decode cL_mends 20 = .ok (.istore 4, 2) := by decide +kernel
theorem dL_mends_22 : decode cL_mends 22 = .ok (.aload_n 0, 1) := by decide +kernel
theorem dL_mends_23 : decode cL_mends 23 = .ok (.iconst 3, 1) := by decide +kernel
theorem dL_mends_24 : decode cL_mends 24 = .ok (.dup2, 1) := by decide +kernel
theorem dL_mends_25 : decode cL_mends 25 = .ok (.iaload, 1) := by decide +kernel
theorem dL_mends_26 : decode cL_mends 26 = .ok (.iload_n 3, 1) := by decide +kernel
theorem dL_mends_27 : decode cL_mends 27 = .ok (.ifCond .eq 7, 3) := by decide +kernel
theorem dL_mends_30 : decode cL_mends 30 = .ok (.iconst 3, 1) := by decide +kernel
theorem dL_mends_31 : decode cL_mends 31 = .ok (.goto 4, 3) := by decide +kernel
theorem dL_mends_34 : decode cL_mends 34 = .ok (.iconst 1, 1) := by decide +kernel
theorem dL_mends_35 : decode cL_mends 35 = .ok (.isub, 1) := by decide +kernel
theorem dL_mends_36 : decode cL_mends 36 = .ok (.iastore, 1) := by decide +kernel
theorem dL_mends_37 : decode cL_mends 37 = .ok (.aload_n 0, 1) := by decide +kernel
theorem dL_mends_38 : decode cL_mends 38 = .ok (.iconst 4, 1) := by decide +kernel
theorem dL_mends_39 : decode cL_mends 39 = .ok (.dup2, 1) := by decide +kernel
theorem dL_mends_40 : decode cL_mends 40 = .ok (.iaload, 1) := by decide +kernel
theorem dL_mends_41 : decode cL_mends 41 = .ok (.aload_n 1, 1) := by decide +kernel
theorem dL_mends_42 : decode cL_mends 42 = .ok (.iload_n 2, 1) := by decide +kernel
theorem dL_mends_43 : decode cL_mends 43 = .ok (.iload_n 3, 1) := by decide +kernel
theorem dL_mends_44 : decode cL_mends 44 = .ok (.invokestatic 15, 3) := by decide +kernel
theorem dL_mends_47 : decode cL_mends 47 = .ok (.isub, 1) := by decide +kernel
theorem dL_mends_48 : decode cL_mends 48 = .ok (.iastore, 1) := by decide +kernel
theorem dL_mends_49 : decode cL_mends 49 = .ok (.aload_n 0, 1) := by decide +kernel
theorem dL_mends_50 : decode cL_mends 50 = .ok (.bipush 7, 2) := by decide +kernel
theorem dL_mends_52 : decode cL_mends 52 = .ok (.dup2, 1) := by decide +kernel
theorem dL_mends_53 : decode cL_mends 53 = .ok (.iaload, 1) := by decide +kernel
theorem dL_mends_54 : decode cL_mends 54 = .ok (.iload 4, 2) := by decide +kernel
theorem dL_mends_56 : decode cL_mends 56 = .ok (.iadd, 1) := by decide +kernel
theorem dL_mends_57 : decode cL_mends 57 = .ok (.iastore, 1) := by decide +kernel
theorem dL_mends_58 : decode cL_mends 58 = .ok (.aload_n 1, 1) := by decide +kernel
theorem dL_mends_59 : decode cL_mends 59 = .ok (.iload_n 2, 1) := by decide +kernel
theorem dL_mends_60 : decode cL_mends 60 = .ok (.iconst 5, 1) := by decide +kernel
theorem dL_mends_61 : decode cL_mends 61 = .ok (.iadd, 1) := by decide +kernel
theorem dL_mends_62 : decode cL_mends 62 = .ok (.dup2, 1) := by decide +kernel
theorem dL_mends_63 : decode cL_mends 63 = .ok (.iaload, 1) := by decide +kernel
theorem dL_mends_64 : decode cL_mends 64 = .ok (.iload 4, 2) := by decide +kernel
theorem dL_mends_66 : decode cL_mends 66 = .ok (.iadd, 1) := by decide +kernel
theorem dL_mends_67 : decode cL_mends 67 = .ok (.iastore, 1) := by decide +kernel
theorem dL_mends_68 : decode cL_mends 68 = .ok (.aload_n 1, 1) := by decide +kernel
theorem dL_mends_69 : decode cL_mends 69 = .ok (.iload_n 2, 1) := by decide +kernel
theorem dL_mends_70 : decode cL_mends 70 = .ok (.bipush 7, 2) := by decide +kernel
theorem dL_mends_72 : decode cL_mends 72 = .ok (.iadd, 1) := by decide +kernel
theorem dL_mends_73 : decode cL_mends 73 = .ok (.dup2, 1) := by decide +kernel
theorem dL_mends_74 : decode cL_mends 74 = .ok (.iaload, 1) := by decide +kernel
theorem dL_mends_75 : decode cL_mends 75 = .ok (.iconst 1, 1) := by decide +kernel
theorem dL_mends_76 : decode cL_mends 76 = .ok (.iadd, 1) := by decide +kernel
theorem dL_mends_77 : decode cL_mends 77 = .ok (.iastore, 1) := by decide +kernel
theorem dL_mends_78 : decode cL_mends 78 = .ok (.aload_n 1, 1) := by decide +kernel
theorem dL_mends_79 : decode cL_mends 79 = .ok (.iload_n 2, 1) := by decide +kernel
theorem dL_mends_80 : decode cL_mends 80 = .ok (.iconst 2, 1) := by decide +kernel
theorem dL_mends_81 : decode cL_mends 81 = .ok (.iadd, 1) := by decide +kernel
theorem dL_mends_82 : decode cL_mends 82 = .ok (.iload_n 3, 1) := by decide +kernel
theorem dL_mends_83 : decode cL_mends 83 = .ok (.ifCond .eq 7, 3) := by decide +kernel
theorem dL_mends_86 : decode cL_mends 86 = .ok (.iconst 0, 1) := by decide +kernel
theorem dL_mends_87 : decode cL_mends 87 = .ok (.goto 10, 3) := by decide +kernel
theorem dL_mends_90 : decode cL_mends 90 = .ok (.aload_n 1, 1) := by decide +kernel
theorem dL_mends_91 : decode cL_mends 91 = .ok (.iload_n 2, 1) := by decide +kernel
theorem dL_mends_92 : decode cL_mends 92 = .ok (.iconst 2, 1) := by decide +kernel
theorem dL_mends_93 : decode cL_mends 93 = .ok (.iadd, 1) := by decide +kernel
theorem dL_mends_94 : decode cL_mends 94 = .ok (.iaload, 1) := by decide +kernel
theorem dL_mends_95 : decode cL_mends 95 = .ok (.iconst 3, 1) := by decide +kernel
theorem dL_mends_96 : decode cL_mends 96 = .ok (.idiv, 1) := by decide +kernel
theorem dL_mends_97 : decode cL_mends 97 = .ok (.iastore, 1) := by decide +kernel
theorem dL_mends_98 : decode cL_mends 98 = .ok (.iload_n 3, 1) := by decide +kernel
theorem dL_mends_99 : decode cL_mends 99 = .ok (.ifCond .eq 11, 3) := by decide +kernel
theorem dL_mends_102 : decode cL_mends 102 = .ok (.aload_n 1, 1) := by decide +kernel
theorem dL_mends_103 : decode cL_mends 103 = .ok (.iload_n 2, 1) := by decide +kernel
theorem dL_mends_104 : decode cL_mends 104 = .ok (.iconst 5, 1) := by decide +kernel
theorem dL_mends_105 : decode cL_mends 105 = .ok (.iadd, 1) := by decide +kernel
theorem dL_mends_106 : decode cL_mends 106 = .ok (.iaload, 1) := by decide +kernel
theorem dL_mends_107 : decode cL_mends 107 = .ok (.goto 8, 3) := by decide +kernel
theorem dL_mends_110 : decode cL_mends 110 = .ok (.aload_n 1, 1) := by decide +kernel
theorem dL_mends_111 : decode cL_mends 111 = .ok (.iload_n 2, 1) := by decide +kernel
theorem dL_mends_112 : decode cL_mends 112 = .ok (.iconst 2, 1) := by decide +kernel
theorem dL_mends_113 : decode cL_mends 113 = .ok (.iadd, 1) := by decide +kernel
theorem dL_mends_114 : decode cL_mends 114 = .ok (.iaload, 1) := by decide +kernel
theorem dL_mends_115 : decode cL_mends 115 = .ok (.ireturn, 1) := by decide +kernel
theorem dL_collects_0 : decode cL_collects 0 = .ok (.aload_n 0, 1) := by decide +kernel
theorem dL_collects_1 : decode cL_collects 1 = .ok (.iconst 2, 1) := by decide +kernel
theorem dL_collects_2 : decode cL_collects 2 = .ok (.iaload, 1) := by decide +kernel
theorem dL_collects_3 : decode cL_collects 3 = .ok (.aload_n 1, 1) := by decide +kernel
theorem dL_collects_4 : decode cL_collects 4 = .ok (.iload_n 2, 1) := by decide +kernel
theorem dL_collects_5 : decode cL_collects 5 = .ok (.iaload, 1) := by decide +kernel
theorem dL_collects_6 : decode cL_collects 6 = .ok (.if_icmp .ne 11, 3) := by decide +kernel
theorem dL_collects_9 : decode cL_collects 9 = .ok (.aload_n 1, 1) := by decide +kernel
theorem dL_collects_10 : decode cL_collects 10 = .ok (.iload_n 2, 1) := by decide +kernel
theorem dL_collects_11 : decode cL_collects 11 = .ok (.iconst 5, 1) := by decide +kernel
theorem dL_collects_12 : decode cL_collects 12 = .ok (.iadd, 1) := by decide +kernel
theorem dL_collects_13 : decode cL_collects 13 = .ok (.iaload, 1) := by decide +kernel
theorem dL_collects_14 : decode cL_collects 14 = .ok (.ifCond .ne 6, 3) := by decide +kernel
theorem dL_collects_17 : decode cL_collects 17 = .ok (.ldc 23, 2) := by decide +kernel
theorem dL_collects_19 : decode cL_collects 19 = .ok (.ireturn, 1) := by decide +kernel
theorem dL_collects_20 : decode cL_collects 20 = .ok (.aload_n 1, 1) := by decide +kernel
theorem dL_collects_21 : decode cL_collects 21 = .ok (.iload_n 2, 1) := by decide +kernel
theorem dL_collects_22 : decode cL_collects 22 = .ok (.iconst 3, 1) := by decide +kernel
theorem dL_collects_23 : decode cL_collects 23 = .ok (.iadd, 1) := by decide +kernel
theorem dL_collects_24 : decode cL_collects 24 = .ok (.iaload, 1) := by decide +kernel
theorem dL_collects_25 : decode cL_collects 25 = .ok (.aload_n 0, 1) := by decide +kernel
theorem dL_collects_26 : decode cL_collects 26 = .ok (.bipush 10, 2) := by decide +kernel
theorem dL_collects_28 : decode cL_collects 28 = .ok (.iaload, 1) := by decide +kernel
theorem dL_collects_29 : decode cL_collects 29 = .ok (.if_icmp .ge 13, 3) := by decide +kernel
theorem dL_collects_32 : decode cL_collects 32 = .ok (.aload_n 1, 1) := by decide +kernel
theorem dL_collects_33 : decode cL_collects 33 = .ok (.iload_n 2, 1) := by decide +kernel
theorem dL_collects_34 : decode cL_collects 34 = .ok (.iconst 5, 1) := by decide +kernel
theorem dL_collects_35 : decode cL_collects 35 = .ok (.iadd, 1) := by decide +kernel
theorem dL_collects_36 : decode cL_collects 36 = .ok (.iaload, 1) := by decide +kernel
theorem dL_collects_37 : decode cL_collects 37 = .ok (.iconst 2, 1) := by decide +kernel
theorem dL_collects_38 : decode cL_collects 38 = .ok (.idiv, 1) := by decide +kernel
theorem dL_collects_39 : decode cL_collects 39 = .ok (.goto 8, 3) := by decide +kernel
theorem dL_collects_42 : decode cL_collects 42 = .ok (.aload_n 1, 1) := by decide +kernel
theorem dL_collects_43 : decode cL_collects 43 = .ok (.iload_n 2, 1) := by decide +kernel
theorem dL_collects_44 : decode cL_collects 44 = .ok (.iconst 5, 1) := by decide +kernel
theorem dL_collects_45 : decode cL_collects 45 = .ok (.iadd, 1) := by decide +kernel
theorem dL_collects_46 : decode cL_collects 46 = .ok (.iaload, 1) := by decide +kernel
theorem dL_collects_47 : decode cL_collects 47 = .ok (.istore_n 3, 1) := by decide +kernel
theorem dL_collects_48 : decode cL_collects 48 = .ok (.aload_n 1, 1) := by decide +kernel
theorem dL_collects_49 : decode cL_collects 49 = .ok (.iload_n 2, 1) := by decide +kernel
theorem dL_collects_50 : decode cL_collects 50 = .ok (.iconst 5, 1) := by decide +kernel
theorem dL_collects_51 : decode cL_collects 51 = .ok (.iadd, 1) := by decide +kernel
theorem dL_collects_52 : decode cL_collects 52 = .ok (.dup2, 1) := by decide +kernel
theorem dL_collects_53 : decode cL_collects 53 = .ok (.iaload, 1) := by decide +kernel
theorem dL_collects_54 : decode cL_collects 54 = .ok (.iload_n 3, 1) := by decide +kernel
theorem dL_collects_55 : decode cL_collects 55 = .ok (.isub, 1) := by decide +kernel
theorem dL_collects_56 : decode cL_collects 56 = .ok (.iastore, 1) := by decide +kernel
theorem dL_collects_57 : decode cL_collects 57 = .ok (.aload_n 1, 1) := by decide +kernel
theorem dL_collects_58 : decode cL_collects 58 = .ok (.iload_n 2, 1) := by decide +kernel
theorem dL_collects_59 : decode cL_collects 59 = .ok (.bipush 6, 2) := by decide +kernel
theorem dL_collects_61 : decode cL_collects 61 = .ok (.iadd, 1) := by decide +kernel
theorem dL_collects_62 : decode cL_collects 62 = .ok (.dup2, 1) := by decide +kernel
theorem dL_collects_63 : decode cL_collects 63 = .ok (.iaload, 1) := by decide +kernel
theorem dL_collects_64 : decode cL_collects 64 = .ok (.iload_n 3, 1) := by decide +kernel
theorem dL_collects_65 : decode cL_collects 65 = .ok (.iadd, 1) := by decide +kernel
theorem dL_collects_66 : decode cL_collects 66 = .ok (.iastore, 1) := by decide +kernel
theorem dL_collects_67 : decode cL_collects 67 = .ok (.aload_n 0, 1) := by decide +kernel
theorem dL_collects_68 : decode cL_collects 68 = .ok (.iconst 5, 1) := by decide +kernel
theorem dL_collects_69 : decode cL_collects 69 = .ok (.dup2, 1) := by decide +kernel
theorem dL_collects_70 : decode cL_collects 70 = .ok (.iaload, 1) := by decide +kernel
theorem dL_collects_71 : decode cL_collects 71 = .ok (.iload_n 3, 1) := by decide +kernel
theorem dL_collects_72 : decode cL_collects 72 = .ok (.iadd, 1) := by decide +kernel
theorem dL_collects_73 : decode cL_collects 73 = .ok (.iastore, 1) := by decide +kernel
theorem dL_collects_74 : decode cL_collects 74 = .ok (.iload_n 3, 1) := by decide +kernel
theorem dL_collects_75 : decode cL_collects 75 = .ok (.ireturn, 1) := by decide +kernel
set_option maxRecDepth 20000 in
theorem ggL_ends_L_day : GoodIn wsL_ends wsL_day := goodIn_r _ [4] (by decide +kernel) (by decide +kernel)
set_option maxRecDepth 20000 in
theorem gL_ends_L_day : GoodIn wsL_ends (va_wsS RL 32 yL_day wsL_day) := goodIn_app (goodIn_of _ (by decide +kernel)) ggL_ends_L_day
set_option maxRecDepth 20000 in
theorem ggL_ends_L_colds : GoodIn wsL_ends wsL_colds := goodIn_r _ [7] (by decide +kernel) (by decide +kernel)
set_option maxRecDepth 20000 in
theorem gL_ends_L_colds : GoodIn wsL_ends (va_wsS RL 36 yL_colds wsL_colds) := goodIn_app (goodIn_of _ (by decide +kernel)) ggL_ends_L_colds
theorem dL_ends_0 : decode cL_ends 0 = .ok (.iconst 0, 1) := by decide +kernel
theorem dL_ends_1 : decode cL_ends 1 = .ok (.istore_n 3, 1) := by decide +kernel
theorem dL_ends_2 : decode cL_ends 2 = .ok (.iload_n 3, 1) := by decide +kernel
theorem dL_ends_3 : decode cL_ends 3 = .ok (.iload_n 2, 1) := by decide +kernel
theorem dL_ends_4 : decode cL_ends 4 = .ok (.if_icmp .ge 36, 3) := by decide +kernel
theorem dL_ends_7 : decode cL_ends 7 = .ok (.iconst 0, 1) := by decide +kernel
theorem dL_ends_8 : decode cL_ends 8 = .ok (.istore 4, 2) := by decide +kernel
theorem dL_ends_10 : decode cL_ends 10 = .ok (.iload 4, 2) := by decide +kernel
theorem dL_ends_12 : decode cL_ends 12 = .ok (.aload_n 0, 1) := by decide +kernel
theorem dL_ends_13 : decode cL_ends 13 = .ok (.iconst 0, 1) := by decide +kernel
theorem dL_ends_14 : decode cL_ends 14 = .ok (.iaload, 1) := by decide +kernel
theorem dL_ends_15 : decode cL_ends 15 = .ok (.if_icmp .ge 19, 3) := by decide +kernel
theorem dL_ends_18 : decode cL_ends 18 = .ok (.aload_n 0, 1) := by decide +kernel
theorem dL_ends_19 : decode cL_ends 19 = .ok (.aload_n 1, 1) := by decide +kernel
theorem dL_ends_20 : decode cL_ends 20 = .ok (.bipush 8, 2) := by decide +kernel
theorem dL_ends_22 : decode cL_ends 22 = .ok (.iload 4, 2) := by decide +kernel
theorem dL_ends_24 : decode cL_ends 24 = .ok (.imul, 1) := by decide +kernel
theorem dL_ends_25 : decode cL_ends 25 = .ok (.invokestatic 32, 3) := by decide +kernel
theorem dL_ends_28 : decode cL_ends 28 = .ok (.iinc 4 1, 3) := by decide +kernel
theorem dL_ends_31 : decode cL_ends 31 = .ok (.goto (-21), 3) := by decide +kernel
theorem dL_ends_34 : decode cL_ends 34 = .ok (.iinc 3 1, 3) := by decide +kernel
theorem dL_ends_37 : decode cL_ends 37 = .ok (.goto (-35), 3) := by decide +kernel
theorem dL_ends_40 : decode cL_ends 40 = .ok (.aload_n 0, 1) := by decide +kernel
theorem dL_ends_41 : decode cL_ends 41 = .ok (.iconst 1, 1) := by decide +kernel
theorem dL_ends_42 : decode cL_ends 42 = .ok (.dup2, 1) := by decide +kernel
theorem dL_ends_43 : decode cL_ends 43 = .ok (.iaload, 1) := by decide +kernel
theorem dL_ends_44 : decode cL_ends 44 = .ok (.iload_n 2, 1) := by decide +kernel
theorem dL_ends_45 : decode cL_ends 45 = .ok (.iadd, 1) := by decide +kernel
theorem dL_ends_46 : decode cL_ends 46 = .ok (.iastore, 1) := by decide +kernel
theorem dL_ends_47 : decode cL_ends 47 = .ok (.aload_n 0, 1) := by decide +kernel
theorem dL_ends_48 : decode cL_ends 48 = .ok (.iconst 3, 1) := by decide +kernel
theorem dL_ends_49 : decode cL_ends 49 = .ok (.aload_n 0, 1) := by decide +kernel
theorem dL_ends_50 : decode cL_ends 50 = .ok (.bipush 11, 2) := by decide +kernel
theorem dL_ends_52 : decode cL_ends 52 = .ok (.iaload, 1) := by decide +kernel
theorem dL_ends_53 : decode cL_ends 53 = .ok (.iastore, 1) := by decide +kernel
theorem dL_ends_54 : decode cL_ends 54 = .ok (.iconst 0, 1) := by decide +kernel
theorem dL_ends_55 : decode cL_ends 55 = .ok (.istore_n 3, 1) := by decide +kernel
theorem dL_ends_56 : decode cL_ends 56 = .ok (.aload_n 0, 1) := by decide +kernel
theorem dL_ends_57 : decode cL_ends 57 = .ok (.aload_n 1, 1) := by decide +kernel
theorem dL_ends_58 : decode cL_ends 58 = .ok (.invokestatic 36, 3) := by decide +kernel
theorem dL_ends_61 : decode cL_ends 61 = .ok (.istore 4, 2) := by decide +kernel
theorem dL_ends_63 : decode cL_ends 63 = .ok (.iload 4, 2) := by decide +kernel
theorem dL_ends_65 : decode cL_ends 65 = .ok (.ifCond .le 19, 3) := by decide +kernel
theorem dL_ends_68 : decode cL_ends 68 = .ok (.iload_n 3, 1) := by decide +kernel
theorem dL_ends_69 : decode cL_ends 69 = .ok (.iload 4, 2) := by decide +kernel
theorem dL_ends_71 : decode cL_ends 71 = .ok (.iconst 2, 1) := by decide +kernel
theorem dL_ends_72 : decode cL_ends 72 = .ok (.irem, 1) := by decide +kernel
theorem dL_ends_73 : decode cL_ends 73 = .ok (.iadd, 1) := by decide +kernel
theorem dL_ends_74 : decode cL_ends 74 = .ok (.istore_n 3, 1) := by decide +kernel
theorem dL_ends_75 : decode cL_ends 75 = .ok (.iload 4, 2) := by decide +kernel
theorem dL_ends_77 : decode cL_ends 77 = .ok (.iconst 2, 1) := by decide +kernel
theorem dL_ends_78 : decode cL_ends 78 = .ok (.idiv, 1) := by decide +kernel
theorem dL_ends_79 : decode cL_ends 79 = .ok (.istore 4, 2) := by decide +kernel
theorem dL_ends_81 : decode cL_ends 81 = .ok (.goto (-18), 3) := by decide +kernel
theorem dL_ends_84 : decode cL_ends 84 = .ok (.iload_n 3, 1) := by decide +kernel
theorem dL_ends_85 : decode cL_ends 85 = .ok (.ireturn, 1) := by decide +kernel
set_option maxRecDepth 20000 in
theorem ggL_acts_L_low : GoodIn wsL_acts wsL_low := goodIn_r _ [7, 8] (by decide +kernel) (by decide +kernel)
set_option maxRecDepth 20000 in
theorem gL_acts_L_low : GoodIn wsL_acts (va_wsS RL 41 yL_low wsL_low) := goodIn_app (goodIn_of _ (by decide +kernel)) ggL_acts_L_low
set_option maxRecDepth 20000 in
theorem ggL_acts_X3_smithy : GoodIn wsL_acts wsX3_smithy := goodIn_r _ [13, 14, 15, 16, 17, 18, 19, 20, 21, 22, 23, 24, 25, 26, 27, 28, 29, 30, 31, 32, 33, 34, 35, 36, 37, 38, 39, 40, 41, 42, 43, 44, 45, 46, 47, 48, 49, 50, 51, 52, 53, 54, 55, 56, 57, 58, 59, 60, 61, 62, 63, 64, 65, 12, 66, 67, 68, 69, 70, 71, 72, 73, 74, 75, 76, 243, 244, 245, 246, 247, 248, 249, 250, 251, 252, 253, 254, 255, 256, 257, 258, 259, 260, 261, 262, 263, 264, 265, 266, 267, 268, 269, 270, 271, 272, 273, 274] (by decide +kernel) (by decide +kernel)
set_option maxRecDepth 20000 in
theorem gL_acts_X3_smithy : GoodIn wsL_acts (wsV RL 44 RX3 yX3_smithy wsX3_smithy) := goodIn_app (goodIn_of _ (by decide +kernel)) ggL_acts_X3_smithy
set_option maxRecDepth 20000 in
theorem ggL_acts_L_walks : GoodIn wsL_acts wsL_walks := goodIn_r _ [79, 80, 81, 82, 6, 83, 84, 85, 86] (by decide +kernel) (by decide +kernel)
set_option maxRecDepth 20000 in
theorem gL_acts_L_walks : GoodIn wsL_acts (va_wsS RL 49 yL_walks wsL_walks) := goodIn_app (goodIn_of _ (by decide +kernel)) ggL_acts_L_walks
set_option maxRecDepth 20000 in
theorem ggL_acts_X3_walk : GoodIn wsL_acts wsX3_walk := goodIn_r _ [90, 14, 15, 16, 17, 18, 19, 20, 21, 22, 23, 24, 25, 26, 27, 28, 29, 30, 31, 32, 33, 34, 35, 36, 37, 38, 39, 40, 41, 42, 43, 44, 45, 46, 47, 48, 49, 50, 51, 52, 91, 92, 93, 94, 57, 95, 96, 97, 98, 99, 100, 12, 101, 102, 103, 104, 105, 63, 64, 65, 66, 67, 68, 69, 70, 71, 72, 73, 74, 75, 76, 243, 244, 245, 246, 247, 248, 249, 250, 251, 252, 253, 254, 255, 256, 257, 258, 259, 260, 261, 262, 263, 264, 265, 266, 267, 268, 269, 270, 271, 272, 273, 274] (by decide +kernel) (by decide +kernel)
set_option maxRecDepth 20000 in
theorem gL_acts_X3_walk : GoodIn wsL_acts (wsV RL 53 RX3 yX3_walk wsX3_walk) := goodIn_app (goodIn_of _ (by decide +kernel)) ggL_acts_X3_walk
set_option maxRecDepth 20000 in
theorem ggL_acts_L_buys : GoodIn wsL_acts wsL_buys := goodIn_r _ [108, 80, 2] (by decide +kernel) (by decide +kernel)
set_option maxRecDepth 20000 in
theorem gL_acts_L_buys : GoodIn wsL_acts (va_wsS RL 56 yL_buys wsL_buys) := goodIn_app (goodIn_of _ (by decide +kernel)) ggL_acts_L_buys
set_option maxRecDepth 20000 in
theorem ggL_acts_X3_buy : GoodIn wsL_acts wsX3_buy := goodIn_r _ [112, 14, 15, 16, 17, 18, 19, 20, 21, 22, 23, 24, 25, 26, 27, 28, 29, 30, 31, 32, 33, 34, 35, 36, 37, 38, 39, 40, 41, 42, 43, 44, 45, 46, 47, 48, 49, 50, 51, 52, 113, 114, 115, 116, 57, 95, 58, 63, 64, 65, 12, 66, 67, 68, 69, 70, 71, 72, 73, 74, 75, 76, 243, 244, 245, 246, 247, 248, 249, 250, 251, 252, 253, 254, 255, 256, 257, 258, 259, 260, 261, 262, 263, 264, 265, 266, 267, 268, 269, 270, 271, 272, 273, 274] (by decide +kernel) (by decide +kernel)
set_option maxRecDepth 20000 in
theorem gL_acts_X3_buy : GoodIn wsL_acts (wsV RL 59 RX3 yX3_buy wsX3_buy) := goodIn_app (goodIn_of _ (by decide +kernel)) ggL_acts_X3_buy
set_option maxRecDepth 20000 in
theorem ggL_acts_X3_patch : GoodIn wsL_acts wsX3_patch := goodIn_r _ [120, 14, 15, 16, 17, 18, 19, 20, 21, 22, 23, 24, 25, 26, 27, 28, 29, 30, 31, 32, 33, 34, 35, 36, 37, 38, 39, 40, 41, 42, 43, 44, 45, 46, 47, 48, 49, 50, 51, 52, 121, 122, 123, 124, 57, 95, 125, 126, 127, 128, 129, 130, 131, 132, 133, 12, 134, 135, 136, 137, 138, 104, 105, 139, 140, 141, 142, 143, 144, 145, 146, 147, 148, 149, 150, 63, 64, 65, 66, 67, 68, 69, 70, 71, 72, 73, 74, 75, 76, 243, 244, 245, 246, 247, 248, 249, 250, 251, 252, 253, 254, 255, 256, 257, 258, 259, 260, 261, 262, 263, 264, 265, 266, 267, 268, 269, 270, 271, 272, 273, 274] (by decide +kernel) (by decide +kernel)
set_option maxRecDepth 20000 in
theorem gL_acts_X3_patch : GoodIn wsL_acts (wsV RL 62 RX3 yX3_patch wsX3_patch) := goodIn_app (goodIn_of _ (by decide +kernel)) ggL_acts_X3_patch
set_option maxRecDepth 20000 in
theorem ggL_acts_X3_hide : GoodIn wsL_acts wsX3_hide := goodIn_r _ [154, 14, 15, 16, 17, 18, 19, 20, 21, 22, 23, 24, 25, 26, 27, 28, 29, 30, 31, 32, 33, 34, 35, 36, 37, 38, 39, 40, 41, 42, 43, 44, 45, 46, 47, 48, 49, 50, 51, 52, 121, 122, 123, 124, 57, 95, 125, 126, 127, 128, 129, 130, 131, 132, 133, 12, 134, 135, 136, 137, 138, 104, 105, 139, 140, 141, 142, 143, 144, 145, 146, 147, 148, 149, 150, 63, 64, 65, 66, 67, 68, 69, 70, 71, 72, 73, 74, 75, 76, 243, 244, 245, 246, 247, 248, 249, 250, 251, 252, 253, 254, 255, 256, 257, 258, 259, 260, 261, 262, 263, 264, 265, 266, 267, 268, 269, 270, 271, 272, 273, 274] (by decide +kernel) (by decide +kernel)
set_option maxRecDepth 20000 in
theorem gL_acts_X3_hide : GoodIn wsL_acts (wsV RL 66 RX3 yX3_hide wsX3_hide) := goodIn_app (goodIn_of _ (by decide +kernel)) ggL_acts_X3_hide
set_option maxRecDepth 20000 in
theorem ggL_acts_X3_collect : GoodIn wsL_acts wsX3_collect := goodIn_r _ [158, 14, 15, 16, 17, 18, 19, 20, 21, 22, 23, 24, 25, 26, 27, 28, 29, 30, 31, 32, 33, 34, 35, 36, 37, 38, 39, 40, 41, 42, 43, 44, 45, 46, 47, 48, 49, 50, 51, 52, 159, 160, 161, 162, 57, 132, 125, 95, 163, 164, 165, 166, 167, 168, 63, 64, 65, 12, 66, 67, 68, 69, 70, 71, 72, 73, 74, 75, 76, 243, 244, 245, 246, 247, 248, 249, 250, 251, 252, 253, 254, 255, 256, 257, 258, 259, 260, 261, 262, 263, 264, 265, 266, 267, 268, 269, 270, 271, 272, 273, 274] (by decide +kernel) (by decide +kernel)
set_option maxRecDepth 20000 in
theorem gL_acts_X3_collect : GoodIn wsL_acts (wsV RL 69 RX3 yX3_collect wsX3_collect) := goodIn_app (goodIn_of _ (by decide +kernel)) ggL_acts_X3_collect
set_option maxRecDepth 20000 in
theorem ggL_acts_L_mends : GoodIn wsL_acts wsL_mends := goodIn_r _ [171, 80, 172, 173, 6, 174, 175, 176, 177, 84, 85, 86, 178, 179, 180] (by decide +kernel) (by decide +kernel)
set_option maxRecDepth 20000 in
theorem gL_acts_L_mends : GoodIn wsL_acts (va_wsS RL 72 yL_mends wsL_mends) := goodIn_app (goodIn_of _ (by decide +kernel)) ggL_acts_L_mends
set_option maxRecDepth 20000 in
theorem ggL_acts_L_collects : GoodIn wsL_acts wsL_collects := goodIn_r _ [183, 80] (by decide +kernel) (by decide +kernel)
set_option maxRecDepth 20000 in
theorem gL_acts_L_collects : GoodIn wsL_acts (va_wsS RL 75 yL_collects wsL_collects) := goodIn_app (goodIn_of _ (by decide +kernel)) ggL_acts_L_collects
set_option maxRecDepth 20000 in
theorem ggL_acts_X3_end : GoodIn wsL_acts wsX3_end := goodIn_r _ [187, 14, 15, 16, 17, 18, 19, 20, 21, 22, 23, 24, 25, 26, 27, 28, 29, 30, 31, 32, 33, 34, 35, 36, 37, 38, 39, 40, 41, 42, 43, 44, 45, 46, 47, 48, 49, 50, 51, 52, 188, 189, 190, 191, 57, 58, 192, 193, 194, 195, 126, 196, 163, 197, 198, 199, 98, 200, 201, 12, 202, 203, 204, 205, 206, 207, 208, 209, 210, 211, 165, 166, 167, 168, 212, 213, 214, 215, 216, 217, 218, 219, 220, 221, 222, 63, 64, 65, 66, 67, 68, 69, 70, 71, 72, 73, 74, 75, 76, 243, 244, 245, 246, 247, 248, 249, 250, 251, 252, 253, 254, 255, 256, 257, 258, 259, 260, 261, 262, 263, 264, 265, 266, 267, 268, 269, 270, 271, 272, 273, 274] (by decide +kernel) (by decide +kernel)
set_option maxRecDepth 20000 in
theorem gL_acts_X3_end : GoodIn wsL_acts (wsV RL 79 RX3 yX3_end wsX3_end) := goodIn_app (goodIn_of _ (by decide +kernel)) ggL_acts_X3_end
set_option maxRecDepth 20000 in
theorem ggL_acts_L_ends : GoodIn wsL_acts wsL_ends := goodIn_r _ [225, 226, 227, 6, 228, 229, 230, 231] (by decide +kernel) (by decide +kernel)
set_option maxRecDepth 20000 in
theorem gL_acts_L_ends : GoodIn wsL_acts (va_wsS RL 82 yL_ends wsL_ends) := goodIn_app (goodIn_of _ (by decide +kernel)) ggL_acts_L_ends
set_option maxRecDepth 20000 in
theorem ggL_acts_X3_set : GoodIn wsL_acts wsX3_set := goodIn_r _ [235, 14, 15, 16, 17, 18, 19, 20, 21, 22, 23, 24, 25, 26, 27, 28, 29, 30, 31, 32, 33, 34, 35, 36, 37, 38, 39, 40, 41, 42, 43, 44, 45, 46, 47, 48, 49, 50, 51, 52, 236, 237, 238, 239, 57, 240, 241, 242, 63, 64, 65, 12, 66, 67, 68, 69, 70, 71, 72, 73, 74, 75, 76, 243, 244, 245, 246, 247, 248, 249, 250, 251, 252, 253, 254, 255, 256, 257, 258, 259, 260, 261, 262, 263, 264, 265, 266, 267, 268, 269, 270, 271, 272, 273, 274] (by decide +kernel) (by decide +kernel)
set_option maxRecDepth 20000 in
theorem gL_acts_X3_set : GoodIn wsL_acts (wsV RL 85 RX3 yX3_set wsX3_set) := goodIn_app (goodIn_of _ (by decide +kernel)) ggL_acts_X3_set
theorem dL_acts_0 : decode cL_acts 0 = .ok (.iload_n 3, 1) := by decide +kernel
theorem dL_acts_1 : decode cL_acts 1 = .ok (.iconst 5, 1) := by decide +kernel
theorem dL_acts_2 : decode cL_acts 2 = .ok (.ishr, 1) := by decide +kernel
theorem dL_acts_3 : decode cL_acts 3 = .ok (.ldc 40, 2) := by decide +kernel
theorem dL_acts_5 : decode cL_acts 5 = .ok (.invokestatic 41, 3) := by decide +kernel
theorem dL_acts_8 : decode cL_acts 8 = .ok (.istore 4, 2) := by decide +kernel
theorem dL_acts_10 : decode cL_acts 10 = .ok (.iload_n 3, 1) := by decide +kernel
theorem dL_acts_11 : decode cL_acts 11 = .ok (.bipush 32, 2) := by decide +kernel
theorem dL_acts_13 : decode cL_acts 13 = .ok (.invokestatic 41, 3) := by decide +kernel
theorem dL_acts_16 : decode cL_acts 16 = .ok (.istore 5, 2) := by decide +kernel
theorem dL_acts_18 : decode cL_acts 18 = .ok (.iload 5, 2) := by decide +kernel
theorem dL_acts_20 : decode cL_acts 20 = .ok (.iconst 4, 1) := by decide +kernel
theorem dL_acts_21 : decode cL_acts 21 = .ok (.if_icmp .ge 150, 3) := by decide +kernel
theorem dL_acts_24 : decode cL_acts 24 = .ok (.iload 4, 2) := by decide +kernel
theorem dL_acts_26 : decode cL_acts 26 = .ok (.iload 4, 2) := by decide +kernel
theorem dL_acts_28 : decode cL_acts 28 = .ok (.iconst 3, 1) := by decide +kernel
theorem dL_acts_29 : decode cL_acts 29 = .ok (.irem, 1) := by decide +kernel
theorem dL_acts_30 : decode cL_acts 30 = .ok (.ifCond .ne 8, 3) := by decide +kernel
theorem dL_acts_33 : decode cL_acts 33 = .ok (.bipush 100, 2) := by decide +kernel
theorem dL_acts_35 : decode cL_acts 35 = .ok (.goto 5, 3) := by decide +kernel
theorem dL_acts_38 : decode cL_acts 38 = .ok (.bipush 25, 2) := by decide +kernel
theorem dL_acts_40 : decode cL_acts 40 = .ok (.irem, 1) := by decide +kernel
theorem dL_acts_41 : decode cL_acts 41 = .ok (.istore 6, 2) := by decide +kernel
theorem dL_acts_43 : decode cL_acts 43 = .ok (.iconst 1, 1) := by decide +kernel
theorem dL_acts_44 : decode cL_acts 44 = .ok (.iload 4, 2) := by decide +kernel
theorem dL_acts_46 : decode cL_acts 46 = .ok (.bipush 100, 2) := by decide +kernel
theorem dL_acts_48 : decode cL_acts 48 = .ok (.idiv, 1) := by decide +kernel
theorem dL_acts_49 : decode cL_acts 49 = .ok (.bipush 9, 2) := by decide +kernel
theorem dL_acts_51 : decode cL_acts 51 = .ok (.irem, 1) := by decide +kernel
theorem dL_acts_52 : decode cL_acts 52 = .ok (.iadd, 1) := by decide +kernel
theorem dL_acts_53 : decode cL_acts 53 = .ok (.istore 7, 2) := by decide +kernel
theorem dL_acts_55 : decode cL_acts 55 = .ok (.aload_n 1, 1) := by decide +kernel
theorem dL_acts_56 : decode cL_acts 56 = .ok (.iconst 0, 1) := by decide +kernel
theorem dL_acts_57 : decode cL_acts 57 = .ok (.iaload, 1) := by decide +kernel
theorem dL_acts_58 : decode cL_acts 58 = .ok (.bipush 8, 2) := by decide +kernel
theorem dL_acts_60 : decode cL_acts 60 = .ok (.if_icmp .ne 22, 3) := by decide +kernel
theorem dL_acts_63 : decode cL_acts 63 = .ok (.aload_n 0, 1) := by decide +kernel
theorem dL_acts_64 : decode cL_acts 64 = .ok (.iload 6, 2) := by decide +kernel
theorem dL_acts_66 : decode cL_acts 66 = .ok (.iload 7, 2) := by decide +kernel
theorem dL_acts_68 : decode cL_acts 68 = .ok (.invokevirtual 44, 3) := by decide +kernel
theorem dL_acts_71 : decode cL_acts 71 = .ok (.ldc 24, 2) := by decide +kernel
theorem dL_acts_73 : decode cL_acts 73 = .ok (.if_icmp .ne 7, 3) := by decide +kernel
theorem dL_acts_76 : decode cL_acts 76 = .ok (.iconst 1, 1) := by decide +kernel
theorem dL_acts_77 : decode cL_acts 77 = .ok (.goto 4, 3) := by decide +kernel
theorem dL_acts_80 : decode cL_acts 80 = .ok (.iconst 0, 1) := by decide +kernel
theorem dL_acts_81 : decode cL_acts 81 = .ok (.ireturn, 1) := by decide +kernel
theorem dL_acts_82 : decode cL_acts 82 = .ok (.iconst 0, 1) := by decide +kernel
theorem dL_acts_83 : decode cL_acts 83 = .ok (.istore 8, 2) := by decide +kernel
theorem dL_acts_85 : decode cL_acts 85 = .ok (.iload 8, 2) := by decide +kernel
theorem dL_acts_87 : decode cL_acts 87 = .ok (.bipush 8, 2) := by decide +kernel
theorem dL_acts_89 : decode cL_acts 89 = .ok (.if_icmp .ge 53, 3) := by decide +kernel
theorem dL_acts_92 : decode cL_acts 92 = .ok (.aload_n 2, 1) := by decide +kernel
theorem dL_acts_93 : decode cL_acts 93 = .ok (.bipush 8, 2) := by decide +kernel
theorem dL_acts_95 : decode cL_acts 95 = .ok (.aload_n 1, 1) := by decide +kernel
theorem dL_acts_96 : decode cL_acts 96 = .ok (.iconst 0, 1) := by decide +kernel
theorem dL_acts_97 : decode cL_acts 97 = .ok (.iaload, 1) := by decide +kernel
theorem dL_acts_98 : decode cL_acts 98 = .ok (.imul, 1) := by decide +kernel
theorem dL_acts_99 : decode cL_acts 99 = .ok (.iload 8, 2) := by decide +kernel
theorem dL_acts_101 : decode cL_acts 101 = .ok (.iadd, 1) := by decide +kernel
theorem dL_acts_102 : decode cL_acts 102 = .ok (.iload 8, 2) := by decide +kernel
theorem dL_acts_104 : decode cL_acts 104 = .ok (.ifCond .ne 8, 3) := by decide +kernel
theorem dL_acts_107 : decode cL_acts 107 = .ok (.iload 6, 2) := by decide +kernel
theorem dL_acts_109 : decode cL_acts 109 = .ok (.goto 26, 3) := by decide +kernel
theorem dL_acts_112 : decode cL_acts 112 = .ok (.iload 8, 2) := by decide +kernel
theorem dL_acts_114 : decode cL_acts 114 = .ok (.iconst 1, 1) := by decide +kernel
theorem dL_acts_115 : decode cL_acts 115 = .ok (.if_icmp .ne 8, 3) := by decide +kernel
theorem dL_acts_118 : decode cL_acts 118 = .ok (.iload 7, 2) := by decide +kernel
theorem dL_acts_120 : decode cL_acts 120 = .ok (.goto 15, 3) := by decide +kernel
theorem dL_acts_123 : decode cL_acts 123 = .ok (.iload 8, 2) := by decide +kernel
theorem dL_acts_125 : decode cL_acts 125 = .ok (.iconst 3, 1) := by decide +kernel
theorem dL_acts_126 : decode cL_acts 126 = .ok (.if_icmp .ne 8, 3) := by decide +kernel
theorem dL_acts_129 : decode cL_acts 129 = .ok (.bipush 100, 2) := by decide +kernel
theorem dL_acts_131 : decode cL_acts 131 = .ok (.goto 4, 3) := by decide +kernel
theorem dL_acts_134 : decode cL_acts 134 = .ok (.iconst 0, 1) := by decide +kernel
theorem dL_acts_135 : decode cL_acts 135 = .ok (.iastore, 1) := by decide +kernel
theorem dL_acts_136 : decode cL_acts 136 = .ok (.iinc 8 1, 3) := by decide +kernel
theorem dL_acts_139 : decode cL_acts 139 = .ok (.goto (-54), 3) := by decide +kernel
theorem dL_acts_142 : decode cL_acts 142 = .ok (.aload_n 1, 1) := by decide +kernel
theorem dL_acts_143 : decode cL_acts 143 = .ok (.iconst 0, 1) := by decide +kernel
theorem dL_acts_144 : decode cL_acts 144 = .ok (.dup2, 1) := by decide +kernel
theorem dL_acts_145 : decode cL_acts 145 = .ok (.iaload, 1) := by decide +kernel
theorem dL_acts_146 : decode cL_acts 146 = .ok (.iconst 1, 1) := by decide +kernel
theorem dL_acts_147 : decode cL_acts 147 = .ok (.iadd, 1) := by decide +kernel
theorem dL_acts_148 : decode cL_acts 148 = .ok (.iastore, 1) := by decide +kernel
theorem dL_acts_149 : decode cL_acts 149 = .ok (.aload_n 0, 1) := by decide +kernel
theorem dL_acts_150 : decode cL_acts 150 = .ok (.iload 6, 2) := by decide +kernel
theorem dL_acts_152 : decode cL_acts 152 = .ok (.iload 7, 2) := by decide +kernel
theorem dL_acts_154 : decode cL_acts 154 = .ok (.invokevirtual 44, 3) := by decide +kernel
theorem dL_acts_157 : decode cL_acts 157 = .ok (.aload_n 1, 1) := by decide +kernel
theorem dL_acts_158 : decode cL_acts 158 = .ok (.iconst 0, 1) := by decide +kernel
theorem dL_acts_159 : decode cL_acts 159 = .ok (.iaload, 1) := by decide +kernel
theorem dL_acts_160 : decode cL_acts 160 = .ok (.iconst 1, 1) := by decide +kernel
theorem dL_acts_161 : decode cL_acts 161 = .ok (.isub, 1) := by decide +kernel
theorem dL_acts_162 : decode cL_acts 162 = .ok (.if_icmp .ne 7, 3) := by decide +kernel
theorem dL_acts_165 : decode cL_acts 165 = .ok (.iconst 1, 1) := by decide +kernel
theorem dL_acts_166 : decode cL_acts 166 = .ok (.goto 4, 3) := by decide +kernel
theorem dL_acts_169 : decode cL_acts 169 = .ok (.iconst 0, 1) := by decide +kernel
theorem dL_acts_170 : decode cL_acts 170 = .ok (.ireturn, 1) := by decide +kernel
theorem dL_acts_171 : decode cL_acts 171 = .ok (.iload 5, 2) := by decide +kernel
theorem dL_acts_173 : decode cL_acts 173 = .ok (.bipush 11, 2) := by decide +kernel
theorem dL_acts_175 : decode cL_acts 175 = .ok (.if_icmp .ge 67, 3) := by decide +kernel
theorem dL_acts_178 : decode cL_acts 178 = .ok (.iload 5, 2) := by decide +kernel
theorem dL_acts_180 : decode cL_acts 180 = .ok (.bipush 6, 2) := by decide +kernel
theorem dL_acts_182 : decode cL_acts 182 = .ok (.if_icmp .lt 9, 3) := by decide +kernel
theorem dL_acts_185 : decode cL_acts 185 = .ok (.aload_n 1, 1) := by decide +kernel
theorem dL_acts_186 : decode cL_acts 186 = .ok (.iconst 0, 1) := by decide +kernel
theorem dL_acts_187 : decode cL_acts 187 = .ok (.iaload, 1) := by decide +kernel
theorem dL_acts_188 : decode cL_acts 188 = .ok (.ifCond .ne 16, 3) := by decide +kernel
theorem dL_acts_191 : decode cL_acts 191 = .ok (.iload 4, 2) := by decide +kernel
theorem dL_acts_193 : decode cL_acts 193 = .ok (.bipush 100, 2) := by decide +kernel
theorem dL_acts_195 : decode cL_acts 195 = .ok (.irem, 1) := by decide +kernel
theorem dL_acts_196 : decode cL_acts 196 = .ok (.iload 4, 2) := by decide +kernel
theorem dL_acts_198 : decode cL_acts 198 = .ok (.iconst 2, 1) := by decide +kernel
theorem dL_acts_199 : decode cL_acts 199 = .ok (.irem, 1) := by decide +kernel
theorem dL_acts_200 : decode cL_acts 200 = .ok (.imul, 1) := by decide +kernel
theorem dL_acts_201 : decode cL_acts 201 = .ok (.goto 14, 3) := by decide +kernel
theorem dL_acts_204 : decode cL_acts 204 = .ok (.aload_n 2, 1) := by decide +kernel
theorem dL_acts_205 : decode cL_acts 205 = .ok (.bipush 8, 2) := by decide +kernel
theorem dL_acts_207 : decode cL_acts 207 = .ok (.iload 4, 2) := by decide +kernel
theorem dL_acts_209 : decode cL_acts 209 = .ok (.aload_n 1, 1) := by decide +kernel
theorem dL_acts_210 : decode cL_acts 210 = .ok (.iconst 0, 1) := by decide +kernel
theorem dL_acts_211 : decode cL_acts 211 = .ok (.iaload, 1) := by decide +kernel
theorem dL_acts_212 : decode cL_acts 212 = .ok (.irem, 1) := by decide +kernel
theorem dL_acts_213 : decode cL_acts 213 = .ok (.imul, 1) := by decide +kernel
theorem dL_acts_214 : decode cL_acts 214 = .ok (.iaload, 1) := by decide +kernel
theorem dL_acts_215 : decode cL_acts 215 = .ok (.istore 6, 2) := by decide +kernel
theorem dL_acts_217 : decode cL_acts 217 = .ok (.aload_n 1, 1) := by decide +kernel
theorem dL_acts_218 : decode cL_acts 218 = .ok (.iload 6, 2) := by decide +kernel
theorem dL_acts_220 : decode cL_acts 220 = .ok (.invokestatic 49, 3) := by decide +kernel
theorem dL_acts_223 : decode cL_acts 223 = .ok (.istore 7, 2) := by decide +kernel
theorem dL_acts_225 : decode cL_acts 225 = .ok (.aload_n 0, 1) := by decide +kernel
theorem dL_acts_226 : decode cL_acts 226 = .ok (.iload 6, 2) := by decide +kernel
theorem dL_acts_228 : decode cL_acts 228 = .ok (.invokevirtual 53, 3) := by decide +kernel
theorem dL_acts_231 : decode cL_acts 231 = .ok (.iload 7, 2) := by decide +kernel
theorem dL_acts_233 : decode cL_acts 233 = .ok (.if_icmp .ne 7, 3) := by decide +kernel
theorem dL_acts_236 : decode cL_acts 236 = .ok (.iconst 1, 1) := by decide +kernel
theorem dL_acts_237 : decode cL_acts 237 = .ok (.goto 4, 3) := by decide +kernel
theorem dL_acts_240 : decode cL_acts 240 = .ok (.iconst 0, 1) := by decide +kernel
theorem dL_acts_241 : decode cL_acts 241 = .ok (.ireturn, 1) := by decide +kernel
theorem dL_acts_242 : decode cL_acts 242 = .ok (.iload 5, 2) := by decide +kernel
theorem dL_acts_244 : decode cL_acts 244 = .ok (.bipush 14, 2) := by decide +kernel
theorem dL_acts_246 : decode cL_acts 246 = .ok (.if_icmp .ge 50, 3) := by decide +kernel
theorem dL_acts_249 : decode cL_acts 249 = .ok (.iconst 1, 1) := by decide +kernel
theorem dL_acts_250 : decode cL_acts 250 = .ok (.iload 4, 2) := by decide +kernel
theorem dL_acts_252 : decode cL_acts 252 = .ok (.iload 4, 2) := by decide +kernel
theorem dL_acts_254 : decode cL_acts 254 = .ok (.iconst 4, 1) := by decide +kernel
theorem dL_acts_255 : decode cL_acts 255 = .ok (.irem, 1) := by decide +kernel
theorem dL_acts_256 : decode cL_acts 256 = .ok (.ifCond .ne 9, 3) := by decide +kernel
theorem dL_acts_259 : decode cL_acts 259 = .ok (.sipush 999, 3) := by decide +kernel
theorem dL_acts_262 : decode cL_acts 262 = .ok (.goto 5, 3) := by decide +kernel
theorem dL_acts_265 : decode cL_acts 265 = .ok (.bipush 60, 2) := by decide +kernel
theorem dL_acts_267 : decode cL_acts 267 = .ok (.irem, 1) := by decide +kernel
theorem dL_acts_268 : decode cL_acts 268 = .ok (.iadd, 1) := by decide +kernel
theorem dL_acts_269 : decode cL_acts 269 = .ok (.istore 6, 2) := by decide +kernel
theorem dL_acts_271 : decode cL_acts 271 = .ok (.aload_n 1, 1) := by decide +kernel
theorem dL_acts_272 : decode cL_acts 272 = .ok (.iload 6, 2) := by decide +kernel
theorem dL_acts_274 : decode cL_acts 274 = .ok (.invokestatic 56, 3) := by decide +kernel
theorem dL_acts_277 : decode cL_acts 277 = .ok (.istore 7, 2) := by decide +kernel
theorem dL_acts_279 : decode cL_acts 279 = .ok (.aload_n 0, 1) := by decide +kernel
theorem dL_acts_280 : decode cL_acts 280 = .ok (.iload 6, 2) := by decide +kernel
theorem dL_acts_282 : decode cL_acts 282 = .ok (.invokevirtual 59, 3) := by decide +kernel
theorem dL_acts_285 : decode cL_acts 285 = .ok (.iload 7, 2) := by decide +kernel
theorem dL_acts_287 : decode cL_acts 287 = .ok (.if_icmp .ne 7, 3) := by decide +kernel
theorem dL_acts_290 : decode cL_acts 290 = .ok (.iconst 1, 1) := by decide +kernel
theorem dL_acts_291 : decode cL_acts 291 = .ok (.goto 4, 3) := by decide +kernel
theorem dL_acts_294 : decode cL_acts 294 = .ok (.iconst 0, 1) := by decide +kernel
theorem dL_acts_295 : decode cL_acts 295 = .ok (.ireturn, 1) := by decide +kernel
theorem dL_acts_296 : decode cL_acts 296 = .ok (.iload 5, 2) := by decide +kernel
theorem dL_acts_298 : decode cL_acts 298 = .ok (.bipush 23, 2) := by decide +kernel
theorem dL_acts_300 : decode cL_acts 300 = .ok (.if_icmp .ge 193, 3) := by decide +kernel
theorem dL_acts_303 : decode cL_acts 303 = .ok (.aload_n 1, 1) := by decide +kernel
theorem dL_acts_304 : decode cL_acts 304 = .ok (.iconst 0, 1) := by decide +kernel
theorem dL_acts_305 : decode cL_acts 305 = .ok (.iaload, 1) := by decide +kernel
theorem dL_acts_306 : decode cL_acts 306 = .ok (.ifCond .ne 39, 3) := by decide +kernel
theorem dL_acts_309 : decode cL_acts 309 = .ok (.aload_n 0, 1) := by decide +kernel
theorem dL_acts_310 : decode cL_acts 310 = .ok (.iconst 0, 1) := by decide +kernel
theorem dL_acts_311 : decode cL_acts 311 = .ok (.invokevirtual 62, 3) := by decide +kernel
theorem dL_acts_314 : decode cL_acts 314 = .ok (.ldc 65, 2) := by decide +kernel
theorem dL_acts_316 : decode cL_acts 316 = .ok (.if_icmp .ne 27, 3) := by decide +kernel
theorem dL_acts_319 : decode cL_acts 319 = .ok (.aload_n 0, 1) := by decide +kernel
theorem dL_acts_320 : decode cL_acts 320 = .ok (.iconst 0, 1) := by decide +kernel
theorem dL_acts_321 : decode cL_acts 321 = .ok (.invokevirtual 66, 3) := by decide +kernel
theorem dL_acts_324 : decode cL_acts 324 = .ok (.ldc 65, 2) := by decide +kernel
theorem dL_acts_326 : decode cL_acts 326 = .ok (.if_icmp .ne 17, 3) := by decide +kernel
theorem dL_acts_329 : decode cL_acts 329 = .ok (.aload_n 0, 1) := by decide +kernel
theorem dL_acts_330 : decode cL_acts 330 = .ok (.iconst 0, 1) := by decide +kernel
theorem dL_acts_331 : decode cL_acts 331 = .ok (.invokevirtual 69, 3) := by decide +kernel
theorem dL_acts_334 : decode cL_acts 334 = .ok (.ldc 65, 2) := by decide +kernel
theorem dL_acts_336 : decode cL_acts 336 = .ok (.if_icmp .ne 7, 3) := by decide +kernel
theorem dL_acts_339 : decode cL_acts 339 = .ok (.iconst 1, 1) := by decide +kernel
theorem dL_acts_340 : decode cL_acts 340 = .ok (.goto 4, 3) := by decide +kernel
theorem dL_acts_343 : decode cL_acts 343 = .ok (.iconst 0, 1) := by decide +kernel
theorem dL_acts_344 : decode cL_acts 344 = .ok (.ireturn, 1) := by decide +kernel
theorem dL_acts_345 : decode cL_acts 345 = .ok (.iload 4, 2) := by decide +kernel
theorem dL_acts_347 : decode cL_acts 347 = .ok (.aload_n 1, 1) := by decide +kernel
theorem dL_acts_348 : decode cL_acts 348 = .ok (.iconst 0, 1) := by decide +kernel
theorem dL_acts_349 : decode cL_acts 349 = .ok (.iaload, 1) := by decide +kernel
theorem dL_acts_350 : decode cL_acts 350 = .ok (.irem, 1) := by decide +kernel
theorem dL_acts_351 : decode cL_acts 351 = .ok (.istore 6, 2) := by decide +kernel
theorem dL_acts_353 : decode cL_acts 353 = .ok (.iconst 0, 1) := by decide +kernel
theorem dL_acts_354 : decode cL_acts 354 = .ok (.istore 7, 2) := by decide +kernel
theorem dL_acts_356 : decode cL_acts 356 = .ok (.iload 7, 2) := by decide +kernel
theorem dL_acts_358 : decode cL_acts 358 = .ok (.bipush 8, 2) := by decide +kernel
theorem dL_acts_360 : decode cL_acts 360 = .ok (.if_icmp .ge 40, 3) := by decide +kernel
theorem dL_acts_363 : decode cL_acts 363 = .ok (.aload_n 2, 1) := by decide +kernel
theorem dL_acts_364 : decode cL_acts 364 = .ok (.bipush 8, 2) := by decide +kernel
theorem dL_acts_366 : decode cL_acts 366 = .ok (.iload 6, 2) := by decide +kernel
theorem dL_acts_368 : decode cL_acts 368 = .ok (.imul, 1) := by decide +kernel
theorem dL_acts_369 : decode cL_acts 369 = .ok (.iaload, 1) := by decide +kernel
theorem dL_acts_370 : decode cL_acts 370 = .ok (.aload_n 1, 1) := by decide +kernel
theorem dL_acts_371 : decode cL_acts 371 = .ok (.iconst 2, 1) := by decide +kernel
theorem dL_acts_372 : decode cL_acts 372 = .ok (.iaload, 1) := by decide +kernel
theorem dL_acts_373 : decode cL_acts 373 = .ok (.if_icmp .eq 27, 3) := by decide +kernel
theorem dL_acts_376 : decode cL_acts 376 = .ok (.iload 4, 2) := by decide +kernel
theorem dL_acts_378 : decode cL_acts 378 = .ok (.bipush 7, 2) := by decide +kernel
theorem dL_acts_380 : decode cL_acts 380 = .ok (.irem, 1) := by decide +kernel
theorem dL_acts_381 : decode cL_acts 381 = .ok (.ifCond .le 19, 3) := by decide +kernel
theorem dL_acts_384 : decode cL_acts 384 = .ok (.iload 6, 2) := by decide +kernel
theorem dL_acts_386 : decode cL_acts 386 = .ok (.iconst 1, 1) := by decide +kernel
theorem dL_acts_387 : decode cL_acts 387 = .ok (.iadd, 1) := by decide +kernel
theorem dL_acts_388 : decode cL_acts 388 = .ok (.aload_n 1, 1) := by decide +kernel
theorem dL_acts_389 : decode cL_acts 389 = .ok (.iconst 0, 1) := by decide +kernel
theorem dL_acts_390 : decode cL_acts 390 = .ok (.iaload, 1) := by decide +kernel
theorem dL_acts_391 : decode cL_acts 391 = .ok (.irem, 1) := by decide +kernel
theorem dL_acts_392 : decode cL_acts 392 = .ok (.istore 6, 2) := by decide +kernel
theorem dL_acts_394 : decode cL_acts 394 = .ok (.iinc 7 1, 3) := by decide +kernel
theorem dL_acts_397 : decode cL_acts 397 = .ok (.goto (-41), 3) := by decide +kernel
theorem dL_acts_400 : decode cL_acts 400 = .ok (.iload 5, 2) := by decide +kernel
theorem dL_acts_402 : decode cL_acts 402 = .ok (.bipush 20, 2) := by decide +kernel
theorem dL_acts_404 : decode cL_acts 404 = .ok (.if_icmp .ge 28, 3) := by decide +kernel
theorem dL_acts_407 : decode cL_acts 407 = .ok (.aload_n 1, 1) := by decide +kernel
theorem dL_acts_408 : decode cL_acts 408 = .ok (.aload_n 2, 1) := by decide +kernel
theorem dL_acts_409 : decode cL_acts 409 = .ok (.bipush 8, 2) := by decide +kernel
theorem dL_acts_411 : decode cL_acts 411 = .ok (.iload 6, 2) := by decide +kernel
theorem dL_acts_413 : decode cL_acts 413 = .ok (.imul, 1) := by decide +kernel
theorem dL_acts_414 : decode cL_acts 414 = .ok (.iload 5, 2) := by decide +kernel
theorem dL_acts_416 : decode cL_acts 416 = .ok (.bipush 17, 2) := by decide +kernel
theorem dL_acts_418 : decode cL_acts 418 = .ok (.if_icmp .le 7, 3) := by decide +kernel
theorem dL_acts_421 : decode cL_acts 421 = .ok (.iconst 1, 1) := by decide +kernel
theorem dL_acts_422 : decode cL_acts 422 = .ok (.goto 4, 3) := by decide +kernel
theorem dL_acts_425 : decode cL_acts 425 = .ok (.iconst 0, 1) := by decide +kernel
theorem dL_acts_426 : decode cL_acts 426 = .ok (.invokestatic 72, 3) := by decide +kernel
theorem dL_acts_429 : decode cL_acts 429 = .ok (.goto 13, 3) := by decide +kernel
theorem dL_acts_432 : decode cL_acts 432 = .ok (.aload_n 1, 1) := by decide +kernel
theorem dL_acts_433 : decode cL_acts 433 = .ok (.aload_n 2, 1) := by decide +kernel
theorem dL_acts_434 : decode cL_acts 434 = .ok (.bipush 8, 2) := by decide +kernel
theorem dL_acts_436 : decode cL_acts 436 = .ok (.iload 6, 2) := by decide +kernel
theorem dL_acts_438 : decode cL_acts 438 = .ok (.imul, 1) := by decide +kernel
theorem dL_acts_439 : decode cL_acts 439 = .ok (.invokestatic 75, 3) := by decide +kernel
theorem dL_acts_442 : decode cL_acts 442 = .ok (.istore 7, 2) := by decide +kernel
theorem dL_acts_444 : decode cL_acts 444 = .ok (.iload 5, 2) := by decide +kernel
theorem dL_acts_446 : decode cL_acts 446 = .ok (.bipush 18, 2) := by decide +kernel
theorem dL_acts_448 : decode cL_acts 448 = .ok (.if_icmp .ge 12, 3) := by decide +kernel
theorem dL_acts_451 : decode cL_acts 451 = .ok (.aload_n 0, 1) := by decide +kernel
theorem dL_acts_452 : decode cL_acts 452 = .ok (.iload 6, 2) := by decide +kernel
theorem dL_acts_454 : decode cL_acts 454 = .ok (.invokevirtual 62, 3) := by decide +kernel
theorem dL_acts_457 : decode cL_acts 457 = .ok (.goto 25, 3) := by decide +kernel
theorem dL_acts_460 : decode cL_acts 460 = .ok (.iload 5, 2) := by decide +kernel
theorem dL_acts_462 : decode cL_acts 462 = .ok (.bipush 20, 2) := by decide +kernel
theorem dL_acts_464 : decode cL_acts 464 = .ok (.if_icmp .ge 12, 3) := by decide +kernel
theorem dL_acts_467 : decode cL_acts 467 = .ok (.aload_n 0, 1) := by decide +kernel
theorem dL_acts_468 : decode cL_acts 468 = .ok (.iload 6, 2) := by decide +kernel
theorem dL_acts_470 : decode cL_acts 470 = .ok (.invokevirtual 66, 3) := by decide +kernel
theorem dL_acts_473 : decode cL_acts 473 = .ok (.goto 9, 3) := by decide +kernel
theorem dL_acts_476 : decode cL_acts 476 = .ok (.aload_n 0, 1) := by decide +kernel
theorem dL_acts_477 : decode cL_acts 477 = .ok (.iload 6, 2) := by decide +kernel
theorem dL_acts_479 : decode cL_acts 479 = .ok (.invokevirtual 69, 3) := by decide +kernel
theorem dL_acts_482 : decode cL_acts 482 = .ok (.iload 7, 2) := by decide +kernel
theorem dL_acts_484 : decode cL_acts 484 = .ok (.if_icmp .ne 7, 3) := by decide +kernel
theorem dL_acts_487 : decode cL_acts 487 = .ok (.iconst 1, 1) := by decide +kernel
theorem dL_acts_488 : decode cL_acts 488 = .ok (.goto 4, 3) := by decide +kernel
theorem dL_acts_491 : decode cL_acts 491 = .ok (.iconst 0, 1) := by decide +kernel
theorem dL_acts_492 : decode cL_acts 492 = .ok (.ireturn, 1) := by decide +kernel
theorem dL_acts_493 : decode cL_acts 493 = .ok (.iload 5, 2) := by decide +kernel
theorem dL_acts_495 : decode cL_acts 495 = .ok (.bipush 29, 2) := by decide +kernel
theorem dL_acts_497 : decode cL_acts 497 = .ok (.if_icmp .ge 79, 3) := by decide +kernel
theorem dL_acts_500 : decode cL_acts 500 = .ok (.iconst 1, 1) := by decide +kernel
theorem dL_acts_501 : decode cL_acts 501 = .ok (.iload 4, 2) := by decide +kernel
theorem dL_acts_503 : decode cL_acts 503 = .ok (.iload 4, 2) := by decide +kernel
theorem dL_acts_505 : decode cL_acts 505 = .ok (.iconst 4, 1) := by decide +kernel
theorem dL_acts_506 : decode cL_acts 506 = .ok (.irem, 1) := by decide +kernel
theorem dL_acts_507 : decode cL_acts 507 = .ok (.ifCond .ne 8, 3) := by decide +kernel
theorem dL_acts_510 : decode cL_acts 510 = .ok (.bipush 99, 2) := by decide +kernel
theorem dL_acts_512 : decode cL_acts 512 = .ok (.goto 5, 3) := by decide +kernel
theorem dL_acts_515 : decode cL_acts 515 = .ok (.bipush 6, 2) := by decide +kernel
theorem dL_acts_517 : decode cL_acts 517 = .ok (.irem, 1) := by decide +kernel
theorem dL_acts_518 : decode cL_acts 518 = .ok (.iadd, 1) := by decide +kernel
theorem dL_acts_519 : decode cL_acts 519 = .ok (.istore 6, 2) := by decide +kernel
theorem dL_acts_521 : decode cL_acts 521 = .ok (.aload_n 1, 1) := by decide +kernel
theorem dL_acts_522 : decode cL_acts 522 = .ok (.iconst 1, 1) := by decide +kernel
theorem dL_acts_523 : decode cL_acts 523 = .ok (.iaload, 1) := by decide +kernel
