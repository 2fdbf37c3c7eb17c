theorem dX3_bitsOf_48 : decode cX3_bitsOf 48 = .ok (.fconst 1, 1) := by decide +kernel
theorem dX3_bitsOf_49 : decode cX3_bitsOf 49 = .ok (.fcmp .g, 1) := by decide +kernel
theorem dX3_bitsOf_50 : decode cX3_bitsOf 50 = .ok (.ifCond .ge 16, 3) := by decide +kernel
theorem dX3_bitsOf_53 : decode cX3_bitsOf 53 = .ok (.fload_n 1, 1) := by decide +kernel
theorem dX3_bitsOf_54 : decode cX3_bitsOf 54 = .ok (.fconst 2, 1) := by decide +kernel
theorem dX3_bitsOf_55 : decode cX3_bitsOf 55 = .ok (.fmul, 1) := by decide +kernel
theorem dX3_bitsOf_56 : decode cX3_bitsOf 56 = .ok (.fstore_n 1, 1) := by decide +kernel
theorem dX3_bitsOf_57 : decode cX3_bitsOf 57 = .ok (.iinc 2 (-1), 3) := by decide +kernel
theorem dX3_bitsOf_60 : decode cX3_bitsOf 60 = .ok (.iinc 3 1, 3) := by decide +kernel
theorem dX3_bitsOf_63 : decode cX3_bitsOf 63 = .ok (.goto (-22), 3) := by decide +kernel
theorem dX3_bitsOf_66 : decode cX3_bitsOf 66 = .ok (.fload_n 1, 1) := by decide +kernel
theorem dX3_bitsOf_67 : decode cX3_bitsOf 67 = .ok (.fconst 1, 1) := by decide +kernel
theorem dX3_bitsOf_68 : decode cX3_bitsOf 68 = .ok (.fsub, 1) := by decide +kernel
theorem dX3_bitsOf_69 : decode cX3_bitsOf 69 = .ok (.ldc_w 257, 3) := by decide +kernel
theorem dX3_bitsOf_72 : decode cX3_bitsOf 72 = .ok (.fmul, 1) := by decide +kernel
theorem dX3_bitsOf_73 : decode cX3_bitsOf 73 = .ok (.f2i, 1) := by decide +kernel
theorem dX3_bitsOf_74 : decode cX3_bitsOf 74 = .ok (.istore_n 3, 1) := by decide +kernel
theorem dX3_bitsOf_75 : decode cX3_bitsOf 75 = .ok (.iload_n 2, 1) := by decide +kernel
theorem dX3_bitsOf_76 : decode cX3_bitsOf 76 = .ok (.bipush 127, 2) := by decide +kernel
theorem dX3_bitsOf_78 : decode cX3_bitsOf 78 = .ok (.iadd, 1) := by decide +kernel
theorem dX3_bitsOf_79 : decode cX3_bitsOf 79 = .ok (.bipush 23, 2) := by decide +kernel
theorem dX3_bitsOf_81 : decode cX3_bitsOf 81 = .ok (.ishl, 1) := by decide +kernel
theorem dX3_bitsOf_82 : decode cX3_bitsOf 82 = .ok (.iload_n 3, 1) := by decide +kernel
theorem dX3_bitsOf_83 : decode cX3_bitsOf 83 = .ok (.ior, 1) := by decide +kernel
theorem dX3_bitsOf_84 : decode cX3_bitsOf 84 = .ok (.ireturn, 1) := by decide +kernel
theorem dX4_init_0 : decode cX4_init 0 = .ok (.aload_n 0, 1) := by decide +kernel
theorem dX4_init_1 : decode cX4_init 1 = .ok (.invokespecial 1, 3) := by decide +kernel
theorem dX4_init_4 : decode cX4_init 4 = .ok (.aload_n 0, 1) := by decide +kernel
theorem dX4_init_5 : decode cX4_init 5 = .ok (.bipush 78, 2) := by decide +kernel
theorem dX4_init_7 : decode cX4_init 7 = .ok (.newarray .int, 2) := by decide +kernel
theorem dX4_init_9 : decode cX4_init 9 = .ok (.putfield 7, 3) := by decide +kernel
theorem dX4_init_12 : decode cX4_init 12 = .ok (.aload_n 0, 1) := by decide +kernel
theorem dX4_init_13 : decode cX4_init 13 = .ok (.sipush 312, 3) := by decide +kernel
theorem dX4_init_16 : decode cX4_init 16 = .ok (.newarray .int, 2) := by decide +kernel
theorem dX4_init_18 : decode cX4_init 18 = .ok (.putfield 13, 3) := by decide +kernel
theorem dX4_init_21 : decode cX4_init 21 = .ok (.aload_n 0, 1) := by decide +kernel
theorem dX4_init_22 : decode cX4_init 22 = .ok (.bipush 78, 2) := by decide +kernel
theorem dX4_init_24 : decode cX4_init 24 = .ok (.newarray .int, 2) := by decide +kernel
theorem dX4_init_26 : decode cX4_init 26 = .ok (.putfield 16, 3) := by decide +kernel
theorem dX4_init_29 : decode cX4_init 29 = .ok (.aload_n 0, 1) := by decide +kernel
theorem dX4_init_30 : decode cX4_init 30 = .ok (.bipush 78, 2) := by decide +kernel
theorem dX4_init_32 : decode cX4_init 32 = .ok (.newarray .int, 2) := by decide +kernel
theorem dX4_init_34 : decode cX4_init 34 = .ok (.putfield 19, 3) := by decide +kernel
theorem dX4_init_37 : decode cX4_init 37 = .ok (.aload_n 0, 1) := by decide +kernel
theorem dX4_init_38 : decode cX4_init 38 = .ok (.bipush 60, 2) := by decide +kernel
theorem dX4_init_40 : decode cX4_init 40 = .ok (.newarray .int, 2) := by decide +kernel
theorem dX4_init_42 : decode cX4_init 42 = .ok (.putfield 22, 3) := by decide +kernel
theorem dX4_init_45 : decode cX4_init 45 = .ok (.aload_n 0, 1) := by decide +kernel
theorem dX4_init_46 : decode cX4_init 46 = .ok (.getfield 7, 3) := by decide +kernel
theorem dX4_init_49 : decode cX4_init 49 = .ok (.iconst 5, 1) := by decide +kernel
theorem dX4_init_50 : decode cX4_init 50 = .ok (.bipush 100, 2) := by decide +kernel
theorem dX4_init_52 : decode cX4_init 52 = .ok (.iastore, 1) := by decide +kernel
theorem dX4_init_53 : decode cX4_init 53 = .ok (.aload_n 0, 1) := by decide +kernel
theorem dX4_init_54 : decode cX4_init 54 = .ok (.getfield 7, 3) := by decide +kernel
theorem dX4_init_57 : decode cX4_init 57 = .ok (.iconst 3, 1) := by decide +kernel
theorem dX4_init_58 : decode cX4_init 58 = .ok (.bipush 10, 2) := by decide +kernel
theorem dX4_init_60 : decode cX4_init 60 = .ok (.iastore, 1) := by decide +kernel
theorem dX4_init_61 : decode cX4_init 61 = .ok (.aload_n 0, 1) := by decide +kernel
theorem dX4_init_62 : decode cX4_init 62 = .ok (.getfield 7, 3) := by decide +kernel
theorem dX4_init_65 : decode cX4_init 65 = .ok (.bipush 10, 2) := by decide +kernel
theorem dX4_init_67 : decode cX4_init 67 = .ok (.bipush 30, 2) := by decide +kernel
theorem dX4_init_69 : decode cX4_init 69 = .ok (.iastore, 1) := by decide +kernel
theorem dX4_init_70 : decode cX4_init 70 = .ok (.aload_n 0, 1) := by decide +kernel
theorem dX4_init_71 : decode cX4_init 71 = .ok (.getfield 7, 3) := by decide +kernel
theorem dX4_init_74 : decode cX4_init 74 = .ok (.bipush 11, 2) := by decide +kernel
theorem dX4_init_76 : decode cX4_init 76 = .ok (.bipush 10, 2) := by decide +kernel
theorem dX4_init_78 : decode cX4_init 78 = .ok (.iastore, 1) := by decide +kernel
theorem dX4_init_79 : decode cX4_init 79 = .ok (.aload_n 0, 1) := by decide +kernel
theorem dX4_init_80 : decode cX4_init 80 = .ok (.getfield 7, 3) := by decide +kernel
theorem dX4_init_83 : decode cX4_init 83 = .ok (.bipush 12, 2) := by decide +kernel
theorem dX4_init_85 : decode cX4_init 85 = .ok (.iconst 4, 1) := by decide +kernel
theorem dX4_init_86 : decode cX4_init 86 = .ok (.iastore, 1) := by decide +kernel
theorem dX4_init_87 : decode cX4_init 87 = .ok (.aload_n 0, 1) := by decide +kernel
theorem dX4_init_88 : decode cX4_init 88 = .ok (.getfield 7, 3) := by decide +kernel
theorem dX4_init_91 : decode cX4_init 91 = .ok (.bipush 13, 2) := by decide +kernel
theorem dX4_init_93 : decode cX4_init 93 = .ok (.bipush 60, 2) := by decide +kernel
theorem dX4_init_95 : decode cX4_init 95 = .ok (.iastore, 1) := by decide +kernel
theorem dX4_init_96 : decode cX4_init 96 = .ok (.return_, 1) := by decide +kernel
theorem dX4_in_0 : decode cX4_in 0 = .ok (.iload_n 0, 1) := by decide +kernel
theorem dX4_in_1 : decode cX4_in 1 = .ok (.iload_n 1, 1) := by decide +kernel
theorem dX4_in_2 : decode cX4_in 2 = .ok (.if_icmp .lt 12, 3) := by decide +kernel
theorem dX4_in_5 : decode cX4_in 5 = .ok (.iload_n 0, 1) := by decide +kernel
theorem dX4_in_6 : decode cX4_in 6 = .ok (.iload_n 2, 1) := by decide +kernel
theorem dX4_in_7 : decode cX4_in 7 = .ok (.if_icmp .gt 7, 3) := by decide +kernel
theorem dX4_in_10 : decode cX4_in 10 = .ok (.iconst 1, 1) := by decide +kernel
theorem dX4_in_11 : decode cX4_in 11 = .ok (.goto 4, 3) := by decide +kernel
theorem dX4_in_14 : decode cX4_in 14 = .ok (.iconst 0, 1) := by decide +kernel
theorem dX4_in_15 : decode cX4_in 15 = .ok (.ireturn, 1) := by decide +kernel
theorem dX4_size_0 : decode cX4_size 0 = .ok (.iload_n 0, 1) := by decide +kernel
theorem dX4_size_1 : decode cX4_size 1 = .ok (.ifCond .ge 8, 3) := by decide +kernel
theorem dX4_size_4 : decode cX4_size 4 = .ok (.iload_n 0, 1) := by decide +kernel
theorem dX4_size_5 : decode cX4_size 5 = .ok (.ineg, 1) := by decide +kernel
theorem dX4_size_6 : decode cX4_size 6 = .ok (.goto 4, 3) := by decide +kernel
theorem dX4_size_9 : decode cX4_size 9 = .ok (.iload_n 0, 1) := by decide +kernel
theorem dX4_size_10 : decode cX4_size 10 = .ok (.ireturn, 1) := by decide +kernel
theorem dX4_copies_0 : decode cX4_copies 0 = .ok (.iconst 0, 1) := by decide +kernel
theorem dX4_copies_1 : decode cX4_copies 1 = .ok (.istore_n 2, 1) := by decide +kernel
theorem dX4_copies_2 : decode cX4_copies 2 = .ok (.iload_n 2, 1) := by decide +kernel
theorem dX4_copies_3 : decode cX4_copies 3 = .ok (.bipush 78, 2) := by decide +kernel
theorem dX4_copies_5 : decode cX4_copies 5 = .ok (.if_icmp .ge 15, 3) := by decide +kernel
theorem dX4_copies_8 : decode cX4_copies 8 = .ok (.aload_n 1, 1) := by decide +kernel
theorem dX4_copies_9 : decode cX4_copies 9 = .ok (.iload_n 2, 1) := by decide +kernel
theorem dX4_copies_10 : decode cX4_copies 10 = .ok (.aload_n 0, 1) := by decide +kernel
theorem dX4_copies_11 : decode cX4_copies 11 = .ok (.iload_n 2, 1) := by decide +kernel
theorem dX4_copies_12 : decode cX4_copies 12 = .ok (.iaload, 1) := by decide +kernel
theorem dX4_copies_13 : decode cX4_copies 13 = .ok (.iastore, 1) := by decide +kernel
theorem dX4_copies_14 : decode cX4_copies 14 = .ok (.iinc 2 1, 3) := by decide +kernel
theorem dX4_copies_17 : decode cX4_copies 17 = .ok (.goto (-15), 3) := by decide +kernel
theorem dX4_copies_20 : decode cX4_copies 20 = .ok (.return_, 1) := by decide +kernel
theorem dX4_changes_0 : decode cX4_changes 0 = .ok (.aload_n 0, 1) := by decide +kernel
theorem dX4_changes_1 : decode cX4_changes 1 = .ok (.getfield 25, 3) := by decide +kernel
theorem dX4_changes_4 : decode cX4_changes 4 = .ok (.ifCond .eq 4, 3) := by decide +kernel
theorem dX4_changes_7 : decode cX4_changes 7 = .ok (.return_, 1) := by decide +kernel
theorem dX4_changes_8 : decode cX4_changes 8 = .ok (.aload_n 0, 1) := by decide +kernel
theorem dX4_changes_9 : decode cX4_changes 9 = .ok (.getfield 29, 3) := by decide +kernel
theorem dX4_changes_12 : decode cX4_changes 12 = .ok (.iconst 4, 1) := by decide +kernel
theorem dX4_changes_13 : decode cX4_changes 13 = .ok (.if_icmp .ne 43, 3) := by decide +kernel
theorem dX4_changes_16 : decode cX4_changes 16 = .ok (.iconst 0, 1) := by decide +kernel
theorem dX4_changes_17 : decode cX4_changes 17 = .ok (.istore_n 1, 1) := by decide +kernel
theorem dX4_changes_18 : decode cX4_changes 18 = .ok (.iload_n 1, 1) := by decide +kernel
theorem dX4_changes_19 : decode cX4_changes 19 = .ok (.sipush 234, 3) := by decide +kernel
theorem dX4_changes_22 : decode cX4_changes 22 = .ok (.if_icmp .ge 24, 3) := by decide +kernel
theorem dX4_changes_25 : decode cX4_changes 25 = .ok (.aload_n 0, 1) := by decide +kernel
theorem dX4_changes_26 : decode cX4_changes 26 = .ok (.getfield 13, 3) := by decide +kernel
theorem dX4_changes_29 : decode cX4_changes 29 = .ok (.iload_n 1, 1) := by decide +kernel
theorem dX4_changes_30 : decode cX4_changes 30 = .ok (.aload_n 0, 1) := by decide +kernel
theorem dX4_changes_31 : decode cX4_changes 31 = .ok (.getfield 13, 3) := by decide +kernel
theorem dX4_changes_34 : decode cX4_changes 34 = .ok (.iload_n 1, 1) := by decide +kernel
theorem dX4_changes_35 : decode cX4_changes 35 = .ok (.bipush 78, 2) := by decide +kernel
theorem dX4_changes_37 : decode cX4_changes 37 = .ok (.iadd, 1) := by decide +kernel
theorem dX4_changes_38 : decode cX4_changes 38 = .ok (.iaload, 1) := by decide +kernel
theorem dX4_changes_39 : decode cX4_changes 39 = .ok (.iastore, 1) := by decide +kernel
theorem dX4_changes_40 : decode cX4_changes 40 = .ok (.iinc 1 1, 3) := by decide +kernel
theorem dX4_changes_43 : decode cX4_changes 43 = .ok (.goto (-25), 3) := by decide +kernel
theorem dX4_changes_46 : decode cX4_changes 46 = .ok (.aload_n 0, 1) := by decide +kernel
theorem dX4_changes_47 : decode cX4_changes 47 = .ok (.dup, 1) := by decide +kernel
theorem dX4_changes_48 : decode cX4_changes 48 = .ok (.getfield 29, 3) := by decide +kernel
theorem dX4_changes_51 : decode cX4_changes 51 = .ok (.iconst 1, 1) := by decide +kernel
theorem dX4_changes_52 : decode cX4_changes 52 = .ok (.isub, 1) := by decide +kernel
theorem dX4_changes_53 : decode cX4_changes 53 = .ok (.putfield 29, 3) := by decide +kernel
theorem dX4_changes_56 : decode cX4_changes 56 = .ok (.iconst 0, 1) := by decide +kernel
theorem dX4_changes_57 : decode cX4_changes 57 = .ok (.istore_n 1, 1) := by decide +kernel
theorem dX4_changes_58 : decode cX4_changes 58 = .ok (.iload_n 1, 1) := by decide +kernel
theorem dX4_changes_59 : decode cX4_changes 59 = .ok (.bipush 78, 2) := by decide +kernel
theorem dX4_changes_61 : decode cX4_changes 61 = .ok (.if_icmp .ge 29, 3) := by decide +kernel
theorem dX4_changes_64 : decode cX4_changes 64 = .ok (.aload_n 0, 1) := by decide +kernel
theorem dX4_changes_65 : decode cX4_changes 65 = .ok (.getfield 13, 3) := by decide +kernel
theorem dX4_changes_68 : decode cX4_changes 68 = .ok (.bipush 78, 2) := by decide +kernel
theorem dX4_changes_70 : decode cX4_changes 70 = .ok (.aload_n 0, 1) := by decide +kernel
theorem dX4_changes_71 : decode cX4_changes 71 = .ok (.getfield 29, 3) := by decide +kernel
theorem dX4_changes_74 : decode cX4_changes 74 = .ok (.imul, 1) := by decide +kernel
theorem dX4_changes_75 : decode cX4_changes 75 = .ok (.iload_n 1, 1) := by decide +kernel
theorem dX4_changes_76 : decode cX4_changes 76 = .ok (.iadd, 1) := by decide +kernel
theorem dX4_changes_77 : decode cX4_changes 77 = .ok (.aload_n 0, 1) := by decide +kernel
theorem dX4_changes_78 : decode cX4_changes 78 = .ok (.getfield 7, 3) := by decide +kernel
theorem dX4_changes_81 : decode cX4_changes 81 = .ok (.iload_n 1, 1) := by decide +kernel
theorem dX4_changes_82 : decode cX4_changes 82 = .ok (.iaload, 1) := by decide +kernel
theorem dX4_changes_83 : decode cX4_changes 83 = .ok (.iastore, 1) := by decide +kernel
theorem dX4_changes_84 : decode cX4_changes 84 = .ok (.iinc 1 1, 3) := by decide +kernel
theorem dX4_changes_87 : decode cX4_changes 87 = .ok (.goto (-29), 3) := by decide +kernel
theorem dX4_changes_90 : decode cX4_changes 90 = .ok (.aload_n 0, 1) := by decide +kernel
theorem dX4_changes_91 : decode cX4_changes 91 = .ok (.dup, 1) := by decide +kernel
theorem dX4_changes_92 : decode cX4_changes 92 = .ok (.getfield 29, 3) := by decide +kernel
theorem dX4_changes_95 : decode cX4_changes 95 = .ok (.iconst 1, 1) := by decide +kernel
theorem dX4_changes_96 : decode cX4_changes 96 = .ok (.iadd, 1) := by decide +kernel
theorem dX4_changes_97 : decode cX4_changes 97 = .ok (.putfield 29, 3) := by decide +kernel
theorem dX4_changes_100 : decode cX4_changes 100 = .ok (.return_, 1) := by decide +kernel
theorem dX4_isSmithy_0 : decode cX4_isSmithy 0 = .ok (.iload_n 1, 1) := by decide +kernel
theorem dX4_isSmithy_1 : decode cX4_isSmithy 1 = .ok (.ifCond .lt 17, 3) := by decide +kernel
theorem dX4_isSmithy_4 : decode cX4_isSmithy 4 = .ok (.iload_n 1, 1) := by decide +kernel
theorem dX4_isSmithy_5 : decode cX4_isSmithy 5 = .ok (.aload_n 0, 1) := by decide +kernel
theorem dX4_isSmithy_6 : decode cX4_isSmithy 6 = .ok (.getfield 7, 3) := by decide +kernel
theorem dX4_isSmithy_9 : decode cX4_isSmithy 9 = .ok (.iconst 0, 1) := by decide +kernel
theorem dX4_isSmithy_10 : decode cX4_isSmithy 10 = .ok (.iaload, 1) := by decide +kernel
theorem dX4_isSmithy_11 : decode cX4_isSmithy 11 = .ok (.if_icmp .ge 7, 3) := by decide +kernel
theorem dX4_isSmithy_14 : decode cX4_isSmithy 14 = .ok (.iconst 1, 1) := by decide +kernel
theorem dX4_isSmithy_15 : decode cX4_isSmithy 15 = .ok (.goto 4, 3) := by decide +kernel
theorem dX4_isSmithy_18 : decode cX4_isSmithy 18 = .ok (.iconst 0, 1) := by decide +kernel
theorem dX4_isSmithy_19 : decode cX4_isSmithy 19 = .ok (.ireturn, 1) := by decide +kernel
theorem dX4_of_0 : decode cX4_of 0 = .ok (.aload_n 0, 1) := by decide +kernel
theorem dX4_of_1 : decode cX4_of 1 = .ok (.getfield 7, 3) := by decide +kernel
theorem dX4_of_4 : decode cX4_of 4 = .ok (.bipush 14, 2) := by decide +kernel
theorem dX4_of_6 : decode cX4_of 6 = .ok (.bipush 8, 2) := by decide +kernel
theorem dX4_of_8 : decode cX4_of 8 = .ok (.iload_n 1, 1) := by decide +kernel
theorem dX4_of_9 : decode cX4_of 9 = .ok (.imul, 1) := by decide +kernel
theorem dX4_of_10 : decode cX4_of 10 = .ok (.iadd, 1) := by decide +kernel
theorem dX4_of_11 : decode cX4_of 11 = .ok (.iload_n 2, 1) := by decide +kernel
theorem dX4_of_12 : decode cX4_of 12 = .ok (.iadd, 1) := by decide +kernel
theorem dX4_of_13 : decode cX4_of 13 = .ok (.iaload, 1) := by decide +kernel
theorem dX4_of_14 : decode cX4_of 14 = .ok (.ireturn, 1) := by decide +kernel
theorem dX4_sets_0 : decode cX4_sets 0 = .ok (.aload_n 0, 1) := by decide +kernel
theorem dX4_sets_1 : decode cX4_sets 1 = .ok (.getfield 7, 3) := by decide +kernel
theorem dX4_sets_4 : decode cX4_sets 4 = .ok (.bipush 14, 2) := by decide +kernel
theorem dX4_sets_6 : decode cX4_sets 6 = .ok (.bipush 8, 2) := by decide +kernel
theorem dX4_sets_8 : decode cX4_sets 8 = .ok (.iload_n 1, 1) := by decide +kernel
theorem dX4_sets_9 : decode cX4_sets 9 = .ok (.imul, 1) := by decide +kernel
theorem dX4_sets_10 : decode cX4_sets 10 = .ok (.iadd, 1) := by decide +kernel
theorem dX4_sets_11 : decode cX4_sets 11 = .ok (.iload_n 2, 1) := by decide +kernel
theorem dX4_sets_12 : decode cX4_sets 12 = .ok (.iadd, 1) := by decide +kernel
theorem dX4_sets_13 : decode cX4_sets 13 = .ok (.iload_n 3, 1) := by decide +kernel
theorem dX4_sets_14 : decode cX4_sets 14 = .ok (.iastore, 1) := by decide +kernel
theorem dX4_sets_15 : decode cX4_sets 15 = .ok (.return_, 1) := by decide +kernel
set_option maxRecDepth 20000 in
theorem ggX4_leak_X4_of : GoodIn wsX4_leak wsX4_of := goodIn_r _ [5, 6, 7, 8, 9, 10, 11, 12, 13, 14, 15, 16, 17, 18, 19, 20, 21] (by decide +kernel) (by decide +kernel)
set_option maxRecDepth 20000 in
theorem gX4_leak_X4_of : GoodIn wsX4_leak (wsV RX4 33 RX4 yX4_of wsX4_of) := goodIn_app (goodIn_of _ (by decide +kernel)) ggX4_leak_X4_of
theorem dX4_leak_0 : decode cX4_leak 0 = .ok (.aload_n 0, 1) := by decide +kernel
theorem dX4_leak_1 : decode cX4_leak 1 = .ok (.iload_n 1, 1) := by decide +kernel
theorem dX4_leak_2 : decode cX4_leak 2 = .ok (.iconst 2, 1) := by decide +kernel
theorem dX4_leak_3 : decode cX4_leak 3 = .ok (.invokevirtual 33, 3) := by decide +kernel
theorem dX4_leak_6 : decode cX4_leak 6 = .ok (.bipush 10, 2) := by decide +kernel
theorem dX4_leak_8 : decode cX4_leak 8 = .ok (.idiv, 1) := by decide +kernel
theorem dX4_leak_9 : decode cX4_leak 9 = .ok (.ireturn, 1) := by decide +kernel
set_option maxRecDepth 20000 in
theorem ggX4_isCold_X4_of : GoodIn wsX4_isCold wsX4_of := goodIn_r _ [6, 1, 7, 8, 9, 10, 11, 12, 13, 14, 15, 16, 17, 18, 19, 20, 21] (by decide +kernel) (by decide +kernel)
set_option maxRecDepth 20000 in
theorem gX4_isCold_X4_of : GoodIn wsX4_isCold (wsV RX4 33 RX4 yX4_of wsX4_of) := goodIn_app (goodIn_of _ (by decide +kernel)) ggX4_isCold_X4_of
theorem dX4_isCold_0 : decode cX4_isCold 0 = .ok (.aload_n 0, 1) := by decide +kernel
theorem dX4_isCold_1 : decode cX4_isCold 1 = .ok (.iload_n 1, 1) := by decide +kernel
theorem dX4_isCold_2 : decode cX4_isCold 2 = .ok (.iconst 3, 1) := by decide +kernel
theorem dX4_isCold_3 : decode cX4_isCold 3 = .ok (.invokevirtual 33, 3) := by decide +kernel
theorem dX4_isCold_6 : decode cX4_isCold 6 = .ok (.aload_n 0, 1) := by decide +kernel
theorem dX4_isCold_7 : decode cX4_isCold 7 = .ok (.getfield 7, 3) := by decide +kernel
theorem dX4_isCold_10 : decode cX4_isCold 10 = .ok (.bipush 10, 2) := by decide +kernel
theorem dX4_isCold_12 : decode cX4_isCold 12 = .ok (.iaload, 1) := by decide +kernel
theorem dX4_isCold_13 : decode cX4_isCold 13 = .ok (.if_icmp .ge 7, 3) := by decide +kernel
theorem dX4_isCold_16 : decode cX4_isCold 16 = .ok (.iconst 1, 1) := by decide +kernel
theorem dX4_isCold_17 : decode cX4_isCold 17 = .ok (.goto 4, 3) := by decide +kernel
theorem dX4_isCold_20 : decode cX4_isCold 20 = .ok (.iconst 0, 1) := by decide +kernel
theorem dX4_isCold_21 : decode cX4_isCold 21 = .ok (.ireturn, 1) := by decide +kernel
theorem dX4_tens_0 : decode cX4_tens 0 = .ok (.iload_n 0, 1) := by decide +kernel
theorem dX4_tens_1 : decode cX4_tens 1 = .ok (.bipush 9, 2) := by decide +kernel
theorem dX4_tens_3 : decode cX4_tens 3 = .ok (.iadd, 1) := by decide +kernel
theorem dX4_tens_4 : decode cX4_tens 4 = .ok (.bipush 10, 2) := by decide +kernel
theorem dX4_tens_6 : decode cX4_tens 6 = .ok (.idiv, 1) := by decide +kernel
theorem dX4_tens_7 : decode cX4_tens 7 = .ok (.ireturn, 1) := by decide +kernel
set_option maxRecDepth 20000 in
theorem ggX4_ages_X4_of : GoodIn wsX4_ages wsX4_of := goodIn_r _ [6, 1, 19, 20, 21, 22, 23, 24, 25, 26, 27, 28, 29, 30, 31, 32, 33] (by decide +kernel) (by decide +kernel)
set_option maxRecDepth 20000 in
theorem gX4_ages_X4_of : GoodIn wsX4_ages (wsV RX4 33 RX4 yX4_of wsX4_of) := goodIn_app (goodIn_of _ (by decide +kernel)) ggX4_ages_X4_of
set_option maxRecDepth 20000 in
theorem ggX4_ages_X4_sets : GoodIn wsX4_ages wsX4_sets := goodIn_r _ [10, 1, 19, 20, 21, 22, 23, 24, 25, 26, 27, 28, 29, 30, 31, 32, 33] (by decide +kernel) (by decide +kernel)
set_option maxRecDepth 20000 in
theorem gX4_ages_X4_sets : GoodIn wsX4_ages (wsV RX4 37 RX4 yX4_sets wsX4_sets) := goodIn_app (goodIn_of _ (by decide +kernel)) ggX4_ages_X4_sets
set_option maxRecDepth 20000 in
theorem ggX4_ages_X4_leak : GoodIn wsX4_ages wsX4_leak := goodIn_r _ [14, 2, 3, 4, 5, 6, 1, 19, 20, 21, 22, 23, 24, 25, 26, 27, 28, 29, 30, 31, 32, 33] (by decide +kernel) (by decide +kernel)
set_option maxRecDepth 20000 in
theorem gX4_ages_X4_leak : GoodIn wsX4_ages (wsV RX4 41 RX4 yX4_leak wsX4_leak) := goodIn_app (goodIn_of _ (by decide +kernel)) ggX4_ages_X4_leak
set_option maxRecDepth 20000 in
theorem ggX4_ages_X4_isCold : GoodIn wsX4_ages wsX4_isCold := goodIn_r _ [18, 1, 2, 3, 4, 5, 6, 19, 20, 21, 22, 23, 24, 25, 26, 27, 28, 29, 30, 31, 32, 33] (by decide +kernel) (by decide +kernel)
set_option maxRecDepth 20000 in
theorem gX4_ages_X4_isCold : GoodIn wsX4_ages (wsV RX4 45 RX4 yX4_isCold wsX4_isCold) := goodIn_app (goodIn_of _ (by decide +kernel)) ggX4_ages_X4_isCold
theorem dX4_ages_0 : decode cX4_ages 0 = .ok (.aload_n 0, 1) := by decide +kernel
theorem dX4_ages_1 : decode cX4_ages 1 = .ok (.iload_n 1, 1) := by decide +kernel
theorem dX4_ages_2 : decode cX4_ages 2 = .ok (.iconst 2, 1) := by decide +kernel
theorem dX4_ages_3 : decode cX4_ages 3 = .ok (.invokevirtual 33, 3) := by decide +kernel
theorem dX4_ages_6 : decode cX4_ages 6 = .ok (.aload_n 0, 1) := by decide +kernel
theorem dX4_ages_7 : decode cX4_ages 7 = .ok (.iload_n 1, 1) := by decide +kernel
theorem dX4_ages_8 : decode cX4_ages 8 = .ok (.iconst 1, 1) := by decide +kernel
theorem dX4_ages_9 : decode cX4_ages 9 = .ok (.invokevirtual 33, 3) := by decide +kernel
theorem dX4_ages_12 : decode cX4_ages 12 = .ok (.iconst 2, 1) := by decide +kernel
theorem dX4_ages_13 : decode cX4_ages 13 = .ok (.idiv, 1) := by decide +kernel
theorem dX4_ages_14 : decode cX4_ages 14 = .ok (.iadd, 1) := by decide +kernel
theorem dX4_ages_15 : decode cX4_ages 15 = .ok (.iconst 1, 1) := by decide +kernel
theorem dX4_ages_16 : decode cX4_ages 16 = .ok (.iadd, 1) := by decide +kernel
theorem dX4_ages_17 : decode cX4_ages 17 = .ok (.istore_n 2, 1) := by decide +kernel
theorem dX4_ages_18 : decode cX4_ages 18 = .ok (.aload_n 0, 1) := by decide +kernel
theorem dX4_ages_19 : decode cX4_ages 19 = .ok (.iload_n 1, 1) := by decide +kernel
theorem dX4_ages_20 : decode cX4_ages 20 = .ok (.iconst 2, 1) := by decide +kernel
theorem dX4_ages_21 : decode cX4_ages 21 = .ok (.iload_n 2, 1) := by decide +kernel
theorem dX4_ages_22 : decode cX4_ages 22 = .ok (.bipush 100, 2) := by decide +kernel
theorem dX4_ages_24 : decode cX4_ages 24 = .ok (.if_icmp .le 8, 3) := by decide +kernel
theorem dX4_ages_27 : decode cX4_ages 27 = .ok (.bipush 100, 2) := by decide +kernel
theorem dX4_ages_29 : decode cX4_ages 29 = .ok (.goto 4, 3) := by decide +kernel
theorem dX4_ages_32 : decode cX4_ages 32 = .ok (.iload_n 2, 1) := by decide +kernel
theorem dX4_ages_33 : decode cX4_ages 33 = .ok (.invokevirtual 37, 3) := by decide +kernel
theorem dX4_ages_36 : decode cX4_ages 36 = .ok (.aload_n 0, 1) := by decide +kernel
theorem dX4_ages_37 : decode cX4_ages 37 = .ok (.iload_n 1, 1) := by decide +kernel
theorem dX4_ages_38 : decode cX4_ages 38 = .ok (.iconst 3, 1) := by decide +kernel
theorem dX4_ages_39 : decode cX4_ages 39 = .ok (.invokevirtual 33, 3) := by decide +kernel
theorem dX4_ages_42 : decode cX4_ages 42 = .ok (.aload_n 0, 1) := by decide +kernel
theorem dX4_ages_43 : decode cX4_ages 43 = .ok (.iload_n 1, 1) := by decide +kernel
theorem dX4_ages_44 : decode cX4_ages 44 = .ok (.invokevirtual 41, 3) := by decide +kernel
theorem dX4_ages_47 : decode cX4_ages 47 = .ok (.ifCond .ne 8, 3) := by decide +kernel
theorem dX4_ages_50 : decode cX4_ages 50 = .ok (.bipush 10, 2) := by decide +kernel
theorem dX4_ages_52 : decode cX4_ages 52 = .ok (.goto 11, 3) := by decide +kernel
theorem dX4_ages_55 : decode cX4_ages 55 = .ok (.bipush (-2), 2) := by decide +kernel
theorem dX4_ages_57 : decode cX4_ages 57 = .ok (.aload_n 0, 1) := by decide +kernel
theorem dX4_ages_58 : decode cX4_ages 58 = .ok (.iload_n 1, 1) := by decide +kernel
theorem dX4_ages_59 : decode cX4_ages 59 = .ok (.invokevirtual 41, 3) := by decide +kernel
theorem dX4_ages_62 : decode cX4_ages 62 = .ok (.imul, 1) := by decide +kernel
theorem dX4_ages_63 : decode cX4_ages 63 = .ok (.iadd, 1) := by decide +kernel
theorem dX4_ages_64 : decode cX4_ages 64 = .ok (.istore_n 3, 1) := by decide +kernel
theorem dX4_ages_65 : decode cX4_ages 65 = .ok (.aload_n 0, 1) := by decide +kernel
theorem dX4_ages_66 : decode cX4_ages 66 = .ok (.iload_n 1, 1) := by decide +kernel
theorem dX4_ages_67 : decode cX4_ages 67 = .ok (.iconst 3, 1) := by decide +kernel
theorem dX4_ages_68 : decode cX4_ages 68 = .ok (.iload_n 3, 1) := by decide +kernel
theorem dX4_ages_69 : decode cX4_ages 69 = .ok (.bipush 100, 2) := by decide +kernel
theorem dX4_ages_71 : decode cX4_ages 71 = .ok (.if_icmp .le 8, 3) := by decide +kernel
theorem dX4_ages_74 : decode cX4_ages 74 = .ok (.bipush 100, 2) := by decide +kernel
theorem dX4_ages_76 : decode cX4_ages 76 = .ok (.goto 12, 3) := by decide +kernel
theorem dX4_ages_79 : decode cX4_ages 79 = .ok (.iload_n 3, 1) := by decide +kernel
theorem dX4_ages_80 : decode cX4_ages 80 = .ok (.ifCond .ge 7, 3) := by decide +kernel
theorem dX4_ages_83 : decode cX4_ages 83 = .ok (.iconst 0, 1) := by decide +kernel
theorem dX4_ages_84 : decode cX4_ages 84 = .ok (.goto 4, 3) := by decide +kernel
theorem dX4_ages_87 : decode cX4_ages 87 = .ok (.iload_n 3, 1) := by decide +kernel
theorem dX4_ages_88 : decode cX4_ages 88 = .ok (.invokevirtual 37, 3) := by decide +kernel
theorem dX4_ages_91 : decode cX4_ages 91 = .ok (.aload_n 0, 1) := by decide +kernel
theorem dX4_ages_92 : decode cX4_ages 92 = .ok (.iload_n 1, 1) := by decide +kernel
theorem dX4_ages_93 : decode cX4_ages 93 = .ok (.iconst 4, 1) := by decide +kernel
theorem dX4_ages_94 : decode cX4_ages 94 = .ok (.aload_n 0, 1) := by decide +kernel
theorem dX4_ages_95 : decode cX4_ages 95 = .ok (.iload_n 1, 1) := by decide +kernel
theorem dX4_ages_96 : decode cX4_ages 96 = .ok (.invokevirtual 45, 3) := by decide +kernel
theorem dX4_ages_99 : decode cX4_ages 99 = .ok (.ifCond .eq 14, 3) := by decide +kernel
theorem dX4_ages_102 : decode cX4_ages 102 = .ok (.aload_n 0, 1) := by decide +kernel
theorem dX4_ages_103 : decode cX4_ages 103 = .ok (.iload_n 1, 1) := by decide +kernel
theorem dX4_ages_104 : decode cX4_ages 104 = .ok (.iconst 4, 1) := by decide +kernel
theorem dX4_ages_105 : decode cX4_ages 105 = .ok (.invokevirtual 33, 3) := by decide +kernel
theorem dX4_ages_108 : decode cX4_ages 108 = .ok (.iconst 1, 1) := by decide +kernel
theorem dX4_ages_109 : decode cX4_ages 109 = .ok (.iadd, 1) := by decide +kernel
theorem dX4_ages_110 : decode cX4_ages 110 = .ok (.goto 4, 3) := by decide +kernel
theorem dX4_ages_113 : decode cX4_ages 113 = .ok (.iconst 0, 1) := by decide +kernel
theorem dX4_ages_114 : decode cX4_ages 114 = .ok (.invokevirtual 37, 3) := by decide +kernel
theorem dX4_ages_117 : decode cX4_ages 117 = .ok (.aload_n 0, 1) := by decide +kernel
theorem dX4_ages_118 : decode cX4_ages 118 = .ok (.getfield 7, 3) := by decide +kernel
theorem dX4_ages_121 : decode cX4_ages 121 = .ok (.bipush 8, 2) := by decide +kernel
theorem dX4_ages_123 : decode cX4_ages 123 = .ok (.aload_n 0, 1) := by decide +kernel
theorem dX4_ages_124 : decode cX4_ages 124 = .ok (.iload_n 1, 1) := by decide +kernel
theorem dX4_ages_125 : decode cX4_ages 125 = .ok (.iconst 4, 1) := by decide +kernel
theorem dX4_ages_126 : decode cX4_ages 126 = .ok (.invokevirtual 33, 3) := by decide +kernel
theorem dX4_ages_129 : decode cX4_ages 129 = .ok (.aload_n 0, 1) := by decide +kernel
theorem dX4_ages_130 : decode cX4_ages 130 = .ok (.getfield 7, 3) := by decide +kernel
theorem dX4_ages_133 : decode cX4_ages 133 = .ok (.bipush 8, 2) := by decide +kernel
theorem dX4_ages_135 : decode cX4_ages 135 = .ok (.iaload, 1) := by decide +kernel
theorem dX4_ages_136 : decode cX4_ages 136 = .ok (.if_icmp .le 12, 3) := by decide +kernel
theorem dX4_ages_139 : decode cX4_ages 139 = .ok (.aload_n 0, 1) := by decide +kernel
theorem dX4_ages_140 : decode cX4_ages 140 = .ok (.iload_n 1, 1) := by decide +kernel
theorem dX4_ages_141 : decode cX4_ages 141 = .ok (.iconst 4, 1) := by decide +kernel
theorem dX4_ages_142 : decode cX4_ages 142 = .ok (.invokevirtual 33, 3) := by decide +kernel
theorem dX4_ages_145 : decode cX4_ages 145 = .ok (.goto 10, 3) := by decide +kernel
theorem dX4_ages_148 : decode cX4_ages 148 = .ok (.aload_n 0, 1) := by decide +kernel
theorem dX4_ages_149 : decode cX4_ages 149 = .ok (.getfield 7, 3) := by decide +kernel
theorem dX4_ages_152 : decode cX4_ages 152 = .ok (.bipush 8, 2) := by decide +kernel
theorem dX4_ages_154 : decode cX4_ages 154 = .ok (.iaload, 1) := by decide +kernel
theorem dX4_ages_155 : decode cX4_ages 155 = .ok (.iastore, 1) := by decide +kernel
theorem dX4_ages_156 : decode cX4_ages 156 = .ok (.return_, 1) := by decide +kernel
set_option maxRecDepth 20000 in
theorem ggX4_ends_X4_ages : GoodIn wsX4_ends wsX4_ages := goodIn_r _ [6, 1, 7, 8, 9, 5, 10, 11, 12, 13, 14, 15, 16, 17, 18, 19, 20, 21, 22, 23, 24, 25, 26, 27, 28, 29, 30, 31, 32, 33, 34, 35, 36, 37] (by decide +kernel) (by decide +kernel)
set_option maxRecDepth 20000 in
theorem gX4_ends_X4_ages : GoodIn wsX4_ends (wsV RX4 49 RX4 yX4_ages wsX4_ages) := goodIn_app (goodIn_of _ (by decide +kernel)) ggX4_ends_X4_ages
theorem dX4_ends_0 : decode cX4_ends 0 = .ok (.iconst 0, 1) := by decide +kernel
theorem dX4_ends_1 : decode cX4_ends 1 = .ok (.istore_n 1, 1) := by decide +kernel
theorem dX4_ends_2 : decode cX4_ends 2 = .ok (.iload_n 1, 1) := by decide +kernel
theorem dX4_ends_3 : decode cX4_ends 3 = .ok (.aload_n 0, 1) := by decide +kernel
theorem dX4_ends_4 : decode cX4_ends 4 = .ok (.getfield 7, 3) := by decide +kernel
theorem dX4_ends_7 : decode cX4_ends 7 = .ok (.iconst 0, 1) := by decide +kernel
theorem dX4_ends_8 : decode cX4_ends 8 = .ok (.iaload, 1) := by decide +kernel
theorem dX4_ends_9 : decode cX4_ends 9 = .ok (.if_icmp .ge 14, 3) := by decide +kernel
theorem dX4_ends_12 : decode cX4_ends 12 = .ok (.aload_n 0, 1) := by decide +kernel
theorem dX4_ends_13 : decode cX4_ends 13 = .ok (.iload_n 1, 1) := by decide +kernel
theorem dX4_ends_14 : decode cX4_ends 14 = .ok (.invokevirtual 49, 3) := by decide +kernel
theorem dX4_ends_17 : decode cX4_ends 17 = .ok (.iinc 1 1, 3) := by decide +kernel
theorem dX4_ends_20 : decode cX4_ends 20 = .ok (.goto (-18), 3) := by decide +kernel
theorem dX4_ends_23 : decode cX4_ends 23 = .ok (.aload_n 0, 1) := by decide +kernel
theorem dX4_ends_24 : decode cX4_ends 24 = .ok (.getfield 7, 3) := by decide +kernel
theorem dX4_ends_27 : decode cX4_ends 27 = .ok (.iconst 1, 1) := by decide +kernel
theorem dX4_ends_28 : decode cX4_ends 28 = .ok (.dup2, 1) := by decide +kernel
theorem dX4_ends_29 : decode cX4_ends 29 = .ok (.iaload, 1) := by decide +kernel
theorem dX4_ends_30 : decode cX4_ends 30 = .ok (.iconst 1, 1) := by decide +kernel
theorem dX4_ends_31 : decode cX4_ends 31 = .ok (.iadd, 1) := by decide +kernel
theorem dX4_ends_32 : decode cX4_ends 32 = .ok (.iastore, 1) := by decide +kernel
theorem dX4_ends_33 : decode cX4_ends 33 = .ok (.aload_n 0, 1) := by decide +kernel
theorem dX4_ends_34 : decode cX4_ends 34 = .ok (.getfield 7, 3) := by decide +kernel
theorem dX4_ends_37 : decode cX4_ends 37 = .ok (.iconst 3, 1) := by decide +kernel
theorem dX4_ends_38 : decode cX4_ends 38 = .ok (.aload_n 0, 1) := by decide +kernel
theorem dX4_ends_39 : decode cX4_ends 39 = .ok (.getfield 7, 3) := by decide +kernel
theorem dX4_ends_42 : decode cX4_ends 42 = .ok (.bipush 11, 2) := by decide +kernel
theorem dX4_ends_44 : decode cX4_ends 44 = .ok (.iaload, 1) := by decide +kernel
theorem dX4_ends_45 : decode cX4_ends 45 = .ok (.iastore, 1) := by decide +kernel
theorem dX4_ends_46 : decode cX4_ends 46 = .ok (.return_, 1) := by decide +kernel
set_option maxRecDepth 20000 in
theorem ggX4_coldOnes_X4_isCold : GoodIn wsX4_coldOnes wsX4_isCold := goodIn_r _ [6, 1, 7, 8, 9, 5, 10, 11, 12, 13, 14, 15, 16, 17, 18, 19, 20, 21, 22, 23, 24, 25] (by decide +kernel) (by decide +kernel)
set_option maxRecDepth 20000 in
theorem gX4_coldOnes_X4_isCold : GoodIn wsX4_coldOnes (wsV RX4 45 RX4 yX4_isCold wsX4_isCold) := goodIn_app (goodIn_of _ (by decide +kernel)) ggX4_coldOnes_X4_isCold
theorem dX4_coldOnes_0 : decode cX4_coldOnes 0 = .ok (.iconst 0, 1) := by decide +kernel
theorem dX4_coldOnes_1 : decode cX4_coldOnes 1 = .ok (.istore_n 1, 1) := by decide +kernel
theorem dX4_coldOnes_2 : decode cX4_coldOnes 2 = .ok (.iconst 0, 1) := by decide +kernel
theorem dX4_coldOnes_3 : decode cX4_coldOnes 3 = .ok (.istore_n 2, 1) := by decide +kernel
theorem dX4_coldOnes_4 : decode cX4_coldOnes 4 = .ok (.iload_n 2, 1) := by decide +kernel
theorem dX4_coldOnes_5 : decode cX4_coldOnes 5 = .ok (.aload_n 0, 1) := by decide +kernel
theorem dX4_coldOnes_6 : decode cX4_coldOnes 6 = .ok (.getfield 7, 3) := by decide +kernel
theorem dX4_coldOnes_9 : decode cX4_coldOnes 9 = .ok (.iconst 0, 1) := by decide +kernel
theorem dX4_coldOnes_10 : decode cX4_coldOnes 10 = .ok (.iaload, 1) := by decide +kernel
theorem dX4_coldOnes_11 : decode cX4_coldOnes 11 = .ok (.if_icmp .ge 27, 3) := by decide +kernel
theorem dX4_coldOnes_14 : decode cX4_coldOnes 14 = .ok (.iload_n 1, 1) := by decide +kernel
theorem dX4_coldOnes_15 : decode cX4_coldOnes 15 = .ok (.aload_n 0, 1) := by decide +kernel
theorem dX4_coldOnes_16 : decode cX4_coldOnes 16 = .ok (.iload_n 2, 1) := by decide +kernel
theorem dX4_coldOnes_17 : decode cX4_coldOnes 17 = .ok (.invokevirtual 45, 3) := by decide +kernel
theorem dX4_coldOnes_20 : decode cX4_coldOnes 20 = .ok (.ifCond .eq 9, 3) := by decide +kernel
theorem dX4_coldOnes_23 : decode cX4_coldOnes 23 = .ok (.iconst 1, 1) := by decide +kernel
theorem dX4_coldOnes_24 : decode cX4_coldOnes 24 = .ok (.iload_n 2, 1) := by decide +kernel
theorem dX4_coldOnes_25 : decode cX4_coldOnes 25 = .ok (.ishl, 1) := by decide +kernel
theorem dX4_coldOnes_26 : decode cX4_coldOnes 26 = .ok (.goto 4, 3) := by decide +kernel
theorem dX4_coldOnes_29 : decode cX4_coldOnes 29 = .ok (.iconst 0, 1) := by decide +kernel
theorem dX4_coldOnes_30 : decode cX4_coldOnes 30 = .ok (.ior, 1) := by decide +kernel
theorem dX4_coldOnes_31 : decode cX4_coldOnes 31 = .ok (.istore_n 1, 1) := by decide +kernel
theorem dX4_coldOnes_32 : decode cX4_coldOnes 32 = .ok (.iinc 2 1, 3) := by decide +kernel
theorem dX4_coldOnes_35 : decode cX4_coldOnes 35 = .ok (.goto (-31), 3) := by decide +kernel
theorem dX4_coldOnes_38 : decode cX4_coldOnes 38 = .ok (.iload_n 1, 1) := by decide +kernel
theorem dX4_coldOnes_39 : decode cX4_coldOnes 39 = .ok (.ireturn, 1) := by decide +kernel
theorem dX4_ones_0 : decode cX4_ones 0 = .ok (.iconst 0, 1) := by decide +kernel
theorem dX4_ones_1 : decode cX4_ones 1 = .ok (.istore_n 1, 1) := by decide +kernel
theorem dX4_ones_2 : decode cX4_ones 2 = .ok (.iload_n 0, 1) := by decide +kernel
theorem dX4_ones_3 : decode cX4_ones 3 = .ok (.istore_n 2, 1) := by decide +kernel
theorem dX4_ones_4 : decode cX4_ones 4 = .ok (.iload_n 2, 1) := by decide +kernel
theorem dX4_ones_5 : decode cX4_ones 5 = .ok (.ifCond .eq 15, 3) := by decide +kernel
theorem dX4_ones_8 : decode cX4_ones 8 = .ok (.iinc 1 1, 3) := by decide +kernel
theorem dX4_ones_11 : decode cX4_ones 11 = .ok (.iload_n 2, 1) := by decide +kernel
theorem dX4_ones_12 : decode cX4_ones 12 = .ok (.iload_n 2, 1) := by decide +kernel
theorem dX4_ones_13 : decode cX4_ones 13 = .ok (.iconst 1, 1) := by decide +kernel
theorem dX4_ones_14 : decode cX4_ones 14 = .ok (.isub, 1) := by decide +kernel
theorem dX4_ones_15 : decode cX4_ones 15 = .ok (.iand, 1) := by decide +kernel
theorem dX4_ones_16 : decode cX4_ones 16 = .ok (.istore_n 2, 1) := by decide +kernel
theorem dX4_ones_17 : decode cX4_ones 17 = .ok (.goto (-13), 3) := by decide +kernel
theorem dX4_ones_20 : decode cX4_ones 20 = .ok (.iload_n 1, 1) := by decide +kernel
theorem dX4_ones_21 : decode cX4_ones 21 = .ok (.ireturn, 1) := by decide +kernel
set_option maxRecDepth 20000 in
theorem ggX4_smithy_X4_in : GoodIn wsX4_smithy wsX4_in := goodIn_r _ [7] (by decide +kernel) (by decide +kernel)
set_option maxRecDepth 20000 in
theorem gX4_smithy_X4_in : GoodIn wsX4_smithy (va_wsS RX4 53 yX4_in wsX4_in) := goodIn_app (goodIn_of _ (by decide +kernel)) ggX4_smithy_X4_in
set_option maxRecDepth 20000 in
theorem ggX4_smithy_X4_changes : GoodIn wsX4_smithy wsX4_changes := goodIn_r _ [11, 12, 13, 14, 2, 19, 20, 21, 22, 23, 24, 25, 26, 27, 28, 29, 30, 31, 32, 33] (by decide +kernel) (by decide +kernel)
set_option maxRecDepth 20000 in
theorem gX4_smithy_X4_changes : GoodIn wsX4_smithy (wsV RX4 59 RX4 yX4_changes wsX4_changes) := goodIn_app (goodIn_of _ (by decide +kernel)) ggX4_smithy_X4_changes
set_option maxRecDepth 20000 in
theorem ggX4_smithy_X4_sets : GoodIn wsX4_smithy wsX4_sets := goodIn_r _ [18, 2, 19, 20, 21, 22, 23, 24, 25, 26, 27, 28, 29, 30, 31, 32, 33] (by decide +kernel) (by decide +kernel)
set_option maxRecDepth 20000 in
theorem gX4_smithy_X4_sets : GoodIn wsX4_smithy (wsV RX4 37 RX4 yX4_sets wsX4_sets) := goodIn_app (goodIn_of _ (by decide +kernel)) ggX4_smithy_X4_sets
theorem dX4_smithy_0 : decode cX4_smithy 0 = .ok (.iload_n 1, 1) := by decide +kernel
theorem dX4_smithy_1 : decode cX4_smithy 1 = .ok (.iconst 0, 1) := by decide +kernel
theorem dX4_smithy_2 : decode cX4_smithy 2 = .ok (.bipush 99, 2) := by decide +kernel
theorem dX4_smithy_4 : decode cX4_smithy 4 = .ok (.invokestatic 53, 3) := by decide +kernel
theorem dX4_smithy_7 : decode cX4_smithy 7 = .ok (.ifCond .eq 13, 3) := by decide +kernel
theorem dX4_smithy_10 : decode cX4_smithy 10 = .ok (.iload_n 2, 1) := by decide +kernel
theorem dX4_smithy_11 : decode cX4_smithy 11 = .ok (.iconst 1, 1) := by decide +kernel
theorem dX4_smithy_12 : decode cX4_smithy 12 = .ok (.bipush 9, 2) := by decide +kernel
theorem dX4_smithy_14 : decode cX4_smithy 14 = .ok (.invokestatic 53, 3) := by decide +kernel
theorem dX4_smithy_17 : decode cX4_smithy 17 = .ok (.ifCond .ne 6, 3) := by decide +kernel
theorem dX4_smithy_20 : decode cX4_smithy 20 = .ok (.ldc 57, 2) := by decide +kernel
theorem dX4_smithy_22 : decode cX4_smithy 22 = .ok (.ireturn, 1) := by decide +kernel
theorem dX4_smithy_23 : decode cX4_smithy 23 = .ok (.aload_n 0, 1) := by decide +kernel
theorem dX4_smithy_24 : decode cX4_smithy 24 = .ok (.getfield 7, 3) := by decide +kernel
theorem dX4_smithy_27 : decode cX4_smithy 27 = .ok (.iconst 0, 1) := by decide +kernel
theorem dX4_smithy_28 : decode cX4_smithy 28 = .ok (.iaload, 1) := by decide +kernel
theorem dX4_smithy_29 : decode cX4_smithy 29 = .ok (.istore_n 3, 1) := by decide +kernel
theorem dX4_smithy_30 : decode cX4_smithy 30 = .ok (.iload_n 3, 1) := by decide +kernel
theorem dX4_smithy_31 : decode cX4_smithy 31 = .ok (.bipush 8, 2) := by decide +kernel
theorem dX4_smithy_33 : decode cX4_smithy 33 = .ok (.if_icmp .ne 6, 3) := by decide +kernel
theorem dX4_smithy_36 : decode cX4_smithy 36 = .ok (.ldc 58, 2) := by decide +kernel
theorem dX4_smithy_38 : decode cX4_smithy 38 = .ok (.ireturn, 1) := by decide +kernel
theorem dX4_smithy_39 : decode cX4_smithy 39 = .ok (.aload_n 0, 1) := by decide +kernel
theorem dX4_smithy_40 : decode cX4_smithy 40 = .ok (.invokevirtual 59, 3) := by decide +kernel
theorem dX4_smithy_43 : decode cX4_smithy 43 = .ok (.iconst 0, 1) := by decide +kernel
theorem dX4_smithy_44 : decode cX4_smithy 44 = .ok (.istore 4, 2) := by decide +kernel
theorem dX4_smithy_46 : decode cX4_smithy 46 = .ok (.iload 4, 2) := by decide +kernel
theorem dX4_smithy_48 : decode cX4_smithy 48 = .ok (.bipush 8, 2) := by decide +kernel
theorem dX4_smithy_50 : decode cX4_smithy 50 = .ok (.if_icmp .ge 17, 3) := by decide +kernel
theorem dX4_smithy_53 : decode cX4_smithy 53 = .ok (.aload_n 0, 1) := by decide +kernel
theorem dX4_smithy_54 : decode cX4_smithy 54 = .ok (.iload_n 3, 1) := by decide +kernel
theorem dX4_smithy_55 : decode cX4_smithy 55 = .ok (.iload 4, 2) := by decide +kernel
theorem dX4_smithy_57 : decode cX4_smithy 57 = .ok (.iconst 0, 1) := by decide +kernel
theorem dX4_smithy_58 : decode cX4_smithy 58 = .ok (.invokevirtual 37, 3) := by decide +kernel
theorem dX4_smithy_61 : decode cX4_smithy 61 = .ok (.iinc 4 1, 3) := by decide +kernel
theorem dX4_smithy_64 : decode cX4_smithy 64 = .ok (.goto (-18), 3) := by decide +kernel
theorem dX4_smithy_67 : decode cX4_smithy 67 = .ok (.aload_n 0, 1) := by decide +kernel
theorem dX4_smithy_68 : decode cX4_smithy 68 = .ok (.iload_n 3, 1) := by decide +kernel
theorem dX4_smithy_69 : decode cX4_smithy 69 = .ok (.iconst 0, 1) := by decide +kernel
theorem dX4_smithy_70 : decode cX4_smithy 70 = .ok (.iload_n 1, 1) := by decide +kernel
theorem dX4_smithy_71 : decode cX4_smithy 71 = .ok (.invokevirtual 37, 3) := by decide +kernel
theorem dX4_smithy_74 : decode cX4_smithy 74 = .ok (.aload_n 0, 1) := by decide +kernel
theorem dX4_smithy_75 : decode cX4_smithy 75 = .ok (.iload_n 3, 1) := by decide +kernel
theorem dX4_smithy_76 : decode cX4_smithy 76 = .ok (.iconst 1, 1) := by decide +kernel
theorem dX4_smithy_77 : decode cX4_smithy 77 = .ok (.iload_n 2, 1) := by decide +kernel
theorem dX4_smithy_78 : decode cX4_smithy 78 = .ok (.invokevirtual 37, 3) := by decide +kernel
theorem dX4_smithy_81 : decode cX4_smithy 81 = .ok (.aload_n 0, 1) := by decide +kernel
theorem dX4_smithy_82 : decode cX4_smithy 82 = .ok (.iload_n 3, 1) := by decide +kernel
theorem dX4_smithy_83 : decode cX4_smithy 83 = .ok (.iconst 3, 1) := by decide +kernel
theorem dX4_smithy_84 : decode cX4_smithy 84 = .ok (.bipush 100, 2) := by decide +kernel
theorem dX4_smithy_86 : decode cX4_smithy 86 = .ok (.invokevirtual 37, 3) := by decide +kernel
theorem dX4_smithy_89 : decode cX4_smithy 89 = .ok (.aload_n 0, 1) := by decide +kernel
theorem dX4_smithy_90 : decode cX4_smithy 90 = .ok (.getfield 7, 3) := by decide +kernel
theorem dX4_smithy_93 : decode cX4_smithy 93 = .ok (.iconst 0, 1) := by decide +kernel
theorem dX4_smithy_94 : decode cX4_smithy 94 = .ok (.dup2, 1) := by decide +kernel
theorem dX4_smithy_95 : decode cX4_smithy 95 = .ok (.iaload, 1) := by decide +kernel
theorem dX4_smithy_96 : decode cX4_smithy 96 = .ok (.iconst 1, 1) := by decide +kernel
theorem dX4_smithy_97 : decode cX4_smithy 97 = .ok (.iadd, 1) := by decide +kernel
theorem dX4_smithy_98 : decode cX4_smithy 98 = .ok (.iastore, 1) := by decide +kernel
theorem dX4_smithy_99 : decode cX4_smithy 99 = .ok (.iload_n 3, 1) := by decide +kernel
theorem dX4_smithy_100 : decode cX4_smithy 100 = .ok (.ireturn, 1) := by decide +kernel
set_option maxRecDepth 20000 in
theorem ggX4_hoursBetween_X4_size : GoodIn wsX4_hoursBetween wsX4_size := goodIn_r _ [4] (by decide +kernel) (by decide +kernel)
set_option maxRecDepth 20000 in
theorem gX4_hoursBetween_X4_size : GoodIn wsX4_hoursBetween (va_wsS RX4 62 yX4_size wsX4_size) := goodIn_app (goodIn_of _ (by decide +kernel)) ggX4_hoursBetween_X4_size
set_option maxRecDepth 20000 in
theorem ggX4_hoursBetween_X4_tens : GoodIn wsX4_hoursBetween wsX4_tens := goodIn_r _ [7] (by decide +kernel) (by decide +kernel)
set_option maxRecDepth 20000 in
theorem gX4_hoursBetween_X4_tens : GoodIn wsX4_hoursBetween (va_wsS RX4 65 yX4_tens wsX4_tens) := goodIn_app (goodIn_of _ (by decide +kernel)) ggX4_hoursBetween_X4_tens
theorem dX4_hoursBetween_0 : decode cX4_hoursBetween 0 = .ok (.iload_n 0, 1) := by decide +kernel
theorem dX4_hoursBetween_1 : decode cX4_hoursBetween 1 = .ok (.iload_n 1, 1) := by decide +kernel
theorem dX4_hoursBetween_2 : decode cX4_hoursBetween 2 = .ok (.isub, 1) := by decide +kernel
theorem dX4_hoursBetween_3 : decode cX4_hoursBetween 3 = .ok (.invokestatic 62, 3) := by decide +kernel
theorem dX4_hoursBetween_6 : decode cX4_hoursBetween 6 = .ok (.invokestatic 65, 3) := by decide +kernel
theorem dX4_hoursBetween_9 : decode cX4_hoursBetween 9 = .ok (.ireturn, 1) := by decide +kernel
set_option maxRecDepth 20000 in
theorem ggX4_walk_X4_in : GoodIn wsX4_walk wsX4_in := goodIn_r _ [7] (by decide +kernel) (by decide +kernel)
set_option maxRecDepth 20000 in
theorem gX4_walk_X4_in : GoodIn wsX4_walk (va_wsS RX4 53 yX4_in wsX4_in) := goodIn_app (goodIn_of _ (by decide +kernel)) ggX4_walk_X4_in
set_option maxRecDepth 20000 in
theorem ggX4_walk_X4_hoursBetween : GoodIn wsX4_walk wsX4_hoursBetween := goodIn_r _ [10, 11, 12, 6, 13, 14, 15, 16] (by decide +kernel) (by decide +kernel)
set_option maxRecDepth 20000 in
theorem gX4_walk_X4_hoursBetween : GoodIn wsX4_walk (va_wsS RX4 68 yX4_hoursBetween wsX4_hoursBetween) := goodIn_app (goodIn_of _ (by decide +kernel)) ggX4_walk_X4_hoursBetween
set_option maxRecDepth 20000 in
theorem ggX4_walk_X4_changes : GoodIn wsX4_walk wsX4_changes := goodIn_r _ [20, 21, 22, 23, 2, 24, 25, 26, 27, 28, 29, 30, 31, 32, 33, 34, 35, 36, 37, 38] (by decide +kernel) (by decide +kernel)
set_option maxRecDepth 20000 in
theorem gX4_walk_X4_changes : GoodIn wsX4_walk (wsV RX4 59 RX4 yX4_changes wsX4_changes) := goodIn_app (goodIn_of _ (by decide +kernel)) ggX4_walk_X4_changes
set_option maxRecDepth 20000 in
theorem ggX4_walk_X4_size : GoodIn wsX4_walk wsX4_size := goodIn_r _ [13] (by decide +kernel) (by decide +kernel)
set_option maxRecDepth 20000 in
theorem gX4_walk_X4_size : GoodIn wsX4_walk (va_wsS RX4 62 yX4_size wsX4_size) := goodIn_app (goodIn_of _ (by decide +kernel)) ggX4_walk_X4_size
theorem dX4_walk_0 : decode cX4_walk 0 = .ok (.iload_n 1, 1) := by decide +kernel
theorem dX4_walk_1 : decode cX4_walk 1 = .ok (.iconst 0, 1) := by decide +kernel
theorem dX4_walk_2 : decode cX4_walk 2 = .ok (.bipush 99, 2) := by decide +kernel
theorem dX4_walk_4 : decode cX4_walk 4 = .ok (.invokestatic 53, 3) := by decide +kernel
theorem dX4_walk_7 : decode cX4_walk 7 = .ok (.ifCond .ne 6, 3) := by decide +kernel
theorem dX4_walk_10 : decode cX4_walk 10 = .ok (.ldc 57, 2) := by decide +kernel
theorem dX4_walk_12 : decode cX4_walk 12 = .ok (.ireturn, 1) := by decide +kernel
theorem dX4_walk_13 : decode cX4_walk 13 = .ok (.aload_n 0, 1) := by decide +kernel
theorem dX4_walk_14 : decode cX4_walk 14 = .ok (.getfield 7, 3) := by decide +kernel
theorem dX4_walk_17 : decode cX4_walk 17 = .ok (.iconst 2, 1) := by decide +kernel
theorem dX4_walk_18 : decode cX4_walk 18 = .ok (.iaload, 1) := by decide +kernel
theorem dX4_walk_19 : decode cX4_walk 19 = .ok (.iload_n 1, 1) := by decide +kernel
theorem dX4_walk_20 : decode cX4_walk 20 = .ok (.invokestatic 68, 3) := by decide +kernel
theorem dX4_walk_23 : decode cX4_walk 23 = .ok (.istore_n 2, 1) := by decide +kernel
theorem dX4_walk_24 : decode cX4_walk 24 = .ok (.iload_n 2, 1) := by decide +kernel
theorem dX4_walk_25 : decode cX4_walk 25 = .ok (.aload_n 0, 1) := by decide +kernel
theorem dX4_walk_26 : decode cX4_walk 26 = .ok (.getfield 7, 3) := by decide +kernel
theorem dX4_walk_29 : decode cX4_walk 29 = .ok (.iconst 3, 1) := by decide +kernel
theorem dX4_walk_30 : decode cX4_walk 30 = .ok (.iaload, 1) := by decide +kernel
theorem dX4_walk_31 : decode cX4_walk 31 = .ok (.if_icmp .le 6, 3) := by decide +kernel
theorem dX4_walk_34 : decode cX4_walk 34 = .ok (.ldc 71, 2) := by decide +kernel
theorem dX4_walk_36 : decode cX4_walk 36 = .ok (.ireturn, 1) := by decide +kernel
theorem dX4_walk_37 : decode cX4_walk 37 = .ok (.aload_n 0, 1) := by decide +kernel
theorem dX4_walk_38 : decode cX4_walk 38 = .ok (.invokevirtual 59, 3) := by decide +kernel
theorem dX4_walk_41 : decode cX4_walk 41 = .ok (.aload_n 0, 1) := by decide +kernel
theorem dX4_walk_42 : decode cX4_walk 42 = .ok (.getfield 7, 3) := by decide +kernel
theorem dX4_walk_45 : decode cX4_walk 45 = .ok (.iconst 3, 1) := by decide +kernel
theorem dX4_walk_46 : decode cX4_walk 46 = .ok (.dup2, 1) := by decide +kernel
theorem dX4_walk_47 : decode cX4_walk 47 = .ok (.iaload, 1) := by decide +kernel
theorem dX4_walk_48 : decode cX4_walk 48 = .ok (.iload_n 2, 1) := by decide +kernel
theorem dX4_walk_49 : decode cX4_walk 49 = .ok (.isub, 1) := by decide +kernel
theorem dX4_walk_50 : decode cX4_walk 50 = .ok (.iastore, 1) := by decide +kernel
theorem dX4_walk_51 : decode cX4_walk 51 = .ok (.aload_n 0, 1) := by decide +kernel
theorem dX4_walk_52 : decode cX4_walk 52 = .ok (.getfield 7, 3) := by decide +kernel
theorem dX4_walk_55 : decode cX4_walk 55 = .ok (.bipush 9, 2) := by decide +kernel
theorem dX4_walk_57 : decode cX4_walk 57 = .ok (.dup2, 1) := by decide +kernel
theorem dX4_walk_58 : decode cX4_walk 58 = .ok (.iaload, 1) := by decide +kernel
theorem dX4_walk_59 : decode cX4_walk 59 = .ok (.aload_n 0, 1) := by decide +kernel
theorem dX4_walk_60 : decode cX4_walk 60 = .ok (.getfield 7, 3) := by decide +kernel
theorem dX4_walk_63 : decode cX4_walk 63 = .ok (.iconst 2, 1) := by decide +kernel
theorem dX4_walk_64 : decode cX4_walk 64 = .ok (.iaload, 1) := by decide +kernel
theorem dX4_walk_65 : decode cX4_walk 65 = .ok (.iload_n 1, 1) := by decide +kernel
theorem dX4_walk_66 : decode cX4_walk 66 = .ok (.isub, 1) := by decide +kernel
theorem dX4_walk_67 : decode cX4_walk 67 = .ok (.invokestatic 62, 3) := by decide +kernel
theorem dX4_walk_70 : decode cX4_walk 70 = .ok (.iadd, 1) := by decide +kernel
theorem dX4_walk_71 : decode cX4_walk 71 = .ok (.iastore, 1) := by decide +kernel
theorem dX4_walk_72 : decode cX4_walk 72 = .ok (.aload_n 0, 1) := by decide +kernel
theorem dX4_walk_73 : decode cX4_walk 73 = .ok (.getfield 7, 3) := by decide +kernel
theorem dX4_walk_76 : decode cX4_walk 76 = .ok (.iconst 2, 1) := by decide +kernel
theorem dX4_walk_77 : decode cX4_walk 77 = .ok (.iload_n 1, 1) := by decide +kernel
theorem dX4_walk_78 : decode cX4_walk 78 = .ok (.iastore, 1) := by decide +kernel
theorem dX4_walk_79 : decode cX4_walk 79 = .ok (.aload_n 0, 1) := by decide +kernel
theorem dX4_walk_80 : decode cX4_walk 80 = .ok (.getfield 7, 3) := by decide +kernel
theorem dX4_walk_83 : decode cX4_walk 83 = .ok (.iconst 3, 1) := by decide +kernel
theorem dX4_walk_84 : decode cX4_walk 84 = .ok (.iaload, 1) := by decide +kernel
theorem dX4_walk_85 : decode cX4_walk 85 = .ok (.ireturn, 1) := by decide +kernel
set_option maxRecDepth 20000 in
theorem ggX4_buy_X4_in : GoodIn wsX4_buy wsX4_in := goodIn_r _ [8] (by decide +kernel) (by decide +kernel)
set_option maxRecDepth 20000 in
theorem gX4_buy_X4_in : GoodIn wsX4_buy (va_wsS RX4 53 yX4_in wsX4_in) := goodIn_app (goodIn_of _ (by decide +kernel)) ggX4_buy_X4_in
set_option maxRecDepth 20000 in
theorem ggX4_buy_X4_changes : GoodIn wsX4_buy wsX4_changes := goodIn_r _ [12, 13, 14, 15, 2, 16, 17, 18, 19, 20, 21, 22, 23, 24, 25, 26, 27, 28, 29, 30] (by decide +kernel) (by decide +kernel)
set_option maxRecDepth 20000 in
theorem gX4_buy_X4_changes : GoodIn wsX4_buy (wsV RX4 59 RX4 yX4_changes wsX4_changes) := goodIn_app (goodIn_of _ (by decide +kernel)) ggX4_buy_X4_changes
theorem dX4_buy_0 : decode cX4_buy 0 = .ok (.iload_n 1, 1) := by decide +kernel
theorem dX4_buy_1 : decode cX4_buy 1 = .ok (.iconst 1, 1) := by decide +kernel
theorem dX4_buy_2 : decode cX4_buy 2 = .ok (.sipush 999, 3) := by decide +kernel
theorem dX4_buy_5 : decode cX4_buy 5 = .ok (.invokestatic 53, 3) := by decide +kernel
theorem dX4_buy_8 : decode cX4_buy 8 = .ok (.ifCond .ne 6, 3) := by decide +kernel
theorem dX4_buy_11 : decode cX4_buy 11 = .ok (.ldc 57, 2) := by decide +kernel
theorem dX4_buy_13 : decode cX4_buy 13 = .ok (.ireturn, 1) := by decide +kernel
theorem dX4_buy_14 : decode cX4_buy 14 = .ok (.aload_n 0, 1) := by decide +kernel
theorem dX4_buy_15 : decode cX4_buy 15 = .ok (.getfield 7, 3) := by decide +kernel
theorem dX4_buy_18 : decode cX4_buy 18 = .ok (.iconst 2, 1) := by decide +kernel
theorem dX4_buy_19 : decode cX4_buy 19 = .ok (.iaload, 1) := by decide +kernel
theorem dX4_buy_20 : decode cX4_buy 20 = .ok (.ifCond .eq 6, 3) := by decide +kernel
theorem dX4_buy_23 : decode cX4_buy 23 = .ok (.ldc 71, 2) := by decide +kernel
theorem dX4_buy_25 : decode cX4_buy 25 = .ok (.ireturn, 1) := by decide +kernel
theorem dX4_buy_26 : decode cX4_buy 26 = .ok (.aload_n 0, 1) := by decide +kernel
theorem dX4_buy_27 : decode cX4_buy 27 = .ok (.getfield 7, 3) := by decide +kernel
theorem dX4_buy_30 : decode cX4_buy 30 = .ok (.iconst 4, 1) := by decide +kernel
theorem dX4_buy_31 : decode cX4_buy 31 = .ok (.iaload, 1) := by decide +kernel
theorem dX4_buy_32 : decode cX4_buy 32 = .ok (.iload_n 1, 1) := by decide +kernel
theorem dX4_buy_33 : decode cX4_buy 33 = .ok (.iadd, 1) := by decide +kernel
theorem dX4_buy_34 : decode cX4_buy 34 = .ok (.sipush 999, 3) := by decide +kernel
theorem dX4_buy_37 : decode cX4_buy 37 = .ok (.if_icmp .le 6, 3) := by decide +kernel
theorem dX4_buy_40 : decode cX4_buy 40 = .ok (.ldc 58, 2) := by decide +kernel
theorem dX4_buy_42 : decode cX4_buy 42 = .ok (.ireturn, 1) := by decide +kernel
theorem dX4_buy_43 : decode cX4_buy 43 = .ok (.aload_n 0, 1) := by decide +kernel
theorem dX4_buy_44 : decode cX4_buy 44 = .ok (.invokevirtual 59, 3) := by decide +kernel
theorem dX4_buy_47 : decode cX4_buy 47 = .ok (.aload_n 0, 1) := by decide +kernel
theorem dX4_buy_48 : decode cX4_buy 48 = .ok (.getfield 7, 3) := by decide +kernel
theorem dX4_buy_51 : decode cX4_buy 51 = .ok (.iconst 4, 1) := by decide +kernel
theorem dX4_buy_52 : decode cX4_buy 52 = .ok (.dup2, 1) := by decide +kernel
theorem dX4_buy_53 : decode cX4_buy 53 = .ok (.iaload, 1) := by decide +kernel
theorem dX4_buy_54 : decode cX4_buy 54 = .ok (.iload_n 1, 1) := by decide +kernel
theorem dX4_buy_55 : decode cX4_buy 55 = .ok (.iadd, 1) := by decide +kernel
theorem dX4_buy_56 : decode cX4_buy 56 = .ok (.iastore, 1) := by decide +kernel
theorem dX4_buy_57 : decode cX4_buy 57 = .ok (.aload_n 0, 1) := by decide +kernel
theorem dX4_buy_58 : decode cX4_buy 58 = .ok (.getfield 7, 3) := by decide +kernel
theorem dX4_buy_61 : decode cX4_buy 61 = .ok (.iconst 5, 1) := by decide +kernel
theorem dX4_buy_62 : decode cX4_buy 62 = .ok (.dup2, 1) := by decide +kernel
theorem dX4_buy_63 : decode cX4_buy 63 = .ok (.iaload, 1) := by decide +kernel
theorem dX4_buy_64 : decode cX4_buy 64 = .ok (.iconst 2, 1) := by decide +kernel
theorem dX4_buy_65 : decode cX4_buy 65 = .ok (.iload_n 1, 1) := by decide +kernel
theorem dX4_buy_66 : decode cX4_buy 66 = .ok (.imul, 1) := by decide +kernel
theorem dX4_buy_67 : decode cX4_buy 67 = .ok (.isub, 1) := by decide +kernel
theorem dX4_buy_68 : decode cX4_buy 68 = .ok (.iastore, 1) := by decide +kernel
theorem dX4_buy_69 : decode cX4_buy 69 = .ok (.aload_n 0, 1) := by decide +kernel
theorem dX4_buy_70 : decode cX4_buy 70 = .ok (.getfield 7, 3) := by decide +kernel
theorem dX4_buy_73 : decode cX4_buy 73 = .ok (.bipush 6, 2) := by decide +kernel
theorem dX4_buy_75 : decode cX4_buy 75 = .ok (.dup2, 1) := by decide +kernel
theorem dX4_buy_76 : decode cX4_buy 76 = .ok (.iaload, 1) := by decide +kernel
theorem dX4_buy_77 : decode cX4_buy 77 = .ok (.iconst 2, 1) := by decide +kernel
theorem dX4_buy_78 : decode cX4_buy 78 = .ok (.iload_n 1, 1) := by decide +kernel
theorem dX4_buy_79 : decode cX4_buy 79 = .ok (.imul, 1) := by decide +kernel
theorem dX4_buy_80 : decode cX4_buy 80 = .ok (.iadd, 1) := by decide +kernel
theorem dX4_buy_81 : decode cX4_buy 81 = .ok (.iastore, 1) := by decide +kernel
theorem dX4_buy_82 : decode cX4_buy 82 = .ok (.aload_n 0, 1) := by decide +kernel
theorem dX4_buy_83 : decode cX4_buy 83 = .ok (.getfield 7, 3) := by decide +kernel
theorem dX4_buy_86 : decode cX4_buy 86 = .ok (.iconst 4, 1) := by decide +kernel
theorem dX4_buy_87 : decode cX4_buy 87 = .ok (.iaload, 1) := by decide +kernel
theorem dX4_buy_88 : decode cX4_buy 88 = .ok (.ireturn, 1) := by decide +kernel
theorem dX4_hoursOf_0 : decode cX4_hoursOf 0 = .ok (.iload_n 0, 1) := by decide +kernel
theorem dX4_hoursOf_1 : decode cX4_hoursOf 1 = .ok (.iconst 1, 1) := by decide +kernel
theorem dX4_hoursOf_2 : decode cX4_hoursOf 2 = .ok (.if_icmp .ne 7, 3) := by decide +kernel
theorem dX4_hoursOf_5 : decode cX4_hoursOf 5 = .ok (.iconst 3, 1) := by decide +kernel
theorem dX4_hoursOf_6 : decode cX4_hoursOf 6 = .ok (.goto 4, 3) := by decide +kernel
theorem dX4_hoursOf_9 : decode cX4_hoursOf 9 = .ok (.iconst 1, 1) := by decide +kernel
theorem dX4_hoursOf_10 : decode cX4_hoursOf 10 = .ok (.ireturn, 1) := by decide +kernel
set_option maxRecDepth 20000 in
theorem ggX4_leatherOf_X4_of : GoodIn wsX4_leatherOf wsX4_of := goodIn_r _ [5, 6, 10, 11, 12, 13, 14, 15, 16, 17, 18, 19, 20, 21, 22, 23, 24] (by decide +kernel) (by decide +kernel)
set_option maxRecDepth 20000 in
theorem gX4_leatherOf_X4_of : GoodIn wsX4_leatherOf (wsV RX4 33 RX4 yX4_of wsX4_of) := goodIn_app (goodIn_of _ (by decide +kernel)) ggX4_leatherOf_X4_of
set_option maxRecDepth 20000 in
theorem ggX4_leatherOf_X4_tens : GoodIn wsX4_leatherOf wsX4_tens := goodIn_r _ [9] (by decide +kernel) (by decide +kernel)
set_option maxRecDepth 20000 in
theorem gX4_leatherOf_X4_tens : GoodIn wsX4_leatherOf (va_wsS RX4 65 yX4_tens wsX4_tens) := goodIn_app (goodIn_of _ (by decide +kernel)) ggX4_leatherOf_X4_tens
theorem dX4_leatherOf_0 : decode cX4_leatherOf 0 = .ok (.iload_n 2, 1) := by decide +kernel
theorem dX4_leatherOf_1 : decode cX4_leatherOf 1 = .ok (.iconst 1, 1) := by decide +kernel
theorem dX4_leatherOf_2 : decode cX4_leatherOf 2 = .ok (.if_icmp .ne 14, 3) := by decide +kernel
theorem dX4_leatherOf_5 : decode cX4_leatherOf 5 = .ok (.iconst 4, 1) := by decide +kernel
theorem dX4_leatherOf_6 : decode cX4_leatherOf 6 = .ok (.aload_n 0, 1) := by decide +kernel
theorem dX4_leatherOf_7 : decode cX4_leatherOf 7 = .ok (.iload_n 1, 1) := by decide +kernel
theorem dX4_leatherOf_8 : decode cX4_leatherOf 8 = .ok (.iconst 1, 1) := by decide +kernel
theorem dX4_leatherOf_9 : decode cX4_leatherOf 9 = .ok (.invokevirtual 33, 3) := by decide +kernel
theorem dX4_leatherOf_12 : decode cX4_leatherOf 12 = .ok (.imul, 1) := by decide +kernel
theorem dX4_leatherOf_13 : decode cX4_leatherOf 13 = .ok (.goto 12, 3) := by decide +kernel
theorem dX4_leatherOf_16 : decode cX4_leatherOf 16 = .ok (.aload_n 0, 1) := by decide +kernel
theorem dX4_leatherOf_17 : decode cX4_leatherOf 17 = .ok (.iload_n 1, 1) := by decide +kernel
theorem dX4_leatherOf_18 : decode cX4_leatherOf 18 = .ok (.iconst 2, 1) := by decide +kernel
theorem dX4_leatherOf_19 : decode cX4_leatherOf 19 = .ok (.invokevirtual 33, 3) := by decide +kernel
theorem dX4_leatherOf_22 : decode cX4_leatherOf 22 = .ok (.invokestatic 65, 3) := by decide +kernel
theorem dX4_leatherOf_25 : decode cX4_leatherOf 25 = .ok (.ireturn, 1) := by decide +kernel
set_option maxRecDepth 20000 in
theorem ggX4_owes_X4_hoursOf : GoodIn wsX4_owes wsX4_hoursOf := goodIn_r _ [5] (by decide +kernel) (by decide +kernel)
set_option maxRecDepth 20000 in
theorem gX4_owes_X4_hoursOf : GoodIn wsX4_owes (va_wsS RX4 72 yX4_hoursOf wsX4_hoursOf) := goodIn_app (goodIn_of _ (by decide +kernel)) ggX4_owes_X4_hoursOf
set_option maxRecDepth 20000 in
theorem ggX4_owes_X4_leatherOf : GoodIn wsX4_owes wsX4_leatherOf := goodIn_r _ [9, 10, 11, 12, 4, 13, 1, 14, 15, 16, 17, 18, 19, 20, 21, 22, 23, 24, 25, 26, 27, 28, 29, 30, 31] (by decide +kernel) (by decide +kernel)
set_option maxRecDepth 20000 in
theorem gX4_owes_X4_leatherOf : GoodIn wsX4_owes (wsV RX4 75 RX4 yX4_leatherOf wsX4_leatherOf) := goodIn_app (goodIn_of _ (by decide +kernel)) ggX4_owes_X4_leatherOf
theorem dX4_owes_0 : decode cX4_owes 0 = .ok (.aload_n 0, 1) := by decide +kernel
theorem dX4_owes_1 : decode cX4_owes 1 = .ok (.getfield 7, 3) := by decide +kernel
theorem dX4_owes_4 : decode cX4_owes 4 = .ok (.bipush 12, 2) := by decide +kernel
theorem dX4_owes_6 : decode cX4_owes 6 = .ok (.iaload, 1) := by decide +kernel
theorem dX4_owes_7 : decode cX4_owes 7 = .ok (.iload_n 2, 1) := by decide +kernel
theorem dX4_owes_8 : decode cX4_owes 8 = .ok (.invokestatic 72, 3) := by decide +kernel
theorem dX4_owes_11 : decode cX4_owes 11 = .ok (.imul, 1) := by decide +kernel
theorem dX4_owes_12 : decode cX4_owes 12 = .ok (.iconst 3, 1) := by decide +kernel
theorem dX4_owes_13 : decode cX4_owes 13 = .ok (.aload_n 0, 1) := by decide +kernel
theorem dX4_owes_14 : decode cX4_owes 14 = .ok (.iload_n 1, 1) := by decide +kernel
theorem dX4_owes_15 : decode cX4_owes 15 = .ok (.iload_n 2, 1) := by decide +kernel
theorem dX4_owes_16 : decode cX4_owes 16 = .ok (.invokevirtual 75, 3) := by decide +kernel
theorem dX4_owes_19 : decode cX4_owes 19 = .ok (.imul, 1) := by decide +kernel
theorem dX4_owes_20 : decode cX4_owes 20 = .ok (.iadd, 1) := by decide +kernel
theorem dX4_owes_21 : decode cX4_owes 21 = .ok (.ireturn, 1) := by decide +kernel
set_option maxRecDepth 20000 in
theorem ggX4_whyNot_X4_of : GoodIn wsX4_whyNot wsX4_of := goodIn_r _ [6, 1, 17, 18, 19, 20, 21, 22, 23, 24, 25, 26, 27, 28, 29, 30, 31] (by decide +kernel) (by decide +kernel)
set_option maxRecDepth 20000 in
theorem gX4_whyNot_X4_of : GoodIn wsX4_whyNot (wsV RX4 33 RX4 yX4_of wsX4_of) := goodIn_app (goodIn_of _ (by decide +kernel)) ggX4_whyNot_X4_of
set_option maxRecDepth 20000 in
theorem ggX4_whyNot_X4_hoursOf : GoodIn wsX4_whyNot wsX4_hoursOf := goodIn_r _ [9] (by decide +kernel) (by decide +kernel)
set_option maxRecDepth 20000 in
theorem gX4_whyNot_X4_hoursOf : GoodIn wsX4_whyNot (va_wsS RX4 72 yX4_hoursOf wsX4_hoursOf) := goodIn_app (goodIn_of _ (by decide +kernel)) ggX4_whyNot_X4_hoursOf
set_option maxRecDepth 20000 in
theorem ggX4_whyNot_X4_leatherOf : GoodIn wsX4_whyNot wsX4_leatherOf := goodIn_r _ [13, 2, 3, 4, 5, 6, 1, 14, 15, 16, 17, 18, 19, 20, 21, 22, 23, 24, 25, 26, 27, 28, 29, 30, 31] (by decide +kernel) (by decide +kernel)
set_option maxRecDepth 20000 in
theorem gX4_whyNot_X4_leatherOf : GoodIn wsX4_whyNot (wsV RX4 75 RX4 yX4_leatherOf wsX4_leatherOf) := goodIn_app (goodIn_of _ (by decide +kernel)) ggX4_whyNot_X4_leatherOf
theorem dX4_whyNot_0 : decode cX4_whyNot 0 = .ok (.aload_n 0, 1) := by decide +kernel
theorem dX4_whyNot_1 : decode cX4_whyNot 1 = .ok (.getfield 7, 3) := by decide +kernel
theorem dX4_whyNot_4 : decode cX4_whyNot 4 = .ok (.iconst 2, 1) := by decide +kernel
theorem dX4_whyNot_5 : decode cX4_whyNot 5 = .ok (.iaload, 1) := by decide +kernel
theorem dX4_whyNot_6 : decode cX4_whyNot 6 = .ok (.aload_n 0, 1) := by decide +kernel
theorem dX4_whyNot_7 : decode cX4_whyNot 7 = .ok (.iload_n 1, 1) := by decide +kernel
theorem dX4_whyNot_8 : decode cX4_whyNot 8 = .ok (.iconst 0, 1) := by decide +kernel
theorem dX4_whyNot_9 : decode cX4_whyNot 9 = .ok (.invokevirtual 33, 3) := by decide +kernel
theorem dX4_whyNot_12 : decode cX4_whyNot 12 = .ok (.if_icmp .eq 5, 3) := by decide +kernel
theorem dX4_whyNot_15 : decode cX4_whyNot 15 = .ok (.iconst 1, 1) := by decide +kernel
theorem dX4_whyNot_16 : decode cX4_whyNot 16 = .ok (.ireturn, 1) := by decide +kernel
theorem dX4_whyNot_17 : decode cX4_whyNot 17 = .ok (.aload_n 0, 1) := by decide +kernel
theorem dX4_whyNot_18 : decode cX4_whyNot 18 = .ok (.getfield 7, 3) := by decide +kernel
theorem dX4_whyNot_21 : decode cX4_whyNot 21 = .ok (.iconst 3, 1) := by decide +kernel
theorem dX4_whyNot_22 : decode cX4_whyNot 22 = .ok (.iaload, 1) := by decide +kernel
theorem dX4_whyNot_23 : decode cX4_whyNot 23 = .ok (.iload_n 2, 1) := by decide +kernel
theorem dX4_whyNot_24 : decode cX4_whyNot 24 = .ok (.invokestatic 72, 3) := by decide +kernel
theorem dX4_whyNot_27 : decode cX4_whyNot 27 = .ok (.if_icmp .ge 5, 3) := by decide +kernel
theorem dX4_whyNot_30 : decode cX4_whyNot 30 = .ok (.iconst 2, 1) := by decide +kernel
theorem dX4_whyNot_31 : decode cX4_whyNot 31 = .ok (.ireturn, 1) := by decide +kernel
theorem dX4_whyNot_32 : decode cX4_whyNot 32 = .ok (.aload_n 0, 1) := by decide +kernel
theorem dX4_whyNot_33 : decode cX4_whyNot 33 = .ok (.getfield 7, 3) := by decide +kernel
theorem dX4_whyNot_36 : decode cX4_whyNot 36 = .ok (.iconst 4, 1) := by decide +kernel
theorem dX4_whyNot_37 : decode cX4_whyNot 37 = .ok (.iaload, 1) := by decide +kernel
theorem dX4_whyNot_38 : decode cX4_whyNot 38 = .ok (.aload_n 0, 1) := by decide +kernel
theorem dX4_whyNot_39 : decode cX4_whyNot 39 = .ok (.iload_n 1, 1) := by decide +kernel
theorem dX4_whyNot_40 : decode cX4_whyNot 40 = .ok (.iload_n 2, 1) := by decide +kernel
theorem dX4_whyNot_41 : decode cX4_whyNot 41 = .ok (.invokevirtual 75, 3) := by decide +kernel
theorem dX4_whyNot_44 : decode cX4_whyNot 44 = .ok (.if_icmp .ge 5, 3) := by decide +kernel
theorem dX4_whyNot_47 : decode cX4_whyNot 47 = .ok (.iconst 3, 1) := by decide +kernel
theorem dX4_whyNot_48 : decode cX4_whyNot 48 = .ok (.ireturn, 1) := by decide +kernel
theorem dX4_whyNot_49 : decode cX4_whyNot 49 = .ok (.aload_n 0, 1) := by decide +kernel
theorem dX4_whyNot_50 : decode cX4_whyNot 50 = .ok (.iload_n 1, 1) := by decide +kernel
theorem dX4_whyNot_51 : decode cX4_whyNot 51 = .ok (.iconst 5, 1) := by decide +kernel
theorem dX4_whyNot_52 : decode cX4_whyNot 52 = .ok (.invokevirtual 33, 3) := by decide +kernel
theorem dX4_whyNot_55 : decode cX4_whyNot 55 = .ok (.aload_n 0, 1) := by decide +kernel
theorem dX4_whyNot_56 : decode cX4_whyNot 56 = .ok (.getfield 7, 3) := by decide +kernel
theorem dX4_whyNot_59 : decode cX4_whyNot 59 = .ok (.bipush 13, 2) := by decide +kernel
theorem dX4_whyNot_61 : decode cX4_whyNot 61 = .ok (.iaload, 1) := by decide +kernel
theorem dX4_whyNot_62 : decode cX4_whyNot 62 = .ok (.if_icmp .le 7, 3) := by decide +kernel
theorem dX4_whyNot_65 : decode cX4_whyNot 65 = .ok (.iconst 4, 1) := by decide +kernel
theorem dX4_whyNot_66 : decode cX4_whyNot 66 = .ok (.goto 17, 3) := by decide +kernel
theorem dX4_whyNot_69 : decode cX4_whyNot 69 = .ok (.aload_n 0, 1) := by decide +kernel
theorem dX4_whyNot_70 : decode cX4_whyNot 70 = .ok (.iload_n 1, 1) := by decide +kernel
theorem dX4_whyNot_71 : decode cX4_whyNot 71 = .ok (.iconst 2, 1) := by decide +kernel
theorem dX4_whyNot_72 : decode cX4_whyNot 72 = .ok (.invokevirtual 33, 3) := by decide +kernel
theorem dX4_whyNot_75 : decode cX4_whyNot 75 = .ok (.ifCond .ne 7, 3) := by decide +kernel
theorem dX4_whyNot_78 : decode cX4_whyNot 78 = .ok (.iconst 5, 1) := by decide +kernel
theorem dX4_whyNot_79 : decode cX4_whyNot 79 = .ok (.goto 4, 3) := by decide +kernel
theorem dX4_whyNot_82 : decode cX4_whyNot 82 = .ok (.iconst 0, 1) := by decide +kernel
theorem dX4_whyNot_83 : decode cX4_whyNot 83 = .ok (.ireturn, 1) := by decide +kernel
set_option maxRecDepth 20000 in
theorem ggX4_mends_X4_owes : GoodIn wsX4_mends wsX4_owes := goodIn_r _ [6, 1, 7, 8, 5, 9, 10, 11, 12, 13, 14, 15, 16, 17, 18, 19, 20, 25, 26, 27, 28, 29, 30, 31, 32, 33, 34, 35, 36, 37, 38, 39] (by decide +kernel) (by decide +kernel)
set_option maxRecDepth 20000 in
theorem gX4_mends_X4_owes : GoodIn wsX4_mends (wsV RX4 78 RX4 yX4_owes wsX4_owes) := goodIn_app (goodIn_of _ (by decide +kernel)) ggX4_mends_X4_owes
set_option maxRecDepth 20000 in
theorem ggX4_mends_X4_hoursOf : GoodIn wsX4_mends wsX4_hoursOf := goodIn_r _ [9] (by decide +kernel) (by decide +kernel)
set_option maxRecDepth 20000 in
theorem gX4_mends_X4_hoursOf : GoodIn wsX4_mends (va_wsS RX4 72 yX4_hoursOf wsX4_hoursOf) := goodIn_app (goodIn_of _ (by decide +kernel)) ggX4_mends_X4_hoursOf
set_option maxRecDepth 20000 in
theorem ggX4_mends_X4_leatherOf : GoodIn wsX4_mends wsX4_leatherOf := goodIn_r _ [13, 14, 15, 16, 5, 17, 1, 18, 19, 20, 25, 26, 27, 28, 29, 30, 31, 32, 33, 34, 35, 36, 37, 38, 39] (by decide +kernel) (by decide +kernel)
set_option maxRecDepth 20000 in
theorem gX4_mends_X4_leatherOf : GoodIn wsX4_mends (wsV RX4 75 RX4 yX4_leatherOf wsX4_leatherOf) := goodIn_app (goodIn_of _ (by decide +kernel)) ggX4_mends_X4_leatherOf
set_option maxRecDepth 20000 in
theorem ggX4_mends_X4_of : GoodIn wsX4_mends wsX4_of := goodIn_r _ [17, 1, 25, 26, 27, 28, 29, 30, 31, 32, 33, 34, 35, 36, 37, 38, 39] (by decide +kernel) (by decide +kernel)
set_option maxRecDepth 20000 in
theorem gX4_mends_X4_of : GoodIn wsX4_mends (wsV RX4 33 RX4 yX4_of wsX4_of) := goodIn_app (goodIn_of _ (by decide +kernel)) ggX4_mends_X4_of
set_option maxRecDepth 20000 in
theorem ggX4_mends_X4_sets : GoodIn wsX4_mends wsX4_sets := goodIn_r _ [24, 1, 25, 26, 27, 28, 29, 30, 31, 32, 33, 34, 35, 36, 37, 38, 39] (by decide +kernel) (by decide +kernel)
set_option maxRecDepth 20000 in
theorem gX4_mends_X4_sets : GoodIn wsX4_mends (wsV RX4 37 RX4 yX4_sets wsX4_sets) := goodIn_app (goodIn_of _ (by decide +kernel)) ggX4_mends_X4_sets
theorem dX4_mends_0 : decode cX4_mends 0 = .ok (.aload_n 0, 1) := by decide +kernel
theorem dX4_mends_1 : decode cX4_mends 1 = .ok (.iload_n 1, 1) := by decide +kernel
theorem dX4_mends_2 : decode cX4_mends 2 = .ok (.iload_n 2, 1) := by decide +kernel
theorem dX4_mends_3 : decode cX4_mends 3 = .ok (.invokevirtual 78, 3) := by decide +kernel
theorem dX4_mends_6 : decode cX4_mends 6 = .ok (.istore_n 3, 1) := by decide +kernel
theorem dX4_mends_7 : decode cX4_mends 7 = .ok (.aload_n 0, 1) := by decide +kernel
theorem dX4_mends_8 : decode cX4_mends 8 = .ok (.getfield 7, 3) := by decide +kernel
theorem dX4_mends_11 : decode cX4_mends 11 = .ok (.iconst 3, 1) := by decide +kernel
theorem dX4_mends_12 : decode cX4_mends 12 = .ok (.dup2, 1) := by decide +kernel
theorem dX4_mends_13 : decode cX4_mends 13 = .ok (.iaload, 1) := by decide +kernel
theorem dX4_mends_14 : decode cX4_mends 14 = .ok (.iload_n 2, 1) := by decide +kernel
theorem dX4_mends_15 : decode cX4_mends 15 = .ok (.invokestatic 72, 3) := by decide +kernel
theorem dX4_mends_18 : decode cX4_mends 18 = .ok (.isub, 1) := by decide +kernel
theorem dX4_mends_19 : decode cX4_mends 19 = .ok (.iastore, 1) := by decide +kernel
theorem dX4_mends_20 : decode cX4_mends 20 = .ok (.aload_n 0, 1) := by decide +kernel
theorem dX4_mends_21 : decode cX4_mends 21 = .ok (.getfield 7, 3) := by decide +kernel
theorem dX4_mends_24 : decode cX4_mends 24 = .ok (.iconst 4, 1) := by decide +kernel
theorem dX4_mends_25 : decode cX4_mends 25 = .ok (.dup2, 1) := by decide +kernel
theorem dX4_mends_26 : decode cX4_mends 26 = .ok (.iaload, 1) := by decide +kernel
theorem dX4_mends_27 : decode cX4_mends 27 = .ok (.aload_n 0, 1) := by decide +kernel
theorem dX4_mends_28 : decode cX4_mends 28 = .ok (.iload_n 1, 1) := by decide +kernel
theorem dX4_mends_29 : decode cX4_mends 29 = .ok (.iload_n 2, 1) := by decide +kernel
theorem dX4_mends_30 : decode cX4_mends 30 = .ok (.invokevirtual 75, 3) := by decide +kernel
theorem dX4_mends_33 : decode cX4_mends 33 = .ok (.isub, 1) := by decide +kernel
theorem dX4_mends_34 : decode cX4_mends 34 = .ok (.iastore, 1) := by decide +kernel
theorem dX4_mends_35 : decode cX4_mends 35 = .ok (.aload_n 0, 1) := by decide +kernel
theorem dX4_mends_36 : decode cX4_mends 36 = .ok (.getfield 7, 3) := by decide +kernel
theorem dX4_mends_39 : decode cX4_mends 39 = .ok (.bipush 7, 2) := by decide +kernel
theorem dX4_mends_41 : decode cX4_mends 41 = .ok (.dup2, 1) := by decide +kernel
theorem dX4_mends_42 : decode cX4_mends 42 = .ok (.iaload, 1) := by decide +kernel
theorem dX4_mends_43 : decode cX4_mends 43 = .ok (.iload_n 3, 1) := by decide +kernel
theorem dX4_mends_44 : decode cX4_mends 44 = .ok (.iadd, 1) := by decide +kernel
theorem dX4_mends_45 : decode cX4_mends 45 = .ok (.iastore, 1) := by decide +kernel
theorem dX4_mends_46 : decode cX4_mends 46 = .ok (.aload_n 0, 1) := by decide +kernel
theorem dX4_mends_47 : decode cX4_mends 47 = .ok (.iload_n 1, 1) := by decide +kernel
theorem dX4_mends_48 : decode cX4_mends 48 = .ok (.iconst 5, 1) := by decide +kernel
theorem dX4_mends_49 : decode cX4_mends 49 = .ok (.aload_n 0, 1) := by decide +kernel
theorem dX4_mends_50 : decode cX4_mends 50 = .ok (.iload_n 1, 1) := by decide +kernel
theorem dX4_mends_51 : decode cX4_mends 51 = .ok (.iconst 5, 1) := by decide +kernel
theorem dX4_mends_52 : decode cX4_mends 52 = .ok (.invokevirtual 33, 3) := by decide +kernel
theorem dX4_mends_55 : decode cX4_mends 55 = .ok (.iload_n 3, 1) := by decide +kernel
theorem dX4_mends_56 : decode cX4_mends 56 = .ok (.iadd, 1) := by decide +kernel
theorem dX4_mends_57 : decode cX4_mends 57 = .ok (.invokevirtual 37, 3) := by decide +kernel
theorem dX4_mends_60 : decode cX4_mends 60 = .ok (.aload_n 0, 1) := by decide +kernel
theorem dX4_mends_61 : decode cX4_mends 61 = .ok (.iload_n 1, 1) := by decide +kernel
theorem dX4_mends_62 : decode cX4_mends 62 = .ok (.bipush 7, 2) := by decide +kernel
theorem dX4_mends_64 : decode cX4_mends 64 = .ok (.aload_n 0, 1) := by decide +kernel
theorem dX4_mends_65 : decode cX4_mends 65 = .ok (.iload_n 1, 1) := by decide +kernel
theorem dX4_mends_66 : decode cX4_mends 66 = .ok (.bipush 7, 2) := by decide +kernel
theorem dX4_mends_68 : decode cX4_mends 68 = .ok (.invokevirtual 33, 3) := by decide +kernel
theorem dX4_mends_71 : decode cX4_mends 71 = .ok (.iconst 1, 1) := by decide +kernel
theorem dX4_mends_72 : decode cX4_mends 72 = .ok (.iadd, 1) := by decide +kernel
theorem dX4_mends_73 : decode cX4_mends 73 = .ok (.invokevirtual 37, 3) := by decide +kernel
theorem dX4_mends_76 : decode cX4_mends 76 = .ok (.aload_n 0, 1) := by decide +kernel
theorem dX4_mends_77 : decode cX4_mends 77 = .ok (.iload_n 1, 1) := by decide +kernel
theorem dX4_mends_78 : decode cX4_mends 78 = .ok (.iconst 2, 1) := by decide +kernel
theorem dX4_mends_79 : decode cX4_mends 79 = .ok (.iload_n 2, 1) := by decide +kernel
theorem dX4_mends_80 : decode cX4_mends 80 = .ok (.iconst 1, 1) := by decide +kernel
theorem dX4_mends_81 : decode cX4_mends 81 = .ok (.if_icmp .ne 7, 3) := by decide +kernel
theorem dX4_mends_84 : decode cX4_mends 84 = .ok (.iconst 0, 1) := by decide +kernel
theorem dX4_mends_85 : decode cX4_mends 85 = .ok (.goto 11, 3) := by decide +kernel
theorem dX4_mends_88 : decode cX4_mends 88 = .ok (.aload_n 0, 1) := by decide +kernel
theorem dX4_mends_89 : decode cX4_mends 89 = .ok (.iload_n 1, 1) := by decide +kernel
theorem dX4_mends_90 : decode cX4_mends 90 = .ok (.iconst 2, 1) := by decide +kernel
theorem dX4_mends_91 : decode cX4_mends 91 = .ok (.invokevirtual 33, 3) := by decide +kernel
theorem dX4_mends_94 : decode cX4_mends 94 = .ok (.iconst 3, 1) := by decide +kernel
theorem dX4_mends_95 : decode cX4_mends 95 = .ok (.idiv, 1) := by decide +kernel
theorem dX4_mends_96 : decode cX4_mends 96 = .ok (.invokevirtual 37, 3) := by decide +kernel
theorem dX4_mends_99 : decode cX4_mends 99 = .ok (.return_, 1) := by decide +kernel
set_option maxRecDepth 20000 in
theorem ggX4_patch_X4_isSmithy : GoodIn wsX4_patch wsX4_isSmithy := goodIn_r _ [7, 8, 46, 47, 48, 49, 50, 51, 52, 53, 54, 55, 56, 57, 58, 59, 60] (by decide +kernel) (by decide +kernel)
set_option maxRecDepth 20000 in
theorem gX4_patch_X4_isSmithy : GoodIn wsX4_patch (wsV RX4 81 RX4 yX4_isSmithy wsX4_isSmithy) := goodIn_app (goodIn_of _ (by decide +kernel)) ggX4_patch_X4_isSmithy
set_option maxRecDepth 20000 in
theorem ggX4_patch_X4_whyNot : GoodIn wsX4_patch wsX4_whyNot := goodIn_r _ [12, 8, 13, 14, 15, 6, 16, 17, 18, 19, 20, 21, 22, 23, 24, 25, 26, 46, 47, 48, 49, 50, 51, 52, 53, 54, 55, 56, 57, 58, 59, 60] (by decide +kernel) (by decide +kernel)
set_option maxRecDepth 20000 in
theorem gX4_patch_X4_whyNot : GoodIn wsX4_patch (wsV RX4 84 RX4 yX4_whyNot wsX4_whyNot) := goodIn_app (goodIn_of _ (by decide +kernel)) ggX4_patch_X4_whyNot
set_option maxRecDepth 20000 in
theorem ggX4_patch_X4_changes : GoodIn wsX4_patch wsX4_changes := goodIn_r _ [30, 31, 32, 33, 8, 46, 47, 48, 49, 50, 51, 52, 53, 54, 55, 56, 57, 58, 59, 60] (by decide +kernel) (by decide +kernel)
set_option maxRecDepth 20000 in
theorem gX4_patch_X4_changes : GoodIn wsX4_patch (wsV RX4 59 RX4 yX4_changes wsX4_changes) := goodIn_app (goodIn_of _ (by decide +kernel)) ggX4_patch_X4_changes
set_option maxRecDepth 20000 in
theorem ggX4_patch_X4_mends : GoodIn wsX4_patch wsX4_mends := goodIn_r _ [37, 8, 38, 39, 40, 6, 41, 17, 18, 19, 20, 21, 22, 23, 13, 14, 15, 16, 24, 25, 26, 42, 43, 44, 45, 46, 47, 48, 49, 50, 51, 52, 53, 54, 55, 56, 57, 58, 59, 60] (by decide +kernel) (by decide +kernel)
set_option maxRecDepth 20000 in
theorem gX4_patch_X4_mends : GoodIn wsX4_patch (wsV RX4 87 RX4 yX4_mends wsX4_mends) := goodIn_app (goodIn_of _ (by decide +kernel)) ggX4_patch_X4_mends
set_option maxRecDepth 20000 in
theorem ggX4_patch_X4_of : GoodIn wsX4_patch wsX4_of := goodIn_r _ [16, 8, 46, 47, 48, 49, 50, 51, 52, 53, 54, 55, 56, 57, 58, 59, 60] (by decide +kernel) (by decide +kernel)
set_option maxRecDepth 20000 in
theorem gX4_patch_X4_of : GoodIn wsX4_patch (wsV RX4 33 RX4 yX4_of wsX4_of) := goodIn_app (goodIn_of _ (by decide +kernel)) ggX4_patch_X4_of
theorem dX4_patch_0 : decode cX4_patch 0 = .ok (.aload_n 0, 1) := by decide +kernel
theorem dX4_patch_1 : decode cX4_patch 1 = .ok (.iload_n 1, 1) := by decide +kernel
theorem dX4_patch_2 : decode cX4_patch 2 = .ok (.invokevirtual 81, 3) := by decide +kernel
theorem dX4_patch_5 : decode cX4_patch 5 = .ok (.ifCond .ne 6, 3) := by decide +kernel
theorem dX4_patch_8 : decode cX4_patch 8 = .ok (.ldc 57, 2) := by decide +kernel
theorem dX4_patch_10 : decode cX4_patch 10 = .ok (.ireturn, 1) := by decide +kernel
theorem dX4_patch_11 : decode cX4_patch 11 = .ok (.aload_n 0, 1) := by decide +kernel
theorem dX4_patch_12 : decode cX4_patch 12 = .ok (.iload_n 1, 1) := by decide +kernel
theorem dX4_patch_13 : decode cX4_patch 13 = .ok (.iconst 0, 1) := by decide +kernel
theorem dX4_patch_14 : decode cX4_patch 14 = .ok (.invokevirtual 84, 3) := by decide +kernel
theorem dX4_patch_17 : decode cX4_patch 17 = .ok (.ifCond .eq 6, 3) := by decide +kernel
theorem dX4_patch_20 : decode cX4_patch 20 = .ok (.ldc 71, 2) := by decide +kernel
theorem dX4_patch_22 : decode cX4_patch 22 = .ok (.ireturn, 1) := by decide +kernel
theorem dX4_patch_23 : decode cX4_patch 23 = .ok (.aload_n 0, 1) := by decide +kernel
theorem dX4_patch_24 : decode cX4_patch 24 = .ok (.invokevirtual 59, 3) := by decide +kernel
theorem dX4_patch_27 : decode cX4_patch 27 = .ok (.aload_n 0, 1) := by decide +kernel
theorem dX4_patch_28 : decode cX4_patch 28 = .ok (.iload_n 1, 1) := by decide +kernel
theorem dX4_patch_29 : decode cX4_patch 29 = .ok (.iconst 0, 1) := by decide +kernel
theorem dX4_patch_30 : decode cX4_patch 30 = .ok (.invokevirtual 87, 3) := by decide +kernel
theorem dX4_patch_33 : decode cX4_patch 33 = .ok (.aload_n 0, 1) := by decide +kernel
theorem dX4_patch_34 : decode cX4_patch 34 = .ok (.iload_n 1, 1) := by decide +kernel
theorem dX4_patch_35 : decode cX4_patch 35 = .ok (.iconst 2, 1) := by decide +kernel
theorem dX4_patch_36 : decode cX4_patch 36 = .ok (.invokevirtual 33, 3) := by decide +kernel
theorem dX4_patch_39 : decode cX4_patch 39 = .ok (.ireturn, 1) := by decide +kernel
set_option maxRecDepth 20000 in
theorem ggX4_hide_X4_isSmithy : GoodIn wsX4_hide wsX4_isSmithy := goodIn_r _ [7, 8, 46, 47, 48, 49, 50, 51, 52, 53, 54, 55, 56, 57, 58, 59, 60] (by decide +kernel) (by decide +kernel)
set_option maxRecDepth 20000 in
theorem gX4_hide_X4_isSmithy : GoodIn wsX4_hide (wsV RX4 81 RX4 yX4_isSmithy wsX4_isSmithy) := goodIn_app (goodIn_of _ (by decide +kernel)) ggX4_hide_X4_isSmithy
set_option maxRecDepth 20000 in
theorem ggX4_hide_X4_whyNot : GoodIn wsX4_hide wsX4_whyNot := goodIn_r _ [12, 8, 13, 14, 15, 6, 16, 17, 18, 19, 20, 21, 22, 23, 24, 25, 26, 46, 47, 48, 49, 50, 51, 52, 53, 54, 55, 56, 57, 58, 59, 60] (by decide +kernel) (by decide +kernel)
set_option maxRecDepth 20000 in
theorem gX4_hide_X4_whyNot : GoodIn wsX4_hide (wsV RX4 84 RX4 yX4_whyNot wsX4_whyNot) := goodIn_app (goodIn_of _ (by decide +kernel)) ggX4_hide_X4_whyNot
set_option maxRecDepth 20000 in
theorem ggX4_hide_X4_changes : GoodIn wsX4_hide wsX4_changes := goodIn_r _ [30, 31, 32, 33, 8, 46, 47, 48, 49, 50, 51, 52, 53, 54, 55, 56, 57, 58, 59, 60] (by decide +kernel) (by decide +kernel)
set_option maxRecDepth 20000 in
theorem gX4_hide_X4_changes : GoodIn wsX4_hide (wsV RX4 59 RX4 yX4_changes wsX4_changes) := goodIn_app (goodIn_of _ (by decide +kernel)) ggX4_hide_X4_changes
set_option maxRecDepth 20000 in
theorem ggX4_hide_X4_mends : GoodIn wsX4_hide wsX4_mends := goodIn_r _ [37, 8, 38, 39, 40, 6, 41, 17, 18, 19, 20, 21, 22, 23, 13, 14, 15, 16, 24, 25, 26, 42, 43, 44, 45, 46, 47, 48, 49, 50, 51, 52, 53, 54, 55, 56, 57, 58, 59, 60] (by decide +kernel) (by decide +kernel)
set_option maxRecDepth 20000 in
theorem gX4_hide_X4_mends : GoodIn wsX4_hide (wsV RX4 87 RX4 yX4_mends wsX4_mends) := goodIn_app (goodIn_of _ (by decide +kernel)) ggX4_hide_X4_mends
set_option maxRecDepth 20000 in
theorem ggX4_hide_X4_of : GoodIn wsX4_hide wsX4_of := goodIn_r _ [16, 8, 46, 47, 48, 49, 50, 51, 52, 53, 54, 55, 56, 57, 58, 59, 60] (by decide +kernel) (by decide +kernel)
set_option maxRecDepth 20000 in
theorem gX4_hide_X4_of : GoodIn wsX4_hide (wsV RX4 33 RX4 yX4_of wsX4_of) := goodIn_app (goodIn_of _ (by decide +kernel)) ggX4_hide_X4_of
theorem dX4_hide_0 : decode cX4_hide 0 = .ok (.aload_n 0, 1) := by decide +kernel
theorem dX4_hide_1 : decode cX4_hide 1 = .ok (.iload_n 1, 1) := by decide +kernel
theorem dX4_hide_2 : decode cX4_hide 2 = .ok (.invokevirtual 81, 3) := by decide +kernel
theorem dX4_hide_5 : decode cX4_hide 5 = .ok (.ifCond .ne 6, 3) := by decide +kernel
theorem dX4_hide_8 : decode cX4_hide 8 = .ok (.ldc 57, 2) := by decide +kernel
theorem dX4_hide_10 : decode cX4_hide 10 = .ok (.ireturn, 1) := by decide +kernel
theorem dX4_hide_11 : decode cX4_hide 11 = .ok (.aload_n 0, 1) := by decide +kernel
theorem dX4_hide_12 : decode cX4_hide 12 = .ok (.iload_n 1, 1) := by decide +kernel
theorem dX4_hide_13 : decode cX4_hide 13 = .ok (.iconst 1, 1) := by decide +kernel
theorem dX4_hide_14 : decode cX4_hide 14 = .ok (.invokevirtual 84, 3) := by decide +kernel
theorem dX4_hide_17 : decode cX4_hide 17 = .ok (.ifCond .eq 6, 3) := by decide +kernel
theorem dX4_hide_20 : decode cX4_hide 20 = .ok (.ldc 71, 2) := by decide +kernel
theorem dX4_hide_22 : decode cX4_hide 22 = .ok (.ireturn, 1) := by decide +kernel
theorem dX4_hide_23 : decode cX4_hide 23 = .ok (.aload_n 0, 1) := by decide +kernel
theorem dX4_hide_24 : decode cX4_hide 24 = .ok (.invokevirtual 59, 3) := by decide +kernel
theorem dX4_hide_27 : decode cX4_hide 27 = .ok (.aload_n 0, 1) := by decide +kernel
theorem dX4_hide_28 : decode cX4_hide 28 = .ok (.iload_n 1, 1) := by decide +kernel
theorem dX4_hide_29 : decode cX4_hide 29 = .ok (.iconst 1, 1) := by decide +kernel
theorem dX4_hide_30 : decode cX4_hide 30 = .ok (.invokevirtual 87, 3) := by decide +kernel
theorem dX4_hide_33 : decode cX4_hide 33 = .ok (.aload_n 0, 1) := by decide +kernel
theorem dX4_hide_34 : decode cX4_hide 34 = .ok (.iload_n 1, 1) := by decide +kernel
theorem dX4_hide_35 : decode cX4_hide 35 = .ok (.iconst 5, 1) := by decide +kernel
theorem dX4_hide_36 : decode cX4_hide 36 = .ok (.invokevirtual 33, 3) := by decide +kernel
theorem dX4_hide_39 : decode cX4_hide 39 = .ok (.ireturn, 1) := by decide +kernel
set_option maxRecDepth 20000 in
theorem ggX4_collect_X4_isSmithy : GoodIn wsX4_collect wsX4_isSmithy := goodIn_r _ [8, 2, 28, 29, 30, 31, 32, 33, 34, 35, 36, 37, 38, 39, 40, 41, 42] (by decide +kernel) (by decide +kernel)
set_option maxRecDepth 20000 in
theorem gX4_collect_X4_isSmithy : GoodIn wsX4_collect (wsV RX4 81 RX4 yX4_isSmithy wsX4_isSmithy) := goodIn_app (goodIn_of _ (by decide +kernel)) ggX4_collect_X4_isSmithy
set_option maxRecDepth 20000 in
theorem ggX4_collect_X4_of : GoodIn wsX4_collect wsX4_of := goodIn_r _ [12, 2, 28, 29, 30, 31, 32, 33, 34, 35, 36, 37, 38, 39, 40, 41, 42] (by decide +kernel) (by decide +kernel)
set_option maxRecDepth 20000 in
theorem gX4_collect_X4_of : GoodIn wsX4_collect (wsV RX4 33 RX4 yX4_of wsX4_of) := goodIn_app (goodIn_of _ (by decide +kernel)) ggX4_collect_X4_of
set_option maxRecDepth 20000 in
theorem ggX4_collect_X4_changes : GoodIn wsX4_collect wsX4_changes := goodIn_r _ [16, 17, 18, 19, 2, 28, 29, 30, 31, 32, 33, 34, 35, 36, 37, 38, 39, 40, 41, 42] (by decide +kernel) (by decide +kernel)
set_option maxRecDepth 20000 in
theorem gX4_collect_X4_changes : GoodIn wsX4_collect (wsV RX4 59 RX4 yX4_changes wsX4_changes) := goodIn_app (goodIn_of _ (by decide +kernel)) ggX4_collect_X4_changes
set_option maxRecDepth 20000 in
theorem ggX4_collect_X4_isCold : GoodIn wsX4_collect wsX4_isCold := goodIn_r _ [23, 2, 9, 10, 11, 7, 12, 28, 29, 30, 31, 32, 33, 34, 35, 36, 37, 38, 39, 40, 41, 42] (by decide +kernel) (by decide +kernel)
set_option maxRecDepth 20000 in
theorem gX4_collect_X4_isCold : GoodIn wsX4_collect (wsV RX4 45 RX4 yX4_isCold wsX4_isCold) := goodIn_app (goodIn_of _ (by decide +kernel)) ggX4_collect_X4_isCold
set_option maxRecDepth 20000 in
theorem ggX4_collect_X4_sets : GoodIn wsX4_collect wsX4_sets := goodIn_r _ [27, 2, 28, 29, 30, 31, 32, 33, 34, 35, 36, 37, 38, 39, 40, 41, 42] (by decide +kernel) (by decide +kernel)
set_option maxRecDepth 20000 in
theorem gX4_collect_X4_sets : GoodIn wsX4_collect (wsV RX4 37 RX4 yX4_sets wsX4_sets) := goodIn_app (goodIn_of _ (by decide +kernel)) ggX4_collect_X4_sets
theorem dX4_collect_0 : decode cX4_collect 0 = .ok (.aload_n 0, 1) := by decide +kernel
theorem dX4_collect_1 : decode cX4_collect 1 = .ok (.iload_n 1, 1) := by decide +kernel
theorem dX4_collect_2 : decode cX4_collect 2 = .ok (.invokevirtual 81, 3) := by decide +kernel
theorem dX4_collect_5 : decode cX4_collect 5 = .ok (.ifCond .ne 6, 3) := by decide +kernel
theorem dX4_collect_8 : decode cX4_collect 8 = .ok (.ldc 57, 2) := by decide +kernel
theorem dX4_collect_10 : decode cX4_collect 10 = .ok (.ireturn, 1) := by decide +kernel
theorem dX4_collect_11 : decode cX4_collect 11 = .ok (.aload_n 0, 1) := by decide +kernel
theorem dX4_collect_12 : decode cX4_collect 12 = .ok (.getfield 7, 3) := by decide +kernel
theorem dX4_collect_15 : decode cX4_collect 15 = .ok (.iconst 2, 1) := by decide +kernel
theorem dX4_collect_16 : decode cX4_collect 16 = .ok (.iaload, 1) := by decide +kernel
theorem dX4_collect_17 : decode cX4_collect 17 = .ok (.aload_n 0, 1) := by decide +kernel
theorem dX4_collect_18 : decode cX4_collect 18 = .ok (.iload_n 1, 1) := by decide +kernel
theorem dX4_collect_19 : decode cX4_collect 19 = .ok (.iconst 0, 1) := by decide +kernel
theorem dX4_collect_20 : decode cX4_collect 20 = .ok (.invokevirtual 33, 3) := by decide +kernel
theorem dX4_collect_23 : decode cX4_collect 23 = .ok (.if_icmp .ne 12, 3) := by decide +kernel
theorem dX4_collect_26 : decode cX4_collect 26 = .ok (.aload_n 0, 1) := by decide +kernel
theorem dX4_collect_27 : decode cX4_collect 27 = .ok (.iload_n 1, 1) := by decide +kernel
theorem dX4_collect_28 : decode cX4_collect 28 = .ok (.iconst 5, 1) := by decide +kernel
theorem dX4_collect_29 : decode cX4_collect 29 = .ok (.invokevirtual 33, 3) := by decide +kernel
theorem dX4_collect_32 : decode cX4_collect 32 = .ok (.ifCond .ne 6, 3) := by decide +kernel
theorem dX4_collect_35 : decode cX4_collect 35 = .ok (.ldc 71, 2) := by decide +kernel
theorem dX4_collect_37 : decode cX4_collect 37 = .ok (.ireturn, 1) := by decide +kernel
theorem dX4_collect_38 : decode cX4_collect 38 = .ok (.aload_n 0, 1) := by decide +kernel
theorem dX4_collect_39 : decode cX4_collect 39 = .ok (.invokevirtual 59, 3) := by decide +kernel
theorem dX4_collect_42 : decode cX4_collect 42 = .ok (.aload_n 0, 1) := by decide +kernel
theorem dX4_collect_43 : decode cX4_collect 43 = .ok (.iload_n 1, 1) := by decide +kernel
theorem dX4_collect_44 : decode cX4_collect 44 = .ok (.invokevirtual 45, 3) := by decide +kernel
theorem dX4_collect_47 : decode cX4_collect 47 = .ok (.ifCond .eq 14, 3) := by decide +kernel
theorem dX4_collect_50 : decode cX4_collect 50 = .ok (.aload_n 0, 1) := by decide +kernel
theorem dX4_collect_51 : decode cX4_collect 51 = .ok (.iload_n 1, 1) := by decide +kernel
theorem dX4_collect_52 : decode cX4_collect 52 = .ok (.iconst 5, 1) := by decide +kernel
theorem dX4_collect_53 : decode cX4_collect 53 = .ok (.invokevirtual 33, 3) := by decide +kernel
theorem dX4_collect_56 : decode cX4_collect 56 = .ok (.iconst 2, 1) := by decide +kernel
theorem dX4_collect_57 : decode cX4_collect 57 = .ok (.idiv, 1) := by decide +kernel
theorem dX4_collect_58 : decode cX4_collect 58 = .ok (.goto 9, 3) := by decide +kernel
theorem dX4_collect_61 : decode cX4_collect 61 = .ok (.aload_n 0, 1) := by decide +kernel
theorem dX4_collect_62 : decode cX4_collect 62 = .ok (.iload_n 1, 1) := by decide +kernel
theorem dX4_collect_63 : decode cX4_collect 63 = .ok (.iconst 5, 1) := by decide +kernel
theorem dX4_collect_64 : decode cX4_collect 64 = .ok (.invokevirtual 33, 3) := by decide +kernel
theorem dX4_collect_67 : decode cX4_collect 67 = .ok (.istore_n 2, 1) := by decide +kernel
theorem dX4_collect_68 : decode cX4_collect 68 = .ok (.aload_n 0, 1) := by decide +kernel
theorem dX4_collect_69 : decode cX4_collect 69 = .ok (.iload_n 1, 1) := by decide +kernel
theorem dX4_collect_70 : decode cX4_collect 70 = .ok (.iconst 5, 1) := by decide +kernel
theorem dX4_collect_71 : decode cX4_collect 71 = .ok (.aload_n 0, 1) := by decide +kernel
theorem dX4_collect_72 : decode cX4_collect 72 = .ok (.iload_n 1, 1) := by decide +kernel
theorem dX4_collect_73 : decode cX4_collect 73 = .ok (.iconst 5, 1) := by decide +kernel
theorem dX4_collect_74 : decode cX4_collect 74 = .ok (.invokevirtual 33, 3) := by decide +kernel
theorem dX4_collect_77 : decode cX4_collect 77 = .ok (.iload_n 2, 1) := by decide +kernel
theorem dX4_collect_78 : decode cX4_collect 78 = .ok (.isub, 1) := by decide +kernel
theorem dX4_collect_79 : decode cX4_collect 79 = .ok (.invokevirtual 37, 3) := by decide +kernel
theorem dX4_collect_82 : decode cX4_collect 82 = .ok (.aload_n 0, 1) := by decide +kernel
theorem dX4_collect_83 : decode cX4_collect 83 = .ok (.iload_n 1, 1) := by decide +kernel
theorem dX4_collect_84 : decode cX4_collect 84 = .ok (.bipush 6, 2) := by decide +kernel
theorem dX4_collect_86 : decode cX4_collect 86 = .ok (.aload_n 0, 1) := by decide +kernel
theorem dX4_collect_87 : decode cX4_collect 87 = .ok (.iload_n 1, 1) := by decide +kernel
theorem dX4_collect_88 : decode cX4_collect 88 = .ok (.bipush 6, 2) := by decide +kernel
theorem dX4_collect_90 : decode cX4_collect 90 = .ok (.invokevirtual 33, 3) := by decide +kernel
theorem dX4_collect_93 : decode cX4_collect 93 = .ok (.iload_n 2, 1) := by decide +kernel
theorem dX4_collect_94 : decode cX4_collect 94 = .ok (.iadd, 1) := by decide +kernel
theorem dX4_collect_95 : decode cX4_collect 95 = .ok (.invokevirtual 37, 3) := by decide +kernel
theorem dX4_collect_98 : decode cX4_collect 98 = .ok (.aload_n 0, 1) := by decide +kernel
theorem dX4_collect_99 : decode cX4_collect 99 = .ok (.getfield 7, 3) := by decide +kernel
theorem dX4_collect_102 : decode cX4_collect 102 = .ok (.iconst 5, 1) := by decide +kernel
theorem dX4_collect_103 : decode cX4_collect 103 = .ok (.dup2, 1) := by decide +kernel
theorem dX4_collect_104 : decode cX4_collect 104 = .ok (.iaload, 1) := by decide +kernel
theorem dX4_collect_105 : decode cX4_collect 105 = .ok (.iload_n 2, 1) := by decide +kernel
theorem dX4_collect_106 : decode cX4_collect 106 = .ok (.iadd, 1) := by decide +kernel
theorem dX4_collect_107 : decode cX4_collect 107 = .ok (.iastore, 1) := by decide +kernel
theorem dX4_collect_108 : decode cX4_collect 108 = .ok (.iload_n 2, 1) := by decide +kernel
theorem dX4_collect_109 : decode cX4_collect 109 = .ok (.ireturn, 1) := by decide +kernel
set_option maxRecDepth 20000 in
theorem ggX4_end_X4_in : GoodIn wsX4_end wsX4_in := goodIn_r _ [7] (by decide +kernel) (by decide +kernel)
set_option maxRecDepth 20000 in
theorem gX4_end_X4_in : GoodIn wsX4_end (va_wsS RX4 53 yX4_in wsX4_in) := goodIn_app (goodIn_of _ (by decide +kernel)) ggX4_end_X4_in
set_option maxRecDepth 20000 in
theorem ggX4_end_X4_changes : GoodIn wsX4_end wsX4_changes := goodIn_r _ [11, 12, 13, 14, 2, 46, 47, 48, 49, 50, 51, 52, 53, 54, 55, 56, 57, 58, 59, 60] (by decide +kernel) (by decide +kernel)
set_option maxRecDepth 20000 in
theorem gX4_end_X4_changes : GoodIn wsX4_end (wsV RX4 59 RX4 yX4_changes wsX4_changes) := goodIn_app (goodIn_of _ (by decide +kernel)) ggX4_end_X4_changes
set_option maxRecDepth 20000 in
theorem ggX4_end_X4_ends : GoodIn wsX4_end wsX4_ends := goodIn_r _ [18, 2, 19, 20, 21, 6, 22, 23, 24, 25, 26, 27, 28, 29, 30, 31, 32, 33, 34, 35, 36, 37, 38, 46, 47, 48, 49, 50, 51, 52, 53, 54, 55, 56, 57, 58, 59, 60] (by decide +kernel) (by decide +kernel)
set_option maxRecDepth 20000 in
theorem gX4_end_X4_ends : GoodIn wsX4_end (wsV RX4 91 RX4 yX4_ends wsX4_ends) := goodIn_app (goodIn_of _ (by decide +kernel)) ggX4_end_X4_ends
set_option maxRecDepth 20000 in
theorem ggX4_end_X4_coldOnes : GoodIn wsX4_end wsX4_coldOnes := goodIn_r _ [42, 2, 35, 36, 37, 6, 38, 23, 24, 25, 26, 46, 47, 48, 49, 50, 51, 52, 53, 54, 55, 56, 57, 58, 59, 60] (by decide +kernel) (by decide +kernel)
set_option maxRecDepth 20000 in
theorem gX4_end_X4_coldOnes : GoodIn wsX4_end (wsV RX4 94 RX4 yX4_coldOnes wsX4_coldOnes) := goodIn_app (goodIn_of _ (by decide +kernel)) ggX4_end_X4_coldOnes
set_option maxRecDepth 20000 in
theorem ggX4_end_X4_ones : GoodIn wsX4_end wsX4_ones := goodIn_r _ [45] (by decide +kernel) (by decide +kernel)
set_option maxRecDepth 20000 in
theorem gX4_end_X4_ones : GoodIn wsX4_end (va_wsS RX4 98 yX4_ones wsX4_ones) := goodIn_app (goodIn_of _ (by decide +kernel)) ggX4_end_X4_ones
theorem dX4_end_0 : decode cX4_end 0 = .ok (.iload_n 1, 1) := by decide +kernel
theorem dX4_end_1 : decode cX4_end 1 = .ok (.iconst 1, 1) := by decide +kernel
theorem dX4_end_2 : decode cX4_end 2 = .ok (.bipush 99, 2) := by decide +kernel
theorem dX4_end_4 : decode cX4_end 4 = .ok (.invokestatic 53, 3) := by decide +kernel
theorem dX4_end_7 : decode cX4_end 7 = .ok (.ifCond .ne 6, 3) := by decide +kernel
theorem dX4_end_10 : decode cX4_end 10 = .ok (.ldc 57, 2) := by decide +kernel
theorem dX4_end_12 : decode cX4_end 12 = .ok (.ireturn, 1) := by decide +kernel
theorem dX4_end_13 : decode cX4_end 13 = .ok (.aload_n 0, 1) := by decide +kernel
theorem dX4_end_14 : decode cX4_end 14 = .ok (.getfield 7, 3) := by decide +kernel
theorem dX4_end_17 : decode cX4_end 17 = .ok (.iconst 1, 1) := by decide +kernel
theorem dX4_end_18 : decode cX4_end 18 = .ok (.iaload, 1) := by decide +kernel
theorem dX4_end_19 : decode cX4_end 19 = .ok (.iload_n 1, 1) := by decide +kernel
theorem dX4_end_20 : decode cX4_end 20 = .ok (.iadd, 1) := by decide +kernel
theorem dX4_end_21 : decode cX4_end 21 = .ok (.sipush 9999, 3) := by decide +kernel
theorem dX4_end_24 : decode cX4_end 24 = .ok (.if_icmp .le 6, 3) := by decide +kernel
theorem dX4_end_27 : decode cX4_end 27 = .ok (.ldc 58, 2) := by decide +kernel
theorem dX4_end_29 : decode cX4_end 29 = .ok (.ireturn, 1) := by decide +kernel
theorem dX4_end_30 : decode cX4_end 30 = .ok (.aload_n 0, 1) := by decide +kernel
theorem dX4_end_31 : decode cX4_end 31 = .ok (.invokevirtual 59, 3) := by decide +kernel
theorem dX4_end_34 : decode cX4_end 34 = .ok (.iconst 0, 1) := by decide +kernel
theorem dX4_end_35 : decode cX4_end 35 = .ok (.istore_n 2, 1) := by decide +kernel
theorem dX4_end_36 : decode cX4_end 36 = .ok (.iload_n 2, 1) := by decide +kernel
theorem dX4_end_37 : decode cX4_end 37 = .ok (.iload_n 1, 1) := by decide +kernel
theorem dX4_end_38 : decode cX4_end 38 = .ok (.if_icmp .ge 13, 3) := by decide +kernel
theorem dX4_end_41 : decode cX4_end 41 = .ok (.aload_n 0, 1) := by decide +kernel
theorem dX4_end_42 : decode cX4_end 42 = .ok (.invokevirtual 91, 3) := by decide +kernel
theorem dX4_end_45 : decode cX4_end 45 = .ok (.iinc 2 1, 3) := by decide +kernel
theorem dX4_end_48 : decode cX4_end 48 = .ok (.goto (-12), 3) := by decide +kernel
theorem dX4_end_51 : decode cX4_end 51 = .ok (.aload_n 0, 1) := by decide +kernel
theorem dX4_end_52 : decode cX4_end 52 = .ok (.invokevirtual 94, 3) := by decide +kernel
theorem dX4_end_55 : decode cX4_end 55 = .ok (.invokestatic 98, 3) := by decide +kernel
theorem dX4_end_58 : decode cX4_end 58 = .ok (.ireturn, 1) := by decide +kernel
set_option maxRecDepth 20000 in
theorem ggX4_maySet_X4_in : GoodIn wsX4_maySet wsX4_in := goodIn_r _ [4] (by decide +kernel) (by decide +kernel)
set_option maxRecDepth 20000 in
theorem gX4_maySet_X4_in : GoodIn wsX4_maySet (va_wsS RX4 53 yX4_in wsX4_in) := goodIn_app (goodIn_of _ (by decide +kernel)) ggX4_maySet_X4_in
theorem dX4_maySet_0 : decode cX4_maySet 0 = .ok (.iload_n 0, 1) := by decide +kernel
theorem dX4_maySet_1 : decode cX4_maySet 1 = .ok (.tableswitch 51 0 2 #[27, 35, 43], 27) := by decide +kernel
theorem dX4_maySet_28 : decode cX4_maySet 28 = .ok (.iload_n 1, 1) := by decide +kernel
theorem dX4_maySet_29 : decode cX4_maySet 29 = .ok (.iconst 1, 1) := by decide +kernel
theorem dX4_maySet_30 : decode cX4_maySet 30 = .ok (.bipush 99, 2) := by decide +kernel
theorem dX4_maySet_32 : decode cX4_maySet 32 = .ok (.invokestatic 53, 3) := by decide +kernel
theorem dX4_maySet_35 : decode cX4_maySet 35 = .ok (.ireturn, 1) := by decide +kernel
theorem dX4_maySet_36 : decode cX4_maySet 36 = .ok (.iload_n 1, 1) := by decide +kernel
theorem dX4_maySet_37 : decode cX4_maySet 37 = .ok (.iconst 1, 1) := by decide +kernel
theorem dX4_maySet_38 : decode cX4_maySet 38 = .ok (.bipush 24, 2) := by decide +kernel
theorem dX4_maySet_40 : decode cX4_maySet 40 = .ok (.invokestatic 53, 3) := by decide +kernel
theorem dX4_maySet_43 : decode cX4_maySet 43 = .ok (.ireturn, 1) := by decide +kernel
theorem dX4_maySet_44 : decode cX4_maySet 44 = .ok (.iload_n 1, 1) := by decide +kernel
theorem dX4_maySet_45 : decode cX4_maySet 45 = .ok (.iconst 0, 1) := by decide +kernel
theorem dX4_maySet_46 : decode cX4_maySet 46 = .ok (.bipush 20, 2) := by decide +kernel
theorem dX4_maySet_48 : decode cX4_maySet 48 = .ok (.invokestatic 53, 3) := by decide +kernel
theorem dX4_maySet_51 : decode cX4_maySet 51 = .ok (.ireturn, 1) := by decide +kernel
theorem dX4_maySet_52 : decode cX4_maySet 52 = .ok (.iload_n 1, 1) := by decide +kernel
theorem dX4_maySet_53 : decode cX4_maySet 53 = .ok (.iconst 0, 1) := by decide +kernel
theorem dX4_maySet_54 : decode cX4_maySet 54 = .ok (.sipush 500, 3) := by decide +kernel
theorem dX4_maySet_57 : decode cX4_maySet 57 = .ok (.invokestatic 53, 3) := by decide +kernel
theorem dX4_maySet_60 : decode cX4_maySet 60 = .ok (.ireturn, 1) := by decide +kernel
set_option maxRecDepth 20000 in
theorem ggX4_set_X4_in : GoodIn wsX4_set wsX4_in := goodIn_r _ [6] (by decide +kernel) (by decide +kernel)
set_option maxRecDepth 20000 in
theorem gX4_set_X4_in : GoodIn wsX4_set (va_wsS RX4 53 yX4_in wsX4_in) := goodIn_app (goodIn_of _ (by decide +kernel)) ggX4_set_X4_in
set_option maxRecDepth 20000 in
theorem ggX4_set_X4_maySet : GoodIn wsX4_set wsX4_maySet := goodIn_r _ [9, 3, 4, 5, 6] (by decide +kernel) (by decide +kernel)
set_option maxRecDepth 20000 in
theorem gX4_set_X4_maySet : GoodIn wsX4_set (va_wsS RX4 101 yX4_maySet wsX4_maySet) := goodIn_app (goodIn_of _ (by decide +kernel)) ggX4_set_X4_maySet
set_option maxRecDepth 20000 in
theorem ggX4_set_X4_changes : GoodIn wsX4_set wsX4_changes := goodIn_r _ [13, 14, 15, 16, 2, 17, 18, 19, 20, 21, 22, 23, 24, 25, 26, 27, 28, 29, 30, 31] (by decide +kernel) (by decide +kernel)
set_option maxRecDepth 20000 in
theorem gX4_set_X4_changes : GoodIn wsX4_set (wsV RX4 59 RX4 yX4_changes wsX4_changes) := goodIn_app (goodIn_of _ (by decide +kernel)) ggX4_set_X4_changes
theorem dX4_set_0 : decode cX4_set 0 = .ok (.iload_n 1, 1) := by decide +kernel
theorem dX4_set_1 : decode cX4_set 1 = .ok (.iconst 0, 1) := by decide +kernel
theorem dX4_set_2 : decode cX4_set 2 = .ok (.iconst 3, 1) := by decide +kernel
theorem dX4_set_3 : decode cX4_set 3 = .ok (.invokestatic 53, 3) := by decide +kernel
theorem dX4_set_6 : decode cX4_set 6 = .ok (.ifCond .eq 11, 3) := by decide +kernel
theorem dX4_set_9 : decode cX4_set 9 = .ok (.iload_n 1, 1) := by decide +kernel
theorem dX4_set_10 : decode cX4_set 10 = .ok (.iload_n 2, 1) := by decide +kernel
theorem dX4_set_11 : decode cX4_set 11 = .ok (.invokestatic 101, 3) := by decide +kernel
theorem dX4_set_14 : decode cX4_set 14 = .ok (.ifCond .ne 6, 3) := by decide +kernel
theorem dX4_set_17 : decode cX4_set 17 = .ok (.ldc 57, 2) := by decide +kernel
theorem dX4_set_19 : decode cX4_set 19 = .ok (.ireturn, 1) := by decide +kernel
theorem dX4_set_20 : decode cX4_set 20 = .ok (.aload_n 0, 1) := by decide +kernel
theorem dX4_set_21 : decode cX4_set 21 = .ok (.invokevirtual 59, 3) := by decide +kernel
theorem dX4_set_24 : decode cX4_set 24 = .ok (.aload_n 0, 1) := by decide +kernel
theorem dX4_set_25 : decode cX4_set 25 = .ok (.getfield 7, 3) := by decide +kernel
theorem dX4_set_28 : decode cX4_set 28 = .ok (.bipush 10, 2) := by decide +kernel
theorem dX4_set_30 : decode cX4_set 30 = .ok (.iload_n 1, 1) := by decide +kernel
theorem dX4_set_31 : decode cX4_set 31 = .ok (.iadd, 1) := by decide +kernel
theorem dX4_set_32 : decode cX4_set 32 = .ok (.iaload, 1) := by decide +kernel
theorem dX4_set_33 : decode cX4_set 33 = .ok (.istore_n 3, 1) := by decide +kernel
theorem dX4_set_34 : decode cX4_set 34 = .ok (.aload_n 0, 1) := by decide +kernel
theorem dX4_set_35 : decode cX4_set 35 = .ok (.getfield 7, 3) := by decide +kernel
theorem dX4_set_38 : decode cX4_set 38 = .ok (.bipush 10, 2) := by decide +kernel
theorem dX4_set_40 : decode cX4_set 40 = .ok (.iload_n 1, 1) := by decide +kernel
theorem dX4_set_41 : decode cX4_set 41 = .ok (.iadd, 1) := by decide +kernel
theorem dX4_set_42 : decode cX4_set 42 = .ok (.iload_n 2, 1) := by decide +kernel
theorem dX4_set_43 : decode cX4_set 43 = .ok (.iastore, 1) := by decide +kernel
theorem dX4_set_44 : decode cX4_set 44 = .ok (.iload_n 3, 1) := by decide +kernel
theorem dX4_set_45 : decode cX4_set 45 = .ok (.ireturn, 1) := by decide +kernel
set_option maxRecDepth 20000 in
theorem ggX4_smithyOf_X4_isSmithy : GoodIn wsX4_smithyOf wsX4_isSmithy := goodIn_r _ [7, 2, 32, 33, 34, 35, 36, 37, 38, 39, 40, 41, 42, 43, 44, 45, 46] (by decide +kernel) (by decide +kernel)
set_option maxRecDepth 20000 in
theorem gX4_smithyOf_X4_isSmithy : GoodIn wsX4_smithyOf (wsV RX4 81 RX4 yX4_isSmithy wsX4_isSmithy) := goodIn_app (goodIn_of _ (by decide +kernel)) ggX4_smithyOf_X4_isSmithy
set_option maxRecDepth 20000 in
theorem ggX4_smithyOf_X4_in : GoodIn wsX4_smithyOf wsX4_in := goodIn_r _ [10] (by decide +kernel) (by decide +kernel)
set_option maxRecDepth 20000 in
theorem gX4_smithyOf_X4_in : GoodIn wsX4_smithyOf (va_wsS RX4 53 yX4_in wsX4_in) := goodIn_app (goodIn_of _ (by decide +kernel)) ggX4_smithyOf_X4_in
set_option maxRecDepth 20000 in
theorem ggX4_smithyOf_X4_leak : GoodIn wsX4_smithyOf wsX4_leak := goodIn_r _ [14, 15, 16, 17, 6, 18, 2, 32, 33, 34, 35, 36, 37, 38, 39, 40, 41, 42, 43, 44, 45, 46] (by decide +kernel) (by decide +kernel)
set_option maxRecDepth 20000 in
theorem gX4_smithyOf_X4_leak : GoodIn wsX4_smithyOf (wsV RX4 41 RX4 yX4_leak wsX4_leak) := goodIn_app (goodIn_of _ (by decide +kernel)) ggX4_smithyOf_X4_leak
set_option maxRecDepth 20000 in
theorem ggX4_smithyOf_X4_of : GoodIn wsX4_smithyOf wsX4_of := goodIn_r _ [18, 2, 32, 33, 34, 35, 36, 37, 38, 39, 40, 41, 42, 43, 44, 45, 46] (by decide +kernel) (by decide +kernel)
set_option maxRecDepth 20000 in
theorem gX4_smithyOf_X4_of : GoodIn wsX4_smithyOf (wsV RX4 33 RX4 yX4_of wsX4_of) := goodIn_app (goodIn_of _ (by decide +kernel)) ggX4_smithyOf_X4_of
set_option maxRecDepth 20000 in
theorem ggX4_smithyOf_X4_isCold : GoodIn wsX4_smithyOf wsX4_isCold := goodIn_r _ [22, 2, 15, 16, 17, 6, 18, 32, 33, 34, 35, 36, 37, 38, 39, 40, 41, 42, 43, 44, 45, 46] (by decide +kernel) (by decide +kernel)
set_option maxRecDepth 20000 in
theorem gX4_smithyOf_X4_isCold : GoodIn wsX4_smithyOf (wsV RX4 45 RX4 yX4_isCold wsX4_isCold) := goodIn_app (goodIn_of _ (by decide +kernel)) ggX4_smithyOf_X4_isCold
set_option maxRecDepth 20000 in
theorem ggX4_smithyOf_X4_hoursBetween : GoodIn wsX4_smithyOf wsX4_hoursBetween := goodIn_r _ [25, 26, 27, 6, 28, 29, 30, 31] (by decide +kernel) (by decide +kernel)
set_option maxRecDepth 20000 in
theorem gX4_smithyOf_X4_hoursBetween : GoodIn wsX4_smithyOf (va_wsS RX4 68 yX4_hoursBetween wsX4_hoursBetween) := goodIn_app (goodIn_of _ (by decide +kernel)) ggX4_smithyOf_X4_hoursBetween
theorem dX4_smithyOf_0 : decode cX4_smithyOf 0 = .ok (.aload_n 0, 1) := by decide +kernel
theorem dX4_smithyOf_1 : decode cX4_smithyOf 1 = .ok (.iload_n 1, 1) := by decide +kernel
theorem dX4_smithyOf_2 : decode cX4_smithyOf 2 = .ok (.invokevirtual 81, 3) := by decide +kernel
theorem dX4_smithyOf_5 : decode cX4_smithyOf 5 = .ok (.ifCond .eq 13, 3) := by decide +kernel
theorem dX4_smithyOf_8 : decode cX4_smithyOf 8 = .ok (.iload_n 2, 1) := by decide +kernel
theorem dX4_smithyOf_9 : decode cX4_smithyOf 9 = .ok (.iconst 0, 1) := by decide +kernel
theorem dX4_smithyOf_10 : decode cX4_smithyOf 10 = .ok (.bipush 10, 2) := by decide +kernel
theorem dX4_smithyOf_12 : decode cX4_smithyOf 12 = .ok (.invokestatic 53, 3) := by decide +kernel
theorem dX4_smithyOf_15 : decode cX4_smithyOf 15 = .ok (.ifCond .ne 6, 3) := by decide +kernel
theorem dX4_smithyOf_18 : decode cX4_smithyOf 18 = .ok (.ldc 57, 2) := by decide +kernel
theorem dX4_smithyOf_20 : decode cX4_smithyOf 20 = .ok (.ireturn, 1) := by decide +kernel
theorem dX4_smithyOf_21 : decode cX4_smithyOf 21 = .ok (.iload_n 2, 1) := by decide +kernel
theorem dX4_smithyOf_22 : decode cX4_smithyOf 22 = .ok (.tableswitch 98 3 10 #[46, 52, 59, 73, 73, 73, 73, 82], 46) := by decide +kernel
theorem dX4_smithyOf_68 : decode cX4_smithyOf 68 = .ok (.aload_n 0, 1) := by decide +kernel
theorem dX4_smithyOf_69 : decode cX4_smithyOf 69 = .ok (.iload_n 1, 1) := by decide +kernel
theorem dX4_smithyOf_70 : decode cX4_smithyOf 70 = .ok (.invokevirtual 41, 3) := by decide +kernel
theorem dX4_smithyOf_73 : decode cX4_smithyOf 73 = .ok (.ireturn, 1) := by decide +kernel
theorem dX4_smithyOf_74 : decode cX4_smithyOf 74 = .ok (.aload_n 0, 1) := by decide +kernel
theorem dX4_smithyOf_75 : decode cX4_smithyOf 75 = .ok (.iload_n 1, 1) := by decide +kernel
theorem dX4_smithyOf_76 : decode cX4_smithyOf 76 = .ok (.iconst 3, 1) := by decide +kernel
theorem dX4_smithyOf_77 : decode cX4_smithyOf 77 = .ok (.invokevirtual 33, 3) := by decide +kernel
