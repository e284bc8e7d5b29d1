theorem dX0_init_0 : decode cX0_init 0 = .ok (.aload_n 0, 1) := by decide +kernel
theorem dX0_init_1 : decode cX0_init 1 = .ok (.invokespecial 3, 3) := by decide +kernel
theorem dX0_init_4 : decode cX0_init 4 = .ok (.aload_n 0, 1) := by decide +kernel
theorem dX0_init_5 : decode cX0_init 5 = .ok (.bipush 10, 2) := by decide +kernel
theorem dX0_init_7 : decode cX0_init 7 = .ok (.newarray .int, 2) := by decide +kernel
theorem dX0_init_9 : decode cX0_init 9 = .ok (.putfield 9, 3) := by decide +kernel
theorem dX0_init_12 : decode cX0_init 12 = .ok (.aload_n 0, 1) := by decide +kernel
theorem dX0_init_13 : decode cX0_init 13 = .ok (.sipush 1024, 3) := by decide +kernel
theorem dX0_init_16 : decode cX0_init 16 = .ok (.newarray .int, 2) := by decide +kernel
theorem dX0_init_18 : decode cX0_init 18 = .ok (.putfield 15, 3) := by decide +kernel
theorem dX0_init_21 : decode cX0_init 21 = .ok (.return_, 1) := by decide +kernel
theorem dX0_compare_0 : decode cX0_compare 0 = .ok (.aload_n 0, 1) := by decide +kernel
theorem dX0_compare_1 : decode cX0_compare 1 = .ok (.iconst 0, 1) := by decide +kernel
theorem dX0_compare_2 : decode cX0_compare 2 = .ok (.putfield 18, 3) := by decide +kernel
theorem dX0_compare_5 : decode cX0_compare 5 = .ok (.aload_n 1, 1) := by decide +kernel
theorem dX0_compare_6 : decode cX0_compare 6 = .ok (.getfield 22, 3) := by decide +kernel
theorem dX0_compare_9 : decode cX0_compare 9 = .ok (.aload_n 2, 1) := by decide +kernel
theorem dX0_compare_10 : decode cX0_compare 10 = .ok (.getfield 22, 3) := by decide +kernel
theorem dX0_compare_13 : decode cX0_compare 13 = .ok (.if_icmp .ne 14, 3) := by decide +kernel
theorem dX0_compare_16 : decode cX0_compare 16 = .ok (.aload_n 1, 1) := by decide +kernel
theorem dX0_compare_17 : decode cX0_compare 17 = .ok (.getfield 27, 3) := by decide +kernel
theorem dX0_compare_20 : decode cX0_compare 20 = .ok (.aload_n 2, 1) := by decide +kernel
theorem dX0_compare_21 : decode cX0_compare 21 = .ok (.getfield 27, 3) := by decide +kernel
theorem dX0_compare_24 : decode cX0_compare 24 = .ok (.if_icmp .eq 5, 3) := by decide +kernel
theorem dX0_compare_27 : decode cX0_compare 27 = .ok (.iconst 0, 1) := by decide +kernel
theorem dX0_compare_28 : decode cX0_compare 28 = .ok (.ireturn, 1) := by decide +kernel
theorem dX0_compare_29 : decode cX0_compare 29 = .ok (.iconst 0, 1) := by decide +kernel
theorem dX0_compare_30 : decode cX0_compare 30 = .ok (.istore_n 3, 1) := by decide +kernel
theorem dX0_compare_31 : decode cX0_compare 31 = .ok (.iload_n 3, 1) := by decide +kernel
theorem dX0_compare_32 : decode cX0_compare 32 = .ok (.aload_n 1, 1) := by decide +kernel
theorem dX0_compare_33 : decode cX0_compare 33 = .ok (.getfield 30, 3) := by decide +kernel
theorem dX0_compare_36 : decode cX0_compare 36 = .ok (.if_icmp .ge 61, 3) := by decide +kernel
theorem dX0_compare_39 : decode cX0_compare 39 = .ok (.aload_n 1, 1) := by decide +kernel
theorem dX0_compare_40 : decode cX0_compare 40 = .ok (.getfield 33, 3) := by decide +kernel
theorem dX0_compare_43 : decode cX0_compare 43 = .ok (.iload_n 3, 1) := by decide +kernel
theorem dX0_compare_44 : decode cX0_compare 44 = .ok (.iaload, 1) := by decide +kernel
theorem dX0_compare_45 : decode cX0_compare 45 = .ok (.aload_n 2, 1) := by decide +kernel
theorem dX0_compare_46 : decode cX0_compare 46 = .ok (.getfield 33, 3) := by decide +kernel
theorem dX0_compare_49 : decode cX0_compare 49 = .ok (.iload_n 3, 1) := by decide +kernel
theorem dX0_compare_50 : decode cX0_compare 50 = .ok (.iaload, 1) := by decide +kernel
theorem dX0_compare_51 : decode cX0_compare 51 = .ok (.if_icmp .ne 6, 3) := by decide +kernel
theorem dX0_compare_54 : decode cX0_compare 54 = .ok (.goto 37, 3) := by decide +kernel
theorem dX0_compare_57 : decode cX0_compare 57 = .ok (.aload_n 0, 1) := by decide +kernel
theorem dX0_compare_58 : decode cX0_compare 58 = .ok (.getfield 18, 3) := by decide +kernel
theorem dX0_compare_61 : decode cX0_compare 61 = .ok (.aload_n 0, 1) := by decide +kernel
theorem dX0_compare_62 : decode cX0_compare 62 = .ok (.getfield 9, 3) := by decide +kernel
theorem dX0_compare_65 : decode cX0_compare 65 = .ok (.arraylength, 1) := by decide +kernel
theorem dX0_compare_66 : decode cX0_compare 66 = .ok (.if_icmp .lt 5, 3) := by decide +kernel
theorem dX0_compare_69 : decode cX0_compare 69 = .ok (.iconst 0, 1) := by decide +kernel
theorem dX0_compare_70 : decode cX0_compare 70 = .ok (.ireturn, 1) := by decide +kernel
theorem dX0_compare_71 : decode cX0_compare 71 = .ok (.aload_n 0, 1) := by decide +kernel
theorem dX0_compare_72 : decode cX0_compare 72 = .ok (.getfield 9, 3) := by decide +kernel
theorem dX0_compare_75 : decode cX0_compare 75 = .ok (.aload_n 0, 1) := by decide +kernel
theorem dX0_compare_76 : decode cX0_compare 76 = .ok (.getfield 18, 3) := by decide +kernel
theorem dX0_compare_79 : decode cX0_compare 79 = .ok (.iload_n 3, 1) := by decide +kernel
theorem dX0_compare_80 : decode cX0_compare 80 = .ok (.iastore, 1) := by decide +kernel
theorem dX0_compare_81 : decode cX0_compare 81 = .ok (.aload_n 0, 1) := by decide +kernel
theorem dX0_compare_82 : decode cX0_compare 82 = .ok (.dup, 1) := by decide +kernel
theorem dX0_compare_83 : decode cX0_compare 83 = .ok (.getfield 18, 3) := by decide +kernel
theorem dX0_compare_86 : decode cX0_compare 86 = .ok (.iconst 1, 1) := by decide +kernel
theorem dX0_compare_87 : decode cX0_compare 87 = .ok (.iadd, 1) := by decide +kernel
theorem dX0_compare_88 : decode cX0_compare 88 = .ok (.putfield 18, 3) := by decide +kernel
theorem dX0_compare_91 : decode cX0_compare 91 = .ok (.iinc 3 1, 3) := by decide +kernel
theorem dX0_compare_94 : decode cX0_compare 94 = .ok (.goto (-63), 3) := by decide +kernel
theorem dX0_compare_97 : decode cX0_compare 97 = .ok (.iconst 1, 1) := by decide +kernel
theorem dX0_compare_98 : decode cX0_compare 98 = .ok (.ireturn, 1) := by decide +kernel
theorem dX0_countRows_0 : decode cX0_countRows 0 = .ok (.iconst 1, 1) := by decide +kernel
theorem dX0_countRows_1 : decode cX0_countRows 1 = .ok (.aload_n 0, 1) := by decide +kernel
theorem dX0_countRows_2 : decode cX0_countRows 2 = .ok (.getfield 18, 3) := by decide +kernel
theorem dX0_countRows_5 : decode cX0_countRows 5 = .ok (.ishl, 1) := by decide +kernel
theorem dX0_countRows_6 : decode cX0_countRows 6 = .ok (.iconst 1, 1) := by decide +kernel
theorem dX0_countRows_7 : decode cX0_countRows 7 = .ok (.isub, 1) := by decide +kernel
theorem dX0_countRows_8 : decode cX0_countRows 8 = .ok (.istore_n 3, 1) := by decide +kernel
theorem dX0_countRows_9 : decode cX0_countRows 9 = .ok (.iload_n 3, 1) := by decide +kernel
theorem dX0_countRows_10 : decode cX0_countRows 10 = .ok (.istore 4, 2) := by decide +kernel
theorem dX0_countRows_12 : decode cX0_countRows 12 = .ok (.iload 4, 2) := by decide +kernel
theorem dX0_countRows_14 : decode cX0_countRows 14 = .ok (.ifCond .lt 63, 3) := by decide +kernel
theorem dX0_countRows_17 : decode cX0_countRows 17 = .ok (.iload 4, 2) := by decide +kernel
theorem dX0_countRows_19 : decode cX0_countRows 19 = .ok (.iload_n 3, 1) := by decide +kernel
theorem dX0_countRows_20 : decode cX0_countRows 20 = .ok (.if_icmp .ne 7, 3) := by decide +kernel
theorem dX0_countRows_23 : decode cX0_countRows 23 = .ok (.iconst 1, 1) := by decide +kernel
theorem dX0_countRows_24 : decode cX0_countRows 24 = .ok (.goto 9, 3) := by decide +kernel
theorem dX0_countRows_27 : decode cX0_countRows 27 = .ok (.aload_n 0, 1) := by decide +kernel
theorem dX0_countRows_28 : decode cX0_countRows 28 = .ok (.iload 4, 2) := by decide +kernel
theorem dX0_countRows_30 : decode cX0_countRows 30 = .ok (.invokevirtual 36, 3) := by decide +kernel
theorem dX0_countRows_33 : decode cX0_countRows 33 = .ok (.istore 5, 2) := by decide +kernel
theorem dX0_countRows_35 : decode cX0_countRows 35 = .ok (.aload_n 0, 1) := by decide +kernel
theorem dX0_countRows_36 : decode cX0_countRows 36 = .ok (.getfield 15, 3) := by decide +kernel
theorem dX0_countRows_39 : decode cX0_countRows 39 = .ok (.iload 4, 2) := by decide +kernel
theorem dX0_countRows_41 : decode cX0_countRows 41 = .ok (.iload 5, 2) := by decide +kernel
theorem dX0_countRows_43 : decode cX0_countRows 43 = .ok (.ifCond .le 26, 3) := by decide +kernel
theorem dX0_countRows_46 : decode cX0_countRows 46 = .ok (.aload_n 1, 1) := by decide +kernel
theorem dX0_countRows_47 : decode cX0_countRows 47 = .ok (.aload_n 2, 1) := by decide +kernel
theorem dX0_countRows_48 : decode cX0_countRows 48 = .ok (.aload_n 0, 1) := by decide +kernel
theorem dX0_countRows_49 : decode cX0_countRows 49 = .ok (.getfield 9, 3) := by decide +kernel
theorem dX0_countRows_52 : decode cX0_countRows 52 = .ok (.aload_n 0, 1) := by decide +kernel
theorem dX0_countRows_53 : decode cX0_countRows 53 = .ok (.getfield 18, 3) := by decide +kernel
theorem dX0_countRows_56 : decode cX0_countRows 56 = .ok (.iload 4, 2) := by decide +kernel
theorem dX0_countRows_58 : decode cX0_countRows 58 = .ok (.invokevirtual 40, 3) := by decide +kernel
theorem dX0_countRows_61 : decode cX0_countRows 61 = .ok (.ifCond .eq 8, 3) := by decide +kernel
theorem dX0_countRows_64 : decode cX0_countRows 64 = .ok (.iload 5, 2) := by decide +kernel
theorem dX0_countRows_66 : decode cX0_countRows 66 = .ok (.goto 4, 3) := by decide +kernel
theorem dX0_countRows_69 : decode cX0_countRows 69 = .ok (.iconst 0, 1) := by decide +kernel
theorem dX0_countRows_70 : decode cX0_countRows 70 = .ok (.iastore, 1) := by decide +kernel
theorem dX0_countRows_71 : decode cX0_countRows 71 = .ok (.iinc 4 (-1), 3) := by decide +kernel
theorem dX0_countRows_74 : decode cX0_countRows 74 = .ok (.goto (-62), 3) := by decide +kernel
theorem dX0_countRows_77 : decode cX0_countRows 77 = .ok (.aload_n 0, 1) := by decide +kernel
theorem dX0_countRows_78 : decode cX0_countRows 78 = .ok (.getfield 15, 3) := by decide +kernel
theorem dX0_countRows_81 : decode cX0_countRows 81 = .ok (.iconst 0, 1) := by decide +kernel
theorem dX0_countRows_82 : decode cX0_countRows 82 = .ok (.iaload, 1) := by decide +kernel
theorem dX0_countRows_83 : decode cX0_countRows 83 = .ok (.ireturn, 1) := by decide +kernel
theorem dX0_rowsBehind_0 : decode cX0_rowsBehind 0 = .ok (.iconst 0, 1) := by decide +kernel
theorem dX0_rowsBehind_1 : decode cX0_rowsBehind 1 = .ok (.istore_n 2, 1) := by decide +kernel
theorem dX0_rowsBehind_2 : decode cX0_rowsBehind 2 = .ok (.iconst 0, 1) := by decide +kernel
theorem dX0_rowsBehind_3 : decode cX0_rowsBehind 3 = .ok (.istore_n 3, 1) := by decide +kernel
theorem dX0_rowsBehind_4 : decode cX0_rowsBehind 4 = .ok (.iload_n 3, 1) := by decide +kernel
theorem dX0_rowsBehind_5 : decode cX0_rowsBehind 5 = .ok (.aload_n 0, 1) := by decide +kernel
theorem dX0_rowsBehind_6 : decode cX0_rowsBehind 6 = .ok (.getfield 18, 3) := by decide +kernel
theorem dX0_rowsBehind_9 : decode cX0_rowsBehind 9 = .ok (.if_icmp .ge 30, 3) := by decide +kernel
theorem dX0_rowsBehind_12 : decode cX0_rowsBehind 12 = .ok (.iload_n 1, 1) := by decide +kernel
theorem dX0_rowsBehind_13 : decode cX0_rowsBehind 13 = .ok (.iload_n 3, 1) := by decide +kernel
theorem dX0_rowsBehind_14 : decode cX0_rowsBehind 14 = .ok (.ishr, 1) := by decide +kernel
theorem dX0_rowsBehind_15 : decode cX0_rowsBehind 15 = .ok (.iconst 1, 1) := by decide +kernel
theorem dX0_rowsBehind_16 : decode cX0_rowsBehind 16 = .ok (.iand, 1) := by decide +kernel
theorem dX0_rowsBehind_17 : decode cX0_rowsBehind 17 = .ok (.ifCond .ne 16, 3) := by decide +kernel
theorem dX0_rowsBehind_20 : decode cX0_rowsBehind 20 = .ok (.iload_n 2, 1) := by decide +kernel
theorem dX0_rowsBehind_21 : decode cX0_rowsBehind 21 = .ok (.aload_n 0, 1) := by decide +kernel
theorem dX0_rowsBehind_22 : decode cX0_rowsBehind 22 = .ok (.getfield 15, 3) := by decide +kernel
theorem dX0_rowsBehind_25 : decode cX0_rowsBehind 25 = .ok (.iload_n 1, 1) := by decide +kernel
theorem dX0_rowsBehind_26 : decode cX0_rowsBehind 26 = .ok (.iconst 1, 1) := by decide +kernel
theorem dX0_rowsBehind_27 : decode cX0_rowsBehind 27 = .ok (.iload_n 3, 1) := by decide +kernel
theorem dX0_rowsBehind_28 : decode cX0_rowsBehind 28 = .ok (.ishl, 1) := by decide +kernel
theorem dX0_rowsBehind_29 : decode cX0_rowsBehind 29 = .ok (.ior, 1) := by decide +kernel
theorem dX0_rowsBehind_30 : decode cX0_rowsBehind 30 = .ok (.iaload, 1) := by decide +kernel
theorem dX0_rowsBehind_31 : decode cX0_rowsBehind 31 = .ok (.iadd, 1) := by decide +kernel
theorem dX0_rowsBehind_32 : decode cX0_rowsBehind 32 = .ok (.istore_n 2, 1) := by decide +kernel
theorem dX0_rowsBehind_33 : decode cX0_rowsBehind 33 = .ok (.iinc 3 1, 3) := by decide +kernel
theorem dX0_rowsBehind_36 : decode cX0_rowsBehind 36 = .ok (.goto (-32), 3) := by decide +kernel
theorem dX0_rowsBehind_39 : decode cX0_rowsBehind 39 = .ok (.iload_n 2, 1) := by decide +kernel
theorem dX0_rowsBehind_40 : decode cX0_rowsBehind 40 = .ok (.ireturn, 1) := by decide +kernel
theorem dX0_ofFirstRow_0 : decode cX0_ofFirstRow 0 = .ok (.iconst 0, 1) := by decide +kernel
theorem dX0_ofFirstRow_1 : decode cX0_ofFirstRow 1 = .ok (.istore_n 2, 1) := by decide +kernel
theorem dX0_ofFirstRow_2 : decode cX0_ofFirstRow 2 = .ok (.bipush (-9), 2) := by decide +kernel
theorem dX0_ofFirstRow_4 : decode cX0_ofFirstRow 4 = .ok (.istore_n 3, 1) := by decide +kernel
theorem dX0_ofFirstRow_5 : decode cX0_ofFirstRow 5 = .ok (.iconst 0, 1) := by decide +kernel
theorem dX0_ofFirstRow_6 : decode cX0_ofFirstRow 6 = .ok (.istore 4, 2) := by decide +kernel
theorem dX0_ofFirstRow_8 : decode cX0_ofFirstRow 8 = .ok (.iload 4, 2) := by decide +kernel
theorem dX0_ofFirstRow_10 : decode cX0_ofFirstRow 10 = .ok (.iload_n 1, 1) := by decide +kernel
theorem dX0_ofFirstRow_11 : decode cX0_ofFirstRow 11 = .ok (.if_icmp .gt 53, 3) := by decide +kernel
theorem dX0_ofFirstRow_14 : decode cX0_ofFirstRow 14 = .ok (.iload 4, 2) := by decide +kernel
theorem dX0_ofFirstRow_16 : decode cX0_ofFirstRow 16 = .ok (.aload_n 0, 1) := by decide +kernel
theorem dX0_ofFirstRow_17 : decode cX0_ofFirstRow 17 = .ok (.getfield 18, 3) := by decide +kernel
theorem dX0_ofFirstRow_20 : decode cX0_ofFirstRow 20 = .ok (.if_icmp .lt 6, 3) := by decide +kernel
theorem dX0_ofFirstRow_23 : decode cX0_ofFirstRow 23 = .ok (.bipush (-9), 2) := by decide +kernel
theorem dX0_ofFirstRow_25 : decode cX0_ofFirstRow 25 = .ok (.ireturn, 1) := by decide +kernel
theorem dX0_ofFirstRow_26 : decode cX0_ofFirstRow 26 = .ok (.aload_n 0, 1) := by decide +kernel
theorem dX0_ofFirstRow_27 : decode cX0_ofFirstRow 27 = .ok (.iload_n 2, 1) := by decide +kernel
theorem dX0_ofFirstRow_28 : decode cX0_ofFirstRow 28 = .ok (.invokevirtual 44, 3) := by decide +kernel
theorem dX0_ofFirstRow_31 : decode cX0_ofFirstRow 31 = .ok (.istore 5, 2) := by decide +kernel
theorem dX0_ofFirstRow_33 : decode cX0_ofFirstRow 33 = .ok (.iload 5, 2) := by decide +kernel
theorem dX0_ofFirstRow_35 : decode cX0_ofFirstRow 35 = .ok (.bipush (-9), 2) := by decide +kernel
theorem dX0_ofFirstRow_37 : decode cX0_ofFirstRow 37 = .ok (.if_icmp .ne 6, 3) := by decide +kernel
theorem dX0_ofFirstRow_40 : decode cX0_ofFirstRow 40 = .ok (.bipush (-9), 2) := by decide +kernel
theorem dX0_ofFirstRow_42 : decode cX0_ofFirstRow 42 = .ok (.ireturn, 1) := by decide +kernel
theorem dX0_ofFirstRow_43 : decode cX0_ofFirstRow 43 = .ok (.iload_n 2, 1) := by decide +kernel
theorem dX0_ofFirstRow_44 : decode cX0_ofFirstRow 44 = .ok (.iconst 1, 1) := by decide +kernel
theorem dX0_ofFirstRow_45 : decode cX0_ofFirstRow 45 = .ok (.iload 5, 2) := by decide +kernel
theorem dX0_ofFirstRow_47 : decode cX0_ofFirstRow 47 = .ok (.ishl, 1) := by decide +kernel
theorem dX0_ofFirstRow_48 : decode cX0_ofFirstRow 48 = .ok (.ior, 1) := by decide +kernel
theorem dX0_ofFirstRow_49 : decode cX0_ofFirstRow 49 = .ok (.istore_n 2, 1) := by decide +kernel
theorem dX0_ofFirstRow_50 : decode cX0_ofFirstRow 50 = .ok (.aload_n 0, 1) := by decide +kernel
theorem dX0_ofFirstRow_51 : decode cX0_ofFirstRow 51 = .ok (.getfield 9, 3) := by decide +kernel
theorem dX0_ofFirstRow_54 : decode cX0_ofFirstRow 54 = .ok (.iload 5, 2) := by decide +kernel
theorem dX0_ofFirstRow_56 : decode cX0_ofFirstRow 56 = .ok (.iaload, 1) := by decide +kernel
theorem dX0_ofFirstRow_57 : decode cX0_ofFirstRow 57 = .ok (.istore_n 3, 1) := by decide +kernel
theorem dX0_ofFirstRow_58 : decode cX0_ofFirstRow 58 = .ok (.iinc 4 1, 3) := by decide +kernel
theorem dX0_ofFirstRow_61 : decode cX0_ofFirstRow 61 = .ok (.goto (-53), 3) := by decide +kernel
theorem dX0_ofFirstRow_64 : decode cX0_ofFirstRow 64 = .ok (.iload_n 3, 1) := by decide +kernel
theorem dX0_ofFirstRow_65 : decode cX0_ofFirstRow 65 = .ok (.ireturn, 1) := by decide +kernel
theorem dX0_firstThatGoesOn_0 : decode cX0_firstThatGoesOn 0 = .ok (.iconst 0, 1) := by decide +kernel
theorem dX0_firstThatGoesOn_1 : decode cX0_firstThatGoesOn 1 = .ok (.istore_n 2, 1) := by decide +kernel
theorem dX0_firstThatGoesOn_2 : decode cX0_firstThatGoesOn 2 = .ok (.iload_n 2, 1) := by decide +kernel
theorem dX0_firstThatGoesOn_3 : decode cX0_firstThatGoesOn 3 = .ok (.aload_n 0, 1) := by decide +kernel
theorem dX0_firstThatGoesOn_4 : decode cX0_firstThatGoesOn 4 = .ok (.getfield 18, 3) := by decide +kernel
theorem dX0_firstThatGoesOn_7 : decode cX0_firstThatGoesOn 7 = .ok (.if_icmp .ge 32, 3) := by decide +kernel
theorem dX0_firstThatGoesOn_10 : decode cX0_firstThatGoesOn 10 = .ok (.iload_n 1, 1) := by decide +kernel
theorem dX0_firstThatGoesOn_11 : decode cX0_firstThatGoesOn 11 = .ok (.iload_n 2, 1) := by decide +kernel
theorem dX0_firstThatGoesOn_12 : decode cX0_firstThatGoesOn 12 = .ok (.ishr, 1) := by decide +kernel
theorem dX0_firstThatGoesOn_13 : decode cX0_firstThatGoesOn 13 = .ok (.iconst 1, 1) := by decide +kernel
theorem dX0_firstThatGoesOn_14 : decode cX0_firstThatGoesOn 14 = .ok (.iand, 1) := by decide +kernel
theorem dX0_firstThatGoesOn_15 : decode cX0_firstThatGoesOn 15 = .ok (.ifCond .ne 18, 3) := by decide +kernel
theorem dX0_firstThatGoesOn_18 : decode cX0_firstThatGoesOn 18 = .ok (.aload_n 0, 1) := by decide +kernel
theorem dX0_firstThatGoesOn_19 : decode cX0_firstThatGoesOn 19 = .ok (.getfield 15, 3) := by decide +kernel
theorem dX0_firstThatGoesOn_22 : decode cX0_firstThatGoesOn 22 = .ok (.iload_n 1, 1) := by decide +kernel
theorem dX0_firstThatGoesOn_23 : decode cX0_firstThatGoesOn 23 = .ok (.iconst 1, 1) := by decide +kernel
theorem dX0_firstThatGoesOn_24 : decode cX0_firstThatGoesOn 24 = .ok (.iload_n 2, 1) := by decide +kernel
theorem dX0_firstThatGoesOn_25 : decode cX0_firstThatGoesOn 25 = .ok (.ishl, 1) := by decide +kernel
theorem dX0_firstThatGoesOn_26 : decode cX0_firstThatGoesOn 26 = .ok (.ior, 1) := by decide +kernel
theorem dX0_firstThatGoesOn_27 : decode cX0_firstThatGoesOn 27 = .ok (.iaload, 1) := by decide +kernel
theorem dX0_firstThatGoesOn_28 : decode cX0_firstThatGoesOn 28 = .ok (.ifCond .le 5, 3) := by decide +kernel
theorem dX0_firstThatGoesOn_31 : decode cX0_firstThatGoesOn 31 = .ok (.iload_n 2, 1) := by decide +kernel
theorem dX0_firstThatGoesOn_32 : decode cX0_firstThatGoesOn 32 = .ok (.ireturn, 1) := by decide +kernel
theorem dX0_firstThatGoesOn_33 : decode cX0_firstThatGoesOn 33 = .ok (.iinc 2 1, 3) := by decide +kernel
theorem dX0_firstThatGoesOn_36 : decode cX0_firstThatGoesOn 36 = .ok (.goto (-34), 3) := by decide +kernel
theorem dX0_firstThatGoesOn_39 : decode cX0_firstThatGoesOn 39 = .ok (.bipush (-9), 2) := by decide +kernel
theorem dX0_firstThatGoesOn_41 : decode cX0_firstThatGoesOn 41 = .ok (.ireturn, 1) := by decide +kernel
theorem dX1_init_0 : decode cX1_init 0 = .ok (.aload_n 0, 1) := by decide +kernel
theorem dX1_init_1 : decode cX1_init 1 = .ok (.invokespecial 3, 3) := by decide +kernel
theorem dX1_init_4 : decode cX1_init 4 = .ok (.aload_n 0, 1) := by decide +kernel
theorem dX1_init_5 : decode cX1_init 5 = .ok (.bipush 43, 2) := by decide +kernel
theorem dX1_init_7 : decode cX1_init 7 = .ok (.newarray .int, 2) := by decide +kernel
theorem dX1_init_9 : decode cX1_init 9 = .ok (.putfield 9, 3) := by decide +kernel
theorem dX1_init_12 : decode cX1_init 12 = .ok (.aload_n 0, 1) := by decide +kernel
theorem dX1_init_13 : decode cX1_init 13 = .ok (.bipush 43, 2) := by decide +kernel
theorem dX1_init_15 : decode cX1_init 15 = .ok (.newarray .int, 2) := by decide +kernel
theorem dX1_init_17 : decode cX1_init 17 = .ok (.putfield 15, 3) := by decide +kernel
theorem dX1_init_20 : decode cX1_init 20 = .ok (.aload_n 0, 1) := by decide +kernel
theorem dX1_init_21 : decode cX1_init 21 = .ok (.bipush 43, 2) := by decide +kernel
theorem dX1_init_23 : decode cX1_init 23 = .ok (.newarray .int, 2) := by decide +kernel
theorem dX1_init_25 : decode cX1_init 25 = .ok (.putfield 18, 3) := by decide +kernel
theorem dX1_init_28 : decode cX1_init 28 = .ok (.aload_n 0, 1) := by decide +kernel
theorem dX1_init_29 : decode cX1_init 29 = .ok (.bipush 43, 2) := by decide +kernel
theorem dX1_init_31 : decode cX1_init 31 = .ok (.newarray .int, 2) := by decide +kernel
theorem dX1_init_33 : decode cX1_init 33 = .ok (.putfield 21, 3) := by decide +kernel
theorem dX1_init_36 : decode cX1_init 36 = .ok (.aload_n 0, 1) := by decide +kernel
theorem dX1_init_37 : decode cX1_init 37 = .ok (.bipush 43, 2) := by decide +kernel
theorem dX1_init_39 : decode cX1_init 39 = .ok (.newarray .int, 2) := by decide +kernel
theorem dX1_init_41 : decode cX1_init 41 = .ok (.putfield 24, 3) := by decide +kernel
theorem dX1_init_44 : decode cX1_init 44 = .ok (.aload_n 0, 1) := by decide +kernel
theorem dX1_init_45 : decode cX1_init 45 = .ok (.bipush (-9), 2) := by decide +kernel
theorem dX1_init_47 : decode cX1_init 47 = .ok (.putfield 27, 3) := by decide +kernel
theorem dX1_init_50 : decode cX1_init 50 = .ok (.aload_n 0, 1) := by decide +kernel
theorem dX1_init_51 : decode cX1_init 51 = .ok (.bipush (-9), 2) := by decide +kernel
theorem dX1_init_53 : decode cX1_init 53 = .ok (.putfield 31, 3) := by decide +kernel
theorem dX1_init_56 : decode cX1_init 56 = .ok (.aload_n 0, 1) := by decide +kernel
theorem dX1_init_57 : decode cX1_init 57 = .ok (.bipush (-9), 2) := by decide +kernel
theorem dX1_init_59 : decode cX1_init 59 = .ok (.putfield 34, 3) := by decide +kernel
theorem dX1_init_62 : decode cX1_init 62 = .ok (.aload_n 0, 1) := by decide +kernel
theorem dX1_init_63 : decode cX1_init 63 = .ok (.bipush (-9), 2) := by decide +kernel
theorem dX1_init_65 : decode cX1_init 65 = .ok (.putfield 37, 3) := by decide +kernel
theorem dX1_init_68 : decode cX1_init 68 = .ok (.aload_n 0, 1) := by decide +kernel
theorem dX1_init_69 : decode cX1_init 69 = .ok (.bipush 72, 2) := by decide +kernel
theorem dX1_init_71 : decode cX1_init 71 = .ok (.newarray .int, 2) := by decide +kernel
theorem dX1_init_73 : decode cX1_init 73 = .ok (.putfield 40, 3) := by decide +kernel
theorem dX1_init_76 : decode cX1_init 76 = .ok (.aload_n 0, 1) := by decide +kernel
theorem dX1_init_77 : decode cX1_init 77 = .ok (.bipush 43, 2) := by decide +kernel
theorem dX1_init_79 : decode cX1_init 79 = .ok (.newarray .int, 2) := by decide +kernel
theorem dX1_init_81 : decode cX1_init 81 = .ok (.putfield 43, 3) := by decide +kernel
theorem dX1_init_84 : decode cX1_init 84 = .ok (.aload_n 0, 1) := by decide +kernel
theorem dX1_init_85 : decode cX1_init 85 = .ok (.iconst 4, 1) := by decide +kernel
theorem dX1_init_86 : decode cX1_init 86 = .ok (.newarray .int, 2) := by decide +kernel
theorem dX1_init_88 : decode cX1_init 88 = .ok (.putfield 46, 3) := by decide +kernel
theorem dX1_init_91 : decode cX1_init 91 = .ok (.aload_n 0, 1) := by decide +kernel
theorem dX1_init_92 : decode cX1_init 92 = .ok (.iconst 4, 1) := by decide +kernel
theorem dX1_init_93 : decode cX1_init 93 = .ok (.newarray .int, 2) := by decide +kernel
theorem dX1_init_95 : decode cX1_init 95 = .ok (.putfield 49, 3) := by decide +kernel
theorem dX1_init_98 : decode cX1_init 98 = .ok (.aload_n 0, 1) := by decide +kernel
theorem dX1_init_99 : decode cX1_init 99 = .ok (.iconst 3, 1) := by decide +kernel
theorem dX1_init_100 : decode cX1_init 100 = .ok (.newarray .int, 2) := by decide +kernel
theorem dX1_init_102 : decode cX1_init 102 = .ok (.putfield 52, 3) := by decide +kernel
theorem dX1_init_105 : decode cX1_init 105 = .ok (.aload_n 0, 1) := by decide +kernel
theorem dX1_init_106 : decode cX1_init 106 = .ok (.iload_n 1, 1) := by decide +kernel
theorem dX1_init_107 : decode cX1_init 107 = .ok (.putfield 55, 3) := by decide +kernel
theorem dX1_init_110 : decode cX1_init 110 = .ok (.aload_n 0, 1) := by decide +kernel
theorem dX1_init_111 : decode cX1_init 111 = .ok (.iload_n 2, 1) := by decide +kernel
theorem dX1_init_112 : decode cX1_init 112 = .ok (.putfield 58, 3) := by decide +kernel
theorem dX1_init_115 : decode cX1_init 115 = .ok (.aload_n 0, 1) := by decide +kernel
theorem dX1_init_116 : decode cX1_init 116 = .ok (.iconst 2, 1) := by decide +kernel
theorem dX1_init_117 : decode cX1_init 117 = .ok (.iload_n 1, 1) := by decide +kernel
theorem dX1_init_118 : decode cX1_init 118 = .ok (.imul, 1) := by decide +kernel
theorem dX1_init_119 : decode cX1_init 119 = .ok (.iload_n 2, 1) := by decide +kernel
theorem dX1_init_120 : decode cX1_init 120 = .ok (.imul, 1) := by decide +kernel
theorem dX1_init_121 : decode cX1_init 121 = .ok (.putfield 61, 3) := by decide +kernel
theorem dX1_init_124 : decode cX1_init 124 = .ok (.aload_n 0, 1) := by decide +kernel
theorem dX1_init_125 : decode cX1_init 125 = .ok (.iload_n 1, 1) := by decide +kernel
theorem dX1_init_126 : decode cX1_init 126 = .ok (.iload_n 2, 1) := by decide +kernel
theorem dX1_init_127 : decode cX1_init 127 = .ok (.invokestatic 64, 3) := by decide +kernel
theorem dX1_init_130 : decode cX1_init 130 = .ok (.putfield 68, 3) := by decide +kernel
theorem dX1_init_133 : decode cX1_init 133 = .ok (.aload_n 0, 1) := by decide +kernel
theorem dX1_init_134 : decode cX1_init 134 = .ok (.getfield 52, 3) := by decide +kernel
theorem dX1_init_137 : decode cX1_init 137 = .ok (.iconst 0, 1) := by decide +kernel
theorem dX1_init_138 : decode cX1_init 138 = .ok (.iconst 1, 1) := by decide +kernel
theorem dX1_init_139 : decode cX1_init 139 = .ok (.iconst 2, 1) := by decide +kernel
theorem dX1_init_140 : decode cX1_init 140 = .ok (.iload_n 1, 1) := by decide +kernel
theorem dX1_init_141 : decode cX1_init 141 = .ok (.imul, 1) := by decide +kernel
theorem dX1_init_142 : decode cX1_init 142 = .ok (.isub, 1) := by decide +kernel
theorem dX1_init_143 : decode cX1_init 143 = .ok (.iastore, 1) := by decide +kernel
theorem dX1_init_144 : decode cX1_init 144 = .ok (.aload_n 0, 1) := by decide +kernel
theorem dX1_init_145 : decode cX1_init 145 = .ok (.getfield 52, 3) := by decide +kernel
theorem dX1_init_148 : decode cX1_init 148 = .ok (.iconst 1, 1) := by decide +kernel
theorem dX1_init_149 : decode cX1_init 149 = .ok (.iconst (-1), 1) := by decide +kernel
theorem dX1_init_150 : decode cX1_init 150 = .ok (.iastore, 1) := by decide +kernel
theorem dX1_init_151 : decode cX1_init 151 = .ok (.aload_n 0, 1) := by decide +kernel
theorem dX1_init_152 : decode cX1_init 152 = .ok (.getfield 52, 3) := by decide +kernel
theorem dX1_init_155 : decode cX1_init 155 = .ok (.iconst 2, 1) := by decide +kernel
theorem dX1_init_156 : decode cX1_init 156 = .ok (.iconst 1, 1) := by decide +kernel
theorem dX1_init_157 : decode cX1_init 157 = .ok (.iastore, 1) := by decide +kernel
theorem dX1_init_158 : decode cX1_init 158 = .ok (.iconst 0, 1) := by decide +kernel
theorem dX1_init_159 : decode cX1_init 159 = .ok (.istore_n 3, 1) := by decide +kernel
theorem dX1_init_160 : decode cX1_init 160 = .ok (.iload_n 3, 1) := by decide +kernel
theorem dX1_init_161 : decode cX1_init 161 = .ok (.iload_n 2, 1) := by decide +kernel
theorem dX1_init_162 : decode cX1_init 162 = .ok (.if_icmp .ge 31, 3) := by decide +kernel
theorem dX1_init_165 : decode cX1_init 165 = .ok (.iconst 0, 1) := by decide +kernel
theorem dX1_init_166 : decode cX1_init 166 = .ok (.istore 4, 2) := by decide +kernel
theorem dX1_init_168 : decode cX1_init 168 = .ok (.iload 4, 2) := by decide +kernel
theorem dX1_init_170 : decode cX1_init 170 = .ok (.iload_n 1, 1) := by decide +kernel
theorem dX1_init_171 : decode cX1_init 171 = .ok (.if_icmp .ge 16, 3) := by decide +kernel
theorem dX1_init_174 : decode cX1_init 174 = .ok (.aload_n 0, 1) := by decide +kernel
theorem dX1_init_175 : decode cX1_init 175 = .ok (.iload 4, 2) := by decide +kernel
theorem dX1_init_177 : decode cX1_init 177 = .ok (.iload_n 3, 1) := by decide +kernel
theorem dX1_init_178 : decode cX1_init 178 = .ok (.invokevirtual 71, 3) := by decide +kernel
theorem dX1_init_181 : decode cX1_init 181 = .ok (.iinc 4 1, 3) := by decide +kernel
theorem dX1_init_184 : decode cX1_init 184 = .ok (.goto (-16), 3) := by decide +kernel
theorem dX1_init_187 : decode cX1_init 187 = .ok (.iinc 3 1, 3) := by decide +kernel
theorem dX1_init_190 : decode cX1_init 190 = .ok (.goto (-30), 3) := by decide +kernel
theorem dX1_init_193 : decode cX1_init 193 = .ok (.iconst 0, 1) := by decide +kernel
theorem dX1_init_194 : decode cX1_init 194 = .ok (.istore_n 3, 1) := by decide +kernel
theorem dX1_init_195 : decode cX1_init 195 = .ok (.iload_n 3, 1) := by decide +kernel
theorem dX1_init_196 : decode cX1_init 196 = .ok (.iload_n 2, 1) := by decide +kernel
theorem dX1_init_197 : decode cX1_init 197 = .ok (.if_icmp .ge 31, 3) := by decide +kernel
theorem dX1_init_200 : decode cX1_init 200 = .ok (.aload_n 0, 1) := by decide +kernel
theorem dX1_init_201 : decode cX1_init 201 = .ok (.iconst 3, 1) := by decide +kernel
theorem dX1_init_202 : decode cX1_init 202 = .ok (.iload_n 1, 1) := by decide +kernel
theorem dX1_init_203 : decode cX1_init 203 = .ok (.imul, 1) := by decide +kernel
theorem dX1_init_204 : decode cX1_init 204 = .ok (.iload_n 2, 1) := by decide +kernel
theorem dX1_init_205 : decode cX1_init 205 = .ok (.imul, 1) := by decide +kernel
theorem dX1_init_206 : decode cX1_init 206 = .ok (.iload_n 3, 1) := by decide +kernel
theorem dX1_init_207 : decode cX1_init 207 = .ok (.iadd, 1) := by decide +kernel
theorem dX1_init_208 : decode cX1_init 208 = .ok (.iconst 1, 1) := by decide +kernel
theorem dX1_init_209 : decode cX1_init 209 = .ok (.bipush (-9), 2) := by decide +kernel
theorem dX1_init_211 : decode cX1_init 211 = .ok (.aload_n 0, 1) := by decide +kernel
theorem dX1_init_212 : decode cX1_init 212 = .ok (.iload_n 1, 1) := by decide +kernel
theorem dX1_init_213 : decode cX1_init 213 = .ok (.iconst 1, 1) := by decide +kernel
theorem dX1_init_214 : decode cX1_init 214 = .ok (.isub, 1) := by decide +kernel
theorem dX1_init_215 : decode cX1_init 215 = .ok (.iload_n 3, 1) := by decide +kernel
theorem dX1_init_216 : decode cX1_init 216 = .ok (.invokevirtual 75, 3) := by decide +kernel
theorem dX1_init_219 : decode cX1_init 219 = .ok (.invokevirtual 78, 3) := by decide +kernel
theorem dX1_init_222 : decode cX1_init 222 = .ok (.iinc 3 1, 3) := by decide +kernel
theorem dX1_init_225 : decode cX1_init 225 = .ok (.goto (-30), 3) := by decide +kernel
theorem dX1_init_228 : decode cX1_init 228 = .ok (.iconst 0, 1) := by decide +kernel
theorem dX1_init_229 : decode cX1_init 229 = .ok (.istore_n 3, 1) := by decide +kernel
theorem dX1_init_230 : decode cX1_init 230 = .ok (.iload_n 3, 1) := by decide +kernel
theorem dX1_init_231 : decode cX1_init 231 = .ok (.iload_n 1, 1) := by decide +kernel
theorem dX1_init_232 : decode cX1_init 232 = .ok (.if_icmp .ge 33, 3) := by decide +kernel
theorem dX1_init_235 : decode cX1_init 235 = .ok (.aload_n 0, 1) := by decide +kernel
theorem dX1_init_236 : decode cX1_init 236 = .ok (.iconst 3, 1) := by decide +kernel
theorem dX1_init_237 : decode cX1_init 237 = .ok (.iload_n 1, 1) := by decide +kernel
theorem dX1_init_238 : decode cX1_init 238 = .ok (.imul, 1) := by decide +kernel
theorem dX1_init_239 : decode cX1_init 239 = .ok (.iload_n 2, 1) := by decide +kernel
theorem dX1_init_240 : decode cX1_init 240 = .ok (.imul, 1) := by decide +kernel
theorem dX1_init_241 : decode cX1_init 241 = .ok (.iload_n 2, 1) := by decide +kernel
theorem dX1_init_242 : decode cX1_init 242 = .ok (.iadd, 1) := by decide +kernel
theorem dX1_init_243 : decode cX1_init 243 = .ok (.iload_n 3, 1) := by decide +kernel
theorem dX1_init_244 : decode cX1_init 244 = .ok (.iadd, 1) := by decide +kernel
theorem dX1_init_245 : decode cX1_init 245 = .ok (.iconst 0, 1) := by decide +kernel
theorem dX1_init_246 : decode cX1_init 246 = .ok (.bipush (-9), 2) := by decide +kernel
theorem dX1_init_248 : decode cX1_init 248 = .ok (.aload_n 0, 1) := by decide +kernel
theorem dX1_init_249 : decode cX1_init 249 = .ok (.iload_n 3, 1) := by decide +kernel
theorem dX1_init_250 : decode cX1_init 250 = .ok (.iload_n 2, 1) := by decide +kernel
theorem dX1_init_251 : decode cX1_init 251 = .ok (.iconst 1, 1) := by decide +kernel
theorem dX1_init_252 : decode cX1_init 252 = .ok (.isub, 1) := by decide +kernel
theorem dX1_init_253 : decode cX1_init 253 = .ok (.invokevirtual 75, 3) := by decide +kernel
theorem dX1_init_256 : decode cX1_init 256 = .ok (.invokevirtual 78, 3) := by decide +kernel
theorem dX1_init_259 : decode cX1_init 259 = .ok (.iinc 3 1, 3) := by decide +kernel
theorem dX1_init_262 : decode cX1_init 262 = .ok (.goto (-32), 3) := by decide +kernel
theorem dX1_init_265 : decode cX1_init 265 = .ok (.return_, 1) := by decide +kernel
theorem dX1_second_0 : decode cX1_second 0 = .ok (.iconst 2, 1) := by decide +kernel
theorem dX1_second_1 : decode cX1_second 1 = .ok (.aload_n 0, 1) := by decide +kernel
theorem dX1_second_2 : decode cX1_second 2 = .ok (.getfield 55, 3) := by decide +kernel
theorem dX1_second_5 : decode cX1_second 5 = .ok (.iload_n 2, 1) := by decide +kernel
theorem dX1_second_6 : decode cX1_second 6 = .ok (.imul, 1) := by decide +kernel
theorem dX1_second_7 : decode cX1_second 7 = .ok (.iload_n 1, 1) := by decide +kernel
theorem dX1_second_8 : decode cX1_second 8 = .ok (.iadd, 1) := by decide +kernel
theorem dX1_second_9 : decode cX1_second 9 = .ok (.imul, 1) := by decide +kernel
theorem dX1_second_10 : decode cX1_second 10 = .ok (.iconst 1, 1) := by decide +kernel
theorem dX1_second_11 : decode cX1_second 11 = .ok (.iadd, 1) := by decide +kernel
theorem dX1_second_12 : decode cX1_second 12 = .ok (.ireturn, 1) := by decide +kernel
theorem dX1_placeSides_0 : decode cX1_placeSides 0 = .ok (.aload_n 0, 1) := by decide +kernel
theorem dX1_placeSides_1 : decode cX1_placeSides 1 = .ok (.getfield 55, 3) := by decide +kernel
theorem dX1_placeSides_4 : decode cX1_placeSides 4 = .ok (.iload_n 2, 1) := by decide +kernel
theorem dX1_placeSides_5 : decode cX1_placeSides 5 = .ok (.imul, 1) := by decide +kernel
theorem dX1_placeSides_6 : decode cX1_placeSides 6 = .ok (.iload_n 1, 1) := by decide +kernel
theorem dX1_placeSides_7 : decode cX1_placeSides 7 = .ok (.iadd, 1) := by decide +kernel
theorem dX1_placeSides_8 : decode cX1_placeSides 8 = .ok (.istore_n 3, 1) := by decide +kernel
theorem dX1_placeSides_9 : decode cX1_placeSides 9 = .ok (.aload_n 0, 1) := by decide +kernel
theorem dX1_placeSides_10 : decode cX1_placeSides 10 = .ok (.iconst 3, 1) := by decide +kernel
theorem dX1_placeSides_11 : decode cX1_placeSides 11 = .ok (.iload_n 3, 1) := by decide +kernel
theorem dX1_placeSides_12 : decode cX1_placeSides 12 = .ok (.imul, 1) := by decide +kernel
theorem dX1_placeSides_13 : decode cX1_placeSides 13 = .ok (.iconst 2, 1) := by decide +kernel
theorem dX1_placeSides_14 : decode cX1_placeSides 14 = .ok (.iconst 2, 1) := by decide +kernel
theorem dX1_placeSides_15 : decode cX1_placeSides 15 = .ok (.iload_n 3, 1) := by decide +kernel
theorem dX1_placeSides_16 : decode cX1_placeSides 16 = .ok (.imul, 1) := by decide +kernel
theorem dX1_placeSides_17 : decode cX1_placeSides 17 = .ok (.iconst 2, 1) := by decide +kernel
theorem dX1_placeSides_18 : decode cX1_placeSides 18 = .ok (.iload_n 3, 1) := by decide +kernel
theorem dX1_placeSides_19 : decode cX1_placeSides 19 = .ok (.imul, 1) := by decide +kernel
theorem dX1_placeSides_20 : decode cX1_placeSides 20 = .ok (.iconst 1, 1) := by decide +kernel
theorem dX1_placeSides_21 : decode cX1_placeSides 21 = .ok (.iadd, 1) := by decide +kernel
theorem dX1_placeSides_22 : decode cX1_placeSides 22 = .ok (.invokevirtual 78, 3) := by decide +kernel
theorem dX1_placeSides_25 : decode cX1_placeSides 25 = .ok (.aload_n 0, 1) := by decide +kernel
theorem dX1_placeSides_26 : decode cX1_placeSides 26 = .ok (.iconst 3, 1) := by decide +kernel
theorem dX1_placeSides_27 : decode cX1_placeSides 27 = .ok (.iload_n 3, 1) := by decide +kernel
theorem dX1_placeSides_28 : decode cX1_placeSides 28 = .ok (.imul, 1) := by decide +kernel
theorem dX1_placeSides_29 : decode cX1_placeSides 29 = .ok (.iconst 1, 1) := by decide +kernel
theorem dX1_placeSides_30 : decode cX1_placeSides 30 = .ok (.iadd, 1) := by decide +kernel
theorem dX1_placeSides_31 : decode cX1_placeSides 31 = .ok (.iconst 1, 1) := by decide +kernel
theorem dX1_placeSides_32 : decode cX1_placeSides 32 = .ok (.iconst 2, 1) := by decide +kernel
theorem dX1_placeSides_33 : decode cX1_placeSides 33 = .ok (.iload_n 3, 1) := by decide +kernel
theorem dX1_placeSides_34 : decode cX1_placeSides 34 = .ok (.imul, 1) := by decide +kernel
theorem dX1_placeSides_35 : decode cX1_placeSides 35 = .ok (.iload_n 1, 1) := by decide +kernel
theorem dX1_placeSides_36 : decode cX1_placeSides 36 = .ok (.ifCond .ne 8, 3) := by decide +kernel
theorem dX1_placeSides_39 : decode cX1_placeSides 39 = .ok (.bipush (-9), 2) := by decide +kernel
theorem dX1_placeSides_41 : decode cX1_placeSides 41 = .ok (.goto 11, 3) := by decide +kernel
theorem dX1_placeSides_44 : decode cX1_placeSides 44 = .ok (.aload_n 0, 1) := by decide +kernel
theorem dX1_placeSides_45 : decode cX1_placeSides 45 = .ok (.iload_n 1, 1) := by decide +kernel
theorem dX1_placeSides_46 : decode cX1_placeSides 46 = .ok (.iconst 1, 1) := by decide +kernel
theorem dX1_placeSides_47 : decode cX1_placeSides 47 = .ok (.isub, 1) := by decide +kernel
theorem dX1_placeSides_48 : decode cX1_placeSides 48 = .ok (.iload_n 2, 1) := by decide +kernel
theorem dX1_placeSides_49 : decode cX1_placeSides 49 = .ok (.invokevirtual 75, 3) := by decide +kernel
theorem dX1_placeSides_52 : decode cX1_placeSides 52 = .ok (.invokevirtual 78, 3) := by decide +kernel
theorem dX1_placeSides_55 : decode cX1_placeSides 55 = .ok (.aload_n 0, 1) := by decide +kernel
theorem dX1_placeSides_56 : decode cX1_placeSides 56 = .ok (.iconst 3, 1) := by decide +kernel
theorem dX1_placeSides_57 : decode cX1_placeSides 57 = .ok (.iload_n 3, 1) := by decide +kernel
theorem dX1_placeSides_58 : decode cX1_placeSides 58 = .ok (.imul, 1) := by decide +kernel
theorem dX1_placeSides_59 : decode cX1_placeSides 59 = .ok (.iconst 2, 1) := by decide +kernel
theorem dX1_placeSides_60 : decode cX1_placeSides 60 = .ok (.iadd, 1) := by decide +kernel
theorem dX1_placeSides_61 : decode cX1_placeSides 61 = .ok (.iconst 0, 1) := by decide +kernel
theorem dX1_placeSides_62 : decode cX1_placeSides 62 = .ok (.iconst 2, 1) := by decide +kernel
theorem dX1_placeSides_63 : decode cX1_placeSides 63 = .ok (.iload_n 3, 1) := by decide +kernel
theorem dX1_placeSides_64 : decode cX1_placeSides 64 = .ok (.imul, 1) := by decide +kernel
theorem dX1_placeSides_65 : decode cX1_placeSides 65 = .ok (.iload_n 2, 1) := by decide +kernel
theorem dX1_placeSides_66 : decode cX1_placeSides 66 = .ok (.ifCond .ne 8, 3) := by decide +kernel
theorem dX1_placeSides_69 : decode cX1_placeSides 69 = .ok (.bipush (-9), 2) := by decide +kernel
theorem dX1_placeSides_71 : decode cX1_placeSides 71 = .ok (.goto 11, 3) := by decide +kernel
theorem dX1_placeSides_74 : decode cX1_placeSides 74 = .ok (.aload_n 0, 1) := by decide +kernel
theorem dX1_placeSides_75 : decode cX1_placeSides 75 = .ok (.iload_n 1, 1) := by decide +kernel
theorem dX1_placeSides_76 : decode cX1_placeSides 76 = .ok (.iload_n 2, 1) := by decide +kernel
theorem dX1_placeSides_77 : decode cX1_placeSides 77 = .ok (.iconst 1, 1) := by decide +kernel
theorem dX1_placeSides_78 : decode cX1_placeSides 78 = .ok (.isub, 1) := by decide +kernel
theorem dX1_placeSides_79 : decode cX1_placeSides 79 = .ok (.invokevirtual 75, 3) := by decide +kernel
theorem dX1_placeSides_82 : decode cX1_placeSides 82 = .ok (.invokevirtual 78, 3) := by decide +kernel
theorem dX1_placeSides_85 : decode cX1_placeSides 85 = .ok (.return_, 1) := by decide +kernel
theorem dX1_place_0 : decode cX1_place 0 = .ok (.aload_n 0, 1) := by decide +kernel
theorem dX1_place_1 : decode cX1_place 1 = .ok (.getfield 18, 3) := by decide +kernel
theorem dX1_place_4 : decode cX1_place 4 = .ok (.iload_n 1, 1) := by decide +kernel
theorem dX1_place_5 : decode cX1_place 5 = .ok (.iload_n 2, 1) := by decide +kernel
theorem dX1_place_6 : decode cX1_place 6 = .ok (.iastore, 1) := by decide +kernel
theorem dX1_place_7 : decode cX1_place 7 = .ok (.aload_n 0, 1) := by decide +kernel
theorem dX1_place_8 : decode cX1_place 8 = .ok (.getfield 21, 3) := by decide +kernel
theorem dX1_place_11 : decode cX1_place 11 = .ok (.iload_n 1, 1) := by decide +kernel
theorem dX1_place_12 : decode cX1_place 12 = .ok (.iload_n 3, 1) := by decide +kernel
theorem dX1_place_13 : decode cX1_place 13 = .ok (.iastore, 1) := by decide +kernel
theorem dX1_place_14 : decode cX1_place 14 = .ok (.aload_n 0, 1) := by decide +kernel
theorem dX1_place_15 : decode cX1_place 15 = .ok (.getfield 24, 3) := by decide +kernel
theorem dX1_place_18 : decode cX1_place 18 = .ok (.iload_n 1, 1) := by decide +kernel
theorem dX1_place_19 : decode cX1_place 19 = .ok (.iload 4, 2) := by decide +kernel
theorem dX1_place_21 : decode cX1_place 21 = .ok (.iastore, 1) := by decide +kernel
theorem dX1_place_22 : decode cX1_place 22 = .ok (.iload_n 3, 1) := by decide +kernel
theorem dX1_place_23 : decode cX1_place 23 = .ok (.bipush (-9), 2) := by decide +kernel
theorem dX1_place_25 : decode cX1_place 25 = .ok (.if_icmp .eq 14, 3) := by decide +kernel
theorem dX1_place_28 : decode cX1_place 28 = .ok (.aload_n 0, 1) := by decide +kernel
theorem dX1_place_29 : decode cX1_place 29 = .ok (.getfield 40, 3) := by decide +kernel
theorem dX1_place_32 : decode cX1_place 32 = .ok (.iconst 3, 1) := by decide +kernel
theorem dX1_place_33 : decode cX1_place 33 = .ok (.iload_n 3, 1) := by decide +kernel
theorem dX1_place_34 : decode cX1_place 34 = .ok (.imul, 1) := by decide +kernel
theorem dX1_place_35 : decode cX1_place 35 = .ok (.iload_n 2, 1) := by decide +kernel
theorem dX1_place_36 : decode cX1_place 36 = .ok (.iadd, 1) := by decide +kernel
theorem dX1_place_37 : decode cX1_place 37 = .ok (.iload_n 1, 1) := by decide +kernel
theorem dX1_place_38 : decode cX1_place 38 = .ok (.iastore, 1) := by decide +kernel
theorem dX1_place_39 : decode cX1_place 39 = .ok (.iload 4, 2) := by decide +kernel
theorem dX1_place_41 : decode cX1_place 41 = .ok (.bipush (-9), 2) := by decide +kernel
theorem dX1_place_43 : decode cX1_place 43 = .ok (.if_icmp .eq 15, 3) := by decide +kernel
theorem dX1_place_46 : decode cX1_place 46 = .ok (.aload_n 0, 1) := by decide +kernel
theorem dX1_place_47 : decode cX1_place 47 = .ok (.getfield 40, 3) := by decide +kernel
theorem dX1_place_50 : decode cX1_place 50 = .ok (.iconst 3, 1) := by decide +kernel
theorem dX1_place_51 : decode cX1_place 51 = .ok (.iload 4, 2) := by decide +kernel
theorem dX1_place_53 : decode cX1_place 53 = .ok (.imul, 1) := by decide +kernel
theorem dX1_place_54 : decode cX1_place 54 = .ok (.iload_n 2, 1) := by decide +kernel
theorem dX1_place_55 : decode cX1_place 55 = .ok (.iadd, 1) := by decide +kernel
theorem dX1_place_56 : decode cX1_place 56 = .ok (.iload_n 1, 1) := by decide +kernel
theorem dX1_place_57 : decode cX1_place 57 = .ok (.iastore, 1) := by decide +kernel
theorem dX1_place_58 : decode cX1_place 58 = .ok (.return_, 1) := by decide +kernel
theorem dX1_hasRoom_0 : decode cX1_hasRoom 0 = .ok (.iload_n 1, 1) := by decide +kernel
theorem dX1_hasRoom_1 : decode cX1_hasRoom 1 = .ok (.iconst 0, 1) := by decide +kernel
theorem dX1_hasRoom_2 : decode cX1_hasRoom 2 = .ok (.aload_n 0, 1) := by decide +kernel
theorem dX1_hasRoom_3 : decode cX1_hasRoom 3 = .ok (.getfield 61, 3) := by decide +kernel
theorem dX1_hasRoom_6 : decode cX1_hasRoom 6 = .ok (.iconst 1, 1) := by decide +kernel
theorem dX1_hasRoom_7 : decode cX1_hasRoom 7 = .ok (.isub, 1) := by decide +kernel
theorem dX1_hasRoom_8 : decode cX1_hasRoom 8 = .ok (.invokestatic 82, 3) := by decide +kernel
theorem dX1_hasRoom_11 : decode cX1_hasRoom 11 = .ok (.ireturn, 1) := by decide +kernel
theorem dX1_hasSide_0 : decode cX1_hasSide 0 = .ok (.iload_n 1, 1) := by decide +kernel
theorem dX1_hasSide_1 : decode cX1_hasSide 1 = .ok (.iconst 0, 1) := by decide +kernel
theorem dX1_hasSide_2 : decode cX1_hasSide 2 = .ok (.aload_n 0, 1) := by decide +kernel
theorem dX1_hasSide_3 : decode cX1_hasSide 3 = .ok (.getfield 68, 3) := by decide +kernel
theorem dX1_hasSide_6 : decode cX1_hasSide 6 = .ok (.iconst 1, 1) := by decide +kernel
theorem dX1_hasSide_7 : decode cX1_hasSide 7 = .ok (.isub, 1) := by decide +kernel
theorem dX1_hasSide_8 : decode cX1_hasSide 8 = .ok (.invokestatic 82, 3) := by decide +kernel
theorem dX1_hasSide_11 : decode cX1_hasSide 11 = .ok (.ireturn, 1) := by decide +kernel
theorem dX1_allRooms_0 : decode cX1_allRooms 0 = .ok (.iconst 1, 1) := by decide +kernel
theorem dX1_allRooms_1 : decode cX1_allRooms 1 = .ok (.aload_n 0, 1) := by decide +kernel
theorem dX1_allRooms_2 : decode cX1_allRooms 2 = .ok (.getfield 61, 3) := by decide +kernel
theorem dX1_allRooms_5 : decode cX1_allRooms 5 = .ok (.ishl, 1) := by decide +kernel
theorem dX1_allRooms_6 : decode cX1_allRooms 6 = .ok (.iconst 1, 1) := by decide +kernel
theorem dX1_allRooms_7 : decode cX1_allRooms 7 = .ok (.isub, 1) := by decide +kernel
theorem dX1_allRooms_8 : decode cX1_allRooms 8 = .ok (.ireturn, 1) := by decide +kernel
theorem dX1_sideOf_0 : decode cX1_sideOf 0 = .ok (.aload_n 0, 1) := by decide +kernel
theorem dX1_sideOf_1 : decode cX1_sideOf 1 = .ok (.getfield 40, 3) := by decide +kernel
theorem dX1_sideOf_4 : decode cX1_sideOf 4 = .ok (.iconst 3, 1) := by decide +kernel
theorem dX1_sideOf_5 : decode cX1_sideOf 5 = .ok (.iload_n 1, 1) := by decide +kernel
theorem dX1_sideOf_6 : decode cX1_sideOf 6 = .ok (.imul, 1) := by decide +kernel
theorem dX1_sideOf_7 : decode cX1_sideOf 7 = .ok (.iload_n 2, 1) := by decide +kernel
theorem dX1_sideOf_8 : decode cX1_sideOf 8 = .ok (.iadd, 1) := by decide +kernel
theorem dX1_sideOf_9 : decode cX1_sideOf 9 = .ok (.iaload, 1) := by decide +kernel
theorem dX1_sideOf_10 : decode cX1_sideOf 10 = .ok (.ireturn, 1) := by decide +kernel
theorem dX1_behind_0 : decode cX1_behind 0 = .ok (.aload_n 0, 1) := by decide +kernel
theorem dX1_behind_1 : decode cX1_behind 1 = .ok (.iload_n 1, 1) := by decide +kernel
theorem dX1_behind_2 : decode cX1_behind 2 = .ok (.iload_n 2, 1) := by decide +kernel
theorem dX1_behind_3 : decode cX1_behind 3 = .ok (.invokevirtual 86, 3) := by decide +kernel
theorem dX1_behind_6 : decode cX1_behind 6 = .ok (.istore_n 3, 1) := by decide +kernel
theorem dX1_behind_7 : decode cX1_behind 7 = .ok (.iload_n 1, 1) := by decide +kernel
theorem dX1_behind_8 : decode cX1_behind 8 = .ok (.iconst 2, 1) := by decide +kernel
theorem dX1_behind_9 : decode cX1_behind 9 = .ok (.irem, 1) := by decide +kernel
theorem dX1_behind_10 : decode cX1_behind 10 = .ok (.ifCond .ne 12, 3) := by decide +kernel
theorem dX1_behind_13 : decode cX1_behind 13 = .ok (.aload_n 0, 1) := by decide +kernel
theorem dX1_behind_14 : decode cX1_behind 14 = .ok (.getfield 24, 3) := by decide +kernel
theorem dX1_behind_17 : decode cX1_behind 17 = .ok (.iload_n 3, 1) := by decide +kernel
theorem dX1_behind_18 : decode cX1_behind 18 = .ok (.iaload, 1) := by decide +kernel
theorem dX1_behind_19 : decode cX1_behind 19 = .ok (.goto 9, 3) := by decide +kernel
theorem dX1_behind_22 : decode cX1_behind 22 = .ok (.aload_n 0, 1) := by decide +kernel
theorem dX1_behind_23 : decode cX1_behind 23 = .ok (.getfield 21, 3) := by decide +kernel
theorem dX1_behind_26 : decode cX1_behind 26 = .ok (.iload_n 3, 1) := by decide +kernel
theorem dX1_behind_27 : decode cX1_behind 27 = .ok (.iaload, 1) := by decide +kernel
theorem dX1_behind_28 : decode cX1_behind 28 = .ok (.ireturn, 1) := by decide +kernel
theorem dX1_panesOf_0 : decode cX1_panesOf 0 = .ok (.iconst 0, 1) := by decide +kernel
theorem dX1_panesOf_1 : decode cX1_panesOf 1 = .ok (.istore_n 2, 1) := by decide +kernel
theorem dX1_panesOf_2 : decode cX1_panesOf 2 = .ok (.iconst 0, 1) := by decide +kernel
theorem dX1_panesOf_3 : decode cX1_panesOf 3 = .ok (.istore_n 3, 1) := by decide +kernel
theorem dX1_panesOf_4 : decode cX1_panesOf 4 = .ok (.iload_n 3, 1) := by decide +kernel
theorem dX1_panesOf_5 : decode cX1_panesOf 5 = .ok (.aload_n 0, 1) := by decide +kernel
theorem dX1_panesOf_6 : decode cX1_panesOf 6 = .ok (.getfield 68, 3) := by decide +kernel
theorem dX1_panesOf_9 : decode cX1_panesOf 9 = .ok (.if_icmp .ge 22, 3) := by decide +kernel
theorem dX1_panesOf_12 : decode cX1_panesOf 12 = .ok (.aload_n 0, 1) := by decide +kernel
theorem dX1_panesOf_13 : decode cX1_panesOf 13 = .ok (.getfield 9, 3) := by decide +kernel
theorem dX1_panesOf_16 : decode cX1_panesOf 16 = .ok (.iload_n 3, 1) := by decide +kernel
theorem dX1_panesOf_17 : decode cX1_panesOf 17 = .ok (.iaload, 1) := by decide +kernel
theorem dX1_panesOf_18 : decode cX1_panesOf 18 = .ok (.iload_n 1, 1) := by decide +kernel
theorem dX1_panesOf_19 : decode cX1_panesOf 19 = .ok (.if_icmp .ne 6, 3) := by decide +kernel
theorem dX1_panesOf_22 : decode cX1_panesOf 22 = .ok (.iinc 2 1, 3) := by decide +kernel
theorem dX1_panesOf_25 : decode cX1_panesOf 25 = .ok (.iinc 3 1, 3) := by decide +kernel
theorem dX1_panesOf_28 : decode cX1_panesOf 28 = .ok (.goto (-24), 3) := by decide +kernel
theorem dX1_panesOf_31 : decode cX1_panesOf 31 = .ok (.iload_n 2, 1) := by decide +kernel
theorem dX1_panesOf_32 : decode cX1_panesOf 32 = .ok (.ireturn, 1) := by decide +kernel
theorem dX1_smears_0 : decode cX1_smears 0 = .ok (.iconst 0, 1) := by decide +kernel
theorem dX1_smears_1 : decode cX1_smears 1 = .ok (.istore_n 1, 1) := by decide +kernel
theorem dX1_smears_2 : decode cX1_smears 2 = .ok (.iconst 0, 1) := by decide +kernel
theorem dX1_smears_3 : decode cX1_smears 3 = .ok (.istore_n 2, 1) := by decide +kernel
theorem dX1_smears_4 : decode cX1_smears 4 = .ok (.iload_n 2, 1) := by decide +kernel
theorem dX1_smears_5 : decode cX1_smears 5 = .ok (.aload_n 0, 1) := by decide +kernel
theorem dX1_smears_6 : decode cX1_smears 6 = .ok (.getfield 68, 3) := by decide +kernel
theorem dX1_smears_9 : decode cX1_smears 9 = .ok (.if_icmp .ge 18, 3) := by decide +kernel
theorem dX1_smears_12 : decode cX1_smears 12 = .ok (.iload_n 1, 1) := by decide +kernel
theorem dX1_smears_13 : decode cX1_smears 13 = .ok (.aload_n 0, 1) := by decide +kernel
theorem dX1_smears_14 : decode cX1_smears 14 = .ok (.getfield 15, 3) := by decide +kernel
theorem dX1_smears_17 : decode cX1_smears 17 = .ok (.iload_n 2, 1) := by decide +kernel
theorem dX1_smears_18 : decode cX1_smears 18 = .ok (.iaload, 1) := by decide +kernel
theorem dX1_smears_19 : decode cX1_smears 19 = .ok (.iadd, 1) := by decide +kernel
theorem dX1_smears_20 : decode cX1_smears 20 = .ok (.istore_n 1, 1) := by decide +kernel
theorem dX1_smears_21 : decode cX1_smears 21 = .ok (.iinc 2 1, 3) := by decide +kernel
theorem dX1_smears_24 : decode cX1_smears 24 = .ok (.goto (-20), 3) := by decide +kernel
theorem dX1_smears_27 : decode cX1_smears 27 = .ok (.iload_n 1, 1) := by decide +kernel
theorem dX1_smears_28 : decode cX1_smears 28 = .ok (.ireturn, 1) := by decide +kernel
theorem dX1_become_0 : decode cX1_become 0 = .ok (.aload_n 0, 1) := by decide +kernel
theorem dX1_become_1 : decode cX1_become 1 = .ok (.getfield 9, 3) := by decide +kernel
theorem dX1_become_4 : decode cX1_become 4 = .ok (.iload_n 1, 1) := by decide +kernel
theorem dX1_become_5 : decode cX1_become 5 = .ok (.iaload, 1) := by decide +kernel
theorem dX1_become_6 : decode cX1_become 6 = .ok (.istore_n 3, 1) := by decide +kernel
theorem dX1_become_7 : decode cX1_become 7 = .ok (.aload_n 0, 1) := by decide +kernel
theorem dX1_become_8 : decode cX1_become 8 = .ok (.getfield 9, 3) := by decide +kernel
theorem dX1_become_11 : decode cX1_become 11 = .ok (.iload_n 1, 1) := by decide +kernel
theorem dX1_become_12 : decode cX1_become 12 = .ok (.iload_n 2, 1) := by decide +kernel
theorem dX1_become_13 : decode cX1_become 13 = .ok (.iastore, 1) := by decide +kernel
theorem dX1_become_14 : decode cX1_become 14 = .ok (.iload_n 3, 1) := by decide +kernel
theorem dX1_become_15 : decode cX1_become 15 = .ok (.iload_n 2, 1) := by decide +kernel
theorem dX1_become_16 : decode cX1_become 16 = .ok (.if_icmp .eq 10, 3) := by decide +kernel
theorem dX1_become_19 : decode cX1_become 19 = .ok (.aload_n 0, 1) := by decide +kernel
theorem dX1_become_20 : decode cX1_become 20 = .ok (.getfield 15, 3) := by decide +kernel
theorem dX1_become_23 : decode cX1_become 23 = .ok (.iload_n 1, 1) := by decide +kernel
theorem dX1_become_24 : decode cX1_become 24 = .ok (.iconst 0, 1) := by decide +kernel
theorem dX1_become_25 : decode cX1_become 25 = .ok (.iastore, 1) := by decide +kernel
theorem dX1_become_26 : decode cX1_become 26 = .ok (.iload_n 3, 1) := by decide +kernel
theorem dX1_become_27 : decode cX1_become 27 = .ok (.ireturn, 1) := by decide +kernel
theorem dX1_openBy_0 : decode cX1_openBy 0 = .ok (.aload_n 0, 1) := by decide +kernel
theorem dX1_openBy_1 : decode cX1_openBy 1 = .ok (.getfield 46, 3) := by decide +kernel
theorem dX1_openBy_4 : decode cX1_openBy 4 = .ok (.iconst 0, 1) := by decide +kernel
theorem dX1_openBy_5 : decode cX1_openBy 5 = .ok (.invokestatic 89, 3) := by decide +kernel
theorem dX1_openBy_8 : decode cX1_openBy 8 = .ok (.iconst 0, 1) := by decide +kernel
theorem dX1_openBy_9 : decode cX1_openBy 9 = .ok (.istore_n 2, 1) := by decide +kernel
theorem dX1_openBy_10 : decode cX1_openBy 10 = .ok (.iload_n 2, 1) := by decide +kernel
theorem dX1_openBy_11 : decode cX1_openBy 11 = .ok (.aload_n 0, 1) := by decide +kernel
theorem dX1_openBy_12 : decode cX1_openBy 12 = .ok (.getfield 68, 3) := by decide +kernel
theorem dX1_openBy_15 : decode cX1_openBy 15 = .ok (.if_icmp .ge 21, 3) := by decide +kernel
theorem dX1_openBy_18 : decode cX1_openBy 18 = .ok (.aload_n 1, 1) := by decide +kernel
theorem dX1_openBy_19 : decode cX1_openBy 19 = .ok (.iload_n 2, 1) := by decide +kernel
theorem dX1_openBy_20 : decode cX1_openBy 20 = .ok (.iaload, 1) := by decide +kernel
theorem dX1_openBy_21 : decode cX1_openBy 21 = .ok (.iconst 2, 1) := by decide +kernel
theorem dX1_openBy_22 : decode cX1_openBy 22 = .ok (.if_icmp .ne 8, 3) := by decide +kernel
theorem dX1_openBy_25 : decode cX1_openBy 25 = .ok (.aload_n 0, 1) := by decide +kernel
theorem dX1_openBy_26 : decode cX1_openBy 26 = .ok (.iload_n 2, 1) := by decide +kernel
theorem dX1_openBy_27 : decode cX1_openBy 27 = .ok (.invokevirtual 95, 3) := by decide +kernel
theorem dX1_openBy_30 : decode cX1_openBy 30 = .ok (.iinc 2 1, 3) := by decide +kernel
theorem dX1_openBy_33 : decode cX1_openBy 33 = .ok (.goto (-23), 3) := by decide +kernel
theorem dX1_openBy_36 : decode cX1_openBy 36 = .ok (.return_, 1) := by decide +kernel
theorem dX1_openAlso_0 : decode cX1_openAlso 0 = .ok (.aload_n 0, 1) := by decide +kernel
theorem dX1_openAlso_1 : decode cX1_openAlso 1 = .ok (.getfield 21, 3) := by decide +kernel
theorem dX1_openAlso_4 : decode cX1_openAlso 4 = .ok (.iload_n 1, 1) := by decide +kernel
theorem dX1_openAlso_5 : decode cX1_openAlso 5 = .ok (.iaload, 1) := by decide +kernel
theorem dX1_openAlso_6 : decode cX1_openAlso 6 = .ok (.bipush (-9), 2) := by decide +kernel
theorem dX1_openAlso_8 : decode cX1_openAlso 8 = .ok (.if_icmp .ne 23, 3) := by decide +kernel
theorem dX1_openAlso_11 : decode cX1_openAlso 11 = .ok (.aload_n 0, 1) := by decide +kernel
theorem dX1_openAlso_12 : decode cX1_openAlso 12 = .ok (.getfield 46, 3) := by decide +kernel
theorem dX1_openAlso_15 : decode cX1_openAlso 15 = .ok (.iconst 3, 1) := by decide +kernel
theorem dX1_openAlso_16 : decode cX1_openAlso 16 = .ok (.dup2, 1) := by decide +kernel
theorem dX1_openAlso_17 : decode cX1_openAlso 17 = .ok (.iaload, 1) := by decide +kernel
theorem dX1_openAlso_18 : decode cX1_openAlso 18 = .ok (.iconst 1, 1) := by decide +kernel
theorem dX1_openAlso_19 : decode cX1_openAlso 19 = .ok (.aload_n 0, 1) := by decide +kernel
theorem dX1_openAlso_20 : decode cX1_openAlso 20 = .ok (.getfield 24, 3) := by decide +kernel
theorem dX1_openAlso_23 : decode cX1_openAlso 23 = .ok (.iload_n 1, 1) := by decide +kernel
theorem dX1_openAlso_24 : decode cX1_openAlso 24 = .ok (.iaload, 1) := by decide +kernel
theorem dX1_openAlso_25 : decode cX1_openAlso 25 = .ok (.ishl, 1) := by decide +kernel
theorem dX1_openAlso_26 : decode cX1_openAlso 26 = .ok (.ior, 1) := by decide +kernel
theorem dX1_openAlso_27 : decode cX1_openAlso 27 = .ok (.iastore, 1) := by decide +kernel
theorem dX1_openAlso_28 : decode cX1_openAlso 28 = .ok (.goto 56, 3) := by decide +kernel
theorem dX1_openAlso_31 : decode cX1_openAlso 31 = .ok (.aload_n 0, 1) := by decide +kernel
theorem dX1_openAlso_32 : decode cX1_openAlso 32 = .ok (.getfield 24, 3) := by decide +kernel
theorem dX1_openAlso_35 : decode cX1_openAlso 35 = .ok (.iload_n 1, 1) := by decide +kernel
theorem dX1_openAlso_36 : decode cX1_openAlso 36 = .ok (.iaload, 1) := by decide +kernel
theorem dX1_openAlso_37 : decode cX1_openAlso 37 = .ok (.bipush (-9), 2) := by decide +kernel
theorem dX1_openAlso_39 : decode cX1_openAlso 39 = .ok (.if_icmp .ne 23, 3) := by decide +kernel
theorem dX1_openAlso_42 : decode cX1_openAlso 42 = .ok (.aload_n 0, 1) := by decide +kernel
theorem dX1_openAlso_43 : decode cX1_openAlso 43 = .ok (.getfield 46, 3) := by decide +kernel
theorem dX1_openAlso_46 : decode cX1_openAlso 46 = .ok (.iconst 3, 1) := by decide +kernel
theorem dX1_openAlso_47 : decode cX1_openAlso 47 = .ok (.dup2, 1) := by decide +kernel
theorem dX1_openAlso_48 : decode cX1_openAlso 48 = .ok (.iaload, 1) := by decide +kernel
theorem dX1_openAlso_49 : decode cX1_openAlso 49 = .ok (.iconst 1, 1) := by decide +kernel
theorem dX1_openAlso_50 : decode cX1_openAlso 50 = .ok (.aload_n 0, 1) := by decide +kernel
theorem dX1_openAlso_51 : decode cX1_openAlso 51 = .ok (.getfield 21, 3) := by decide +kernel
theorem dX1_openAlso_54 : decode cX1_openAlso 54 = .ok (.iload_n 1, 1) := by decide +kernel
theorem dX1_openAlso_55 : decode cX1_openAlso 55 = .ok (.iaload, 1) := by decide +kernel
theorem dX1_openAlso_56 : decode cX1_openAlso 56 = .ok (.ishl, 1) := by decide +kernel
theorem dX1_openAlso_57 : decode cX1_openAlso 57 = .ok (.ior, 1) := by decide +kernel
theorem dX1_openAlso_58 : decode cX1_openAlso 58 = .ok (.iastore, 1) := by decide +kernel
theorem dX1_openAlso_59 : decode cX1_openAlso 59 = .ok (.goto 25, 3) := by decide +kernel
theorem dX1_openAlso_62 : decode cX1_openAlso 62 = .ok (.aload_n 0, 1) := by decide +kernel
theorem dX1_openAlso_63 : decode cX1_openAlso 63 = .ok (.getfield 46, 3) := by decide +kernel
theorem dX1_openAlso_66 : decode cX1_openAlso 66 = .ok (.aload_n 0, 1) := by decide +kernel
theorem dX1_openAlso_67 : decode cX1_openAlso 67 = .ok (.getfield 18, 3) := by decide +kernel
theorem dX1_openAlso_70 : decode cX1_openAlso 70 = .ok (.iload_n 1, 1) := by decide +kernel
theorem dX1_openAlso_71 : decode cX1_openAlso 71 = .ok (.iaload, 1) := by decide +kernel
theorem dX1_openAlso_72 : decode cX1_openAlso 72 = .ok (.dup2, 1) := by decide +kernel
theorem dX1_openAlso_73 : decode cX1_openAlso 73 = .ok (.iaload, 1) := by decide +kernel
theorem dX1_openAlso_74 : decode cX1_openAlso 74 = .ok (.iconst 1, 1) := by decide +kernel
theorem dX1_openAlso_75 : decode cX1_openAlso 75 = .ok (.aload_n 0, 1) := by decide +kernel
theorem dX1_openAlso_76 : decode cX1_openAlso 76 = .ok (.getfield 21, 3) := by decide +kernel
theorem dX1_openAlso_79 : decode cX1_openAlso 79 = .ok (.iload_n 1, 1) := by decide +kernel
theorem dX1_openAlso_80 : decode cX1_openAlso 80 = .ok (.iaload, 1) := by decide +kernel
theorem dX1_openAlso_81 : decode cX1_openAlso 81 = .ok (.ishl, 1) := by decide +kernel
theorem dX1_openAlso_82 : decode cX1_openAlso 82 = .ok (.ior, 1) := by decide +kernel
theorem dX1_openAlso_83 : decode cX1_openAlso 83 = .ok (.iastore, 1) := by decide +kernel
theorem dX1_openAlso_84 : decode cX1_openAlso 84 = .ok (.return_, 1) := by decide +kernel
theorem dX1_widened_0 : decode cX1_widened 0 = .ok (.iload_n 1, 1) := by decide +kernel
theorem dX1_widened_1 : decode cX1_widened 1 = .ok (.istore_n 2, 1) := by decide +kernel
theorem dX1_widened_2 : decode cX1_widened 2 = .ok (.iconst 0, 1) := by decide +kernel
theorem dX1_widened_3 : decode cX1_widened 3 = .ok (.istore_n 3, 1) := by decide +kernel
theorem dX1_widened_4 : decode cX1_widened 4 = .ok (.iload_n 3, 1) := by decide +kernel
theorem dX1_widened_5 : decode cX1_widened 5 = .ok (.iconst 3, 1) := by decide +kernel
theorem dX1_widened_6 : decode cX1_widened 6 = .ok (.if_icmp .ge 61, 3) := by decide +kernel
theorem dX1_widened_9 : decode cX1_widened 9 = .ok (.aload_n 0, 1) := by decide +kernel
theorem dX1_widened_10 : decode cX1_widened 10 = .ok (.getfield 46, 3) := by decide +kernel
theorem dX1_widened_13 : decode cX1_widened 13 = .ok (.iload_n 3, 1) := by decide +kernel
theorem dX1_widened_14 : decode cX1_widened 14 = .ok (.iaload, 1) := by decide +kernel
theorem dX1_widened_15 : decode cX1_widened 15 = .ok (.istore 4, 2) := by decide +kernel
theorem dX1_widened_17 : decode cX1_widened 17 = .ok (.iload 4, 2) := by decide +kernel
theorem dX1_widened_19 : decode cX1_widened 19 = .ok (.aload_n 0, 1) := by decide +kernel
theorem dX1_widened_20 : decode cX1_widened 20 = .ok (.getfield 52, 3) := by decide +kernel
theorem dX1_widened_23 : decode cX1_widened 23 = .ok (.iload_n 3, 1) := by decide +kernel
theorem dX1_widened_24 : decode cX1_widened 24 = .ok (.iaload, 1) := by decide +kernel
theorem dX1_widened_25 : decode cX1_widened 25 = .ok (.invokestatic 99, 3) := by decide +kernel
theorem dX1_widened_28 : decode cX1_widened 28 = .ok (.istore 5, 2) := by decide +kernel
theorem dX1_widened_30 : decode cX1_widened 30 = .ok (.iload_n 2, 1) := by decide +kernel
theorem dX1_widened_31 : decode cX1_widened 31 = .ok (.iload_n 1, 1) := by decide +kernel
theorem dX1_widened_32 : decode cX1_widened 32 = .ok (.iload 4, 2) := by decide +kernel
theorem dX1_widened_34 : decode cX1_widened 34 = .ok (.iand, 1) := by decide +kernel
theorem dX1_widened_35 : decode cX1_widened 35 = .ok (.aload_n 0, 1) := by decide +kernel
theorem dX1_widened_36 : decode cX1_widened 36 = .ok (.getfield 52, 3) := by decide +kernel
theorem dX1_widened_39 : decode cX1_widened 39 = .ok (.iload_n 3, 1) := by decide +kernel
theorem dX1_widened_40 : decode cX1_widened 40 = .ok (.iaload, 1) := by decide +kernel
theorem dX1_widened_41 : decode cX1_widened 41 = .ok (.invokestatic 99, 3) := by decide +kernel
theorem dX1_widened_44 : decode cX1_widened 44 = .ok (.iload_n 1, 1) := by decide +kernel
theorem dX1_widened_45 : decode cX1_widened 45 = .ok (.iload 5, 2) := by decide +kernel
theorem dX1_widened_47 : decode cX1_widened 47 = .ok (.iand, 1) := by decide +kernel
theorem dX1_widened_48 : decode cX1_widened 48 = .ok (.aload_n 0, 1) := by decide +kernel
theorem dX1_widened_49 : decode cX1_widened 49 = .ok (.getfield 52, 3) := by decide +kernel
theorem dX1_widened_52 : decode cX1_widened 52 = .ok (.iload_n 3, 1) := by decide +kernel
theorem dX1_widened_53 : decode cX1_widened 53 = .ok (.iaload, 1) := by decide +kernel
theorem dX1_widened_54 : decode cX1_widened 54 = .ok (.ineg, 1) := by decide +kernel
theorem dX1_widened_55 : decode cX1_widened 55 = .ok (.invokestatic 99, 3) := by decide +kernel
theorem dX1_widened_58 : decode cX1_widened 58 = .ok (.ior, 1) := by decide +kernel
theorem dX1_widened_59 : decode cX1_widened 59 = .ok (.ior, 1) := by decide +kernel
theorem dX1_widened_60 : decode cX1_widened 60 = .ok (.istore_n 2, 1) := by decide +kernel
theorem dX1_widened_61 : decode cX1_widened 61 = .ok (.iinc 3 1, 3) := by decide +kernel
theorem dX1_widened_64 : decode cX1_widened 64 = .ok (.goto (-60), 3) := by decide +kernel
theorem dX1_widened_67 : decode cX1_widened 67 = .ok (.iload_n 2, 1) := by decide +kernel
theorem dX1_widened_68 : decode cX1_widened 68 = .ok (.ireturn, 1) := by decide +kernel
theorem dX1_moved_0 : decode cX1_moved 0 = .ok (.iload_n 1, 1) := by decide +kernel
theorem dX1_moved_1 : decode cX1_moved 1 = .ok (.ifCond .lt 9, 3) := by decide +kernel
theorem dX1_moved_4 : decode cX1_moved 4 = .ok (.iload_n 0, 1) := by decide +kernel
theorem dX1_moved_5 : decode cX1_moved 5 = .ok (.iload_n 1, 1) := by decide +kernel
theorem dX1_moved_6 : decode cX1_moved 6 = .ok (.ishl, 1) := by decide +kernel
theorem dX1_moved_7 : decode cX1_moved 7 = .ok (.goto 7, 3) := by decide +kernel
theorem dX1_moved_10 : decode cX1_moved 10 = .ok (.iload_n 0, 1) := by decide +kernel
theorem dX1_moved_11 : decode cX1_moved 11 = .ok (.iload_n 1, 1) := by decide +kernel
theorem dX1_moved_12 : decode cX1_moved 12 = .ok (.ineg, 1) := by decide +kernel
theorem dX1_moved_13 : decode cX1_moved 13 = .ok (.iushr, 1) := by decide +kernel
theorem dX1_moved_14 : decode cX1_moved 14 = .ok (.ireturn, 1) := by decide +kernel
theorem dX1_roomsWithin_0 : decode cX1_roomsWithin 0 = .ok (.aload_n 0, 1) := by decide +kernel
theorem dX1_roomsWithin_1 : decode cX1_roomsWithin 1 = .ok (.getfield 46, 3) := by decide +kernel
theorem dX1_roomsWithin_4 : decode cX1_roomsWithin 4 = .ok (.iconst 3, 1) := by decide +kernel
theorem dX1_roomsWithin_5 : decode cX1_roomsWithin 5 = .ok (.iaload, 1) := by decide +kernel
theorem dX1_roomsWithin_6 : decode cX1_roomsWithin 6 = .ok (.istore_n 2, 1) := by decide +kernel
theorem dX1_roomsWithin_7 : decode cX1_roomsWithin 7 = .ok (.iconst 1, 1) := by decide +kernel
theorem dX1_roomsWithin_8 : decode cX1_roomsWithin 8 = .ok (.istore_n 3, 1) := by decide +kernel
theorem dX1_roomsWithin_9 : decode cX1_roomsWithin 9 = .ok (.iload_n 3, 1) := by decide +kernel
theorem dX1_roomsWithin_10 : decode cX1_roomsWithin 10 = .ok (.iload_n 1, 1) := by decide +kernel
theorem dX1_roomsWithin_11 : decode cX1_roomsWithin 11 = .ok (.if_icmp .ge 27, 3) := by decide +kernel
theorem dX1_roomsWithin_14 : decode cX1_roomsWithin 14 = .ok (.aload_n 0, 1) := by decide +kernel
theorem dX1_roomsWithin_15 : decode cX1_roomsWithin 15 = .ok (.iload_n 2, 1) := by decide +kernel
theorem dX1_roomsWithin_16 : decode cX1_roomsWithin 16 = .ok (.invokevirtual 102, 3) := by decide +kernel
theorem dX1_roomsWithin_19 : decode cX1_roomsWithin 19 = .ok (.istore 4, 2) := by decide +kernel
theorem dX1_roomsWithin_21 : decode cX1_roomsWithin 21 = .ok (.iload 4, 2) := by decide +kernel
theorem dX1_roomsWithin_23 : decode cX1_roomsWithin 23 = .ok (.iload_n 2, 1) := by decide +kernel
theorem dX1_roomsWithin_24 : decode cX1_roomsWithin 24 = .ok (.if_icmp .ne 5, 3) := by decide +kernel
theorem dX1_roomsWithin_27 : decode cX1_roomsWithin 27 = .ok (.iload_n 2, 1) := by decide +kernel
theorem dX1_roomsWithin_28 : decode cX1_roomsWithin 28 = .ok (.ireturn, 1) := by decide +kernel
theorem dX1_roomsWithin_29 : decode cX1_roomsWithin 29 = .ok (.iload 4, 2) := by decide +kernel
theorem dX1_roomsWithin_31 : decode cX1_roomsWithin 31 = .ok (.istore_n 2, 1) := by decide +kernel
theorem dX1_roomsWithin_32 : decode cX1_roomsWithin 32 = .ok (.iinc 3 1, 3) := by decide +kernel
theorem dX1_roomsWithin_35 : decode cX1_roomsWithin 35 = .ok (.goto (-26), 3) := by decide +kernel
theorem dX1_roomsWithin_38 : decode cX1_roomsWithin 38 = .ok (.iload_n 2, 1) := by decide +kernel
theorem dX1_roomsWithin_39 : decode cX1_roomsWithin 39 = .ok (.ireturn, 1) := by decide +kernel
theorem dX1_howFar_0 : decode cX1_howFar 0 = .ok (.aload_n 0, 1) := by decide +kernel
theorem dX1_howFar_1 : decode cX1_howFar 1 = .ok (.aload_n 0, 1) := by decide +kernel
theorem dX1_howFar_2 : decode cX1_howFar 2 = .ok (.getfield 9, 3) := by decide +kernel
theorem dX1_howFar_5 : decode cX1_howFar 5 = .ok (.invokevirtual 106, 3) := by decide +kernel
theorem dX1_howFar_8 : decode cX1_howFar 8 = .ok (.iconst 1, 1) := by decide +kernel
theorem dX1_howFar_9 : decode cX1_howFar 9 = .ok (.istore_n 2, 1) := by decide +kernel
theorem dX1_howFar_10 : decode cX1_howFar 10 = .ok (.iload_n 2, 1) := by decide +kernel
theorem dX1_howFar_11 : decode cX1_howFar 11 = .ok (.aload_n 0, 1) := by decide +kernel
theorem dX1_howFar_12 : decode cX1_howFar 12 = .ok (.getfield 61, 3) := by decide +kernel
theorem dX1_howFar_15 : decode cX1_howFar 15 = .ok (.if_icmp .gt 24, 3) := by decide +kernel
theorem dX1_howFar_18 : decode cX1_howFar 18 = .ok (.aload_n 0, 1) := by decide +kernel
theorem dX1_howFar_19 : decode cX1_howFar 19 = .ok (.iload_n 2, 1) := by decide +kernel
theorem dX1_howFar_20 : decode cX1_howFar 20 = .ok (.invokevirtual 110, 3) := by decide +kernel
theorem dX1_howFar_23 : decode cX1_howFar 23 = .ok (.iload_n 1, 1) := by decide +kernel
theorem dX1_howFar_24 : decode cX1_howFar 24 = .ok (.ishr, 1) := by decide +kernel
theorem dX1_howFar_25 : decode cX1_howFar 25 = .ok (.iconst 1, 1) := by decide +kernel
theorem dX1_howFar_26 : decode cX1_howFar 26 = .ok (.iand, 1) := by decide +kernel
theorem dX1_howFar_27 : decode cX1_howFar 27 = .ok (.iconst 1, 1) := by decide +kernel
theorem dX1_howFar_28 : decode cX1_howFar 28 = .ok (.if_icmp .ne 5, 3) := by decide +kernel
theorem dX1_howFar_31 : decode cX1_howFar 31 = .ok (.iload_n 2, 1) := by decide +kernel
theorem dX1_howFar_32 : decode cX1_howFar 32 = .ok (.ireturn, 1) := by decide +kernel
theorem dX1_howFar_33 : decode cX1_howFar 33 = .ok (.iinc 2 1, 3) := by decide +kernel
theorem dX1_howFar_36 : decode cX1_howFar 36 = .ok (.goto (-26), 3) := by decide +kernel
theorem dX1_howFar_39 : decode cX1_howFar 39 = .ok (.bipush (-9), 2) := by decide +kernel
theorem dX1_howFar_41 : decode cX1_howFar 41 = .ok (.ireturn, 1) := by decide +kernel
theorem dX1_firstShut_0 : decode cX1_firstShut 0 = .ok (.aload_n 0, 1) := by decide +kernel
theorem dX1_firstShut_1 : decode cX1_firstShut 1 = .ok (.aload_n 0, 1) := by decide +kernel
theorem dX1_firstShut_2 : decode cX1_firstShut 2 = .ok (.getfield 9, 3) := by decide +kernel
theorem dX1_firstShut_5 : decode cX1_firstShut 5 = .ok (.invokevirtual 106, 3) := by decide +kernel
theorem dX1_firstShut_8 : decode cX1_firstShut 8 = .ok (.aload_n 0, 1) := by decide +kernel
theorem dX1_firstShut_9 : decode cX1_firstShut 9 = .ok (.aload_n 0, 1) := by decide +kernel
theorem dX1_firstShut_10 : decode cX1_firstShut 10 = .ok (.getfield 61, 3) := by decide +kernel
theorem dX1_firstShut_13 : decode cX1_firstShut 13 = .ok (.invokevirtual 110, 3) := by decide +kernel
theorem dX1_firstShut_16 : decode cX1_firstShut 16 = .ok (.istore_n 1, 1) := by decide +kernel
theorem dX1_firstShut_17 : decode cX1_firstShut 17 = .ok (.iconst 0, 1) := by decide +kernel
theorem dX1_firstShut_18 : decode cX1_firstShut 18 = .ok (.istore_n 2, 1) := by decide +kernel
theorem dX1_firstShut_19 : decode cX1_firstShut 19 = .ok (.iload_n 2, 1) := by decide +kernel
theorem dX1_firstShut_20 : decode cX1_firstShut 20 = .ok (.aload_n 0, 1) := by decide +kernel
theorem dX1_firstShut_21 : decode cX1_firstShut 21 = .ok (.getfield 61, 3) := by decide +kernel
theorem dX1_firstShut_24 : decode cX1_firstShut 24 = .ok (.if_icmp .ge 19, 3) := by decide +kernel
theorem dX1_firstShut_27 : decode cX1_firstShut 27 = .ok (.iload_n 1, 1) := by decide +kernel
theorem dX1_firstShut_28 : decode cX1_firstShut 28 = .ok (.iload_n 2, 1) := by decide +kernel
theorem dX1_firstShut_29 : decode cX1_firstShut 29 = .ok (.ishr, 1) := by decide +kernel
theorem dX1_firstShut_30 : decode cX1_firstShut 30 = .ok (.iconst 1, 1) := by decide +kernel
theorem dX1_firstShut_31 : decode cX1_firstShut 31 = .ok (.iand, 1) := by decide +kernel
theorem dX1_firstShut_32 : decode cX1_firstShut 32 = .ok (.ifCond .ne 5, 3) := by decide +kernel
theorem dX1_firstShut_35 : decode cX1_firstShut 35 = .ok (.iload_n 2, 1) := by decide +kernel
theorem dX1_firstShut_36 : decode cX1_firstShut 36 = .ok (.ireturn, 1) := by decide +kernel
theorem dX1_firstShut_37 : decode cX1_firstShut 37 = .ok (.iinc 2 1, 3) := by decide +kernel
theorem dX1_firstShut_40 : decode cX1_firstShut 40 = .ok (.goto (-21), 3) := by decide +kernel
theorem dX1_firstShut_43 : decode cX1_firstShut 43 = .ok (.bipush (-9), 2) := by decide +kernel
theorem dX1_firstShut_45 : decode cX1_firstShut 45 = .ok (.ireturn, 1) := by decide +kernel
theorem dX1_isTrialFair_0 : decode cX1_isTrialFair 0 = .ok (.aload_n 0, 1) := by decide +kernel
theorem dX1_isTrialFair_1 : decode cX1_isTrialFair 1 = .ok (.aload_n 0, 1) := by decide +kernel
theorem dX1_isTrialFair_2 : decode cX1_isTrialFair 2 = .ok (.getfield 43, 3) := by decide +kernel
theorem dX1_isTrialFair_5 : decode cX1_isTrialFair 5 = .ok (.invokevirtual 106, 3) := by decide +kernel
theorem dX1_isTrialFair_8 : decode cX1_isTrialFair 8 = .ok (.aload_n 0, 1) := by decide +kernel
theorem dX1_isTrialFair_9 : decode cX1_isTrialFair 9 = .ok (.aload_n 0, 1) := by decide +kernel
theorem dX1_isTrialFair_10 : decode cX1_isTrialFair 10 = .ok (.getfield 61, 3) := by decide +kernel
theorem dX1_isTrialFair_13 : decode cX1_isTrialFair 13 = .ok (.invokevirtual 110, 3) := by decide +kernel
theorem dX1_isTrialFair_16 : decode cX1_isTrialFair 16 = .ok (.aload_n 0, 1) := by decide +kernel
theorem dX1_isTrialFair_17 : decode cX1_isTrialFair 17 = .ok (.invokevirtual 113, 3) := by decide +kernel
theorem dX1_isTrialFair_20 : decode cX1_isTrialFair 20 = .ok (.if_icmp .ne 7, 3) := by decide +kernel
theorem dX1_isTrialFair_23 : decode cX1_isTrialFair 23 = .ok (.iconst 1, 1) := by decide +kernel
theorem dX1_isTrialFair_24 : decode cX1_isTrialFair 24 = .ok (.goto 4, 3) := by decide +kernel
theorem dX1_isTrialFair_27 : decode cX1_isTrialFair 27 = .ok (.iconst 0, 1) := by decide +kernel
theorem dX1_isTrialFair_28 : decode cX1_isTrialFair 28 = .ok (.ireturn, 1) := by decide +kernel
theorem dX1_fewestToOpen_0 : decode cX1_fewestToOpen 0 = .ok (.aload_n 0, 1) := by decide +kernel
theorem dX1_fewestToOpen_1 : decode cX1_fewestToOpen 1 = .ok (.aload_n 0, 1) := by decide +kernel
theorem dX1_fewestToOpen_2 : decode cX1_fewestToOpen 2 = .ok (.getfield 9, 3) := by decide +kernel
theorem dX1_fewestToOpen_5 : decode cX1_fewestToOpen 5 = .ok (.invokevirtual 106, 3) := by decide +kernel
theorem dX1_fewestToOpen_8 : decode cX1_fewestToOpen 8 = .ok (.aload_n 0, 1) := by decide +kernel
theorem dX1_fewestToOpen_9 : decode cX1_fewestToOpen 9 = .ok (.getfield 46, 3) := by decide +kernel
theorem dX1_fewestToOpen_12 : decode cX1_fewestToOpen 12 = .ok (.iconst 0, 1) := by decide +kernel
theorem dX1_fewestToOpen_13 : decode cX1_fewestToOpen 13 = .ok (.aload_n 0, 1) := by decide +kernel
theorem dX1_fewestToOpen_14 : decode cX1_fewestToOpen 14 = .ok (.getfield 49, 3) := by decide +kernel
theorem dX1_fewestToOpen_17 : decode cX1_fewestToOpen 17 = .ok (.iconst 0, 1) := by decide +kernel
theorem dX1_fewestToOpen_18 : decode cX1_fewestToOpen 18 = .ok (.aload_n 0, 1) := by decide +kernel
theorem dX1_fewestToOpen_19 : decode cX1_fewestToOpen 19 = .ok (.getfield 46, 3) := by decide +kernel
theorem dX1_fewestToOpen_22 : decode cX1_fewestToOpen 22 = .ok (.arraylength, 1) := by decide +kernel
theorem dX1_fewestToOpen_23 : decode cX1_fewestToOpen 23 = .ok (.invokestatic 117, 3) := by decide +kernel
theorem dX1_fewestToOpen_26 : decode cX1_fewestToOpen 26 = .ok (.aload_n 0, 1) := by decide +kernel
theorem dX1_fewestToOpen_27 : decode cX1_fewestToOpen 27 = .ok (.bipush (-9), 2) := by decide +kernel
theorem dX1_fewestToOpen_29 : decode cX1_fewestToOpen 29 = .ok (.putfield 27, 3) := by decide +kernel
theorem dX1_fewestToOpen_32 : decode cX1_fewestToOpen 32 = .ok (.aload_n 0, 1) := by decide +kernel
theorem dX1_fewestToOpen_33 : decode cX1_fewestToOpen 33 = .ok (.bipush (-9), 2) := by decide +kernel
theorem dX1_fewestToOpen_35 : decode cX1_fewestToOpen 35 = .ok (.putfield 31, 3) := by decide +kernel
theorem dX1_fewestToOpen_38 : decode cX1_fewestToOpen 38 = .ok (.aload_n 0, 1) := by decide +kernel
theorem dX1_fewestToOpen_39 : decode cX1_fewestToOpen 39 = .ok (.iload_n 1, 1) := by decide +kernel
theorem dX1_fewestToOpen_40 : decode cX1_fewestToOpen 40 = .ok (.invokevirtual 110, 3) := by decide +kernel
theorem dX1_fewestToOpen_43 : decode cX1_fewestToOpen 43 = .ok (.aload_n 0, 1) := by decide +kernel
theorem dX1_fewestToOpen_44 : decode cX1_fewestToOpen 44 = .ok (.invokevirtual 113, 3) := by decide +kernel
theorem dX1_fewestToOpen_47 : decode cX1_fewestToOpen 47 = .ok (.if_icmp .ne 5, 3) := by decide +kernel
theorem dX1_fewestToOpen_50 : decode cX1_fewestToOpen 50 = .ok (.iconst 0, 1) := by decide +kernel
theorem dX1_fewestToOpen_51 : decode cX1_fewestToOpen 51 = .ok (.ireturn, 1) := by decide +kernel
theorem dX1_fewestToOpen_52 : decode cX1_fewestToOpen 52 = .ok (.iconst 0, 1) := by decide +kernel
theorem dX1_fewestToOpen_53 : decode cX1_fewestToOpen 53 = .ok (.istore_n 2, 1) := by decide +kernel
theorem dX1_fewestToOpen_54 : decode cX1_fewestToOpen 54 = .ok (.iload_n 2, 1) := by decide +kernel
theorem dX1_fewestToOpen_55 : decode cX1_fewestToOpen 55 = .ok (.aload_n 0, 1) := by decide +kernel
theorem dX1_fewestToOpen_56 : decode cX1_fewestToOpen 56 = .ok (.getfield 68, 3) := by decide +kernel
theorem dX1_fewestToOpen_59 : decode cX1_fewestToOpen 59 = .ok (.if_icmp .ge 26, 3) := by decide +kernel
theorem dX1_fewestToOpen_62 : decode cX1_fewestToOpen 62 = .ok (.aload_n 0, 1) := by decide +kernel
theorem dX1_fewestToOpen_63 : decode cX1_fewestToOpen 63 = .ok (.iload_n 2, 1) := by decide +kernel
theorem dX1_fewestToOpen_64 : decode cX1_fewestToOpen 64 = .ok (.iload_n 2, 1) := by decide +kernel
theorem dX1_fewestToOpen_65 : decode cX1_fewestToOpen 65 = .ok (.iload_n 1, 1) := by decide +kernel
theorem dX1_fewestToOpen_66 : decode cX1_fewestToOpen 66 = .ok (.invokevirtual 123, 3) := by decide +kernel
theorem dX1_fewestToOpen_69 : decode cX1_fewestToOpen 69 = .ok (.ifCond .eq 10, 3) := by decide +kernel
theorem dX1_fewestToOpen_72 : decode cX1_fewestToOpen 72 = .ok (.aload_n 0, 1) := by decide +kernel
theorem dX1_fewestToOpen_73 : decode cX1_fewestToOpen 73 = .ok (.iload_n 2, 1) := by decide +kernel
theorem dX1_fewestToOpen_74 : decode cX1_fewestToOpen 74 = .ok (.putfield 27, 3) := by decide +kernel
theorem dX1_fewestToOpen_77 : decode cX1_fewestToOpen 77 = .ok (.iconst 1, 1) := by decide +kernel
theorem dX1_fewestToOpen_78 : decode cX1_fewestToOpen 78 = .ok (.ireturn, 1) := by decide +kernel
theorem dX1_fewestToOpen_79 : decode cX1_fewestToOpen 79 = .ok (.iinc 2 1, 3) := by decide +kernel
theorem dX1_fewestToOpen_82 : decode cX1_fewestToOpen 82 = .ok (.goto (-28), 3) := by decide +kernel
theorem dX1_fewestToOpen_85 : decode cX1_fewestToOpen 85 = .ok (.aload_n 0, 1) := by decide +kernel
theorem dX1_fewestToOpen_86 : decode cX1_fewestToOpen 86 = .ok (.iload_n 1, 1) := by decide +kernel
theorem dX1_fewestToOpen_87 : decode cX1_fewestToOpen 87 = .ok (.invokevirtual 126, 3) := by decide +kernel
theorem dX1_fewestToOpen_90 : decode cX1_fewestToOpen 90 = .ok (.ifCond .eq 7, 3) := by decide +kernel
theorem dX1_fewestToOpen_93 : decode cX1_fewestToOpen 93 = .ok (.iconst 2, 1) := by decide +kernel
theorem dX1_fewestToOpen_94 : decode cX1_fewestToOpen 94 = .ok (.goto 5, 3) := by decide +kernel
theorem dX1_fewestToOpen_97 : decode cX1_fewestToOpen 97 = .ok (.bipush (-9), 2) := by decide +kernel
theorem dX1_fewestToOpen_99 : decode cX1_fewestToOpen 99 = .ok (.ireturn, 1) := by decide +kernel
theorem dX1_findTwo_0 : decode cX1_findTwo 0 = .ok (.iconst 0, 1) := by decide +kernel
theorem dX1_findTwo_1 : decode cX1_findTwo 1 = .ok (.istore_n 2, 1) := by decide +kernel
theorem dX1_findTwo_2 : decode cX1_findTwo 2 = .ok (.iload_n 2, 1) := by decide +kernel
theorem dX1_findTwo_3 : decode cX1_findTwo 3 = .ok (.aload_n 0, 1) := by decide +kernel
theorem dX1_findTwo_4 : decode cX1_findTwo 4 = .ok (.getfield 68, 3) := by decide +kernel
theorem dX1_findTwo_7 : decode cX1_findTwo 7 = .ok (.if_icmp .ge 49, 3) := by decide +kernel
theorem dX1_findTwo_10 : decode cX1_findTwo 10 = .ok (.iload_n 2, 1) := by decide +kernel
theorem dX1_findTwo_11 : decode cX1_findTwo 11 = .ok (.iconst 1, 1) := by decide +kernel
theorem dX1_findTwo_12 : decode cX1_findTwo 12 = .ok (.iadd, 1) := by decide +kernel
theorem dX1_findTwo_13 : decode cX1_findTwo 13 = .ok (.istore_n 3, 1) := by decide +kernel
theorem dX1_findTwo_14 : decode cX1_findTwo 14 = .ok (.iload_n 3, 1) := by decide +kernel
theorem dX1_findTwo_15 : decode cX1_findTwo 15 = .ok (.aload_n 0, 1) := by decide +kernel
theorem dX1_findTwo_16 : decode cX1_findTwo 16 = .ok (.getfield 68, 3) := by decide +kernel
theorem dX1_findTwo_19 : decode cX1_findTwo 19 = .ok (.if_icmp .ge 31, 3) := by decide +kernel
theorem dX1_findTwo_22 : decode cX1_findTwo 22 = .ok (.aload_n 0, 1) := by decide +kernel
theorem dX1_findTwo_23 : decode cX1_findTwo 23 = .ok (.iload_n 2, 1) := by decide +kernel
theorem dX1_findTwo_24 : decode cX1_findTwo 24 = .ok (.iload_n 3, 1) := by decide +kernel
theorem dX1_findTwo_25 : decode cX1_findTwo 25 = .ok (.iload_n 1, 1) := by decide +kernel
theorem dX1_findTwo_26 : decode cX1_findTwo 26 = .ok (.invokevirtual 123, 3) := by decide +kernel
theorem dX1_findTwo_29 : decode cX1_findTwo 29 = .ok (.ifCond .eq 15, 3) := by decide +kernel
theorem dX1_findTwo_32 : decode cX1_findTwo 32 = .ok (.aload_n 0, 1) := by decide +kernel
theorem dX1_findTwo_33 : decode cX1_findTwo 33 = .ok (.iload_n 2, 1) := by decide +kernel
theorem dX1_findTwo_34 : decode cX1_findTwo 34 = .ok (.putfield 27, 3) := by decide +kernel
theorem dX1_findTwo_37 : decode cX1_findTwo 37 = .ok (.aload_n 0, 1) := by decide +kernel
theorem dX1_findTwo_38 : decode cX1_findTwo 38 = .ok (.iload_n 3, 1) := by decide +kernel
theorem dX1_findTwo_39 : decode cX1_findTwo 39 = .ok (.putfield 31, 3) := by decide +kernel
theorem dX1_findTwo_42 : decode cX1_findTwo 42 = .ok (.iconst 1, 1) := by decide +kernel
theorem dX1_findTwo_43 : decode cX1_findTwo 43 = .ok (.ireturn, 1) := by decide +kernel
theorem dX1_findTwo_44 : decode cX1_findTwo 44 = .ok (.iinc 3 1, 3) := by decide +kernel
theorem dX1_findTwo_47 : decode cX1_findTwo 47 = .ok (.goto (-33), 3) := by decide +kernel
theorem dX1_findTwo_50 : decode cX1_findTwo 50 = .ok (.iinc 2 1, 3) := by decide +kernel
theorem dX1_findTwo_53 : decode cX1_findTwo 53 = .ok (.goto (-51), 3) := by decide +kernel
theorem dX1_findTwo_56 : decode cX1_findTwo 56 = .ok (.iconst 0, 1) := by decide +kernel
theorem dX1_findTwo_57 : decode cX1_findTwo 57 = .ok (.ireturn, 1) := by decide +kernel
theorem dX1_isNearWith_0 : decode cX1_isNearWith 0 = .ok (.aload_n 0, 1) := by decide +kernel
theorem dX1_isNearWith_1 : decode cX1_isNearWith 1 = .ok (.getfield 49, 3) := by decide +kernel
theorem dX1_isNearWith_4 : decode cX1_isNearWith 4 = .ok (.iconst 0, 1) := by decide +kernel
theorem dX1_isNearWith_5 : decode cX1_isNearWith 5 = .ok (.aload_n 0, 1) := by decide +kernel
theorem dX1_isNearWith_6 : decode cX1_isNearWith 6 = .ok (.getfield 46, 3) := by decide +kernel
theorem dX1_isNearWith_9 : decode cX1_isNearWith 9 = .ok (.iconst 0, 1) := by decide +kernel
theorem dX1_isNearWith_10 : decode cX1_isNearWith 10 = .ok (.aload_n 0, 1) := by decide +kernel
theorem dX1_isNearWith_11 : decode cX1_isNearWith 11 = .ok (.getfield 46, 3) := by decide +kernel
theorem dX1_isNearWith_14 : decode cX1_isNearWith 14 = .ok (.arraylength, 1) := by decide +kernel
theorem dX1_isNearWith_15 : decode cX1_isNearWith 15 = .ok (.invokestatic 117, 3) := by decide +kernel
theorem dX1_isNearWith_18 : decode cX1_isNearWith 18 = .ok (.aload_n 0, 1) := by decide +kernel
theorem dX1_isNearWith_19 : decode cX1_isNearWith 19 = .ok (.iload_n 1, 1) := by decide +kernel
theorem dX1_isNearWith_20 : decode cX1_isNearWith 20 = .ok (.invokevirtual 95, 3) := by decide +kernel
theorem dX1_isNearWith_23 : decode cX1_isNearWith 23 = .ok (.aload_n 0, 1) := by decide +kernel
theorem dX1_isNearWith_24 : decode cX1_isNearWith 24 = .ok (.iload_n 2, 1) := by decide +kernel
theorem dX1_isNearWith_25 : decode cX1_isNearWith 25 = .ok (.invokevirtual 95, 3) := by decide +kernel
theorem dX1_isNearWith_28 : decode cX1_isNearWith 28 = .ok (.aload_n 0, 1) := by decide +kernel
theorem dX1_isNearWith_29 : decode cX1_isNearWith 29 = .ok (.iload_n 3, 1) := by decide +kernel
theorem dX1_isNearWith_30 : decode cX1_isNearWith 30 = .ok (.invokevirtual 110, 3) := by decide +kernel
theorem dX1_isNearWith_33 : decode cX1_isNearWith 33 = .ok (.aload_n 0, 1) := by decide +kernel
theorem dX1_isNearWith_34 : decode cX1_isNearWith 34 = .ok (.invokevirtual 113, 3) := by decide +kernel
theorem dX1_isNearWith_37 : decode cX1_isNearWith 37 = .ok (.if_icmp .ne 7, 3) := by decide +kernel
theorem dX1_isNearWith_40 : decode cX1_isNearWith 40 = .ok (.iconst 1, 1) := by decide +kernel
theorem dX1_isNearWith_41 : decode cX1_isNearWith 41 = .ok (.goto 4, 3) := by decide +kernel
theorem dX1_isNearWith_44 : decode cX1_isNearWith 44 = .ok (.iconst 0, 1) := by decide +kernel
theorem dX1_isNearWith_45 : decode cX1_isNearWith 45 = .ok (.ireturn, 1) := by decide +kernel
theorem dX1_keepLongest_0 : decode cX1_keepLongest 0 = .ok (.aload_n 0, 1) := by decide +kernel
theorem dX1_keepLongest_1 : decode cX1_keepLongest 1 = .ok (.bipush (-9), 2) := by decide +kernel
theorem dX1_keepLongest_3 : decode cX1_keepLongest 3 = .ok (.putfield 34, 3) := by decide +kernel
theorem dX1_keepLongest_6 : decode cX1_keepLongest 6 = .ok (.aload_n 0, 1) := by decide +kernel
theorem dX1_keepLongest_7 : decode cX1_keepLongest 7 = .ok (.bipush (-9), 2) := by decide +kernel
theorem dX1_keepLongest_9 : decode cX1_keepLongest 9 = .ok (.putfield 37, 3) := by decide +kernel
theorem dX1_keepLongest_12 : decode cX1_keepLongest 12 = .ok (.aload_n 0, 1) := by decide +kernel
theorem dX1_keepLongest_13 : decode cX1_keepLongest 13 = .ok (.getfield 9, 3) := by decide +kernel
theorem dX1_keepLongest_16 : decode cX1_keepLongest 16 = .ok (.iconst 0, 1) := by decide +kernel
theorem dX1_keepLongest_17 : decode cX1_keepLongest 17 = .ok (.aload_n 0, 1) := by decide +kernel
theorem dX1_keepLongest_18 : decode cX1_keepLongest 18 = .ok (.getfield 43, 3) := by decide +kernel
theorem dX1_keepLongest_21 : decode cX1_keepLongest 21 = .ok (.iconst 0, 1) := by decide +kernel
theorem dX1_keepLongest_22 : decode cX1_keepLongest 22 = .ok (.aload_n 0, 1) := by decide +kernel
theorem dX1_keepLongest_23 : decode cX1_keepLongest 23 = .ok (.getfield 68, 3) := by decide +kernel
theorem dX1_keepLongest_26 : decode cX1_keepLongest 26 = .ok (.invokestatic 117, 3) := by decide +kernel
theorem dX1_keepLongest_29 : decode cX1_keepLongest 29 = .ok (.iconst 0, 1) := by decide +kernel
theorem dX1_keepLongest_30 : decode cX1_keepLongest 30 = .ok (.istore 6, 2) := by decide +kernel
theorem dX1_keepLongest_32 : decode cX1_keepLongest 32 = .ok (.iload 6, 2) := by decide +kernel
theorem dX1_keepLongest_34 : decode cX1_keepLongest 34 = .ok (.iconst 1, 1) := by decide +kernel
theorem dX1_keepLongest_35 : decode cX1_keepLongest 35 = .ok (.iload_n 3, 1) := by decide +kernel
theorem dX1_keepLongest_36 : decode cX1_keepLongest 36 = .ok (.ishl, 1) := by decide +kernel
theorem dX1_keepLongest_37 : decode cX1_keepLongest 37 = .ok (.if_icmp .ge 97, 3) := by decide +kernel
theorem dX1_keepLongest_40 : decode cX1_keepLongest 40 = .ok (.iconst 0, 1) := by decide +kernel
theorem dX1_keepLongest_41 : decode cX1_keepLongest 41 = .ok (.istore 7, 2) := by decide +kernel
theorem dX1_keepLongest_43 : decode cX1_keepLongest 43 = .ok (.iload 7, 2) := by decide +kernel
theorem dX1_keepLongest_45 : decode cX1_keepLongest 45 = .ok (.iload_n 3, 1) := by decide +kernel
theorem dX1_keepLongest_46 : decode cX1_keepLongest 46 = .ok (.if_icmp .ge 39, 3) := by decide +kernel
theorem dX1_keepLongest_49 : decode cX1_keepLongest 49 = .ok (.aload_n 0, 1) := by decide +kernel
theorem dX1_keepLongest_50 : decode cX1_keepLongest 50 = .ok (.getfield 43, 3) := by decide +kernel
theorem dX1_keepLongest_53 : decode cX1_keepLongest 53 = .ok (.aload_n 1, 1) := by decide +kernel
theorem dX1_keepLongest_54 : decode cX1_keepLongest 54 = .ok (.getfield 130, 3) := by decide +kernel
theorem dX1_keepLongest_57 : decode cX1_keepLongest 57 = .ok (.iload_n 2, 1) := by decide +kernel
theorem dX1_keepLongest_58 : decode cX1_keepLongest 58 = .ok (.iload 7, 2) := by decide +kernel
theorem dX1_keepLongest_60 : decode cX1_keepLongest 60 = .ok (.iadd, 1) := by decide +kernel
theorem dX1_keepLongest_61 : decode cX1_keepLongest 61 = .ok (.iaload, 1) := by decide +kernel
theorem dX1_keepLongest_62 : decode cX1_keepLongest 62 = .ok (.iload 6, 2) := by decide +kernel
theorem dX1_keepLongest_64 : decode cX1_keepLongest 64 = .ok (.iload 7, 2) := by decide +kernel
theorem dX1_keepLongest_66 : decode cX1_keepLongest 66 = .ok (.ishr, 1) := by decide +kernel
theorem dX1_keepLongest_67 : decode cX1_keepLongest 67 = .ok (.iconst 1, 1) := by decide +kernel
theorem dX1_keepLongest_68 : decode cX1_keepLongest 68 = .ok (.iand, 1) := by decide +kernel
theorem dX1_keepLongest_69 : decode cX1_keepLongest 69 = .ok (.iconst 1, 1) := by decide +kernel
theorem dX1_keepLongest_70 : decode cX1_keepLongest 70 = .ok (.if_icmp .ne 7, 3) := by decide +kernel
theorem dX1_keepLongest_73 : decode cX1_keepLongest 73 = .ok (.iconst 2, 1) := by decide +kernel
theorem dX1_keepLongest_74 : decode cX1_keepLongest 74 = .ok (.goto 4, 3) := by decide +kernel
theorem dX1_keepLongest_77 : decode cX1_keepLongest 77 = .ok (.iconst 1, 1) := by decide +kernel
theorem dX1_keepLongest_78 : decode cX1_keepLongest 78 = .ok (.iastore, 1) := by decide +kernel
theorem dX1_keepLongest_79 : decode cX1_keepLongest 79 = .ok (.iinc 7 1, 3) := by decide +kernel
theorem dX1_keepLongest_82 : decode cX1_keepLongest 82 = .ok (.goto (-39), 3) := by decide +kernel
theorem dX1_keepLongest_85 : decode cX1_keepLongest 85 = .ok (.aload_n 0, 1) := by decide +kernel
theorem dX1_keepLongest_86 : decode cX1_keepLongest 86 = .ok (.invokevirtual 135, 3) := by decide +kernel
theorem dX1_keepLongest_89 : decode cX1_keepLongest 89 = .ok (.ifCond .eq 14, 3) := by decide +kernel
theorem dX1_keepLongest_92 : decode cX1_keepLongest 92 = .ok (.aload_n 0, 1) := by decide +kernel
theorem dX1_keepLongest_93 : decode cX1_keepLongest 93 = .ok (.iload 4, 2) := by decide +kernel
theorem dX1_keepLongest_95 : decode cX1_keepLongest 95 = .ok (.iload 5, 2) := by decide +kernel
theorem dX1_keepLongest_97 : decode cX1_keepLongest 97 = .ok (.invokevirtual 139, 3) := by decide +kernel
theorem dX1_keepLongest_100 : decode cX1_keepLongest 100 = .ok (.goto 5, 3) := by decide +kernel
theorem dX1_keepLongest_103 : decode cX1_keepLongest 103 = .ok (.bipush (-9), 2) := by decide +kernel
theorem dX1_keepLongest_105 : decode cX1_keepLongest 105 = .ok (.istore 7, 2) := by decide +kernel
theorem dX1_keepLongest_107 : decode cX1_keepLongest 107 = .ok (.iload 7, 2) := by decide +kernel
theorem dX1_keepLongest_109 : decode cX1_keepLongest 109 = .ok (.aload_n 0, 1) := by decide +kernel
theorem dX1_keepLongest_110 : decode cX1_keepLongest 110 = .ok (.getfield 34, 3) := by decide +kernel
theorem dX1_keepLongest_113 : decode cX1_keepLongest 113 = .ok (.if_icmp .le 15, 3) := by decide +kernel
theorem dX1_keepLongest_116 : decode cX1_keepLongest 116 = .ok (.aload_n 0, 1) := by decide +kernel
theorem dX1_keepLongest_117 : decode cX1_keepLongest 117 = .ok (.iload 7, 2) := by decide +kernel
theorem dX1_keepLongest_119 : decode cX1_keepLongest 119 = .ok (.putfield 34, 3) := by decide +kernel
theorem dX1_keepLongest_122 : decode cX1_keepLongest 122 = .ok (.aload_n 0, 1) := by decide +kernel
theorem dX1_keepLongest_123 : decode cX1_keepLongest 123 = .ok (.iload 6, 2) := by decide +kernel
theorem dX1_keepLongest_125 : decode cX1_keepLongest 125 = .ok (.putfield 37, 3) := by decide +kernel
theorem dX1_keepLongest_128 : decode cX1_keepLongest 128 = .ok (.iinc 6 1, 3) := by decide +kernel
theorem dX1_keepLongest_131 : decode cX1_keepLongest 131 = .ok (.goto (-99), 3) := by decide +kernel
theorem dX1_keepLongest_134 : decode cX1_keepLongest 134 = .ok (.return_, 1) := by decide +kernel
theorem dX1_ticksOfBlind_0 : decode cX1_ticksOfBlind 0 = .ok (.iload_n 1, 1) := by decide +kernel
theorem dX1_ticksOfBlind_1 : decode cX1_ticksOfBlind 1 = .ok (.istore_n 3, 1) := by decide +kernel
theorem dX1_ticksOfBlind_2 : decode cX1_ticksOfBlind 2 = .ok (.iload_n 2, 1) := by decide +kernel
theorem dX1_ticksOfBlind_3 : decode cX1_ticksOfBlind 3 = .ok (.istore 4, 2) := by decide +kernel
theorem dX1_ticksOfBlind_5 : decode cX1_ticksOfBlind 5 = .ok (.iconst 1, 1) := by decide +kernel
theorem dX1_ticksOfBlind_6 : decode cX1_ticksOfBlind 6 = .ok (.istore 5, 2) := by decide +kernel
theorem dX1_ticksOfBlind_8 : decode cX1_ticksOfBlind 8 = .ok (.iload 5, 2) := by decide +kernel
theorem dX1_ticksOfBlind_10 : decode cX1_ticksOfBlind 10 = .ok (.sipush 200, 3) := by decide +kernel
theorem dX1_ticksOfBlind_13 : decode cX1_ticksOfBlind 13 = .ok (.if_icmp .gt 49, 3) := by decide +kernel
theorem dX1_ticksOfBlind_16 : decode cX1_ticksOfBlind 16 = .ok (.aload_n 0, 1) := by decide +kernel
theorem dX1_ticksOfBlind_17 : decode cX1_ticksOfBlind 17 = .ok (.aload_n 0, 1) := by decide +kernel
theorem dX1_ticksOfBlind_18 : decode cX1_ticksOfBlind 18 = .ok (.getfield 43, 3) := by decide +kernel
theorem dX1_ticksOfBlind_21 : decode cX1_ticksOfBlind 21 = .ok (.iload_n 3, 1) := by decide +kernel
theorem dX1_ticksOfBlind_22 : decode cX1_ticksOfBlind 22 = .ok (.iload 4, 2) := by decide +kernel
theorem dX1_ticksOfBlind_24 : decode cX1_ticksOfBlind 24 = .ok (.invokevirtual 142, 3) := by decide +kernel
theorem dX1_ticksOfBlind_27 : decode cX1_ticksOfBlind 27 = .ok (.istore 4, 2) := by decide +kernel
theorem dX1_ticksOfBlind_29 : decode cX1_ticksOfBlind 29 = .ok (.iload 4, 2) := by decide +kernel
theorem dX1_ticksOfBlind_31 : decode cX1_ticksOfBlind 31 = .ok (.bipush (-9), 2) := by decide +kernel
theorem dX1_ticksOfBlind_33 : decode cX1_ticksOfBlind 33 = .ok (.if_icmp .ne 6, 3) := by decide +kernel
theorem dX1_ticksOfBlind_36 : decode cX1_ticksOfBlind 36 = .ok (.bipush (-9), 2) := by decide +kernel
theorem dX1_ticksOfBlind_38 : decode cX1_ticksOfBlind 38 = .ok (.ireturn, 1) := by decide +kernel
theorem dX1_ticksOfBlind_39 : decode cX1_ticksOfBlind 39 = .ok (.aload_n 0, 1) := by decide +kernel
theorem dX1_ticksOfBlind_40 : decode cX1_ticksOfBlind 40 = .ok (.iload_n 3, 1) := by decide +kernel
theorem dX1_ticksOfBlind_41 : decode cX1_ticksOfBlind 41 = .ok (.iload 4, 2) := by decide +kernel
theorem dX1_ticksOfBlind_43 : decode cX1_ticksOfBlind 43 = .ok (.invokevirtual 146, 3) := by decide +kernel
theorem dX1_ticksOfBlind_46 : decode cX1_ticksOfBlind 46 = .ok (.istore_n 3, 1) := by decide +kernel
theorem dX1_ticksOfBlind_47 : decode cX1_ticksOfBlind 47 = .ok (.iload_n 3, 1) := by decide +kernel
theorem dX1_ticksOfBlind_48 : decode cX1_ticksOfBlind 48 = .ok (.bipush (-9), 2) := by decide +kernel
theorem dX1_ticksOfBlind_50 : decode cX1_ticksOfBlind 50 = .ok (.if_icmp .ne 6, 3) := by decide +kernel
theorem dX1_ticksOfBlind_53 : decode cX1_ticksOfBlind 53 = .ok (.iload 5, 2) := by decide +kernel
theorem dX1_ticksOfBlind_55 : decode cX1_ticksOfBlind 55 = .ok (.ireturn, 1) := by decide +kernel
theorem dX1_ticksOfBlind_56 : decode cX1_ticksOfBlind 56 = .ok (.iinc 5 1, 3) := by decide +kernel
theorem dX1_ticksOfBlind_59 : decode cX1_ticksOfBlind 59 = .ok (.goto (-51), 3) := by decide +kernel
theorem dX1_ticksOfBlind_62 : decode cX1_ticksOfBlind 62 = .ok (.bipush (-9), 2) := by decide +kernel
theorem dX1_ticksOfBlind_64 : decode cX1_ticksOfBlind 64 = .ok (.ireturn, 1) := by decide +kernel
theorem dX1_firstOpen_0 : decode cX1_firstOpen 0 = .ok (.iconst 0, 1) := by decide +kernel
theorem dX1_firstOpen_1 : decode cX1_firstOpen 1 = .ok (.istore 4, 2) := by decide +kernel
theorem dX1_firstOpen_3 : decode cX1_firstOpen 3 = .ok (.iload 4, 2) := by decide +kernel
theorem dX1_firstOpen_5 : decode cX1_firstOpen 5 = .ok (.iconst 3, 1) := by decide +kernel
theorem dX1_firstOpen_6 : decode cX1_firstOpen 6 = .ok (.if_icmp .ge 34, 3) := by decide +kernel
theorem dX1_firstOpen_9 : decode cX1_firstOpen 9 = .ok (.iload_n 2, 1) := by decide +kernel
theorem dX1_firstOpen_10 : decode cX1_firstOpen 10 = .ok (.iload_n 3, 1) := by decide +kernel
theorem dX1_firstOpen_11 : decode cX1_firstOpen 11 = .ok (.iload 4, 2) := by decide +kernel
theorem dX1_firstOpen_13 : decode cX1_firstOpen 13 = .ok (.invokestatic 149, 3) := by decide +kernel
theorem dX1_firstOpen_16 : decode cX1_firstOpen 16 = .ok (.istore 5, 2) := by decide +kernel
theorem dX1_firstOpen_18 : decode cX1_firstOpen 18 = .ok (.aload_n 1, 1) := by decide +kernel
theorem dX1_firstOpen_19 : decode cX1_firstOpen 19 = .ok (.aload_n 0, 1) := by decide +kernel
theorem dX1_firstOpen_20 : decode cX1_firstOpen 20 = .ok (.iload_n 2, 1) := by decide +kernel
theorem dX1_firstOpen_21 : decode cX1_firstOpen 21 = .ok (.iload 5, 2) := by decide +kernel
theorem dX1_firstOpen_23 : decode cX1_firstOpen 23 = .ok (.invokevirtual 86, 3) := by decide +kernel
theorem dX1_firstOpen_26 : decode cX1_firstOpen 26 = .ok (.iaload, 1) := by decide +kernel
theorem dX1_firstOpen_27 : decode cX1_firstOpen 27 = .ok (.iconst 2, 1) := by decide +kernel
theorem dX1_firstOpen_28 : decode cX1_firstOpen 28 = .ok (.if_icmp .ne 6, 3) := by decide +kernel
theorem dX1_firstOpen_31 : decode cX1_firstOpen 31 = .ok (.iload 5, 2) := by decide +kernel
theorem dX1_firstOpen_33 : decode cX1_firstOpen 33 = .ok (.ireturn, 1) := by decide +kernel
theorem dX1_firstOpen_34 : decode cX1_firstOpen 34 = .ok (.iinc 4 1, 3) := by decide +kernel
theorem dX1_firstOpen_37 : decode cX1_firstOpen 37 = .ok (.goto (-34), 3) := by decide +kernel
theorem dX1_firstOpen_40 : decode cX1_firstOpen 40 = .ok (.bipush (-9), 2) := by decide +kernel
theorem dX1_firstOpen_42 : decode cX1_firstOpen 42 = .ok (.ireturn, 1) := by decide +kernel
theorem dX1_handWay_0 : decode cX1_handWay 0 = .ok (.iload_n 0, 1) := by decide +kernel
theorem dX1_handWay_1 : decode cX1_handWay 1 = .ok (.iconst 2, 1) := by decide +kernel
theorem dX1_handWay_2 : decode cX1_handWay 2 = .ok (.irem, 1) := by decide +kernel
theorem dX1_handWay_3 : decode cX1_handWay 3 = .ok (.ifCond .ne 11, 3) := by decide +kernel
theorem dX1_handWay_6 : decode cX1_handWay 6 = .ok (.iload_n 1, 1) := by decide +kernel
theorem dX1_handWay_7 : decode cX1_handWay 7 = .ok (.iconst 1, 1) := by decide +kernel
theorem dX1_handWay_8 : decode cX1_handWay 8 = .ok (.iadd, 1) := by decide +kernel
theorem dX1_handWay_9 : decode cX1_handWay 9 = .ok (.iload_n 2, 1) := by decide +kernel
theorem dX1_handWay_10 : decode cX1_handWay 10 = .ok (.iadd, 1) := by decide +kernel
theorem dX1_handWay_11 : decode cX1_handWay 11 = .ok (.goto 8, 3) := by decide +kernel
theorem dX1_handWay_14 : decode cX1_handWay 14 = .ok (.iload_n 1, 1) := by decide +kernel
theorem dX1_handWay_15 : decode cX1_handWay 15 = .ok (.iconst 2, 1) := by decide +kernel
theorem dX1_handWay_16 : decode cX1_handWay 16 = .ok (.iadd, 1) := by decide +kernel
theorem dX1_handWay_17 : decode cX1_handWay 17 = .ok (.iload_n 2, 1) := by decide +kernel
theorem dX1_handWay_18 : decode cX1_handWay 18 = .ok (.isub, 1) := by decide +kernel
theorem dX1_handWay_19 : decode cX1_handWay 19 = .ok (.iconst 3, 1) := by decide +kernel
theorem dX1_handWay_20 : decode cX1_handWay 20 = .ok (.irem, 1) := by decide +kernel
theorem dX1_handWay_21 : decode cX1_handWay 21 = .ok (.ireturn, 1) := by decide +kernel
theorem dX1_isFairWith_0 : decode cX1_isFairWith 0 = .ok (.aload_n 0, 1) := by decide +kernel
theorem dX1_isFairWith_1 : decode cX1_isFairWith 1 = .ok (.getfield 9, 3) := by decide +kernel
theorem dX1_isFairWith_4 : decode cX1_isFairWith 4 = .ok (.iconst 0, 1) := by decide +kernel
theorem dX1_isFairWith_5 : decode cX1_isFairWith 5 = .ok (.aload_n 0, 1) := by decide +kernel
theorem dX1_isFairWith_6 : decode cX1_isFairWith 6 = .ok (.getfield 43, 3) := by decide +kernel
theorem dX1_isFairWith_9 : decode cX1_isFairWith 9 = .ok (.iconst 0, 1) := by decide +kernel
theorem dX1_isFairWith_10 : decode cX1_isFairWith 10 = .ok (.aload_n 0, 1) := by decide +kernel
theorem dX1_isFairWith_11 : decode cX1_isFairWith 11 = .ok (.getfield 68, 3) := by decide +kernel
theorem dX1_isFairWith_14 : decode cX1_isFairWith 14 = .ok (.invokestatic 117, 3) := by decide +kernel
theorem dX1_isFairWith_17 : decode cX1_isFairWith 17 = .ok (.iconst 0, 1) := by decide +kernel
theorem dX1_isFairWith_18 : decode cX1_isFairWith 18 = .ok (.istore 5, 2) := by decide +kernel
theorem dX1_isFairWith_20 : decode cX1_isFairWith 20 = .ok (.iload 5, 2) := by decide +kernel
theorem dX1_isFairWith_22 : decode cX1_isFairWith 22 = .ok (.iload_n 3, 1) := by decide +kernel
theorem dX1_isFairWith_23 : decode cX1_isFairWith 23 = .ok (.if_icmp .ge 38, 3) := by decide +kernel
theorem dX1_isFairWith_26 : decode cX1_isFairWith 26 = .ok (.iload 4, 2) := by decide +kernel
theorem dX1_isFairWith_28 : decode cX1_isFairWith 28 = .ok (.iload 5, 2) := by decide +kernel
theorem dX1_isFairWith_30 : decode cX1_isFairWith 30 = .ok (.ishr, 1) := by decide +kernel
theorem dX1_isFairWith_31 : decode cX1_isFairWith 31 = .ok (.iconst 1, 1) := by decide +kernel
theorem dX1_isFairWith_32 : decode cX1_isFairWith 32 = .ok (.iand, 1) := by decide +kernel
theorem dX1_isFairWith_33 : decode cX1_isFairWith 33 = .ok (.iconst 1, 1) := by decide +kernel
theorem dX1_isFairWith_34 : decode cX1_isFairWith 34 = .ok (.if_icmp .ne 21, 3) := by decide +kernel
theorem dX1_isFairWith_37 : decode cX1_isFairWith 37 = .ok (.aload_n 0, 1) := by decide +kernel
theorem dX1_isFairWith_38 : decode cX1_isFairWith 38 = .ok (.getfield 43, 3) := by decide +kernel
theorem dX1_isFairWith_41 : decode cX1_isFairWith 41 = .ok (.aload_n 2, 1) := by decide +kernel
theorem dX1_isFairWith_42 : decode cX1_isFairWith 42 = .ok (.iload 5, 2) := by decide +kernel
theorem dX1_isFairWith_44 : decode cX1_isFairWith 44 = .ok (.iaload, 1) := by decide +kernel
theorem dX1_isFairWith_45 : decode cX1_isFairWith 45 = .ok (.aload_n 1, 1) := by decide +kernel
theorem dX1_isFairWith_46 : decode cX1_isFairWith 46 = .ok (.getfield 9, 3) := by decide +kernel
theorem dX1_isFairWith_49 : decode cX1_isFairWith 49 = .ok (.aload_n 2, 1) := by decide +kernel
theorem dX1_isFairWith_50 : decode cX1_isFairWith 50 = .ok (.iload 5, 2) := by decide +kernel
theorem dX1_isFairWith_52 : decode cX1_isFairWith 52 = .ok (.iaload, 1) := by decide +kernel
theorem dX1_isFairWith_53 : decode cX1_isFairWith 53 = .ok (.iaload, 1) := by decide +kernel
theorem dX1_isFairWith_54 : decode cX1_isFairWith 54 = .ok (.iastore, 1) := by decide +kernel
theorem dX1_isFairWith_55 : decode cX1_isFairWith 55 = .ok (.iinc 5 1, 3) := by decide +kernel
theorem dX1_isFairWith_58 : decode cX1_isFairWith 58 = .ok (.goto (-38), 3) := by decide +kernel
theorem dX1_isFairWith_61 : decode cX1_isFairWith 61 = .ok (.aload_n 0, 1) := by decide +kernel
theorem dX1_isFairWith_62 : decode cX1_isFairWith 62 = .ok (.invokevirtual 135, 3) := by decide +kernel
theorem dX1_isFairWith_65 : decode cX1_isFairWith 65 = .ok (.ireturn, 1) := by decide +kernel
theorem dX2_init_0 : decode cX2_init 0 = .ok (.aload_n 0, 1) := by decide +kernel
theorem dX2_init_1 : decode cX2_init 1 = .ok (.invokespecial 1, 3) := by decide +kernel
theorem dX2_init_4 : decode cX2_init 4 = .ok (.aload_n 0, 1) := by decide +kernel
theorem dX2_init_5 : decode cX2_init 5 = .ok (.iload_n 1, 1) := by decide +kernel
theorem dX2_init_6 : decode cX2_init 6 = .ok (.putfield 7, 3) := by decide +kernel
theorem dX2_init_9 : decode cX2_init 9 = .ok (.aload_n 0, 1) := by decide +kernel
theorem dX2_init_10 : decode cX2_init 10 = .ok (.iload_n 2, 1) := by decide +kernel
theorem dX2_init_11 : decode cX2_init 11 = .ok (.putfield 13, 3) := by decide +kernel
theorem dX2_init_14 : decode cX2_init 14 = .ok (.aload_n 0, 1) := by decide +kernel
theorem dX2_init_15 : decode cX2_init 15 = .ok (.iload_n 3, 1) := by decide +kernel
theorem dX2_init_16 : decode cX2_init 16 = .ok (.putfield 16, 3) := by decide +kernel
theorem dX2_init_19 : decode cX2_init 19 = .ok (.aload_n 0, 1) := by decide +kernel
theorem dX2_init_20 : decode cX2_init 20 = .ok (.iload 4, 2) := by decide +kernel
theorem dX2_init_22 : decode cX2_init 22 = .ok (.putfield 19, 3) := by decide +kernel
theorem dX2_init_25 : decode cX2_init 25 = .ok (.aload_n 0, 1) := by decide +kernel
theorem dX2_init_26 : decode cX2_init 26 = .ok (.iload 5, 2) := by decide +kernel
theorem dX2_init_28 : decode cX2_init 28 = .ok (.putfield 22, 3) := by decide +kernel
theorem dX2_init_31 : decode cX2_init 31 = .ok (.return_, 1) := by decide +kernel
theorem dX3_init_0 : decode cX3_init 0 = .ok (.aload_n 0, 1) := by decide +kernel
theorem dX3_init_1 : decode cX3_init 1 = .ok (.invokespecial 3, 3) := by decide +kernel
theorem dX3_init_4 : decode cX3_init 4 = .ok (.aload_n 0, 1) := by decide +kernel
theorem dX3_init_5 : decode cX3_init 5 = .ok (.bipush 60, 2) := by decide +kernel
theorem dX3_init_7 : decode cX3_init 7 = .ok (.newarray .int, 2) := by decide +kernel
theorem dX3_init_9 : decode cX3_init 9 = .ok (.putfield 9, 3) := by decide +kernel
theorem dX3_init_12 : decode cX3_init 12 = .ok (.aload_n 0, 1) := by decide +kernel
theorem dX3_init_13 : decode cX3_init 13 = .ok (.bipush (-9), 2) := by decide +kernel
theorem dX3_init_15 : decode cX3_init 15 = .ok (.putfield 15, 3) := by decide +kernel
theorem dX3_init_18 : decode cX3_init 18 = .ok (.aload_n 0, 1) := by decide +kernel
theorem dX3_init_19 : decode cX3_init 19 = .ok (.iconst 0, 1) := by decide +kernel
theorem dX3_init_20 : decode cX3_init 20 = .ok (.putfield 19, 3) := by decide +kernel
theorem dX3_init_23 : decode cX3_init 23 = .ok (.return_, 1) := by decide +kernel
theorem dX3_renew_0 : decode cX3_renew 0 = .ok (.aload_n 0, 1) := by decide +kernel
theorem dX3_renew_1 : decode cX3_renew 1 = .ok (.iload_n 1, 1) := by decide +kernel
theorem dX3_renew_2 : decode cX3_renew 2 = .ok (.putfield 15, 3) := by decide +kernel
theorem dX3_renew_5 : decode cX3_renew 5 = .ok (.aload_n 0, 1) := by decide +kernel
theorem dX3_renew_6 : decode cX3_renew 6 = .ok (.iload_n 2, 1) := by decide +kernel
theorem dX3_renew_7 : decode cX3_renew 7 = .ok (.putfield 19, 3) := by decide +kernel
theorem dX3_renew_10 : decode cX3_renew 10 = .ok (.aload_n 0, 1) := by decide +kernel
theorem dX3_renew_11 : decode cX3_renew 11 = .ok (.getfield 9, 3) := by decide +kernel
theorem dX3_renew_14 : decode cX3_renew 14 = .ok (.iconst 0, 1) := by decide +kernel
theorem dX3_renew_15 : decode cX3_renew 15 = .ok (.invokestatic 22, 3) := by decide +kernel
theorem dX3_renew_18 : decode cX3_renew 18 = .ok (.return_, 1) := by decide +kernel
theorem dX3_isNothing_0 : decode cX3_isNothing 0 = .ok (.aload_n 0, 1) := by decide +kernel
theorem dX3_isNothing_1 : decode cX3_isNothing 1 = .ok (.getfield 15, 3) := by decide +kernel
theorem dX3_isNothing_4 : decode cX3_isNothing 4 = .ok (.bipush (-9), 2) := by decide +kernel
theorem dX3_isNothing_6 : decode cX3_isNothing 6 = .ok (.if_icmp .ne 7, 3) := by decide +kernel
theorem dX3_isNothing_9 : decode cX3_isNothing 9 = .ok (.iconst 1, 1) := by decide +kernel
theorem dX3_isNothing_10 : decode cX3_isNothing 10 = .ok (.goto 4, 3) := by decide +kernel
theorem dX3_isNothing_13 : decode cX3_isNothing 13 = .ok (.iconst 0, 1) := by decide +kernel
theorem dX3_isNothing_14 : decode cX3_isNothing 14 = .ok (.ireturn, 1) := by decide +kernel
theorem dX3_canBe_0 : decode cX3_canBe 0 = .ok (.aload_n 0, 1) := by decide +kernel
theorem dX3_canBe_1 : decode cX3_canBe 1 = .ok (.invokevirtual 28, 3) := by decide +kernel
theorem dX3_canBe_4 : decode cX3_canBe 4 = .ok (.ifCond .ne 11, 3) := by decide +kernel
theorem dX3_canBe_7 : decode cX3_canBe 7 = .ok (.aload_n 0, 1) := by decide +kernel
theorem dX3_canBe_8 : decode cX3_canBe 8 = .ok (.getfield 15, 3) := by decide +kernel
theorem dX3_canBe_11 : decode cX3_canBe 11 = .ok (.iload_n 1, 1) := by decide +kernel
theorem dX3_canBe_12 : decode cX3_canBe 12 = .ok (.if_icmp .ne 7, 3) := by decide +kernel
theorem dX3_canBe_15 : decode cX3_canBe 15 = .ok (.iconst 1, 1) := by decide +kernel
theorem dX3_canBe_16 : decode cX3_canBe 16 = .ok (.goto 4, 3) := by decide +kernel
theorem dX3_canBe_19 : decode cX3_canBe 19 = .ok (.iconst 0, 1) := by decide +kernel
theorem dX3_canBe_20 : decode cX3_canBe 20 = .ok (.ireturn, 1) := by decide +kernel
theorem dX3_hasCells_0 : decode cX3_hasCells 0 = .ok (.iload_n 1, 1) := by decide +kernel
theorem dX3_hasCells_1 : decode cX3_hasCells 1 = .ok (.ifCond .lt 25, 3) := by decide +kernel
theorem dX3_hasCells_4 : decode cX3_hasCells 4 = .ok (.iload_n 1, 1) := by decide +kernel
theorem dX3_hasCells_5 : decode cX3_hasCells 5 = .ok (.aload_n 0, 1) := by decide +kernel
theorem dX3_hasCells_6 : decode cX3_hasCells 6 = .ok (.getfield 19, 3) := by decide +kernel
theorem dX3_hasCells_9 : decode cX3_hasCells 9 = .ok (.if_icmp .gt 17, 3) := by decide +kernel
theorem dX3_hasCells_12 : decode cX3_hasCells 12 = .ok (.iload_n 2, 1) := by decide +kernel
theorem dX3_hasCells_13 : decode cX3_hasCells 13 = .ok (.aload_n 0, 1) := by decide +kernel
theorem dX3_hasCells_14 : decode cX3_hasCells 14 = .ok (.getfield 19, 3) := by decide +kernel
theorem dX3_hasCells_17 : decode cX3_hasCells 17 = .ok (.iload_n 1, 1) := by decide +kernel
theorem dX3_hasCells_18 : decode cX3_hasCells 18 = .ok (.isub, 1) := by decide +kernel
theorem dX3_hasCells_19 : decode cX3_hasCells 19 = .ok (.if_icmp .gt 7, 3) := by decide +kernel
theorem dX3_hasCells_22 : decode cX3_hasCells 22 = .ok (.iconst 1, 1) := by decide +kernel
theorem dX3_hasCells_23 : decode cX3_hasCells 23 = .ok (.goto 4, 3) := by decide +kernel
theorem dX3_hasCells_26 : decode cX3_hasCells 26 = .ok (.iconst 0, 1) := by decide +kernel
theorem dX3_hasCells_27 : decode cX3_hasCells 27 = .ok (.ireturn, 1) := by decide +kernel
theorem dX3_cut_0 : decode cX3_cut 0 = .ok (.aload_n 0, 1) := by decide +kernel
theorem dX3_cut_1 : decode cX3_cut 1 = .ok (.getfield 15, 3) := by decide +kernel
theorem dX3_cut_4 : decode cX3_cut 4 = .ok (.ifCond .ne 6, 3) := by decide +kernel
theorem dX3_cut_7 : decode cX3_cut 7 = .ok (.iload_n 1, 1) := by decide +kernel
theorem dX3_cut_8 : decode cX3_cut 8 = .ok (.i2b, 1) := by decide +kernel
theorem dX3_cut_9 : decode cX3_cut 9 = .ok (.ireturn, 1) := by decide +kernel
theorem dX3_cut_10 : decode cX3_cut 10 = .ok (.aload_n 0, 1) := by decide +kernel
theorem dX3_cut_11 : decode cX3_cut 11 = .ok (.getfield 15, 3) := by decide +kernel
theorem dX3_cut_14 : decode cX3_cut 14 = .ok (.iconst 1, 1) := by decide +kernel
theorem dX3_cut_15 : decode cX3_cut 15 = .ok (.if_icmp .ne 8, 3) := by decide +kernel
theorem dX3_cut_18 : decode cX3_cut 18 = .ok (.iload_n 1, 1) := by decide +kernel
theorem dX3_cut_19 : decode cX3_cut 19 = .ok (.i2s, 1) := by decide +kernel
theorem dX3_cut_20 : decode cX3_cut 20 = .ok (.goto 4, 3) := by decide +kernel
theorem dX3_cut_23 : decode cX3_cut 23 = .ok (.iload_n 1, 1) := by decide +kernel
theorem dX3_cut_24 : decode cX3_cut 24 = .ok (.ireturn, 1) := by decide +kernel
theorem dX3_faultOfRow_0 : decode cX3_faultOfRow 0 = .ok (.aload_n 0, 1) := by decide +kernel
theorem dX3_faultOfRow_1 : decode cX3_faultOfRow 1 = .ok (.iload_n 1, 1) := by decide +kernel
theorem dX3_faultOfRow_2 : decode cX3_faultOfRow 2 = .ok (.invokevirtual 32, 3) := by decide +kernel
theorem dX3_faultOfRow_5 : decode cX3_faultOfRow 5 = .ok (.ifCond .ne 5, 3) := by decide +kernel
theorem dX3_faultOfRow_8 : decode cX3_faultOfRow 8 = .ok (.iconst 2, 1) := by decide +kernel
theorem dX3_faultOfRow_9 : decode cX3_faultOfRow 9 = .ok (.ireturn, 1) := by decide +kernel
theorem dX3_faultOfRow_10 : decode cX3_faultOfRow 10 = .ok (.aload_n 0, 1) := by decide +kernel
theorem dX3_faultOfRow_11 : decode cX3_faultOfRow 11 = .ok (.invokevirtual 28, 3) := by decide +kernel
theorem dX3_faultOfRow_14 : decode cX3_faultOfRow 14 = .ok (.ifCond .eq 5, 3) := by decide +kernel
theorem dX3_faultOfRow_17 : decode cX3_faultOfRow 17 = .ok (.iconst 1, 1) := by decide +kernel
theorem dX3_faultOfRow_18 : decode cX3_faultOfRow 18 = .ok (.ireturn, 1) := by decide +kernel
theorem dX3_faultOfRow_19 : decode cX3_faultOfRow 19 = .ok (.iload_n 3, 1) := by decide +kernel
theorem dX3_faultOfRow_20 : decode cX3_faultOfRow 20 = .ok (.ifCond .ge 5, 3) := by decide +kernel
theorem dX3_faultOfRow_23 : decode cX3_faultOfRow 23 = .ok (.iconst 4, 1) := by decide +kernel
theorem dX3_faultOfRow_24 : decode cX3_faultOfRow 24 = .ok (.ireturn, 1) := by decide +kernel
theorem dX3_faultOfRow_25 : decode cX3_faultOfRow 25 = .ok (.aload_n 0, 1) := by decide +kernel
theorem dX3_faultOfRow_26 : decode cX3_faultOfRow 26 = .ok (.iload_n 2, 1) := by decide +kernel
theorem dX3_faultOfRow_27 : decode cX3_faultOfRow 27 = .ok (.iload_n 3, 1) := by decide +kernel
theorem dX3_faultOfRow_28 : decode cX3_faultOfRow 28 = .ok (.invokevirtual 36, 3) := by decide +kernel
theorem dX3_faultOfRow_31 : decode cX3_faultOfRow 31 = .ok (.ifCond .eq 7, 3) := by decide +kernel
theorem dX3_faultOfRow_34 : decode cX3_faultOfRow 34 = .ok (.iconst 0, 1) := by decide +kernel
theorem dX3_faultOfRow_35 : decode cX3_faultOfRow 35 = .ok (.goto 4, 3) := by decide +kernel
theorem dX3_faultOfRow_38 : decode cX3_faultOfRow 38 = .ok (.iconst 3, 1) := by decide +kernel
theorem dX3_faultOfRow_39 : decode cX3_faultOfRow 39 = .ok (.ireturn, 1) := by decide +kernel
theorem dX4_init_0 : decode cX4_init 0 = .ok (.aload_n 0, 1) := by decide +kernel
theorem dX4_init_1 : decode cX4_init 1 = .ok (.invokespecial 3, 3) := by decide +kernel
theorem dX4_init_4 : decode cX4_init 4 = .ok (.aload_n 0, 1) := by decide +kernel
theorem dX4_init_5 : decode cX4_init 5 = .ok (.iconst 3, 1) := by decide +kernel
theorem dX4_init_6 : decode cX4_init 6 = .ok (.newarray .int, 2) := by decide +kernel
theorem dX4_init_8 : decode cX4_init 8 = .ok (.putfield 9, 3) := by decide +kernel
theorem dX4_init_11 : decode cX4_init 11 = .ok (.aload_n 0, 1) := by decide +kernel
theorem dX4_init_12 : decode cX4_init 12 = .ok (.iconst 3, 1) := by decide +kernel
theorem dX4_init_13 : decode cX4_init 13 = .ok (.newarray .int, 2) := by decide +kernel
theorem dX4_init_15 : decode cX4_init 15 = .ok (.putfield 15, 3) := by decide +kernel
theorem dX4_init_18 : decode cX4_init 18 = .ok (.aload_n 0, 1) := by decide +kernel
theorem dX4_init_19 : decode cX4_init 19 = .ok (.iconst 3, 1) := by decide +kernel
theorem dX4_init_20 : decode cX4_init 20 = .ok (.newarray .int, 2) := by decide +kernel
theorem dX4_init_22 : decode cX4_init 22 = .ok (.putfield 18, 3) := by decide +kernel
theorem dX4_init_25 : decode cX4_init 25 = .ok (.return_, 1) := by decide +kernel
theorem dX4_look_0 : decode cX4_look 0 = .ok (.aload_n 0, 1) := by decide +kernel
theorem dX4_look_1 : decode cX4_look 1 = .ok (.iload_n 2, 1) := by decide +kernel
theorem dX4_look_2 : decode cX4_look 2 = .ok (.iload_n 3, 1) := by decide +kernel
theorem dX4_look_3 : decode cX4_look 3 = .ok (.iload 4, 2) := by decide +kernel
theorem dX4_look_5 : decode cX4_look 5 = .ok (.invokevirtual 21, 3) := by decide +kernel
theorem dX4_look_8 : decode cX4_look 8 = .ok (.iconst 0, 1) := by decide +kernel
theorem dX4_look_9 : decode cX4_look 9 = .ok (.istore 6, 2) := by decide +kernel
theorem dX4_look_11 : decode cX4_look 11 = .ok (.iload 6, 2) := by decide +kernel
theorem dX4_look_13 : decode cX4_look 13 = .ok (.iload 5, 2) := by decide +kernel
theorem dX4_look_15 : decode cX4_look 15 = .ok (.if_icmp .ge 22, 3) := by decide +kernel
theorem dX4_look_18 : decode cX4_look 18 = .ok (.aload_n 0, 1) := by decide +kernel
theorem dX4_look_19 : decode cX4_look 19 = .ok (.getfield 25, 3) := by decide +kernel
theorem dX4_look_22 : decode cX4_look 22 = .ok (.iconst 2, 1) := by decide +kernel
theorem dX4_look_23 : decode cX4_look 23 = .ok (.if_icmp .ne 14, 3) := by decide +kernel
theorem dX4_look_26 : decode cX4_look 26 = .ok (.aload_n 0, 1) := by decide +kernel
theorem dX4_look_27 : decode cX4_look 27 = .ok (.aload_n 1, 1) := by decide +kernel
theorem dX4_look_28 : decode cX4_look 28 = .ok (.invokevirtual 29, 3) := by decide +kernel
theorem dX4_look_31 : decode cX4_look 31 = .ok (.iinc 6 1, 3) := by decide +kernel
theorem dX4_look_34 : decode cX4_look 34 = .ok (.goto (-23), 3) := by decide +kernel
theorem dX4_look_37 : decode cX4_look 37 = .ok (.return_, 1) := by decide +kernel
theorem dX4_setOut_0 : decode cX4_setOut 0 = .ok (.aload_n 0, 1) := by decide +kernel
theorem dX4_setOut_1 : decode cX4_setOut 1 = .ok (.iconst 2, 1) := by decide +kernel
theorem dX4_setOut_2 : decode cX4_setOut 2 = .ok (.putfield 25, 3) := by decide +kernel
theorem dX4_setOut_5 : decode cX4_setOut 5 = .ok (.aload_n 0, 1) := by decide +kernel
theorem dX4_setOut_6 : decode cX4_setOut 6 = .ok (.iconst 0, 1) := by decide +kernel
theorem dX4_setOut_7 : decode cX4_setOut 7 = .ok (.putfield 33, 3) := by decide +kernel
theorem dX4_setOut_10 : decode cX4_setOut 10 = .ok (.aload_n 0, 1) := by decide +kernel
theorem dX4_setOut_11 : decode cX4_setOut 11 = .ok (.iconst 0, 1) := by decide +kernel
theorem dX4_setOut_12 : decode cX4_setOut 12 = .ok (.putfield 36, 3) := by decide +kernel
theorem dX4_setOut_15 : decode cX4_setOut 15 = .ok (.aload_n 0, 1) := by decide +kernel
theorem dX4_setOut_16 : decode cX4_setOut 16 = .ok (.iload_n 1, 1) := by decide +kernel
theorem dX4_setOut_17 : decode cX4_setOut 17 = .ok (.putfield 39, 3) := by decide +kernel
theorem dX4_setOut_20 : decode cX4_setOut 20 = .ok (.aload_n 0, 1) := by decide +kernel
theorem dX4_setOut_21 : decode cX4_setOut 21 = .ok (.bipush (-9), 2) := by decide +kernel
theorem dX4_setOut_23 : decode cX4_setOut 23 = .ok (.putfield 42, 3) := by decide +kernel
theorem dX4_setOut_26 : decode cX4_setOut 26 = .ok (.iload_n 1, 1) := by decide +kernel
theorem dX4_setOut_27 : decode cX4_setOut 27 = .ok (.invokestatic 45, 3) := by decide +kernel
theorem dX4_setOut_30 : decode cX4_setOut 30 = .ok (.istore 4, 2) := by decide +kernel
theorem dX4_setOut_32 : decode cX4_setOut 32 = .ok (.aload_n 0, 1) := by decide +kernel
theorem dX4_setOut_33 : decode cX4_setOut 33 = .ok (.iconst 0, 1) := by decide +kernel
theorem dX4_setOut_34 : decode cX4_setOut 34 = .ok (.iload 4, 2) := by decide +kernel
theorem dX4_setOut_36 : decode cX4_setOut 36 = .ok (.iload_n 3, 1) := by decide +kernel
theorem dX4_setOut_37 : decode cX4_setOut 37 = .ok (.invokevirtual 49, 3) := by decide +kernel
theorem dX4_setOut_40 : decode cX4_setOut 40 = .ok (.aload_n 0, 1) := by decide +kernel
theorem dX4_setOut_41 : decode cX4_setOut 41 = .ok (.iconst 1, 1) := by decide +kernel
theorem dX4_setOut_42 : decode cX4_setOut 42 = .ok (.iload 4, 2) := by decide +kernel
theorem dX4_setOut_44 : decode cX4_setOut 44 = .ok (.iload_n 2, 1) := by decide +kernel
theorem dX4_setOut_45 : decode cX4_setOut 45 = .ok (.invokevirtual 49, 3) := by decide +kernel
theorem dX4_setOut_48 : decode cX4_setOut 48 = .ok (.aload_n 0, 1) := by decide +kernel
theorem dX4_setOut_49 : decode cX4_setOut 49 = .ok (.iconst 2, 1) := by decide +kernel
theorem dX4_setOut_50 : decode cX4_setOut 50 = .ok (.iconst 2, 1) := by decide +kernel
theorem dX4_setOut_51 : decode cX4_setOut 51 = .ok (.iload 4, 2) := by decide +kernel
theorem dX4_setOut_53 : decode cX4_setOut 53 = .ok (.imul, 1) := by decide +kernel
theorem dX4_setOut_54 : decode cX4_setOut 54 = .ok (.iload_n 2, 1) := by decide +kernel
theorem dX4_setOut_55 : decode cX4_setOut 55 = .ok (.iload_n 3, 1) := by decide +kernel
theorem dX4_setOut_56 : decode cX4_setOut 56 = .ok (.iadd, 1) := by decide +kernel
theorem dX4_setOut_57 : decode cX4_setOut 57 = .ok (.invokevirtual 49, 3) := by decide +kernel
theorem dX4_setOut_60 : decode cX4_setOut 60 = .ok (.return_, 1) := by decide +kernel
theorem dX4_thirdsIn_0 : decode cX4_thirdsIn 0 = .ok (.iload_n 0, 1) := by decide +kernel
theorem dX4_thirdsIn_1 : decode cX4_thirdsIn 1 = .ok (.iconst 2, 1) := by decide +kernel
theorem dX4_thirdsIn_2 : decode cX4_thirdsIn 2 = .ok (.irem, 1) := by decide +kernel
theorem dX4_thirdsIn_3 : decode cX4_thirdsIn 3 = .ok (.ifCond .ne 7, 3) := by decide +kernel
theorem dX4_thirdsIn_6 : decode cX4_thirdsIn 6 = .ok (.iconst 1, 1) := by decide +kernel
theorem dX4_thirdsIn_7 : decode cX4_thirdsIn 7 = .ok (.goto 4, 3) := by decide +kernel
theorem dX4_thirdsIn_10 : decode cX4_thirdsIn 10 = .ok (.iconst 2, 1) := by decide +kernel
theorem dX4_thirdsIn_11 : decode cX4_thirdsIn 11 = .ok (.ireturn, 1) := by decide +kernel
theorem dX4_aim_0 : decode cX4_aim 0 = .ok (.iload_n 2, 1) := by decide +kernel
theorem dX4_aim_1 : decode cX4_aim 1 = .ok (.iconst 3, 1) := by decide +kernel
theorem dX4_aim_2 : decode cX4_aim 2 = .ok (.irem, 1) := by decide +kernel
theorem dX4_aim_3 : decode cX4_aim 3 = .ok (.istore 4, 2) := by decide +kernel
theorem dX4_aim_5 : decode cX4_aim 5 = .ok (.aload_n 0, 1) := by decide +kernel
theorem dX4_aim_6 : decode cX4_aim 6 = .ok (.getfield 9, 3) := by decide +kernel
theorem dX4_aim_9 : decode cX4_aim 9 = .ok (.iload_n 1, 1) := by decide +kernel
theorem dX4_aim_10 : decode cX4_aim 10 = .ok (.iload_n 3, 1) := by decide +kernel
theorem dX4_aim_11 : decode cX4_aim 11 = .ok (.ifCond .le 10, 3) := by decide +kernel
theorem dX4_aim_14 : decode cX4_aim 14 = .ok (.iconst 3, 1) := by decide +kernel
theorem dX4_aim_15 : decode cX4_aim 15 = .ok (.iload 4, 2) := by decide +kernel
theorem dX4_aim_17 : decode cX4_aim 17 = .ok (.isub, 1) := by decide +kernel
theorem dX4_aim_18 : decode cX4_aim 18 = .ok (.goto 5, 3) := by decide +kernel
theorem dX4_aim_21 : decode cX4_aim 21 = .ok (.iload 4, 2) := by decide +kernel
theorem dX4_aim_23 : decode cX4_aim 23 = .ok (.iastore, 1) := by decide +kernel
theorem dX4_aim_24 : decode cX4_aim 24 = .ok (.aload_n 0, 1) := by decide +kernel
theorem dX4_aim_25 : decode cX4_aim 25 = .ok (.getfield 15, 3) := by decide +kernel
theorem dX4_aim_28 : decode cX4_aim 28 = .ok (.iload_n 1, 1) := by decide +kernel
theorem dX4_aim_29 : decode cX4_aim 29 = .ok (.iload_n 3, 1) := by decide +kernel
theorem dX4_aim_30 : decode cX4_aim 30 = .ok (.invokestatic 52, 3) := by decide +kernel
theorem dX4_aim_33 : decode cX4_aim 33 = .ok (.iastore, 1) := by decide +kernel
theorem dX4_aim_34 : decode cX4_aim 34 = .ok (.aload_n 0, 1) := by decide +kernel
theorem dX4_aim_35 : decode cX4_aim 35 = .ok (.getfield 18, 3) := by decide +kernel
theorem dX4_aim_38 : decode cX4_aim 38 = .ok (.iload_n 1, 1) := by decide +kernel
theorem dX4_aim_39 : decode cX4_aim 39 = .ok (.iload_n 1, 1) := by decide +kernel
theorem dX4_aim_40 : decode cX4_aim 40 = .ok (.iastore, 1) := by decide +kernel
theorem dX4_aim_41 : decode cX4_aim 41 = .ok (.return_, 1) := by decide +kernel
theorem dX4_goOn_0 : decode cX4_goOn 0 = .ok (.aload_n 0, 1) := by decide +kernel
theorem dX4_goOn_1 : decode cX4_goOn 1 = .ok (.invokevirtual 57, 3) := by decide +kernel
theorem dX4_goOn_4 : decode cX4_goOn 4 = .ok (.istore_n 2, 1) := by decide +kernel
theorem dX4_goOn_5 : decode cX4_goOn 5 = .ok (.iload_n 2, 1) := by decide +kernel
theorem dX4_goOn_6 : decode cX4_goOn 6 = .ok (.bipush (-9), 2) := by decide +kernel
theorem dX4_goOn_8 : decode cX4_goOn 8 = .ok (.if_icmp .ne 9, 3) := by decide +kernel
theorem dX4_goOn_11 : decode cX4_goOn 11 = .ok (.aload_n 0, 1) := by decide +kernel
theorem dX4_goOn_12 : decode cX4_goOn 12 = .ok (.iconst 0, 1) := by decide +kernel
theorem dX4_goOn_13 : decode cX4_goOn 13 = .ok (.putfield 25, 3) := by decide +kernel
theorem dX4_goOn_16 : decode cX4_goOn 16 = .ok (.return_, 1) := by decide +kernel
theorem dX4_goOn_17 : decode cX4_goOn 17 = .ok (.aload_n 0, 1) := by decide +kernel
theorem dX4_goOn_18 : decode cX4_goOn 18 = .ok (.getfield 9, 3) := by decide +kernel
theorem dX4_goOn_21 : decode cX4_goOn 21 = .ok (.iload_n 2, 1) := by decide +kernel
theorem dX4_goOn_22 : decode cX4_goOn 22 = .ok (.dup2, 1) := by decide +kernel
theorem dX4_goOn_23 : decode cX4_goOn 23 = .ok (.iaload, 1) := by decide +kernel
theorem dX4_goOn_24 : decode cX4_goOn 24 = .ok (.iconst 3, 1) := by decide +kernel
theorem dX4_goOn_25 : decode cX4_goOn 25 = .ok (.iadd, 1) := by decide +kernel
theorem dX4_goOn_26 : decode cX4_goOn 26 = .ok (.iastore, 1) := by decide +kernel
theorem dX4_goOn_27 : decode cX4_goOn 27 = .ok (.aload_n 0, 1) := by decide +kernel
theorem dX4_goOn_28 : decode cX4_goOn 28 = .ok (.dup, 1) := by decide +kernel
theorem dX4_goOn_29 : decode cX4_goOn 29 = .ok (.getfield 33, 3) := by decide +kernel
theorem dX4_goOn_32 : decode cX4_goOn 32 = .ok (.iconst 1, 1) := by decide +kernel
theorem dX4_goOn_33 : decode cX4_goOn 33 = .ok (.iadd, 1) := by decide +kernel
theorem dX4_goOn_34 : decode cX4_goOn 34 = .ok (.putfield 33, 3) := by decide +kernel
theorem dX4_goOn_37 : decode cX4_goOn 37 = .ok (.aload_n 0, 1) := by decide +kernel
theorem dX4_goOn_38 : decode cX4_goOn 38 = .ok (.aload_n 1, 1) := by decide +kernel
theorem dX4_goOn_39 : decode cX4_goOn 39 = .ok (.aload_n 0, 1) := by decide +kernel
theorem dX4_goOn_40 : decode cX4_goOn 40 = .ok (.getfield 39, 3) := by decide +kernel
theorem dX4_goOn_43 : decode cX4_goOn 43 = .ok (.aload_n 0, 1) := by decide +kernel
theorem dX4_goOn_44 : decode cX4_goOn 44 = .ok (.getfield 18, 3) := by decide +kernel
theorem dX4_goOn_47 : decode cX4_goOn 47 = .ok (.iload_n 2, 1) := by decide +kernel
theorem dX4_goOn_48 : decode cX4_goOn 48 = .ok (.iaload, 1) := by decide +kernel
theorem dX4_goOn_49 : decode cX4_goOn 49 = .ok (.invokevirtual 61, 3) := by decide +kernel
theorem dX4_goOn_52 : decode cX4_goOn 52 = .ok (.putfield 42, 3) := by decide +kernel
theorem dX4_goOn_55 : decode cX4_goOn 55 = .ok (.aload_n 1, 1) := by decide +kernel
theorem dX4_goOn_56 : decode cX4_goOn 56 = .ok (.getfield 67, 3) := by decide +kernel
theorem dX4_goOn_59 : decode cX4_goOn 59 = .ok (.aload_n 0, 1) := by decide +kernel
theorem dX4_goOn_60 : decode cX4_goOn 60 = .ok (.getfield 42, 3) := by decide +kernel
theorem dX4_goOn_63 : decode cX4_goOn 63 = .ok (.iaload, 1) := by decide +kernel
theorem dX4_goOn_64 : decode cX4_goOn 64 = .ok (.ifCond .ne 19, 3) := by decide +kernel
theorem dX4_goOn_67 : decode cX4_goOn 67 = .ok (.aload_n 0, 1) := by decide +kernel
theorem dX4_goOn_68 : decode cX4_goOn 68 = .ok (.dup, 1) := by decide +kernel
theorem dX4_goOn_69 : decode cX4_goOn 69 = .ok (.getfield 36, 3) := by decide +kernel
theorem dX4_goOn_72 : decode cX4_goOn 72 = .ok (.iconst 1, 1) := by decide +kernel
theorem dX4_goOn_73 : decode cX4_goOn 73 = .ok (.iadd, 1) := by decide +kernel
theorem dX4_goOn_74 : decode cX4_goOn 74 = .ok (.putfield 36, 3) := by decide +kernel
theorem dX4_goOn_77 : decode cX4_goOn 77 = .ok (.aload_n 0, 1) := by decide +kernel
theorem dX4_goOn_78 : decode cX4_goOn 78 = .ok (.iload_n 2, 1) := by decide +kernel
theorem dX4_goOn_79 : decode cX4_goOn 79 = .ok (.invokevirtual 70, 3) := by decide +kernel
theorem dX4_goOn_82 : decode cX4_goOn 82 = .ok (.return_, 1) := by decide +kernel
theorem dX4_goOn_83 : decode cX4_goOn 83 = .ok (.aload_n 1, 1) := by decide +kernel
theorem dX4_goOn_84 : decode cX4_goOn 84 = .ok (.aload_n 0, 1) := by decide +kernel
theorem dX4_goOn_85 : decode cX4_goOn 85 = .ok (.getfield 39, 3) := by decide +kernel
theorem dX4_goOn_88 : decode cX4_goOn 88 = .ok (.aload_n 0, 1) := by decide +kernel
theorem dX4_goOn_89 : decode cX4_goOn 89 = .ok (.getfield 18, 3) := by decide +kernel
theorem dX4_goOn_92 : decode cX4_goOn 92 = .ok (.iload_n 2, 1) := by decide +kernel
theorem dX4_goOn_93 : decode cX4_goOn 93 = .ok (.iaload, 1) := by decide +kernel
theorem dX4_goOn_94 : decode cX4_goOn 94 = .ok (.invokevirtual 74, 3) := by decide +kernel
theorem dX4_goOn_97 : decode cX4_goOn 97 = .ok (.istore_n 3, 1) := by decide +kernel
theorem dX4_goOn_98 : decode cX4_goOn 98 = .ok (.iload_n 3, 1) := by decide +kernel
theorem dX4_goOn_99 : decode cX4_goOn 99 = .ok (.bipush (-9), 2) := by decide +kernel
theorem dX4_goOn_101 : decode cX4_goOn 101 = .ok (.if_icmp .ne 11, 3) := by decide +kernel
theorem dX4_goOn_104 : decode cX4_goOn 104 = .ok (.aload_n 0, 1) := by decide +kernel
theorem dX4_goOn_105 : decode cX4_goOn 105 = .ok (.iconst 1, 1) := by decide +kernel
theorem dX4_goOn_106 : decode cX4_goOn 106 = .ok (.putfield 25, 3) := by decide +kernel
theorem dX4_goOn_109 : decode cX4_goOn 109 = .ok (.goto 8, 3) := by decide +kernel
theorem dX4_goOn_112 : decode cX4_goOn 112 = .ok (.aload_n 0, 1) := by decide +kernel
theorem dX4_goOn_113 : decode cX4_goOn 113 = .ok (.iload_n 3, 1) := by decide +kernel
theorem dX4_goOn_114 : decode cX4_goOn 114 = .ok (.putfield 39, 3) := by decide +kernel
theorem dX4_goOn_117 : decode cX4_goOn 117 = .ok (.return_, 1) := by decide +kernel
theorem dX4_nextWay_0 : decode cX4_nextWay 0 = .ok (.bipush (-9), 2) := by decide +kernel
theorem dX4_nextWay_2 : decode cX4_nextWay 2 = .ok (.istore_n 1, 1) := by decide +kernel
theorem dX4_nextWay_3 : decode cX4_nextWay 3 = .ok (.iconst 0, 1) := by decide +kernel
theorem dX4_nextWay_4 : decode cX4_nextWay 4 = .ok (.istore_n 2, 1) := by decide +kernel
theorem dX4_nextWay_5 : decode cX4_nextWay 5 = .ok (.iconst 0, 1) := by decide +kernel
theorem dX4_nextWay_6 : decode cX4_nextWay 6 = .ok (.istore_n 3, 1) := by decide +kernel
theorem dX4_nextWay_7 : decode cX4_nextWay 7 = .ok (.iload_n 3, 1) := by decide +kernel
theorem dX4_nextWay_8 : decode cX4_nextWay 8 = .ok (.iconst 3, 1) := by decide +kernel
theorem dX4_nextWay_9 : decode cX4_nextWay 9 = .ok (.if_icmp .ge 87, 3) := by decide +kernel
theorem dX4_nextWay_12 : decode cX4_nextWay 12 = .ok (.aload_n 0, 1) := by decide +kernel
theorem dX4_nextWay_13 : decode cX4_nextWay 13 = .ok (.getfield 15, 3) := by decide +kernel
theorem dX4_nextWay_16 : decode cX4_nextWay 16 = .ok (.iload_n 3, 1) := by decide +kernel
theorem dX4_nextWay_17 : decode cX4_nextWay 17 = .ok (.iaload, 1) := by decide +kernel
theorem dX4_nextWay_18 : decode cX4_nextWay 18 = .ok (.ifCond .ne 6, 3) := by decide +kernel
theorem dX4_nextWay_21 : decode cX4_nextWay 21 = .ok (.goto 69, 3) := by decide +kernel
theorem dX4_nextWay_24 : decode cX4_nextWay 24 = .ok (.iload_n 1, 1) := by decide +kernel
theorem dX4_nextWay_25 : decode cX4_nextWay 25 = .ok (.bipush (-9), 2) := by decide +kernel
theorem dX4_nextWay_27 : decode cX4_nextWay 27 = .ok (.if_icmp .ne 7, 3) := by decide +kernel
theorem dX4_nextWay_30 : decode cX4_nextWay 30 = .ok (.iconst (-1), 1) := by decide +kernel
theorem dX4_nextWay_31 : decode cX4_nextWay 31 = .ok (.goto 30, 3) := by decide +kernel
theorem dX4_nextWay_34 : decode cX4_nextWay 34 = .ok (.aload_n 0, 1) := by decide +kernel
theorem dX4_nextWay_35 : decode cX4_nextWay 35 = .ok (.getfield 9, 3) := by decide +kernel
theorem dX4_nextWay_38 : decode cX4_nextWay 38 = .ok (.iload_n 3, 1) := by decide +kernel
theorem dX4_nextWay_39 : decode cX4_nextWay 39 = .ok (.iaload, 1) := by decide +kernel
theorem dX4_nextWay_40 : decode cX4_nextWay 40 = .ok (.aload_n 0, 1) := by decide +kernel
theorem dX4_nextWay_41 : decode cX4_nextWay 41 = .ok (.getfield 15, 3) := by decide +kernel
theorem dX4_nextWay_44 : decode cX4_nextWay 44 = .ok (.iload_n 1, 1) := by decide +kernel
theorem dX4_nextWay_45 : decode cX4_nextWay 45 = .ok (.iaload, 1) := by decide +kernel
theorem dX4_nextWay_46 : decode cX4_nextWay 46 = .ok (.imul, 1) := by decide +kernel
theorem dX4_nextWay_47 : decode cX4_nextWay 47 = .ok (.aload_n 0, 1) := by decide +kernel
theorem dX4_nextWay_48 : decode cX4_nextWay 48 = .ok (.getfield 9, 3) := by decide +kernel
theorem dX4_nextWay_51 : decode cX4_nextWay 51 = .ok (.iload_n 1, 1) := by decide +kernel
theorem dX4_nextWay_52 : decode cX4_nextWay 52 = .ok (.iaload, 1) := by decide +kernel
theorem dX4_nextWay_53 : decode cX4_nextWay 53 = .ok (.aload_n 0, 1) := by decide +kernel
theorem dX4_nextWay_54 : decode cX4_nextWay 54 = .ok (.getfield 15, 3) := by decide +kernel
theorem dX4_nextWay_57 : decode cX4_nextWay 57 = .ok (.iload_n 3, 1) := by decide +kernel
theorem dX4_nextWay_58 : decode cX4_nextWay 58 = .ok (.iaload, 1) := by decide +kernel
theorem dX4_nextWay_59 : decode cX4_nextWay 59 = .ok (.imul, 1) := by decide +kernel
theorem dX4_nextWay_60 : decode cX4_nextWay 60 = .ok (.isub, 1) := by decide +kernel
theorem dX4_nextWay_61 : decode cX4_nextWay 61 = .ok (.istore 4, 2) := by decide +kernel
theorem dX4_nextWay_63 : decode cX4_nextWay 63 = .ok (.iload 4, 2) := by decide +kernel
theorem dX4_nextWay_65 : decode cX4_nextWay 65 = .ok (.ifCond .ge 5, 3) := by decide +kernel
theorem dX4_nextWay_68 : decode cX4_nextWay 68 = .ok (.iload_n 3, 1) := by decide +kernel
theorem dX4_nextWay_69 : decode cX4_nextWay 69 = .ok (.istore_n 1, 1) := by decide +kernel
theorem dX4_nextWay_70 : decode cX4_nextWay 70 = .ok (.iload 4, 2) := by decide +kernel
theorem dX4_nextWay_72 : decode cX4_nextWay 72 = .ok (.ifCond .eq 12, 3) := by decide +kernel
theorem dX4_nextWay_75 : decode cX4_nextWay 75 = .ok (.iload_n 2, 1) := by decide +kernel
theorem dX4_nextWay_76 : decode cX4_nextWay 76 = .ok (.ifCond .eq 12, 3) := by decide +kernel
theorem dX4_nextWay_79 : decode cX4_nextWay 79 = .ok (.iload 4, 2) := by decide +kernel
theorem dX4_nextWay_81 : decode cX4_nextWay 81 = .ok (.ifCond .le 7, 3) := by decide +kernel
theorem dX4_nextWay_84 : decode cX4_nextWay 84 = .ok (.iconst 1, 1) := by decide +kernel
theorem dX4_nextWay_85 : decode cX4_nextWay 85 = .ok (.goto 4, 3) := by decide +kernel
theorem dX4_nextWay_88 : decode cX4_nextWay 88 = .ok (.iconst 0, 1) := by decide +kernel
theorem dX4_nextWay_89 : decode cX4_nextWay 89 = .ok (.istore_n 2, 1) := by decide +kernel
theorem dX4_nextWay_90 : decode cX4_nextWay 90 = .ok (.iinc 3 1, 3) := by decide +kernel
theorem dX4_nextWay_93 : decode cX4_nextWay 93 = .ok (.goto (-86), 3) := by decide +kernel
theorem dX4_nextWay_96 : decode cX4_nextWay 96 = .ok (.iload_n 2, 1) := by decide +kernel
theorem dX4_nextWay_97 : decode cX4_nextWay 97 = .ok (.ifCond .eq 8, 3) := by decide +kernel
theorem dX4_nextWay_100 : decode cX4_nextWay 100 = .ok (.bipush (-9), 2) := by decide +kernel
theorem dX4_nextWay_102 : decode cX4_nextWay 102 = .ok (.goto 4, 3) := by decide +kernel
theorem dX4_nextWay_105 : decode cX4_nextWay 105 = .ok (.iload_n 1, 1) := by decide +kernel
theorem dX4_nextWay_106 : decode cX4_nextWay 106 = .ok (.ireturn, 1) := by decide +kernel
theorem dX4_foldOver_0 : decode cX4_foldOver 0 = .ok (.iload_n 1, 1) := by decide +kernel
theorem dX4_foldOver_1 : decode cX4_foldOver 1 = .ok (.iconst 1, 1) := by decide +kernel
theorem dX4_foldOver_2 : decode cX4_foldOver 2 = .ok (.iadd, 1) := by decide +kernel
theorem dX4_foldOver_3 : decode cX4_foldOver 3 = .ok (.iconst 3, 1) := by decide +kernel
theorem dX4_foldOver_4 : decode cX4_foldOver 4 = .ok (.irem, 1) := by decide +kernel
theorem dX4_foldOver_5 : decode cX4_foldOver 5 = .ok (.istore_n 2, 1) := by decide +kernel
theorem dX4_foldOver_6 : decode cX4_foldOver 6 = .ok (.iload_n 1, 1) := by decide +kernel
theorem dX4_foldOver_7 : decode cX4_foldOver 7 = .ok (.iconst 2, 1) := by decide +kernel
theorem dX4_foldOver_8 : decode cX4_foldOver 8 = .ok (.iadd, 1) := by decide +kernel
theorem dX4_foldOver_9 : decode cX4_foldOver 9 = .ok (.iconst 3, 1) := by decide +kernel
theorem dX4_foldOver_10 : decode cX4_foldOver 10 = .ok (.irem, 1) := by decide +kernel
theorem dX4_foldOver_11 : decode cX4_foldOver 11 = .ok (.istore_n 3, 1) := by decide +kernel
theorem dX4_foldOver_12 : decode cX4_foldOver 12 = .ok (.aload_n 0, 1) := by decide +kernel
theorem dX4_foldOver_13 : decode cX4_foldOver 13 = .ok (.getfield 18, 3) := by decide +kernel
theorem dX4_foldOver_16 : decode cX4_foldOver 16 = .ok (.iload_n 2, 1) := by decide +kernel
theorem dX4_foldOver_17 : decode cX4_foldOver 17 = .ok (.iaload, 1) := by decide +kernel
theorem dX4_foldOver_18 : decode cX4_foldOver 18 = .ok (.istore 4, 2) := by decide +kernel
theorem dX4_foldOver_20 : decode cX4_foldOver 20 = .ok (.aload_n 0, 1) := by decide +kernel
theorem dX4_foldOver_21 : decode cX4_foldOver 21 = .ok (.getfield 18, 3) := by decide +kernel
theorem dX4_foldOver_24 : decode cX4_foldOver 24 = .ok (.iload_n 2, 1) := by decide +kernel
theorem dX4_foldOver_25 : decode cX4_foldOver 25 = .ok (.aload_n 0, 1) := by decide +kernel
theorem dX4_foldOver_26 : decode cX4_foldOver 26 = .ok (.getfield 18, 3) := by decide +kernel
theorem dX4_foldOver_29 : decode cX4_foldOver 29 = .ok (.iload_n 3, 1) := by decide +kernel
theorem dX4_foldOver_30 : decode cX4_foldOver 30 = .ok (.iaload, 1) := by decide +kernel
theorem dX4_foldOver_31 : decode cX4_foldOver 31 = .ok (.iastore, 1) := by decide +kernel
theorem dX4_foldOver_32 : decode cX4_foldOver 32 = .ok (.aload_n 0, 1) := by decide +kernel
theorem dX4_foldOver_33 : decode cX4_foldOver 33 = .ok (.getfield 18, 3) := by decide +kernel
theorem dX4_foldOver_36 : decode cX4_foldOver 36 = .ok (.iload_n 3, 1) := by decide +kernel
theorem dX4_foldOver_37 : decode cX4_foldOver 37 = .ok (.iload 4, 2) := by decide +kernel
theorem dX4_foldOver_39 : decode cX4_foldOver 39 = .ok (.iastore, 1) := by decide +kernel
theorem dX4_foldOver_40 : decode cX4_foldOver 40 = .ok (.return_, 1) := by decide +kernel
theorem dX4_imageBy_0 : decode cX4_imageBy 0 = .ok (.iload_n 2, 1) := by decide +kernel
theorem dX4_imageBy_1 : decode cX4_imageBy 1 = .ok (.invokestatic 45, 3) := by decide +kernel
theorem dX4_imageBy_4 : decode cX4_imageBy 4 = .ok (.iload_n 3, 1) := by decide +kernel
theorem dX4_imageBy_5 : decode cX4_imageBy 5 = .ok (.iadd, 1) := by decide +kernel
theorem dX4_imageBy_6 : decode cX4_imageBy 6 = .ok (.iconst 3, 1) := by decide +kernel
theorem dX4_imageBy_7 : decode cX4_imageBy 7 = .ok (.invokestatic 77, 3) := by decide +kernel
theorem dX4_imageBy_10 : decode cX4_imageBy 10 = .ok (.istore 5, 2) := by decide +kernel
theorem dX4_imageBy_12 : decode cX4_imageBy 12 = .ok (.iload_n 2, 1) := by decide +kernel
theorem dX4_imageBy_13 : decode cX4_imageBy 13 = .ok (.invokestatic 45, 3) := by decide +kernel
theorem dX4_imageBy_16 : decode cX4_imageBy 16 = .ok (.iload 4, 2) := by decide +kernel
theorem dX4_imageBy_18 : decode cX4_imageBy 18 = .ok (.iadd, 1) := by decide +kernel
theorem dX4_imageBy_19 : decode cX4_imageBy 19 = .ok (.iconst 3, 1) := by decide +kernel
theorem dX4_imageBy_20 : decode cX4_imageBy 20 = .ok (.invokestatic 77, 3) := by decide +kernel
theorem dX4_imageBy_23 : decode cX4_imageBy 23 = .ok (.istore 6, 2) := by decide +kernel
theorem dX4_imageBy_25 : decode cX4_imageBy 25 = .ok (.iload 5, 2) := by decide +kernel
theorem dX4_imageBy_27 : decode cX4_imageBy 27 = .ok (.ifCond .eq 10, 3) := by decide +kernel
theorem dX4_imageBy_30 : decode cX4_imageBy 30 = .ok (.iload 5, 2) := by decide +kernel
theorem dX4_imageBy_32 : decode cX4_imageBy 32 = .ok (.iload 6, 2) := by decide +kernel
theorem dX4_imageBy_34 : decode cX4_imageBy 34 = .ok (.if_icmp .eq 6, 3) := by decide +kernel
theorem dX4_imageBy_37 : decode cX4_imageBy 37 = .ok (.bipush (-9), 2) := by decide +kernel
theorem dX4_imageBy_39 : decode cX4_imageBy 39 = .ok (.ireturn, 1) := by decide +kernel
theorem dX4_imageBy_40 : decode cX4_imageBy 40 = .ok (.aload_n 0, 1) := by decide +kernel
theorem dX4_imageBy_41 : decode cX4_imageBy 41 = .ok (.iload_n 2, 1) := by decide +kernel
theorem dX4_imageBy_42 : decode cX4_imageBy 42 = .ok (.iload_n 3, 1) := by decide +kernel
theorem dX4_imageBy_43 : decode cX4_imageBy 43 = .ok (.iload 4, 2) := by decide +kernel
theorem dX4_imageBy_45 : decode cX4_imageBy 45 = .ok (.invokevirtual 21, 3) := by decide +kernel
theorem dX4_imageBy_48 : decode cX4_imageBy 48 = .ok (.iconst 0, 1) := by decide +kernel
theorem dX4_imageBy_49 : decode cX4_imageBy 49 = .ok (.istore 7, 2) := by decide +kernel
theorem dX4_imageBy_51 : decode cX4_imageBy 51 = .ok (.iload 7, 2) := by decide +kernel
theorem dX4_imageBy_53 : decode cX4_imageBy 53 = .ok (.sipush 200, 3) := by decide +kernel
theorem dX4_imageBy_56 : decode cX4_imageBy 56 = .ok (.if_icmp .ge 29, 3) := by decide +kernel
theorem dX4_imageBy_59 : decode cX4_imageBy 59 = .ok (.aload_n 0, 1) := by decide +kernel
theorem dX4_imageBy_60 : decode cX4_imageBy 60 = .ok (.getfield 25, 3) := by decide +kernel
theorem dX4_imageBy_63 : decode cX4_imageBy 63 = .ok (.iconst 2, 1) := by decide +kernel
theorem dX4_imageBy_64 : decode cX4_imageBy 64 = .ok (.if_icmp .ne 21, 3) := by decide +kernel
theorem dX4_imageBy_67 : decode cX4_imageBy 67 = .ok (.aload_n 0, 1) := by decide +kernel
theorem dX4_imageBy_68 : decode cX4_imageBy 68 = .ok (.invokevirtual 80, 3) := by decide +kernel
theorem dX4_imageBy_71 : decode cX4_imageBy 71 = .ok (.ifCond .eq 14, 3) := by decide +kernel
theorem dX4_imageBy_74 : decode cX4_imageBy 74 = .ok (.aload_n 0, 1) := by decide +kernel
theorem dX4_imageBy_75 : decode cX4_imageBy 75 = .ok (.aload_n 1, 1) := by decide +kernel
theorem dX4_imageBy_76 : decode cX4_imageBy 76 = .ok (.invokevirtual 29, 3) := by decide +kernel
theorem dX4_imageBy_79 : decode cX4_imageBy 79 = .ok (.iinc 7 1, 3) := by decide +kernel
theorem dX4_imageBy_82 : decode cX4_imageBy 82 = .ok (.goto (-31), 3) := by decide +kernel
theorem dX4_imageBy_85 : decode cX4_imageBy 85 = .ok (.aload_n 0, 1) := by decide +kernel
theorem dX4_imageBy_86 : decode cX4_imageBy 86 = .ok (.getfield 25, 3) := by decide +kernel
theorem dX4_imageBy_89 : decode cX4_imageBy 89 = .ok (.iconst 2, 1) := by decide +kernel
theorem dX4_imageBy_90 : decode cX4_imageBy 90 = .ok (.if_icmp .ne 10, 3) := by decide +kernel
theorem dX4_imageBy_93 : decode cX4_imageBy 93 = .ok (.aload_n 0, 1) := by decide +kernel
theorem dX4_imageBy_94 : decode cX4_imageBy 94 = .ok (.getfield 39, 3) := by decide +kernel
theorem dX4_imageBy_97 : decode cX4_imageBy 97 = .ok (.goto 5, 3) := by decide +kernel
theorem dX4_imageBy_100 : decode cX4_imageBy 100 = .ok (.bipush (-9), 2) := by decide +kernel
theorem dX4_imageBy_102 : decode cX4_imageBy 102 = .ok (.ireturn, 1) := by decide +kernel
theorem dX4_crossesMore_0 : decode cX4_crossesMore 0 = .ok (.iconst 0, 1) := by decide +kernel
theorem dX4_crossesMore_1 : decode cX4_crossesMore 1 = .ok (.istore_n 1, 1) := by decide +kernel
theorem dX4_crossesMore_2 : decode cX4_crossesMore 2 = .ok (.iload_n 1, 1) := by decide +kernel
theorem dX4_crossesMore_3 : decode cX4_crossesMore 3 = .ok (.iconst 3, 1) := by decide +kernel
theorem dX4_crossesMore_4 : decode cX4_crossesMore 4 = .ok (.if_icmp .ge 26, 3) := by decide +kernel
theorem dX4_crossesMore_7 : decode cX4_crossesMore 7 = .ok (.aload_n 0, 1) := by decide +kernel
theorem dX4_crossesMore_8 : decode cX4_crossesMore 8 = .ok (.getfield 9, 3) := by decide +kernel
theorem dX4_crossesMore_11 : decode cX4_crossesMore 11 = .ok (.iload_n 1, 1) := by decide +kernel
theorem dX4_crossesMore_12 : decode cX4_crossesMore 12 = .ok (.iaload, 1) := by decide +kernel
theorem dX4_crossesMore_13 : decode cX4_crossesMore 13 = .ok (.aload_n 0, 1) := by decide +kernel
theorem dX4_crossesMore_14 : decode cX4_crossesMore 14 = .ok (.getfield 15, 3) := by decide +kernel
theorem dX4_crossesMore_17 : decode cX4_crossesMore 17 = .ok (.iload_n 1, 1) := by decide +kernel
theorem dX4_crossesMore_18 : decode cX4_crossesMore 18 = .ok (.iaload, 1) := by decide +kernel
theorem dX4_crossesMore_19 : decode cX4_crossesMore 19 = .ok (.if_icmp .ge 5, 3) := by decide +kernel
theorem dX4_crossesMore_22 : decode cX4_crossesMore 22 = .ok (.iconst 1, 1) := by decide +kernel
theorem dX4_crossesMore_23 : decode cX4_crossesMore 23 = .ok (.ireturn, 1) := by decide +kernel
theorem dX4_crossesMore_24 : decode cX4_crossesMore 24 = .ok (.iinc 1 1, 3) := by decide +kernel
theorem dX4_crossesMore_27 : decode cX4_crossesMore 27 = .ok (.goto (-25), 3) := by decide +kernel
theorem dX4_crossesMore_30 : decode cX4_crossesMore 30 = .ok (.iconst 0, 1) := by decide +kernel
theorem dX4_crossesMore_31 : decode cX4_crossesMore 31 = .ok (.ireturn, 1) := by decide +kernel
theorem dX4_seek_0 : decode cX4_seek 0 = .ok (.aload_n 0, 1) := by decide +kernel
theorem dX4_seek_1 : decode cX4_seek 1 = .ok (.iconst 0, 1) := by decide +kernel
theorem dX4_seek_2 : decode cX4_seek 2 = .ok (.putfield 84, 3) := by decide +kernel
theorem dX4_seek_5 : decode cX4_seek 5 = .ok (.iconst 0, 1) := by decide +kernel
theorem dX4_seek_6 : decode cX4_seek 6 = .ok (.istore 5, 2) := by decide +kernel
theorem dX4_seek_8 : decode cX4_seek 8 = .ok (.iload 4, 2) := by decide +kernel
theorem dX4_seek_10 : decode cX4_seek 10 = .ok (.ineg, 1) := by decide +kernel
theorem dX4_seek_11 : decode cX4_seek 11 = .ok (.istore 6, 2) := by decide +kernel
theorem dX4_seek_13 : decode cX4_seek 13 = .ok (.iload 6, 2) := by decide +kernel
theorem dX4_seek_15 : decode cX4_seek 15 = .ok (.iload 4, 2) := by decide +kernel
theorem dX4_seek_17 : decode cX4_seek 17 = .ok (.if_icmp .gt 113, 3) := by decide +kernel
theorem dX4_seek_20 : decode cX4_seek 20 = .ok (.iload 4, 2) := by decide +kernel
theorem dX4_seek_22 : decode cX4_seek 22 = .ok (.ineg, 1) := by decide +kernel
theorem dX4_seek_23 : decode cX4_seek 23 = .ok (.istore 7, 2) := by decide +kernel
theorem dX4_seek_25 : decode cX4_seek 25 = .ok (.iload 7, 2) := by decide +kernel
theorem dX4_seek_27 : decode cX4_seek 27 = .ok (.iload 4, 2) := by decide +kernel
theorem dX4_seek_29 : decode cX4_seek 29 = .ok (.if_icmp .gt 95, 3) := by decide +kernel
theorem dX4_seek_32 : decode cX4_seek 32 = .ok (.iload 6, 2) := by decide +kernel
theorem dX4_seek_34 : decode cX4_seek 34 = .ok (.ifCond .ne 8, 3) := by decide +kernel
theorem dX4_seek_37 : decode cX4_seek 37 = .ok (.iload 7, 2) := by decide +kernel
theorem dX4_seek_39 : decode cX4_seek 39 = .ok (.ifCond .eq 79, 3) := by decide +kernel
theorem dX4_seek_42 : decode cX4_seek 42 = .ok (.aload_n 0, 1) := by decide +kernel
theorem dX4_seek_43 : decode cX4_seek 43 = .ok (.aload_n 1, 1) := by decide +kernel
theorem dX4_seek_44 : decode cX4_seek 44 = .ok (.iload_n 2, 1) := by decide +kernel
theorem dX4_seek_45 : decode cX4_seek 45 = .ok (.iload 6, 2) := by decide +kernel
theorem dX4_seek_47 : decode cX4_seek 47 = .ok (.iload 7, 2) := by decide +kernel
theorem dX4_seek_49 : decode cX4_seek 49 = .ok (.invokevirtual 87, 3) := by decide +kernel
theorem dX4_seek_52 : decode cX4_seek 52 = .ok (.iload_n 3, 1) := by decide +kernel
theorem dX4_seek_53 : decode cX4_seek 53 = .ok (.if_icmp .eq 6, 3) := by decide +kernel
theorem dX4_seek_56 : decode cX4_seek 56 = .ok (.goto 62, 3) := by decide +kernel
theorem dX4_seek_59 : decode cX4_seek 59 = .ok (.iload 6, 2) := by decide +kernel
theorem dX4_seek_61 : decode cX4_seek 61 = .ok (.iload 6, 2) := by decide +kernel
theorem dX4_seek_63 : decode cX4_seek 63 = .ok (.imul, 1) := by decide +kernel
theorem dX4_seek_64 : decode cX4_seek 64 = .ok (.iload 6, 2) := by decide +kernel
theorem dX4_seek_66 : decode cX4_seek 66 = .ok (.iload 7, 2) := by decide +kernel
theorem dX4_seek_68 : decode cX4_seek 68 = .ok (.imul, 1) := by decide +kernel
theorem dX4_seek_69 : decode cX4_seek 69 = .ok (.iadd, 1) := by decide +kernel
theorem dX4_seek_70 : decode cX4_seek 70 = .ok (.iload 7, 2) := by decide +kernel
theorem dX4_seek_72 : decode cX4_seek 72 = .ok (.iload 7, 2) := by decide +kernel
theorem dX4_seek_74 : decode cX4_seek 74 = .ok (.imul, 1) := by decide +kernel
theorem dX4_seek_75 : decode cX4_seek 75 = .ok (.iadd, 1) := by decide +kernel
theorem dX4_seek_76 : decode cX4_seek 76 = .ok (.istore 8, 2) := by decide +kernel
theorem dX4_seek_78 : decode cX4_seek 78 = .ok (.aload_n 0, 1) := by decide +kernel
theorem dX4_seek_79 : decode cX4_seek 79 = .ok (.getfield 84, 3) := by decide +kernel
theorem dX4_seek_82 : decode cX4_seek 82 = .ok (.ifCond .eq 10, 3) := by decide +kernel
theorem dX4_seek_85 : decode cX4_seek 85 = .ok (.iload 8, 2) := by decide +kernel
theorem dX4_seek_87 : decode cX4_seek 87 = .ok (.iload 5, 2) := by decide +kernel
theorem dX4_seek_89 : decode cX4_seek 89 = .ok (.if_icmp .ge 19, 3) := by decide +kernel
theorem dX4_seek_92 : decode cX4_seek 92 = .ok (.iload 8, 2) := by decide +kernel
theorem dX4_seek_94 : decode cX4_seek 94 = .ok (.istore 5, 2) := by decide +kernel
theorem dX4_seek_96 : decode cX4_seek 96 = .ok (.aload_n 0, 1) := by decide +kernel
theorem dX4_seek_97 : decode cX4_seek 97 = .ok (.iload 6, 2) := by decide +kernel
theorem dX4_seek_99 : decode cX4_seek 99 = .ok (.putfield 91, 3) := by decide +kernel
theorem dX4_seek_102 : decode cX4_seek 102 = .ok (.aload_n 0, 1) := by decide +kernel
theorem dX4_seek_103 : decode cX4_seek 103 = .ok (.iload 7, 2) := by decide +kernel
theorem dX4_seek_105 : decode cX4_seek 105 = .ok (.putfield 94, 3) := by decide +kernel
theorem dX4_seek_108 : decode cX4_seek 108 = .ok (.aload_n 0, 1) := by decide +kernel
theorem dX4_seek_109 : decode cX4_seek 109 = .ok (.dup, 1) := by decide +kernel
theorem dX4_seek_110 : decode cX4_seek 110 = .ok (.getfield 84, 3) := by decide +kernel
theorem dX4_seek_113 : decode cX4_seek 113 = .ok (.iconst 1, 1) := by decide +kernel
theorem dX4_seek_114 : decode cX4_seek 114 = .ok (.iadd, 1) := by decide +kernel
theorem dX4_seek_115 : decode cX4_seek 115 = .ok (.putfield 84, 3) := by decide +kernel
theorem dX4_seek_118 : decode cX4_seek 118 = .ok (.iinc 7 1, 3) := by decide +kernel
theorem dX4_seek_121 : decode cX4_seek 121 = .ok (.goto (-96), 3) := by decide +kernel
theorem dX4_seek_124 : decode cX4_seek 124 = .ok (.iinc 6 1, 3) := by decide +kernel
theorem dX4_seek_127 : decode cX4_seek 127 = .ok (.goto (-114), 3) := by decide +kernel
theorem dX4_seek_130 : decode cX4_seek 130 = .ok (.return_, 1) := by decide +kernel
theorem dX5_init_0 : decode cX5_init 0 = .ok (.aload_n 0, 1) := by decide +kernel
theorem dX5_init_1 : decode cX5_init 1 = .ok (.invokespecial 3, 3) := by decide +kernel
theorem dX5_init_4 : decode cX5_init 4 = .ok (.aload_n 0, 1) := by decide +kernel
theorem dX5_init_5 : decode cX5_init 5 = .ok (.bipush 43, 2) := by decide +kernel
theorem dX5_init_7 : decode cX5_init 7 = .ok (.newarray .int, 2) := by decide +kernel
theorem dX5_init_9 : decode cX5_init 9 = .ok (.putfield 9, 3) := by decide +kernel
theorem dX5_init_12 : decode cX5_init 12 = .ok (.aload_n 0, 1) := by decide +kernel
theorem dX5_init_13 : decode cX5_init 13 = .ok (.iload_n 1, 1) := by decide +kernel
theorem dX5_init_14 : decode cX5_init 14 = .ok (.putfield 15, 3) := by decide +kernel
theorem dX5_init_17 : decode cX5_init 17 = .ok (.aload_n 0, 1) := by decide +kernel
theorem dX5_init_18 : decode cX5_init 18 = .ok (.iload_n 2, 1) := by decide +kernel
theorem dX5_init_19 : decode cX5_init 19 = .ok (.putfield 19, 3) := by decide +kernel
theorem dX5_init_22 : decode cX5_init 22 = .ok (.aload_n 0, 1) := by decide +kernel
theorem dX5_init_23 : decode cX5_init 23 = .ok (.iload_n 3, 1) := by decide +kernel
theorem dX5_init_24 : decode cX5_init 24 = .ok (.putfield 22, 3) := by decide +kernel
theorem dX5_init_27 : decode cX5_init 27 = .ok (.aload_n 0, 1) := by decide +kernel
theorem dX5_init_28 : decode cX5_init 28 = .ok (.iload 4, 2) := by decide +kernel
theorem dX5_init_30 : decode cX5_init 30 = .ok (.putfield 25, 3) := by decide +kernel
theorem dX5_init_33 : decode cX5_init 33 = .ok (.return_, 1) := by decide +kernel
theorem dX5_isOut_0 : decode cX5_isOut 0 = .ok (.aload_n 0, 1) := by decide +kernel
theorem dX5_isOut_1 : decode cX5_isOut 1 = .ok (.getfield 22, 3) := by decide +kernel
theorem dX5_isOut_4 : decode cX5_isOut 4 = .ok (.bipush (-9), 2) := by decide +kernel
theorem dX5_isOut_6 : decode cX5_isOut 6 = .ok (.if_icmp .ne 7, 3) := by decide +kernel
theorem dX5_isOut_9 : decode cX5_isOut 9 = .ok (.iconst 1, 1) := by decide +kernel
theorem dX5_isOut_10 : decode cX5_isOut 10 = .ok (.goto 4, 3) := by decide +kernel
theorem dX5_isOut_13 : decode cX5_isOut 13 = .ok (.iconst 0, 1) := by decide +kernel
theorem dX5_isOut_14 : decode cX5_isOut 14 = .ok (.ireturn, 1) := by decide +kernel
theorem dX5_goOn_0 : decode cX5_goOn 0 = .ok (.aload_n 0, 1) := by decide +kernel
theorem dX5_goOn_1 : decode cX5_goOn 1 = .ok (.dup, 1) := by decide +kernel
theorem dX5_goOn_2 : decode cX5_goOn 2 = .ok (.getfield 28, 3) := by decide +kernel
theorem dX5_goOn_5 : decode cX5_goOn 5 = .ok (.iconst 1, 1) := by decide +kernel
theorem dX5_goOn_6 : decode cX5_goOn 6 = .ok (.iadd, 1) := by decide +kernel
theorem dX5_goOn_7 : decode cX5_goOn 7 = .ok (.putfield 28, 3) := by decide +kernel
theorem dX5_goOn_10 : decode cX5_goOn 10 = .ok (.aload_n 0, 1) := by decide +kernel
theorem dX5_goOn_11 : decode cX5_goOn 11 = .ok (.getfield 15, 3) := by decide +kernel
theorem dX5_goOn_14 : decode cX5_goOn 14 = .ok (.ifCond .ne 22, 3) := by decide +kernel
theorem dX5_goOn_17 : decode cX5_goOn 17 = .ok (.aload_n 1, 1) := by decide +kernel
theorem dX5_goOn_18 : decode cX5_goOn 18 = .ok (.aload_n 1, 1) := by decide +kernel
theorem dX5_goOn_19 : decode cX5_goOn 19 = .ok (.getfield 31, 3) := by decide +kernel
theorem dX5_goOn_22 : decode cX5_goOn 22 = .ok (.aload_n 0, 1) := by decide +kernel
theorem dX5_goOn_23 : decode cX5_goOn 23 = .ok (.getfield 22, 3) := by decide +kernel
theorem dX5_goOn_26 : decode cX5_goOn 26 = .ok (.aload_n 0, 1) := by decide +kernel
theorem dX5_goOn_27 : decode cX5_goOn 27 = .ok (.getfield 25, 3) := by decide +kernel
theorem dX5_goOn_30 : decode cX5_goOn 30 = .ok (.invokevirtual 36, 3) := by decide +kernel
theorem dX5_goOn_33 : decode cX5_goOn 33 = .ok (.goto 8, 3) := by decide +kernel
theorem dX5_goOn_36 : decode cX5_goOn 36 = .ok (.aload_n 0, 1) := by decide +kernel
theorem dX5_goOn_37 : decode cX5_goOn 37 = .ok (.aload_n 1, 1) := by decide +kernel
theorem dX5_goOn_38 : decode cX5_goOn 38 = .ok (.invokevirtual 40, 3) := by decide +kernel
theorem dX5_goOn_41 : decode cX5_goOn 41 = .ok (.istore_n 2, 1) := by decide +kernel
theorem dX5_goOn_42 : decode cX5_goOn 42 = .ok (.iload_n 2, 1) := by decide +kernel
theorem dX5_goOn_43 : decode cX5_goOn 43 = .ok (.bipush (-9), 2) := by decide +kernel
theorem dX5_goOn_45 : decode cX5_goOn 45 = .ok (.if_icmp .ne 4, 3) := by decide +kernel
theorem dX5_goOn_48 : decode cX5_goOn 48 = .ok (.return_, 1) := by decide +kernel
theorem dX5_goOn_49 : decode cX5_goOn 49 = .ok (.aload_n 1, 1) := by decide +kernel
theorem dX5_goOn_50 : decode cX5_goOn 50 = .ok (.aload_n 0, 1) := by decide +kernel
theorem dX5_goOn_51 : decode cX5_goOn 51 = .ok (.getfield 22, 3) := by decide +kernel
theorem dX5_goOn_54 : decode cX5_goOn 54 = .ok (.iload_n 2, 1) := by decide +kernel
theorem dX5_goOn_55 : decode cX5_goOn 55 = .ok (.invokevirtual 44, 3) := by decide +kernel
theorem dX5_goOn_58 : decode cX5_goOn 58 = .ok (.istore_n 3, 1) := by decide +kernel
theorem dX5_goOn_59 : decode cX5_goOn 59 = .ok (.aload_n 0, 1) := by decide +kernel
theorem dX5_goOn_60 : decode cX5_goOn 60 = .ok (.getfield 9, 3) := by decide +kernel
theorem dX5_goOn_63 : decode cX5_goOn 63 = .ok (.iload_n 3, 1) := by decide +kernel
theorem dX5_goOn_64 : decode cX5_goOn 64 = .ok (.dup2, 1) := by decide +kernel
theorem dX5_goOn_65 : decode cX5_goOn 65 = .ok (.iaload, 1) := by decide +kernel
theorem dX5_goOn_66 : decode cX5_goOn 66 = .ok (.iconst 1, 1) := by decide +kernel
theorem dX5_goOn_67 : decode cX5_goOn 67 = .ok (.iadd, 1) := by decide +kernel
theorem dX5_goOn_68 : decode cX5_goOn 68 = .ok (.iastore, 1) := by decide +kernel
theorem dX5_goOn_69 : decode cX5_goOn 69 = .ok (.aload_n 1, 1) := by decide +kernel
theorem dX5_goOn_70 : decode cX5_goOn 70 = .ok (.getfield 31, 3) := by decide +kernel
theorem dX5_goOn_73 : decode cX5_goOn 73 = .ok (.iload_n 3, 1) := by decide +kernel
theorem dX5_goOn_74 : decode cX5_goOn 74 = .ok (.iaload, 1) := by decide +kernel
theorem dX5_goOn_75 : decode cX5_goOn 75 = .ok (.iconst 1, 1) := by decide +kernel
theorem dX5_goOn_76 : decode cX5_goOn 76 = .ok (.if_icmp .ne 21, 3) := by decide +kernel
theorem dX5_goOn_79 : decode cX5_goOn 79 = .ok (.aload_n 1, 1) := by decide +kernel
theorem dX5_goOn_80 : decode cX5_goOn 80 = .ok (.getfield 48, 3) := by decide +kernel
theorem dX5_goOn_83 : decode cX5_goOn 83 = .ok (.iload_n 3, 1) := by decide +kernel
theorem dX5_goOn_84 : decode cX5_goOn 84 = .ok (.iconst 1, 1) := by decide +kernel
theorem dX5_goOn_85 : decode cX5_goOn 85 = .ok (.iastore, 1) := by decide +kernel
theorem dX5_goOn_86 : decode cX5_goOn 86 = .ok (.aload_n 0, 1) := by decide +kernel
theorem dX5_goOn_87 : decode cX5_goOn 87 = .ok (.dup, 1) := by decide +kernel
theorem dX5_goOn_88 : decode cX5_goOn 88 = .ok (.getfield 51, 3) := by decide +kernel
theorem dX5_goOn_91 : decode cX5_goOn 91 = .ok (.iconst 1, 1) := by decide +kernel
theorem dX5_goOn_92 : decode cX5_goOn 92 = .ok (.iadd, 1) := by decide +kernel
theorem dX5_goOn_93 : decode cX5_goOn 93 = .ok (.putfield 51, 3) := by decide +kernel
theorem dX5_goOn_96 : decode cX5_goOn 96 = .ok (.return_, 1) := by decide +kernel
theorem dX5_goOn_97 : decode cX5_goOn 97 = .ok (.aload_n 0, 1) := by decide +kernel
theorem dX5_goOn_98 : decode cX5_goOn 98 = .ok (.dup, 1) := by decide +kernel
theorem dX5_goOn_99 : decode cX5_goOn 99 = .ok (.getfield 54, 3) := by decide +kernel
theorem dX5_goOn_102 : decode cX5_goOn 102 = .ok (.iconst 1, 1) := by decide +kernel
theorem dX5_goOn_103 : decode cX5_goOn 103 = .ok (.iadd, 1) := by decide +kernel
theorem dX5_goOn_104 : decode cX5_goOn 104 = .ok (.putfield 54, 3) := by decide +kernel
theorem dX5_goOn_107 : decode cX5_goOn 107 = .ok (.aload_n 0, 1) := by decide +kernel
theorem dX5_goOn_108 : decode cX5_goOn 108 = .ok (.aload_n 1, 1) := by decide +kernel
theorem dX5_goOn_109 : decode cX5_goOn 109 = .ok (.aload_n 0, 1) := by decide +kernel
theorem dX5_goOn_110 : decode cX5_goOn 110 = .ok (.getfield 22, 3) := by decide +kernel
theorem dX5_goOn_113 : decode cX5_goOn 113 = .ok (.iload_n 2, 1) := by decide +kernel
theorem dX5_goOn_114 : decode cX5_goOn 114 = .ok (.invokevirtual 57, 3) := by decide +kernel
theorem dX5_goOn_117 : decode cX5_goOn 117 = .ok (.putfield 22, 3) := by decide +kernel
theorem dX5_goOn_120 : decode cX5_goOn 120 = .ok (.aload_n 0, 1) := by decide +kernel
theorem dX5_goOn_121 : decode cX5_goOn 121 = .ok (.iload_n 2, 1) := by decide +kernel
theorem dX5_goOn_122 : decode cX5_goOn 122 = .ok (.putfield 25, 3) := by decide +kernel
theorem dX5_goOn_125 : decode cX5_goOn 125 = .ok (.return_, 1) := by decide +kernel
theorem dX5_firstClear_0 : decode cX5_firstClear 0 = .ok (.bipush (-9), 2) := by decide +kernel
theorem dX5_firstClear_2 : decode cX5_firstClear 2 = .ok (.istore_n 2, 1) := by decide +kernel
theorem dX5_firstClear_3 : decode cX5_firstClear 3 = .ok (.iconst 0, 1) := by decide +kernel
theorem dX5_firstClear_4 : decode cX5_firstClear 4 = .ok (.istore_n 3, 1) := by decide +kernel
theorem dX5_firstClear_5 : decode cX5_firstClear 5 = .ok (.iconst 0, 1) := by decide +kernel
theorem dX5_firstClear_6 : decode cX5_firstClear 6 = .ok (.istore 4, 2) := by decide +kernel
theorem dX5_firstClear_8 : decode cX5_firstClear 8 = .ok (.iload 4, 2) := by decide +kernel
theorem dX5_firstClear_10 : decode cX5_firstClear 10 = .ok (.iconst 3, 1) := by decide +kernel
theorem dX5_firstClear_11 : decode cX5_firstClear 11 = .ok (.if_icmp .ge 84, 3) := by decide +kernel
theorem dX5_firstClear_14 : decode cX5_firstClear 14 = .ok (.aload_n 0, 1) := by decide +kernel
theorem dX5_firstClear_15 : decode cX5_firstClear 15 = .ok (.getfield 22, 3) := by decide +kernel
theorem dX5_firstClear_18 : decode cX5_firstClear 18 = .ok (.aload_n 0, 1) := by decide +kernel
theorem dX5_firstClear_19 : decode cX5_firstClear 19 = .ok (.getfield 25, 3) := by decide +kernel
theorem dX5_firstClear_22 : decode cX5_firstClear 22 = .ok (.iload 4, 2) := by decide +kernel
theorem dX5_firstClear_24 : decode cX5_firstClear 24 = .ok (.invokestatic 60, 3) := by decide +kernel
theorem dX5_firstClear_27 : decode cX5_firstClear 27 = .ok (.istore 5, 2) := by decide +kernel
theorem dX5_firstClear_29 : decode cX5_firstClear 29 = .ok (.aload_n 1, 1) := by decide +kernel
theorem dX5_firstClear_30 : decode cX5_firstClear 30 = .ok (.aload_n 0, 1) := by decide +kernel
theorem dX5_firstClear_31 : decode cX5_firstClear 31 = .ok (.getfield 22, 3) := by decide +kernel
theorem dX5_firstClear_34 : decode cX5_firstClear 34 = .ok (.iload 5, 2) := by decide +kernel
theorem dX5_firstClear_36 : decode cX5_firstClear 36 = .ok (.invokevirtual 44, 3) := by decide +kernel
theorem dX5_firstClear_39 : decode cX5_firstClear 39 = .ok (.istore 6, 2) := by decide +kernel
theorem dX5_firstClear_41 : decode cX5_firstClear 41 = .ok (.aload_n 0, 1) := by decide +kernel
theorem dX5_firstClear_42 : decode cX5_firstClear 42 = .ok (.getfield 15, 3) := by decide +kernel
theorem dX5_firstClear_45 : decode cX5_firstClear 45 = .ok (.iconst 2, 1) := by decide +kernel
theorem dX5_firstClear_46 : decode cX5_firstClear 46 = .ok (.if_icmp .ne 13, 3) := by decide +kernel
theorem dX5_firstClear_49 : decode cX5_firstClear 49 = .ok (.aload_n 0, 1) := by decide +kernel
theorem dX5_firstClear_50 : decode cX5_firstClear 50 = .ok (.getfield 9, 3) := by decide +kernel
theorem dX5_firstClear_53 : decode cX5_firstClear 53 = .ok (.iload 6, 2) := by decide +kernel
theorem dX5_firstClear_55 : decode cX5_firstClear 55 = .ok (.iaload, 1) := by decide +kernel
theorem dX5_firstClear_56 : decode cX5_firstClear 56 = .ok (.goto 4, 3) := by decide +kernel
theorem dX5_firstClear_59 : decode cX5_firstClear 59 = .ok (.iconst 0, 1) := by decide +kernel
theorem dX5_firstClear_60 : decode cX5_firstClear 60 = .ok (.istore 7, 2) := by decide +kernel
theorem dX5_firstClear_62 : decode cX5_firstClear 62 = .ok (.aload_n 1, 1) := by decide +kernel
theorem dX5_firstClear_63 : decode cX5_firstClear 63 = .ok (.iload 6, 2) := by decide +kernel
theorem dX5_firstClear_65 : decode cX5_firstClear 65 = .ok (.invokestatic 64, 3) := by decide +kernel
theorem dX5_firstClear_68 : decode cX5_firstClear 68 = .ok (.ifCond .eq 21, 3) := by decide +kernel
theorem dX5_firstClear_71 : decode cX5_firstClear 71 = .ok (.iload_n 2, 1) := by decide +kernel
theorem dX5_firstClear_72 : decode cX5_firstClear 72 = .ok (.bipush (-9), 2) := by decide +kernel
theorem dX5_firstClear_74 : decode cX5_firstClear 74 = .ok (.if_icmp .eq 9, 3) := by decide +kernel
theorem dX5_firstClear_77 : decode cX5_firstClear 77 = .ok (.iload 7, 2) := by decide +kernel
theorem dX5_firstClear_79 : decode cX5_firstClear 79 = .ok (.iload_n 3, 1) := by decide +kernel
theorem dX5_firstClear_80 : decode cX5_firstClear 80 = .ok (.if_icmp .ge 9, 3) := by decide +kernel
theorem dX5_firstClear_83 : decode cX5_firstClear 83 = .ok (.iload 5, 2) := by decide +kernel
theorem dX5_firstClear_85 : decode cX5_firstClear 85 = .ok (.istore_n 2, 1) := by decide +kernel
theorem dX5_firstClear_86 : decode cX5_firstClear 86 = .ok (.iload 7, 2) := by decide +kernel
theorem dX5_firstClear_88 : decode cX5_firstClear 88 = .ok (.istore_n 3, 1) := by decide +kernel
theorem dX5_firstClear_89 : decode cX5_firstClear 89 = .ok (.iinc 4 1, 3) := by decide +kernel
theorem dX5_firstClear_92 : decode cX5_firstClear 92 = .ok (.goto (-84), 3) := by decide +kernel
theorem dX5_firstClear_95 : decode cX5_firstClear 95 = .ok (.iload_n 2, 1) := by decide +kernel
theorem dX5_firstClear_96 : decode cX5_firstClear 96 = .ok (.ireturn, 1) := by decide +kernel
theorem dX5_seemsOpen_0 : decode cX5_seemsOpen 0 = .ok (.aload_n 0, 1) := by decide +kernel
theorem dX5_seemsOpen_1 : decode cX5_seemsOpen 1 = .ok (.getfield 31, 3) := by decide +kernel
theorem dX5_seemsOpen_4 : decode cX5_seemsOpen 4 = .ok (.iload_n 1, 1) := by decide +kernel
theorem dX5_seemsOpen_5 : decode cX5_seemsOpen 5 = .ok (.iaload, 1) := by decide +kernel
theorem dX5_seemsOpen_6 : decode cX5_seemsOpen 6 = .ok (.iconst 2, 1) := by decide +kernel
theorem dX5_seemsOpen_7 : decode cX5_seemsOpen 7 = .ok (.if_icmp .eq 22, 3) := by decide +kernel
theorem dX5_seemsOpen_10 : decode cX5_seemsOpen 10 = .ok (.aload_n 0, 1) := by decide +kernel
theorem dX5_seemsOpen_11 : decode cX5_seemsOpen 11 = .ok (.getfield 31, 3) := by decide +kernel
theorem dX5_seemsOpen_14 : decode cX5_seemsOpen 14 = .ok (.iload_n 1, 1) := by decide +kernel
theorem dX5_seemsOpen_15 : decode cX5_seemsOpen 15 = .ok (.iaload, 1) := by decide +kernel
theorem dX5_seemsOpen_16 : decode cX5_seemsOpen 16 = .ok (.iconst 1, 1) := by decide +kernel
theorem dX5_seemsOpen_17 : decode cX5_seemsOpen 17 = .ok (.if_icmp .ne 16, 3) := by decide +kernel
theorem dX5_seemsOpen_20 : decode cX5_seemsOpen 20 = .ok (.aload_n 0, 1) := by decide +kernel
theorem dX5_seemsOpen_21 : decode cX5_seemsOpen 21 = .ok (.getfield 48, 3) := by decide +kernel
theorem dX5_seemsOpen_24 : decode cX5_seemsOpen 24 = .ok (.iload_n 1, 1) := by decide +kernel
theorem dX5_seemsOpen_25 : decode cX5_seemsOpen 25 = .ok (.iaload, 1) := by decide +kernel
theorem dX5_seemsOpen_26 : decode cX5_seemsOpen 26 = .ok (.ifCond .ne 7, 3) := by decide +kernel
theorem dX5_seemsOpen_29 : decode cX5_seemsOpen 29 = .ok (.iconst 1, 1) := by decide +kernel
theorem dX5_seemsOpen_30 : decode cX5_seemsOpen 30 = .ok (.goto 4, 3) := by decide +kernel
theorem dX5_seemsOpen_33 : decode cX5_seemsOpen 33 = .ok (.iconst 0, 1) := by decide +kernel
theorem dX5_seemsOpen_34 : decode cX5_seemsOpen 34 = .ok (.ireturn, 1) := by decide +kernel
theorem dJ7_fill_53178_0 : decode cJ7_fill_53178 0 = .ok (.iconst 0, 1) := by decide +kernel
theorem dJ7_fill_53178_1 : decode cJ7_fill_53178 1 = .ok (.istore_n 2, 1) := by decide +kernel
theorem dJ7_fill_53178_2 : decode cJ7_fill_53178 2 = .ok (.aload_n 0, 1) := by decide +kernel
theorem dJ7_fill_53178_3 : decode cJ7_fill_53178 3 = .ok (.arraylength, 1) := by decide +kernel
theorem dJ7_fill_53178_4 : decode cJ7_fill_53178 4 = .ok (.istore_n 3, 1) := by decide +kernel
theorem dJ7_fill_53178_5 : decode cJ7_fill_53178 5 = .ok (.iload_n 2, 1) := by decide +kernel
theorem dJ7_fill_53178_6 : decode cJ7_fill_53178 6 = .ok (.iload_n 3, 1) := by decide +kernel
theorem dJ7_fill_53178_7 : decode cJ7_fill_53178 7 = .ok (.if_icmp .ge 13, 3) := by decide +kernel
theorem dJ7_fill_53178_10 : decode cJ7_fill_53178 10 = .ok (.aload_n 0, 1) := by decide +kernel
theorem dJ7_fill_53178_11 : decode cJ7_fill_53178 11 = .ok (.iload_n 2, 1) := by decide +kernel
theorem dJ7_fill_53178_12 : decode cJ7_fill_53178 12 = .ok (.iload_n 1, 1) := by decide +kernel
theorem dJ7_fill_53178_13 : decode cJ7_fill_53178 13 = .ok (.iastore, 1) := by decide +kernel
theorem dJ7_fill_53178_14 : decode cJ7_fill_53178 14 = .ok (.iinc 2 1, 3) := by decide +kernel
theorem dJ7_fill_53178_17 : decode cJ7_fill_53178 17 = .ok (.goto (-12), 3) := by decide +kernel
theorem dJ7_fill_53178_20 : decode cJ7_fill_53178 20 = .ok (.return_, 1) := by decide +kernel
theorem dJ9_floorMod_7cf53_0 : decode cJ9_floorMod_7cf53 0 = .ok (.iload_n 0, 1) := by decide +kernel
theorem dJ9_floorMod_7cf53_1 : decode cJ9_floorMod_7cf53 1 = .ok (.iload_n 1, 1) := by decide +kernel
theorem dJ9_floorMod_7cf53_2 : decode cJ9_floorMod_7cf53 2 = .ok (.irem, 1) := by decide +kernel
theorem dJ9_floorMod_7cf53_3 : decode cJ9_floorMod_7cf53 3 = .ok (.istore_n 2, 1) := by decide +kernel
theorem dJ9_floorMod_7cf53_4 : decode cJ9_floorMod_7cf53 4 = .ok (.iload_n 0, 1) := by decide +kernel
theorem dJ9_floorMod_7cf53_5 : decode cJ9_floorMod_7cf53 5 = .ok (.iload_n 1, 1) := by decide +kernel
theorem dJ9_floorMod_7cf53_6 : decode cJ9_floorMod_7cf53 6 = .ok (.ixor, 1) := by decide +kernel
theorem dJ9_floorMod_7cf53_7 : decode cJ9_floorMod_7cf53 7 = .ok (.ifCond .ge 11, 3) := by decide +kernel
theorem dJ9_floorMod_7cf53_10 : decode cJ9_floorMod_7cf53 10 = .ok (.iload_n 2, 1) := by decide +kernel
theorem dJ9_floorMod_7cf53_11 : decode cJ9_floorMod_7cf53 11 = .ok (.ifCond .eq 7, 3) := by decide +kernel
theorem dJ9_floorMod_7cf53_14 : decode cJ9_floorMod_7cf53 14 = .ok (.iload_n 2, 1) := by decide +kernel
theorem dJ9_floorMod_7cf53_15 : decode cJ9_floorMod_7cf53 15 = .ok (.iload_n 1, 1) := by decide +kernel
theorem dJ9_floorMod_7cf53_16 : decode cJ9_floorMod_7cf53 16 = .ok (.iadd, 1) := by decide +kernel
theorem dJ9_floorMod_7cf53_17 : decode cJ9_floorMod_7cf53 17 = .ok (.ireturn, 1) := by decide +kernel
theorem dJ9_floorMod_7cf53_18 : decode cJ9_floorMod_7cf53 18 = .ok (.iload_n 2, 1) := by decide +kernel
theorem dJ9_floorMod_7cf53_19 : decode cJ9_floorMod_7cf53 19 = .ok (.ireturn, 1) := by decide +kernel
theorem dJ9_abs_0f7a4_0 : decode cJ9_abs_0f7a4 0 = .ok (.iload_n 0, 1) := by decide +kernel
theorem dJ9_abs_0f7a4_1 : decode cJ9_abs_0f7a4 1 = .ok (.ifCond .ge 8, 3) := by decide +kernel
theorem dJ9_abs_0f7a4_4 : decode cJ9_abs_0f7a4 4 = .ok (.iload_n 0, 1) := by decide +kernel
theorem dJ9_abs_0f7a4_5 : decode cJ9_abs_0f7a4 5 = .ok (.ineg, 1) := by decide +kernel
theorem dJ9_abs_0f7a4_6 : decode cJ9_abs_0f7a4 6 = .ok (.goto 4, 3) := by decide +kernel
theorem dJ9_abs_0f7a4_9 : decode cJ9_abs_0f7a4 9 = .ok (.iload_n 0, 1) := by decide +kernel
theorem dJ9_abs_0f7a4_10 : decode cJ9_abs_0f7a4 10 = .ok (.ireturn, 1) := by decide +kernel
