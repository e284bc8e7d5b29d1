theorem dX6_init_0 : decode cX6_init 0 = .ok (.aload_n 0, 1) := by decide +kernel
theorem dX6_init_1 : decode cX6_init 1 = .ok (.invokespecial 3, 3) := by decide +kernel
theorem dX6_init_4 : decode cX6_init 4 = .ok (.aload_n 0, 1) := by decide +kernel
theorem dX6_init_5 : decode cX6_init 5 = .ok (.iconst 4, 1) := by decide +kernel
theorem dX6_init_6 : decode cX6_init 6 = .ok (.anewarray 9, 3) := by decide +kernel
theorem dX6_init_9 : decode cX6_init 9 = .ok (.putfield 11, 3) := by decide +kernel
theorem dX6_init_12 : decode cX6_init 12 = .ok (.aload_n 0, 1) := by decide +kernel
theorem dX6_init_13 : decode cX6_init 13 = .ok (.iconst 3, 1) := by decide +kernel
theorem dX6_init_14 : decode cX6_init 14 = .ok (.anewarray 17, 3) := by decide +kernel
theorem dX6_init_17 : decode cX6_init 17 = .ok (.putfield 19, 3) := by decide +kernel
theorem dX6_init_20 : decode cX6_init 20 = .ok (.aload_n 0, 1) := by decide +kernel
theorem dX6_init_21 : decode cX6_init 21 = .ok (.bipush 12, 2) := by decide +kernel
theorem dX6_init_23 : decode cX6_init 23 = .ok (.anewarray 23, 3) := by decide +kernel
theorem dX6_init_26 : decode cX6_init 26 = .ok (.putfield 25, 3) := by decide +kernel
theorem dX6_init_29 : decode cX6_init 29 = .ok (.aload_n 0, 1) := by decide +kernel
theorem dX6_init_30 : decode cX6_init 30 = .ok (.bipush 8, 2) := by decide +kernel
theorem dX6_init_32 : decode cX6_init 32 = .ok (.anewarray 29, 3) := by decide +kernel
theorem dX6_init_35 : decode cX6_init 35 = .ok (.putfield 31, 3) := by decide +kernel
theorem dX6_init_38 : decode cX6_init 38 = .ok (.aload_n 0, 1) := by decide +kernel
theorem dX6_init_39 : decode cX6_init 39 = .ok (.bipush 30, 2) := by decide +kernel
theorem dX6_init_41 : decode cX6_init 41 = .ok (.newarray .int, 2) := by decide +kernel
theorem dX6_init_43 : decode cX6_init 43 = .ok (.putfield 35, 3) := by decide +kernel
theorem dX6_init_46 : decode cX6_init 46 = .ok (.aload_n 0, 1) := by decide +kernel
theorem dX6_init_47 : decode cX6_init 47 = .ok (.new 39, 3) := by decide +kernel
theorem dX6_init_50 : decode cX6_init 50 = .ok (.dup, 1) := by decide +kernel
theorem dX6_init_51 : decode cX6_init 51 = .ok (.invokespecial 41, 3) := by decide +kernel
theorem dX6_init_54 : decode cX6_init 54 = .ok (.putfield 42, 3) := by decide +kernel
theorem dX6_init_57 : decode cX6_init 57 = .ok (.aload_n 0, 1) := by decide +kernel
theorem dX6_init_58 : decode cX6_init 58 = .ok (.new 46, 3) := by decide +kernel
theorem dX6_init_61 : decode cX6_init 61 = .ok (.dup, 1) := by decide +kernel
theorem dX6_init_62 : decode cX6_init 62 = .ok (.invokespecial 48, 3) := by decide +kernel
theorem dX6_init_65 : decode cX6_init 65 = .ok (.putfield 49, 3) := by decide +kernel
theorem dX6_init_68 : decode cX6_init 68 = .ok (.iconst 0, 1) := by decide +kernel
theorem dX6_init_69 : decode cX6_init 69 = .ok (.istore_n 1, 1) := by decide +kernel
theorem dX6_init_70 : decode cX6_init 70 = .ok (.iload_n 1, 1) := by decide +kernel
theorem dX6_init_71 : decode cX6_init 71 = .ok (.aload_n 0, 1) := by decide +kernel
theorem dX6_init_72 : decode cX6_init 72 = .ok (.getfield 11, 3) := by decide +kernel
theorem dX6_init_75 : decode cX6_init 75 = .ok (.arraylength, 1) := by decide +kernel
theorem dX6_init_76 : decode cX6_init 76 = .ok (.if_icmp .ge 22, 3) := by decide +kernel
theorem dX6_init_79 : decode cX6_init 79 = .ok (.aload_n 0, 1) := by decide +kernel
theorem dX6_init_80 : decode cX6_init 80 = .ok (.getfield 11, 3) := by decide +kernel
theorem dX6_init_83 : decode cX6_init 83 = .ok (.iload_n 1, 1) := by decide +kernel
theorem dX6_init_84 : decode cX6_init 84 = .ok (.new 9, 3) := by decide +kernel
theorem dX6_init_87 : decode cX6_init 87 = .ok (.dup, 1) := by decide +kernel
theorem dX6_init_88 : decode cX6_init 88 = .ok (.invokespecial 53, 3) := by decide +kernel
theorem dX6_init_91 : decode cX6_init 91 = .ok (.aastore, 1) := by decide +kernel
theorem dX6_init_92 : decode cX6_init 92 = .ok (.iinc 1 1, 3) := by decide +kernel
theorem dX6_init_95 : decode cX6_init 95 = .ok (.goto (-25), 3) := by decide +kernel
theorem dX6_init_98 : decode cX6_init 98 = .ok (.return_, 1) := by decide +kernel
theorem dX6_houseAt_0 : decode cX6_houseAt 0 = .ok (.iload_n 1, 1) := by decide +kernel
theorem dX6_houseAt_1 : decode cX6_houseAt 1 = .ok (.ifCond .lt 29, 3) := by decide +kernel
theorem dX6_houseAt_4 : decode cX6_houseAt 4 = .ok (.iload_n 1, 1) := by decide +kernel
theorem dX6_houseAt_5 : decode cX6_houseAt 5 = .ok (.aload_n 0, 1) := by decide +kernel
theorem dX6_houseAt_6 : decode cX6_houseAt 6 = .ok (.getfield 54, 3) := by decide +kernel
theorem dX6_houseAt_9 : decode cX6_houseAt 9 = .ok (.if_icmp .ge 21, 3) := by decide +kernel
theorem dX6_houseAt_12 : decode cX6_houseAt 12 = .ok (.iload_n 1, 1) := by decide +kernel
theorem dX6_houseAt_13 : decode cX6_houseAt 13 = .ok (.aload_n 0, 1) := by decide +kernel
theorem dX6_houseAt_14 : decode cX6_houseAt 14 = .ok (.getfield 19, 3) := by decide +kernel
theorem dX6_houseAt_17 : decode cX6_houseAt 17 = .ok (.arraylength, 1) := by decide +kernel
theorem dX6_houseAt_18 : decode cX6_houseAt 18 = .ok (.if_icmp .ge 12, 3) := by decide +kernel
theorem dX6_houseAt_21 : decode cX6_houseAt 21 = .ok (.aload_n 0, 1) := by decide +kernel
theorem dX6_houseAt_22 : decode cX6_houseAt 22 = .ok (.getfield 19, 3) := by decide +kernel
theorem dX6_houseAt_25 : decode cX6_houseAt 25 = .ok (.iload_n 1, 1) := by decide +kernel
theorem dX6_houseAt_26 : decode cX6_houseAt 26 = .ok (.aaload, 1) := by decide +kernel
theorem dX6_houseAt_27 : decode cX6_houseAt 27 = .ok (.goto 4, 3) := by decide +kernel
theorem dX6_houseAt_30 : decode cX6_houseAt 30 = .ok (.aconst_null, 1) := by decide +kernel
theorem dX6_houseAt_31 : decode cX6_houseAt 31 = .ok (.areturn, 1) := by decide +kernel
theorem dX6_sheetAt_0 : decode cX6_sheetAt 0 = .ok (.iload_n 1, 1) := by decide +kernel
theorem dX6_sheetAt_1 : decode cX6_sheetAt 1 = .ok (.ifCond .lt 21, 3) := by decide +kernel
theorem dX6_sheetAt_4 : decode cX6_sheetAt 4 = .ok (.iload_n 1, 1) := by decide +kernel
theorem dX6_sheetAt_5 : decode cX6_sheetAt 5 = .ok (.aload_n 0, 1) := by decide +kernel
theorem dX6_sheetAt_6 : decode cX6_sheetAt 6 = .ok (.getfield 11, 3) := by decide +kernel
theorem dX6_sheetAt_9 : decode cX6_sheetAt 9 = .ok (.arraylength, 1) := by decide +kernel
theorem dX6_sheetAt_10 : decode cX6_sheetAt 10 = .ok (.if_icmp .ge 12, 3) := by decide +kernel
theorem dX6_sheetAt_13 : decode cX6_sheetAt 13 = .ok (.aload_n 0, 1) := by decide +kernel
theorem dX6_sheetAt_14 : decode cX6_sheetAt 14 = .ok (.getfield 11, 3) := by decide +kernel
theorem dX6_sheetAt_17 : decode cX6_sheetAt 17 = .ok (.iload_n 1, 1) := by decide +kernel
theorem dX6_sheetAt_18 : decode cX6_sheetAt 18 = .ok (.aaload, 1) := by decide +kernel
theorem dX6_sheetAt_19 : decode cX6_sheetAt 19 = .ok (.goto 4, 3) := by decide +kernel
theorem dX6_sheetAt_22 : decode cX6_sheetAt 22 = .ok (.aconst_null, 1) := by decide +kernel
theorem dX6_sheetAt_23 : decode cX6_sheetAt 23 = .ok (.areturn, 1) := by decide +kernel
theorem dX6_within_0 : decode cX6_within 0 = .ok (.iload_n 0, 1) := by decide +kernel
theorem dX6_within_1 : decode cX6_within 1 = .ok (.iload_n 1, 1) := by decide +kernel
theorem dX6_within_2 : decode cX6_within 2 = .ok (.if_icmp .lt 12, 3) := by decide +kernel
theorem dX6_within_5 : decode cX6_within 5 = .ok (.iload_n 0, 1) := by decide +kernel
theorem dX6_within_6 : decode cX6_within 6 = .ok (.iload_n 2, 1) := by decide +kernel
theorem dX6_within_7 : decode cX6_within 7 = .ok (.if_icmp .gt 7, 3) := by decide +kernel
theorem dX6_within_10 : decode cX6_within 10 = .ok (.iconst 1, 1) := by decide +kernel
theorem dX6_within_11 : decode cX6_within 11 = .ok (.goto 4, 3) := by decide +kernel
theorem dX6_within_14 : decode cX6_within 14 = .ok (.iconst 0, 1) := by decide +kernel
theorem dX6_within_15 : decode cX6_within 15 = .ok (.ireturn, 1) := by decide +kernel
theorem dX6_isSort_0 : decode cX6_isSort 0 = .ok (.iload_n 0, 1) := by decide +kernel
theorem dX6_isSort_1 : decode cX6_isSort 1 = .ok (.iconst 0, 1) := by decide +kernel
theorem dX6_isSort_2 : decode cX6_isSort 2 = .ok (.iconst 2, 1) := by decide +kernel
theorem dX6_isSort_3 : decode cX6_isSort 3 = .ok (.invokestatic 61, 3) := by decide +kernel
theorem dX6_isSort_6 : decode cX6_isSort 6 = .ok (.ireturn, 1) := by decide +kernel
theorem dX6_isTurn_0 : decode cX6_isTurn 0 = .ok (.iload_n 0, 1) := by decide +kernel
theorem dX6_isTurn_1 : decode cX6_isTurn 1 = .ok (.bipush (-60), 2) := by decide +kernel
theorem dX6_isTurn_3 : decode cX6_isTurn 3 = .ok (.bipush 60, 2) := by decide +kernel
theorem dX6_isTurn_5 : decode cX6_isTurn 5 = .ok (.invokestatic 61, 3) := by decide +kernel
theorem dX6_isTurn_8 : decode cX6_isTurn 8 = .ok (.ifCond .eq 26, 3) := by decide +kernel
theorem dX6_isTurn_11 : decode cX6_isTurn 11 = .ok (.iload_n 1, 1) := by decide +kernel
theorem dX6_isTurn_12 : decode cX6_isTurn 12 = .ok (.bipush (-60), 2) := by decide +kernel
theorem dX6_isTurn_14 : decode cX6_isTurn 14 = .ok (.bipush 60, 2) := by decide +kernel
theorem dX6_isTurn_16 : decode cX6_isTurn 16 = .ok (.invokestatic 61, 3) := by decide +kernel
theorem dX6_isTurn_19 : decode cX6_isTurn 19 = .ok (.ifCond .eq 15, 3) := by decide +kernel
theorem dX6_isTurn_22 : decode cX6_isTurn 22 = .ok (.iload_n 0, 1) := by decide +kernel
theorem dX6_isTurn_23 : decode cX6_isTurn 23 = .ok (.ifCond .ne 7, 3) := by decide +kernel
theorem dX6_isTurn_26 : decode cX6_isTurn 26 = .ok (.iload_n 1, 1) := by decide +kernel
theorem dX6_isTurn_27 : decode cX6_isTurn 27 = .ok (.ifCond .eq 7, 3) := by decide +kernel
theorem dX6_isTurn_30 : decode cX6_isTurn 30 = .ok (.iconst 1, 1) := by decide +kernel
theorem dX6_isTurn_31 : decode cX6_isTurn 31 = .ok (.goto 4, 3) := by decide +kernel
theorem dX6_isTurn_34 : decode cX6_isTurn 34 = .ok (.iconst 0, 1) := by decide +kernel
theorem dX6_isTurn_35 : decode cX6_isTurn 35 = .ok (.ireturn, 1) := by decide +kernel
theorem dX6_faulted_0 : decode cX6_faulted 0 = .ok (.aload_n 0, 1) := by decide +kernel
theorem dX6_faulted_1 : decode cX6_faulted 1 = .ok (.iload_n 1, 1) := by decide +kernel
theorem dX6_faulted_2 : decode cX6_faulted 2 = .ok (.putfield 65, 3) := by decide +kernel
theorem dX6_faulted_5 : decode cX6_faulted 5 = .ok (.bipush (-10), 2) := by decide +kernel
theorem dX6_faulted_7 : decode cX6_faulted 7 = .ok (.iload_n 1, 1) := by decide +kernel
theorem dX6_faulted_8 : decode cX6_faulted 8 = .ok (.isub, 1) := by decide +kernel
theorem dX6_faulted_9 : decode cX6_faulted 9 = .ok (.ireturn, 1) := by decide +kernel
theorem dX6_house_0 : decode cX6_house 0 = .ok (.aload_n 0, 1) := by decide +kernel
theorem dX6_house_1 : decode cX6_house 1 = .ok (.iconst 0, 1) := by decide +kernel
theorem dX6_house_2 : decode cX6_house 2 = .ok (.putfield 65, 3) := by decide +kernel
theorem dX6_house_5 : decode cX6_house 5 = .ok (.aload_n 0, 1) := by decide +kernel
theorem dX6_house_6 : decode cX6_house 6 = .ok (.iload_n 1, 1) := by decide +kernel
theorem dX6_house_7 : decode cX6_house 7 = .ok (.invokevirtual 70, 3) := by decide +kernel
theorem dX6_house_10 : decode cX6_house 10 = .ok (.astore 5, 2) := by decide +kernel
theorem dX6_house_12 : decode cX6_house 12 = .ok (.aload 5, 2) := by decide +kernel
theorem dX6_house_14 : decode cX6_house 14 = .ok (.ifnonnull 5, 3) := by decide +kernel
theorem dX6_house_17 : decode cX6_house 17 = .ok (.iconst (-1), 1) := by decide +kernel
theorem dX6_house_18 : decode cX6_house 18 = .ok (.ireturn, 1) := by decide +kernel
theorem dX6_house_19 : decode cX6_house 19 = .ok (.iload_n 2, 1) := by decide +kernel
theorem dX6_house_20 : decode cX6_house 20 = .ok (.invokestatic 74, 3) := by decide +kernel
theorem dX6_house_23 : decode cX6_house 23 = .ok (.ifCond .ne 6, 3) := by decide +kernel
theorem dX6_house_26 : decode cX6_house 26 = .ok (.bipush (-2), 2) := by decide +kernel
theorem dX6_house_28 : decode cX6_house 28 = .ok (.ireturn, 1) := by decide +kernel
theorem dX6_house_29 : decode cX6_house 29 = .ok (.aload 5, 2) := by decide +kernel
theorem dX6_house_31 : decode cX6_house 31 = .ok (.iload_n 2, 1) := by decide +kernel
theorem dX6_house_32 : decode cX6_house 32 = .ok (.iload_n 3, 1) := by decide +kernel
theorem dX6_house_33 : decode cX6_house 33 = .ok (.iload 4, 2) := by decide +kernel
theorem dX6_house_35 : decode cX6_house 35 = .ok (.invokevirtual 78, 3) := by decide +kernel
theorem dX6_house_38 : decode cX6_house 38 = .ok (.istore 6, 2) := by decide +kernel
theorem dX6_house_40 : decode cX6_house 40 = .ok (.iload 6, 2) := by decide +kernel
theorem dX6_house_42 : decode cX6_house 42 = .ok (.ifCond .eq 10, 3) := by decide +kernel
theorem dX6_house_45 : decode cX6_house 45 = .ok (.aload_n 0, 1) := by decide +kernel
theorem dX6_house_46 : decode cX6_house 46 = .ok (.iload 6, 2) := by decide +kernel
theorem dX6_house_48 : decode cX6_house 48 = .ok (.invokevirtual 82, 3) := by decide +kernel
theorem dX6_house_51 : decode cX6_house 51 = .ok (.ireturn, 1) := by decide +kernel
theorem dX6_house_52 : decode cX6_house 52 = .ok (.aload 5, 2) := by decide +kernel
theorem dX6_house_54 : decode cX6_house 54 = .ok (.iload_n 3, 1) := by decide +kernel
theorem dX6_house_55 : decode cX6_house 55 = .ok (.iload 4, 2) := by decide +kernel
theorem dX6_house_57 : decode cX6_house 57 = .ok (.invokestatic 86, 3) := by decide +kernel
theorem dX6_house_60 : decode cX6_house 60 = .ok (.istore 7, 2) := by decide +kernel
theorem dX6_house_62 : decode cX6_house 62 = .ok (.iload 7, 2) := by decide +kernel
theorem dX6_house_64 : decode cX6_house 64 = .ok (.bipush (-9), 2) := by decide +kernel
theorem dX6_house_66 : decode cX6_house 66 = .ok (.if_icmp .eq 9, 3) := by decide +kernel
theorem dX6_house_69 : decode cX6_house 69 = .ok (.bipush (-100), 2) := by decide +kernel
theorem dX6_house_71 : decode cX6_house 71 = .ok (.iload 7, 2) := by decide +kernel
theorem dX6_house_73 : decode cX6_house 73 = .ok (.isub, 1) := by decide +kernel
theorem dX6_house_74 : decode cX6_house 74 = .ok (.ireturn, 1) := by decide +kernel
theorem dX6_house_75 : decode cX6_house 75 = .ok (.aload_n 0, 1) := by decide +kernel
theorem dX6_house_76 : decode cX6_house 76 = .ok (.getfield 54, 3) := by decide +kernel
theorem dX6_house_79 : decode cX6_house 79 = .ok (.aload_n 0, 1) := by decide +kernel
theorem dX6_house_80 : decode cX6_house 80 = .ok (.getfield 19, 3) := by decide +kernel
theorem dX6_house_83 : decode cX6_house 83 = .ok (.arraylength, 1) := by decide +kernel
theorem dX6_house_84 : decode cX6_house 84 = .ok (.if_icmp .lt 6, 3) := by decide +kernel
theorem dX6_house_87 : decode cX6_house 87 = .ok (.bipush (-4), 2) := by decide +kernel
theorem dX6_house_89 : decode cX6_house 89 = .ok (.ireturn, 1) := by decide +kernel
theorem dX6_house_90 : decode cX6_house 90 = .ok (.aload_n 0, 1) := by decide +kernel
theorem dX6_house_91 : decode cX6_house 91 = .ok (.getfield 19, 3) := by decide +kernel
theorem dX6_house_94 : decode cX6_house 94 = .ok (.aload_n 0, 1) := by decide +kernel
theorem dX6_house_95 : decode cX6_house 95 = .ok (.getfield 54, 3) := by decide +kernel
theorem dX6_house_98 : decode cX6_house 98 = .ok (.aload 5, 2) := by decide +kernel
theorem dX6_house_100 : decode cX6_house 100 = .ok (.iload_n 3, 1) := by decide +kernel
theorem dX6_house_101 : decode cX6_house 101 = .ok (.invokestatic 90, 3) := by decide +kernel
theorem dX6_house_104 : decode cX6_house 104 = .ok (.aastore, 1) := by decide +kernel
theorem dX6_house_105 : decode cX6_house 105 = .ok (.aload_n 0, 1) := by decide +kernel
theorem dX6_house_106 : decode cX6_house 106 = .ok (.dup, 1) := by decide +kernel
theorem dX6_house_107 : decode cX6_house 107 = .ok (.getfield 54, 3) := by decide +kernel
theorem dX6_house_110 : decode cX6_house 110 = .ok (.iconst 1, 1) := by decide +kernel
theorem dX6_house_111 : decode cX6_house 111 = .ok (.iadd, 1) := by decide +kernel
theorem dX6_house_112 : decode cX6_house 112 = .ok (.putfield 54, 3) := by decide +kernel
theorem dX6_house_115 : decode cX6_house 115 = .ok (.aload_n 0, 1) := by decide +kernel
theorem dX6_house_116 : decode cX6_house 116 = .ok (.getfield 54, 3) := by decide +kernel
theorem dX6_house_119 : decode cX6_house 119 = .ok (.iconst 1, 1) := by decide +kernel
theorem dX6_house_120 : decode cX6_house 120 = .ok (.isub, 1) := by decide +kernel
theorem dX6_house_121 : decode cX6_house 121 = .ok (.ireturn, 1) := by decide +kernel
theorem dX6_firstFaultOf_0 : decode cX6_firstFaultOf 0 = .ok (.iconst 0, 1) := by decide +kernel
theorem dX6_firstFaultOf_1 : decode cX6_firstFaultOf 1 = .ok (.istore_n 3, 1) := by decide +kernel
theorem dX6_firstFaultOf_2 : decode cX6_firstFaultOf 2 = .ok (.iload_n 3, 1) := by decide +kernel
theorem dX6_firstFaultOf_3 : decode cX6_firstFaultOf 3 = .ok (.iload_n 2, 1) := by decide +kernel
theorem dX6_firstFaultOf_4 : decode cX6_firstFaultOf 4 = .ok (.if_icmp .ge 20, 3) := by decide +kernel
theorem dX6_firstFaultOf_7 : decode cX6_firstFaultOf 7 = .ok (.aload_n 0, 1) := by decide +kernel
theorem dX6_firstFaultOf_8 : decode cX6_firstFaultOf 8 = .ok (.iload_n 1, 1) := by decide +kernel
theorem dX6_firstFaultOf_9 : decode cX6_firstFaultOf 9 = .ok (.iload_n 3, 1) := by decide +kernel
theorem dX6_firstFaultOf_10 : decode cX6_firstFaultOf 10 = .ok (.invokestatic 94, 3) := by decide +kernel
theorem dX6_firstFaultOf_13 : decode cX6_firstFaultOf 13 = .ok (.ifCond .ne 5, 3) := by decide +kernel
theorem dX6_firstFaultOf_16 : decode cX6_firstFaultOf 16 = .ok (.iload_n 3, 1) := by decide +kernel
theorem dX6_firstFaultOf_17 : decode cX6_firstFaultOf 17 = .ok (.ireturn, 1) := by decide +kernel
theorem dX6_firstFaultOf_18 : decode cX6_firstFaultOf 18 = .ok (.iinc 3 1, 3) := by decide +kernel
theorem dX6_firstFaultOf_21 : decode cX6_firstFaultOf 21 = .ok (.goto (-19), 3) := by decide +kernel
theorem dX6_firstFaultOf_24 : decode cX6_firstFaultOf 24 = .ok (.iload_n 2, 1) := by decide +kernel
theorem dX6_firstFaultOf_25 : decode cX6_firstFaultOf 25 = .ok (.iconst 5, 1) := by decide +kernel
theorem dX6_firstFaultOf_26 : decode cX6_firstFaultOf 26 = .ok (.if_icmp .ge 7, 3) := by decide +kernel
theorem dX6_firstFaultOf_29 : decode cX6_firstFaultOf 29 = .ok (.iconst 5, 1) := by decide +kernel
theorem dX6_firstFaultOf_30 : decode cX6_firstFaultOf 30 = .ok (.goto 10, 3) := by decide +kernel
theorem dX6_firstFaultOf_33 : decode cX6_firstFaultOf 33 = .ok (.iconst 5, 1) := by decide +kernel
theorem dX6_firstFaultOf_34 : decode cX6_firstFaultOf 34 = .ok (.aload_n 0, 1) := by decide +kernel
theorem dX6_firstFaultOf_35 : decode cX6_firstFaultOf 35 = .ok (.iload_n 1, 1) := by decide +kernel
theorem dX6_firstFaultOf_36 : decode cX6_firstFaultOf 36 = .ok (.invokestatic 98, 3) := by decide +kernel
theorem dX6_firstFaultOf_39 : decode cX6_firstFaultOf 39 = .ok (.iadd, 1) := by decide +kernel
theorem dX6_firstFaultOf_40 : decode cX6_firstFaultOf 40 = .ok (.istore_n 3, 1) := by decide +kernel
theorem dX6_firstFaultOf_41 : decode cX6_firstFaultOf 41 = .ok (.iload_n 2, 1) := by decide +kernel
theorem dX6_firstFaultOf_42 : decode cX6_firstFaultOf 42 = .ok (.iload_n 3, 1) := by decide +kernel
theorem dX6_firstFaultOf_43 : decode cX6_firstFaultOf 43 = .ok (.if_icmp .ge 7, 3) := by decide +kernel
theorem dX6_firstFaultOf_46 : decode cX6_firstFaultOf 46 = .ok (.iload_n 2, 1) := by decide +kernel
theorem dX6_firstFaultOf_47 : decode cX6_firstFaultOf 47 = .ok (.goto 5, 3) := by decide +kernel
theorem dX6_firstFaultOf_50 : decode cX6_firstFaultOf 50 = .ok (.bipush (-9), 2) := by decide +kernel
theorem dX6_firstFaultOf_52 : decode cX6_firstFaultOf 52 = .ok (.ireturn, 1) := by decide +kernel
theorem dX6_goesOn_0 : decode cX6_goesOn 0 = .ok (.aload_n 0, 1) := by decide +kernel
theorem dX6_goesOn_1 : decode cX6_goesOn 1 = .ok (.getfield 102, 3) := by decide +kernel
theorem dX6_goesOn_4 : decode cX6_goesOn 4 = .ok (.iload_n 1, 1) := by decide +kernel
theorem dX6_goesOn_5 : decode cX6_goesOn 5 = .ok (.iload_n 2, 1) := by decide +kernel
theorem dX6_goesOn_6 : decode cX6_goesOn 6 = .ok (.iadd, 1) := by decide +kernel
theorem dX6_goesOn_7 : decode cX6_goesOn 7 = .ok (.iaload, 1) := by decide +kernel
theorem dX6_goesOn_8 : decode cX6_goesOn 8 = .ok (.istore_n 3, 1) := by decide +kernel
theorem dX6_goesOn_9 : decode cX6_goesOn 9 = .ok (.iload_n 2, 1) := by decide +kernel
theorem dX6_goesOn_10 : decode cX6_goesOn 10 = .ok (.tableswitch 88 0 4 #[34, 46, 55, 67, 76], 34) := by decide +kernel
theorem dX6_goesOn_44 : decode cX6_goesOn 44 = .ok (.iload_n 3, 1) := by decide +kernel
theorem dX6_goesOn_45 : decode cX6_goesOn 45 = .ok (.bipush 119, 2) := by decide +kernel
theorem dX6_goesOn_47 : decode cX6_goesOn 47 = .ok (.if_icmp .ne 7, 3) := by decide +kernel
theorem dX6_goesOn_50 : decode cX6_goesOn 50 = .ok (.iconst 1, 1) := by decide +kernel
theorem dX6_goesOn_51 : decode cX6_goesOn 51 = .ok (.goto 4, 3) := by decide +kernel
theorem dX6_goesOn_54 : decode cX6_goesOn 54 = .ok (.iconst 0, 1) := by decide +kernel
theorem dX6_goesOn_55 : decode cX6_goesOn 55 = .ok (.ireturn, 1) := by decide +kernel
theorem dX6_goesOn_56 : decode cX6_goesOn 56 = .ok (.iload_n 3, 1) := by decide +kernel
theorem dX6_goesOn_57 : decode cX6_goesOn 57 = .ok (.bipush 49, 2) := by decide +kernel
theorem dX6_goesOn_59 : decode cX6_goesOn 59 = .ok (.bipush 52, 2) := by decide +kernel
theorem dX6_goesOn_61 : decode cX6_goesOn 61 = .ok (.invokestatic 61, 3) := by decide +kernel
theorem dX6_goesOn_64 : decode cX6_goesOn 64 = .ok (.ireturn, 1) := by decide +kernel
theorem dX6_goesOn_65 : decode cX6_goesOn 65 = .ok (.iload_n 3, 1) := by decide +kernel
theorem dX6_goesOn_66 : decode cX6_goesOn 66 = .ok (.bipush 104, 2) := by decide +kernel
theorem dX6_goesOn_68 : decode cX6_goesOn 68 = .ok (.if_icmp .ne 7, 3) := by decide +kernel
theorem dX6_goesOn_71 : decode cX6_goesOn 71 = .ok (.iconst 1, 1) := by decide +kernel
theorem dX6_goesOn_72 : decode cX6_goesOn 72 = .ok (.goto 4, 3) := by decide +kernel
theorem dX6_goesOn_75 : decode cX6_goesOn 75 = .ok (.iconst 0, 1) := by decide +kernel
theorem dX6_goesOn_76 : decode cX6_goesOn 76 = .ok (.ireturn, 1) := by decide +kernel
theorem dX6_goesOn_77 : decode cX6_goesOn 77 = .ok (.iload_n 3, 1) := by decide +kernel
theorem dX6_goesOn_78 : decode cX6_goesOn 78 = .ok (.bipush 49, 2) := by decide +kernel
theorem dX6_goesOn_80 : decode cX6_goesOn 80 = .ok (.bipush 51, 2) := by decide +kernel
theorem dX6_goesOn_82 : decode cX6_goesOn 82 = .ok (.invokestatic 61, 3) := by decide +kernel
theorem dX6_goesOn_85 : decode cX6_goesOn 85 = .ok (.ireturn, 1) := by decide +kernel
theorem dX6_goesOn_86 : decode cX6_goesOn 86 = .ok (.iload_n 3, 1) := by decide +kernel
theorem dX6_goesOn_87 : decode cX6_goesOn 87 = .ok (.bipush 59, 2) := by decide +kernel
theorem dX6_goesOn_89 : decode cX6_goesOn 89 = .ok (.if_icmp .ne 7, 3) := by decide +kernel
theorem dX6_goesOn_92 : decode cX6_goesOn 92 = .ok (.iconst 1, 1) := by decide +kernel
theorem dX6_goesOn_93 : decode cX6_goesOn 93 = .ok (.goto 4, 3) := by decide +kernel
theorem dX6_goesOn_96 : decode cX6_goesOn 96 = .ok (.iconst 0, 1) := by decide +kernel
theorem dX6_goesOn_97 : decode cX6_goesOn 97 = .ok (.ireturn, 1) := by decide +kernel
theorem dX6_goesOn_98 : decode cX6_goesOn 98 = .ok (.iload_n 2, 1) := by decide +kernel
theorem dX6_goesOn_99 : decode cX6_goesOn 99 = .ok (.iconst 5, 1) := by decide +kernel
theorem dX6_goesOn_100 : decode cX6_goesOn 100 = .ok (.aload_n 0, 1) := by decide +kernel
theorem dX6_goesOn_101 : decode cX6_goesOn 101 = .ok (.iload_n 1, 1) := by decide +kernel
theorem dX6_goesOn_102 : decode cX6_goesOn 102 = .ok (.invokestatic 98, 3) := by decide +kernel
theorem dX6_goesOn_105 : decode cX6_goesOn 105 = .ok (.iadd, 1) := by decide +kernel
theorem dX6_goesOn_106 : decode cX6_goesOn 106 = .ok (.if_icmp .ge 16, 3) := by decide +kernel
theorem dX6_goesOn_109 : decode cX6_goesOn 109 = .ok (.iload_n 3, 1) := by decide +kernel
theorem dX6_goesOn_110 : decode cX6_goesOn 110 = .ok (.invokestatic 105, 3) := by decide +kernel
theorem dX6_goesOn_113 : decode cX6_goesOn 113 = .ok (.bipush (-9), 2) := by decide +kernel
theorem dX6_goesOn_115 : decode cX6_goesOn 115 = .ok (.if_icmp .eq 7, 3) := by decide +kernel
theorem dX6_goesOn_118 : decode cX6_goesOn 118 = .ok (.iconst 1, 1) := by decide +kernel
theorem dX6_goesOn_119 : decode cX6_goesOn 119 = .ok (.goto 4, 3) := by decide +kernel
theorem dX6_goesOn_122 : decode cX6_goesOn 122 = .ok (.iconst 0, 1) := by decide +kernel
theorem dX6_goesOn_123 : decode cX6_goesOn 123 = .ok (.ireturn, 1) := by decide +kernel
theorem dX6_lettersOf_0 : decode cX6_lettersOf 0 = .ok (.aload_n 0, 1) := by decide +kernel
theorem dX6_lettersOf_1 : decode cX6_lettersOf 1 = .ok (.getfield 102, 3) := by decide +kernel
theorem dX6_lettersOf_4 : decode cX6_lettersOf 4 = .ok (.iload_n 1, 1) := by decide +kernel
theorem dX6_lettersOf_5 : decode cX6_lettersOf 5 = .ok (.iconst 1, 1) := by decide +kernel
theorem dX6_lettersOf_6 : decode cX6_lettersOf 6 = .ok (.iadd, 1) := by decide +kernel
theorem dX6_lettersOf_7 : decode cX6_lettersOf 7 = .ok (.iaload, 1) := by decide +kernel
theorem dX6_lettersOf_8 : decode cX6_lettersOf 8 = .ok (.bipush 48, 2) := by decide +kernel
theorem dX6_lettersOf_10 : decode cX6_lettersOf 10 = .ok (.isub, 1) := by decide +kernel
theorem dX6_lettersOf_11 : decode cX6_lettersOf 11 = .ok (.aload_n 0, 1) := by decide +kernel
theorem dX6_lettersOf_12 : decode cX6_lettersOf 12 = .ok (.getfield 102, 3) := by decide +kernel
theorem dX6_lettersOf_15 : decode cX6_lettersOf 15 = .ok (.iload_n 1, 1) := by decide +kernel
theorem dX6_lettersOf_16 : decode cX6_lettersOf 16 = .ok (.iconst 3, 1) := by decide +kernel
theorem dX6_lettersOf_17 : decode cX6_lettersOf 17 = .ok (.iadd, 1) := by decide +kernel
theorem dX6_lettersOf_18 : decode cX6_lettersOf 18 = .ok (.iaload, 1) := by decide +kernel
theorem dX6_lettersOf_19 : decode cX6_lettersOf 19 = .ok (.bipush 48, 2) := by decide +kernel
theorem dX6_lettersOf_21 : decode cX6_lettersOf 21 = .ok (.isub, 1) := by decide +kernel
theorem dX6_lettersOf_22 : decode cX6_lettersOf 22 = .ok (.invokestatic 108, 3) := by decide +kernel
theorem dX6_lettersOf_25 : decode cX6_lettersOf 25 = .ok (.ireturn, 1) := by decide +kernel
theorem dX6_sidesOf_0 : decode cX6_sidesOf 0 = .ok (.iconst 3, 1) := by decide +kernel
theorem dX6_sidesOf_1 : decode cX6_sidesOf 1 = .ok (.iload_n 0, 1) := by decide +kernel
theorem dX6_sidesOf_2 : decode cX6_sidesOf 2 = .ok (.imul, 1) := by decide +kernel
theorem dX6_sidesOf_3 : decode cX6_sidesOf 3 = .ok (.iload_n 1, 1) := by decide +kernel
theorem dX6_sidesOf_4 : decode cX6_sidesOf 4 = .ok (.imul, 1) := by decide +kernel
theorem dX6_sidesOf_5 : decode cX6_sidesOf 5 = .ok (.iload_n 0, 1) := by decide +kernel
theorem dX6_sidesOf_6 : decode cX6_sidesOf 6 = .ok (.iadd, 1) := by decide +kernel
theorem dX6_sidesOf_7 : decode cX6_sidesOf 7 = .ok (.iload_n 1, 1) := by decide +kernel
theorem dX6_sidesOf_8 : decode cX6_sidesOf 8 = .ok (.iadd, 1) := by decide +kernel
theorem dX6_sidesOf_9 : decode cX6_sidesOf 9 = .ok (.ireturn, 1) := by decide +kernel
theorem dX6_kindOf_0 : decode cX6_kindOf 0 = .ok (.iload_n 0, 1) := by decide +kernel
theorem dX6_kindOf_1 : decode cX6_kindOf 1 = .ok (.lookupswitch 41 #[(103, 37), (109, 35), (111, 39)], 35) := by decide +kernel
theorem dX6_kindOf_36 : decode cX6_kindOf 36 = .ok (.iconst 0, 1) := by decide +kernel
theorem dX6_kindOf_37 : decode cX6_kindOf 37 = .ok (.ireturn, 1) := by decide +kernel
theorem dX6_kindOf_38 : decode cX6_kindOf 38 = .ok (.iconst 1, 1) := by decide +kernel
theorem dX6_kindOf_39 : decode cX6_kindOf 39 = .ok (.ireturn, 1) := by decide +kernel
theorem dX6_kindOf_40 : decode cX6_kindOf 40 = .ok (.iconst 2, 1) := by decide +kernel
theorem dX6_kindOf_41 : decode cX6_kindOf 41 = .ok (.ireturn, 1) := by decide +kernel
theorem dX6_kindOf_42 : decode cX6_kindOf 42 = .ok (.bipush (-9), 2) := by decide +kernel
theorem dX6_kindOf_44 : decode cX6_kindOf 44 = .ok (.ireturn, 1) := by decide +kernel
theorem dX6_builtBy_0 : decode cX6_builtBy 0 = .ok (.new 17, 3) := by decide +kernel
theorem dX6_builtBy_3 : decode cX6_builtBy 3 = .ok (.dup, 1) := by decide +kernel
theorem dX6_builtBy_4 : decode cX6_builtBy 4 = .ok (.aload_n 0, 1) := by decide +kernel
theorem dX6_builtBy_5 : decode cX6_builtBy 5 = .ok (.getfield 102, 3) := by decide +kernel
theorem dX6_builtBy_8 : decode cX6_builtBy 8 = .ok (.iload_n 1, 1) := by decide +kernel
theorem dX6_builtBy_9 : decode cX6_builtBy 9 = .ok (.iconst 1, 1) := by decide +kernel
theorem dX6_builtBy_10 : decode cX6_builtBy 10 = .ok (.iadd, 1) := by decide +kernel
theorem dX6_builtBy_11 : decode cX6_builtBy 11 = .ok (.iaload, 1) := by decide +kernel
theorem dX6_builtBy_12 : decode cX6_builtBy 12 = .ok (.bipush 48, 2) := by decide +kernel
theorem dX6_builtBy_14 : decode cX6_builtBy 14 = .ok (.isub, 1) := by decide +kernel
theorem dX6_builtBy_15 : decode cX6_builtBy 15 = .ok (.aload_n 0, 1) := by decide +kernel
theorem dX6_builtBy_16 : decode cX6_builtBy 16 = .ok (.getfield 102, 3) := by decide +kernel
theorem dX6_builtBy_19 : decode cX6_builtBy 19 = .ok (.iload_n 1, 1) := by decide +kernel
theorem dX6_builtBy_20 : decode cX6_builtBy 20 = .ok (.iconst 3, 1) := by decide +kernel
theorem dX6_builtBy_21 : decode cX6_builtBy 21 = .ok (.iadd, 1) := by decide +kernel
theorem dX6_builtBy_22 : decode cX6_builtBy 22 = .ok (.iaload, 1) := by decide +kernel
theorem dX6_builtBy_23 : decode cX6_builtBy 23 = .ok (.bipush 48, 2) := by decide +kernel
theorem dX6_builtBy_25 : decode cX6_builtBy 25 = .ok (.isub, 1) := by decide +kernel
theorem dX6_builtBy_26 : decode cX6_builtBy 26 = .ok (.invokespecial 112, 3) := by decide +kernel
theorem dX6_builtBy_29 : decode cX6_builtBy 29 = .ok (.astore_n 2, 1) := by decide +kernel
theorem dX6_builtBy_30 : decode cX6_builtBy 30 = .ok (.iconst 0, 1) := by decide +kernel
theorem dX6_builtBy_31 : decode cX6_builtBy 31 = .ok (.istore_n 3, 1) := by decide +kernel
theorem dX6_builtBy_32 : decode cX6_builtBy 32 = .ok (.iload_n 3, 1) := by decide +kernel
theorem dX6_builtBy_33 : decode cX6_builtBy 33 = .ok (.aload_n 2, 1) := by decide +kernel
theorem dX6_builtBy_34 : decode cX6_builtBy 34 = .ok (.getfield 115, 3) := by decide +kernel
theorem dX6_builtBy_37 : decode cX6_builtBy 37 = .ok (.if_icmp .ge 28, 3) := by decide +kernel
theorem dX6_builtBy_40 : decode cX6_builtBy 40 = .ok (.aload_n 2, 1) := by decide +kernel
theorem dX6_builtBy_41 : decode cX6_builtBy 41 = .ok (.getfield 118, 3) := by decide +kernel
theorem dX6_builtBy_44 : decode cX6_builtBy 44 = .ok (.iload_n 3, 1) := by decide +kernel
theorem dX6_builtBy_45 : decode cX6_builtBy 45 = .ok (.aload_n 0, 1) := by decide +kernel
theorem dX6_builtBy_46 : decode cX6_builtBy 46 = .ok (.getfield 102, 3) := by decide +kernel
theorem dX6_builtBy_49 : decode cX6_builtBy 49 = .ok (.iload_n 1, 1) := by decide +kernel
theorem dX6_builtBy_50 : decode cX6_builtBy 50 = .ok (.iconst 5, 1) := by decide +kernel
theorem dX6_builtBy_51 : decode cX6_builtBy 51 = .ok (.iadd, 1) := by decide +kernel
theorem dX6_builtBy_52 : decode cX6_builtBy 52 = .ok (.iload_n 3, 1) := by decide +kernel
theorem dX6_builtBy_53 : decode cX6_builtBy 53 = .ok (.iadd, 1) := by decide +kernel
theorem dX6_builtBy_54 : decode cX6_builtBy 54 = .ok (.iaload, 1) := by decide +kernel
theorem dX6_builtBy_55 : decode cX6_builtBy 55 = .ok (.invokestatic 105, 3) := by decide +kernel
theorem dX6_builtBy_58 : decode cX6_builtBy 58 = .ok (.iastore, 1) := by decide +kernel
theorem dX6_builtBy_59 : decode cX6_builtBy 59 = .ok (.iinc 3 1, 3) := by decide +kernel
theorem dX6_builtBy_62 : decode cX6_builtBy 62 = .ok (.goto (-30), 3) := by decide +kernel
theorem dX6_builtBy_65 : decode cX6_builtBy 65 = .ok (.aload_n 2, 1) := by decide +kernel
theorem dX6_builtBy_66 : decode cX6_builtBy 66 = .ok (.areturn, 1) := by decide +kernel
theorem dX6_pane_0 : decode cX6_pane 0 = .ok (.aload_n 0, 1) := by decide +kernel
theorem dX6_pane_1 : decode cX6_pane 1 = .ok (.iload_n 1, 1) := by decide +kernel
theorem dX6_pane_2 : decode cX6_pane 2 = .ok (.invokevirtual 121, 3) := by decide +kernel
theorem dX6_pane_5 : decode cX6_pane 5 = .ok (.astore 4, 2) := by decide +kernel
theorem dX6_pane_7 : decode cX6_pane 7 = .ok (.aload 4, 2) := by decide +kernel
theorem dX6_pane_9 : decode cX6_pane 9 = .ok (.ifnull 12, 3) := by decide +kernel
theorem dX6_pane_12 : decode cX6_pane 12 = .ok (.aload 4, 2) := by decide +kernel
theorem dX6_pane_14 : decode cX6_pane 14 = .ok (.iload_n 2, 1) := by decide +kernel
theorem dX6_pane_15 : decode cX6_pane 15 = .ok (.invokevirtual 141, 3) := by decide +kernel
theorem dX6_pane_18 : decode cX6_pane 18 = .ok (.ifCond .ne 5, 3) := by decide +kernel
theorem dX6_pane_21 : decode cX6_pane 21 = .ok (.iconst (-1), 1) := by decide +kernel
theorem dX6_pane_22 : decode cX6_pane 22 = .ok (.ireturn, 1) := by decide +kernel
theorem dX6_pane_23 : decode cX6_pane 23 = .ok (.iload_n 3, 1) := by decide +kernel
theorem dX6_pane_24 : decode cX6_pane 24 = .ok (.iconst 0, 1) := by decide +kernel
theorem dX6_pane_25 : decode cX6_pane 25 = .ok (.iconst 2, 1) := by decide +kernel
theorem dX6_pane_26 : decode cX6_pane 26 = .ok (.invokestatic 61, 3) := by decide +kernel
theorem dX6_pane_29 : decode cX6_pane 29 = .ok (.ifCond .eq 13, 3) := by decide +kernel
theorem dX6_pane_32 : decode cX6_pane 32 = .ok (.aload 4, 2) := by decide +kernel
theorem dX6_pane_34 : decode cX6_pane 34 = .ok (.iload_n 2, 1) := by decide +kernel
theorem dX6_pane_35 : decode cX6_pane 35 = .ok (.iload_n 3, 1) := by decide +kernel
theorem dX6_pane_36 : decode cX6_pane 36 = .ok (.invokevirtual 165, 3) := by decide +kernel
theorem dX6_pane_39 : decode cX6_pane 39 = .ok (.goto 5, 3) := by decide +kernel
theorem dX6_pane_42 : decode cX6_pane 42 = .ok (.bipush (-2), 2) := by decide +kernel
theorem dX6_pane_44 : decode cX6_pane 44 = .ok (.ireturn, 1) := by decide +kernel
theorem dX6_seen_0 : decode cX6_seen 0 = .ok (.aload_n 0, 1) := by decide +kernel
theorem dX6_seen_1 : decode cX6_seen 1 = .ok (.iload_n 1, 1) := by decide +kernel
theorem dX6_seen_2 : decode cX6_seen 2 = .ok (.invokevirtual 121, 3) := by decide +kernel
theorem dX6_seen_5 : decode cX6_seen 5 = .ok (.astore 7, 2) := by decide +kernel
theorem dX6_seen_7 : decode cX6_seen 7 = .ok (.aload 7, 2) := by decide +kernel
theorem dX6_seen_9 : decode cX6_seen 9 = .ok (.ifnull 12, 3) := by decide +kernel
theorem dX6_seen_12 : decode cX6_seen 12 = .ok (.aload 7, 2) := by decide +kernel
theorem dX6_seen_14 : decode cX6_seen 14 = .ok (.iload_n 2, 1) := by decide +kernel
theorem dX6_seen_15 : decode cX6_seen 15 = .ok (.invokevirtual 156, 3) := by decide +kernel
theorem dX6_seen_18 : decode cX6_seen 18 = .ok (.ifCond .ne 5, 3) := by decide +kernel
theorem dX6_seen_21 : decode cX6_seen 21 = .ok (.iconst (-1), 1) := by decide +kernel
theorem dX6_seen_22 : decode cX6_seen 22 = .ok (.ireturn, 1) := by decide +kernel
theorem dX6_seen_23 : decode cX6_seen 23 = .ok (.iload_n 3, 1) := by decide +kernel
theorem dX6_seen_24 : decode cX6_seen 24 = .ok (.iload 4, 2) := by decide +kernel
theorem dX6_seen_26 : decode cX6_seen 26 = .ok (.invokestatic 168, 3) := by decide +kernel
theorem dX6_seen_29 : decode cX6_seen 29 = .ok (.ifCond .eq 25, 3) := by decide +kernel
theorem dX6_seen_32 : decode cX6_seen 32 = .ok (.iload 5, 2) := by decide +kernel
theorem dX6_seen_34 : decode cX6_seen 34 = .ok (.iconst 1, 1) := by decide +kernel
theorem dX6_seen_35 : decode cX6_seen 35 = .ok (.sipush 200, 3) := by decide +kernel
theorem dX6_seen_38 : decode cX6_seen 38 = .ok (.invokestatic 61, 3) := by decide +kernel
theorem dX6_seen_41 : decode cX6_seen 41 = .ok (.ifCond .eq 13, 3) := by decide +kernel
theorem dX6_seen_44 : decode cX6_seen 44 = .ok (.iload 6, 2) := by decide +kernel
theorem dX6_seen_46 : decode cX6_seen 46 = .ok (.iconst 0, 1) := by decide +kernel
theorem dX6_seen_47 : decode cX6_seen 47 = .ok (.iconst 3, 1) := by decide +kernel
theorem dX6_seen_48 : decode cX6_seen 48 = .ok (.invokestatic 61, 3) := by decide +kernel
theorem dX6_seen_51 : decode cX6_seen 51 = .ok (.ifCond .ne 6, 3) := by decide +kernel
theorem dX6_seen_54 : decode cX6_seen 54 = .ok (.bipush (-2), 2) := by decide +kernel
theorem dX6_seen_56 : decode cX6_seen 56 = .ok (.ireturn, 1) := by decide +kernel
theorem dX6_seen_57 : decode cX6_seen 57 = .ok (.aload_n 0, 1) := by decide +kernel
theorem dX6_seen_58 : decode cX6_seen 58 = .ok (.getfield 42, 3) := by decide +kernel
theorem dX6_seen_61 : decode cX6_seen 61 = .ok (.aload 7, 2) := by decide +kernel
theorem dX6_seen_63 : decode cX6_seen 63 = .ok (.iload_n 2, 1) := by decide +kernel
theorem dX6_seen_64 : decode cX6_seen 64 = .ok (.iload_n 3, 1) := by decide +kernel
theorem dX6_seen_65 : decode cX6_seen 65 = .ok (.iload 4, 2) := by decide +kernel
theorem dX6_seen_67 : decode cX6_seen 67 = .ok (.iload 5, 2) := by decide +kernel
theorem dX6_seen_69 : decode cX6_seen 69 = .ok (.invokevirtual 172, 3) := by decide +kernel
theorem dX6_seen_72 : decode cX6_seen 72 = .ok (.iload 6, 2) := by decide +kernel
theorem dX6_seen_74 : decode cX6_seen 74 = .ok (.tableswitch 50 0 2 #[26, 34, 42], 26) := by decide +kernel
theorem dX6_seen_100 : decode cX6_seen 100 = .ok (.aload_n 0, 1) := by decide +kernel
theorem dX6_seen_101 : decode cX6_seen 101 = .ok (.getfield 42, 3) := by decide +kernel
theorem dX6_seen_104 : decode cX6_seen 104 = .ok (.getfield 176, 3) := by decide +kernel
theorem dX6_seen_107 : decode cX6_seen 107 = .ok (.ireturn, 1) := by decide +kernel
theorem dX6_seen_108 : decode cX6_seen 108 = .ok (.aload_n 0, 1) := by decide +kernel
theorem dX6_seen_109 : decode cX6_seen 109 = .ok (.getfield 42, 3) := by decide +kernel
theorem dX6_seen_112 : decode cX6_seen 112 = .ok (.getfield 179, 3) := by decide +kernel
theorem dX6_seen_115 : decode cX6_seen 115 = .ok (.ireturn, 1) := by decide +kernel
theorem dX6_seen_116 : decode cX6_seen 116 = .ok (.aload_n 0, 1) := by decide +kernel
theorem dX6_seen_117 : decode cX6_seen 117 = .ok (.getfield 42, 3) := by decide +kernel
theorem dX6_seen_120 : decode cX6_seen 120 = .ok (.getfield 182, 3) := by decide +kernel
theorem dX6_seen_123 : decode cX6_seen 123 = .ok (.ireturn, 1) := by decide +kernel
theorem dX6_seen_124 : decode cX6_seen 124 = .ok (.aload_n 0, 1) := by decide +kernel
theorem dX6_seen_125 : decode cX6_seen 125 = .ok (.getfield 42, 3) := by decide +kernel
theorem dX6_seen_128 : decode cX6_seen 128 = .ok (.getfield 185, 3) := by decide +kernel
theorem dX6_seen_131 : decode cX6_seen 131 = .ok (.ireturn, 1) := by decide +kernel
theorem dX6_met_0 : decode cX6_met 0 = .ok (.aload_n 0, 1) := by decide +kernel
theorem dX6_met_1 : decode cX6_met 1 = .ok (.iload_n 1, 1) := by decide +kernel
theorem dX6_met_2 : decode cX6_met 2 = .ok (.invokevirtual 121, 3) := by decide +kernel
theorem dX6_met_5 : decode cX6_met 5 = .ok (.astore 6, 2) := by decide +kernel
theorem dX6_met_7 : decode cX6_met 7 = .ok (.aload 6, 2) := by decide +kernel
theorem dX6_met_9 : decode cX6_met 9 = .ok (.ifnull 12, 3) := by decide +kernel
theorem dX6_met_12 : decode cX6_met 12 = .ok (.aload 6, 2) := by decide +kernel
theorem dX6_met_14 : decode cX6_met 14 = .ok (.iload_n 2, 1) := by decide +kernel
theorem dX6_met_15 : decode cX6_met 15 = .ok (.invokevirtual 156, 3) := by decide +kernel
theorem dX6_met_18 : decode cX6_met 18 = .ok (.ifCond .ne 5, 3) := by decide +kernel
theorem dX6_met_21 : decode cX6_met 21 = .ok (.iconst (-1), 1) := by decide +kernel
theorem dX6_met_22 : decode cX6_met 22 = .ok (.ireturn, 1) := by decide +kernel
theorem dX6_met_23 : decode cX6_met 23 = .ok (.iload_n 3, 1) := by decide +kernel
theorem dX6_met_24 : decode cX6_met 24 = .ok (.iload 4, 2) := by decide +kernel
theorem dX6_met_26 : decode cX6_met 26 = .ok (.invokestatic 168, 3) := by decide +kernel
theorem dX6_met_29 : decode cX6_met 29 = .ok (.ifCond .eq 8, 3) := by decide +kernel
theorem dX6_met_32 : decode cX6_met 32 = .ok (.iload 5, 2) := by decide +kernel
theorem dX6_met_34 : decode cX6_met 34 = .ok (.ifCond .ge 6, 3) := by decide +kernel
theorem dX6_met_37 : decode cX6_met 37 = .ok (.bipush (-2), 2) := by decide +kernel
theorem dX6_met_39 : decode cX6_met 39 = .ok (.ireturn, 1) := by decide +kernel
theorem dX6_met_40 : decode cX6_met 40 = .ok (.iload 5, 2) := by decide +kernel
theorem dX6_met_42 : decode cX6_met 42 = .ok (.sipush 200, 3) := by decide +kernel
theorem dX6_met_45 : decode cX6_met 45 = .ok (.if_icmp .lt 6, 3) := by decide +kernel
theorem dX6_met_48 : decode cX6_met 48 = .ok (.bipush (-9), 2) := by decide +kernel
theorem dX6_met_50 : decode cX6_met 50 = .ok (.ireturn, 1) := by decide +kernel
theorem dX6_met_51 : decode cX6_met 51 = .ok (.aload_n 0, 1) := by decide +kernel
theorem dX6_met_52 : decode cX6_met 52 = .ok (.getfield 42, 3) := by decide +kernel
theorem dX6_met_55 : decode cX6_met 55 = .ok (.aload 6, 2) := by decide +kernel
theorem dX6_met_57 : decode cX6_met 57 = .ok (.iload_n 2, 1) := by decide +kernel
theorem dX6_met_58 : decode cX6_met 58 = .ok (.iload_n 3, 1) := by decide +kernel
theorem dX6_met_59 : decode cX6_met 59 = .ok (.iload 4, 2) := by decide +kernel
theorem dX6_met_61 : decode cX6_met 61 = .ok (.iload 5, 2) := by decide +kernel
theorem dX6_met_63 : decode cX6_met 63 = .ok (.iconst 1, 1) := by decide +kernel
theorem dX6_met_64 : decode cX6_met 64 = .ok (.iadd, 1) := by decide +kernel
theorem dX6_met_65 : decode cX6_met 65 = .ok (.invokevirtual 172, 3) := by decide +kernel
theorem dX6_met_68 : decode cX6_met 68 = .ok (.aload_n 0, 1) := by decide +kernel
theorem dX6_met_69 : decode cX6_met 69 = .ok (.getfield 42, 3) := by decide +kernel
theorem dX6_met_72 : decode cX6_met 72 = .ok (.getfield 179, 3) := by decide +kernel
theorem dX6_met_75 : decode cX6_met 75 = .ok (.iload 5, 2) := by decide +kernel
theorem dX6_met_77 : decode cX6_met 77 = .ok (.iconst 1, 1) := by decide +kernel
theorem dX6_met_78 : decode cX6_met 78 = .ok (.iadd, 1) := by decide +kernel
theorem dX6_met_79 : decode cX6_met 79 = .ok (.if_icmp .ne 13, 3) := by decide +kernel
theorem dX6_met_82 : decode cX6_met 82 = .ok (.aload_n 0, 1) := by decide +kernel
theorem dX6_met_83 : decode cX6_met 83 = .ok (.getfield 42, 3) := by decide +kernel
theorem dX6_met_86 : decode cX6_met 86 = .ok (.getfield 188, 3) := by decide +kernel
theorem dX6_met_89 : decode cX6_met 89 = .ok (.goto 5, 3) := by decide +kernel
theorem dX6_met_92 : decode cX6_met 92 = .ok (.bipush (-9), 2) := by decide +kernel
theorem dX6_met_94 : decode cX6_met 94 = .ok (.ireturn, 1) := by decide +kernel
theorem dX6_image_0 : decode cX6_image 0 = .ok (.aload_n 0, 1) := by decide +kernel
theorem dX6_image_1 : decode cX6_image 1 = .ok (.iload_n 1, 1) := by decide +kernel
theorem dX6_image_2 : decode cX6_image 2 = .ok (.invokevirtual 121, 3) := by decide +kernel
theorem dX6_image_5 : decode cX6_image 5 = .ok (.astore 5, 2) := by decide +kernel
theorem dX6_image_7 : decode cX6_image 7 = .ok (.aload 5, 2) := by decide +kernel
theorem dX6_image_9 : decode cX6_image 9 = .ok (.ifnull 12, 3) := by decide +kernel
theorem dX6_image_12 : decode cX6_image 12 = .ok (.aload 5, 2) := by decide +kernel
theorem dX6_image_14 : decode cX6_image 14 = .ok (.iload_n 2, 1) := by decide +kernel
theorem dX6_image_15 : decode cX6_image 15 = .ok (.invokevirtual 156, 3) := by decide +kernel
theorem dX6_image_18 : decode cX6_image 18 = .ok (.ifCond .ne 5, 3) := by decide +kernel
theorem dX6_image_21 : decode cX6_image 21 = .ok (.iconst (-1), 1) := by decide +kernel
theorem dX6_image_22 : decode cX6_image 22 = .ok (.ireturn, 1) := by decide +kernel
theorem dX6_image_23 : decode cX6_image 23 = .ok (.iload_n 3, 1) := by decide +kernel
theorem dX6_image_24 : decode cX6_image 24 = .ok (.iload 4, 2) := by decide +kernel
theorem dX6_image_26 : decode cX6_image 26 = .ok (.invokestatic 168, 3) := by decide +kernel
theorem dX6_image_29 : decode cX6_image 29 = .ok (.ifCond .eq 19, 3) := by decide +kernel
theorem dX6_image_32 : decode cX6_image 32 = .ok (.aload_n 0, 1) := by decide +kernel
theorem dX6_image_33 : decode cX6_image 33 = .ok (.getfield 42, 3) := by decide +kernel
theorem dX6_image_36 : decode cX6_image 36 = .ok (.aload 5, 2) := by decide +kernel
theorem dX6_image_38 : decode cX6_image 38 = .ok (.iload_n 2, 1) := by decide +kernel
theorem dX6_image_39 : decode cX6_image 39 = .ok (.iload_n 3, 1) := by decide +kernel
theorem dX6_image_40 : decode cX6_image 40 = .ok (.iload 4, 2) := by decide +kernel
theorem dX6_image_42 : decode cX6_image 42 = .ok (.invokevirtual 191, 3) := by decide +kernel
theorem dX6_image_45 : decode cX6_image 45 = .ok (.goto 5, 3) := by decide +kernel
theorem dX6_image_48 : decode cX6_image 48 = .ok (.bipush (-2), 2) := by decide +kernel
theorem dX6_image_50 : decode cX6_image 50 = .ok (.ireturn, 1) := by decide +kernel
theorem dX6_report_0 : decode cX6_report 0 = .ok (.aload_n 0, 1) := by decide +kernel
theorem dX6_report_1 : decode cX6_report 1 = .ok (.iload_n 1, 1) := by decide +kernel
theorem dX6_report_2 : decode cX6_report 2 = .ok (.invokevirtual 121, 3) := by decide +kernel
theorem dX6_report_5 : decode cX6_report 5 = .ok (.astore 6, 2) := by decide +kernel
theorem dX6_report_7 : decode cX6_report 7 = .ok (.aload 6, 2) := by decide +kernel
theorem dX6_report_9 : decode cX6_report 9 = .ok (.ifnull 12, 3) := by decide +kernel
theorem dX6_report_12 : decode cX6_report 12 = .ok (.aload 6, 2) := by decide +kernel
theorem dX6_report_14 : decode cX6_report 14 = .ok (.iload_n 2, 1) := by decide +kernel
theorem dX6_report_15 : decode cX6_report 15 = .ok (.invokevirtual 156, 3) := by decide +kernel
theorem dX6_report_18 : decode cX6_report 18 = .ok (.ifCond .ne 5, 3) := by decide +kernel
theorem dX6_report_21 : decode cX6_report 21 = .ok (.iconst (-1), 1) := by decide +kernel
theorem dX6_report_22 : decode cX6_report 22 = .ok (.ireturn, 1) := by decide +kernel
theorem dX6_report_23 : decode cX6_report 23 = .ok (.iload_n 3, 1) := by decide +kernel
theorem dX6_report_24 : decode cX6_report 24 = .ok (.iload 4, 2) := by decide +kernel
theorem dX6_report_26 : decode cX6_report 26 = .ok (.invokestatic 168, 3) := by decide +kernel
theorem dX6_report_29 : decode cX6_report 29 = .ok (.ifCond .ne 6, 3) := by decide +kernel
theorem dX6_report_32 : decode cX6_report 32 = .ok (.bipush (-2), 2) := by decide +kernel
theorem dX6_report_34 : decode cX6_report 34 = .ok (.ireturn, 1) := by decide +kernel
theorem dX6_report_35 : decode cX6_report 35 = .ok (.aload_n 0, 1) := by decide +kernel
theorem dX6_report_36 : decode cX6_report 36 = .ok (.getfield 208, 3) := by decide +kernel
theorem dX6_report_39 : decode cX6_report 39 = .ok (.aload_n 0, 1) := by decide +kernel
theorem dX6_report_40 : decode cX6_report 40 = .ok (.getfield 25, 3) := by decide +kernel
theorem dX6_report_43 : decode cX6_report 43 = .ok (.arraylength, 1) := by decide +kernel
theorem dX6_report_44 : decode cX6_report 44 = .ok (.if_icmp .lt 6, 3) := by decide +kernel
theorem dX6_report_47 : decode cX6_report 47 = .ok (.bipush (-4), 2) := by decide +kernel
theorem dX6_report_49 : decode cX6_report 49 = .ok (.ireturn, 1) := by decide +kernel
theorem dX6_report_50 : decode cX6_report 50 = .ok (.aload_n 0, 1) := by decide +kernel
theorem dX6_report_51 : decode cX6_report 51 = .ok (.getfield 25, 3) := by decide +kernel
theorem dX6_report_54 : decode cX6_report 54 = .ok (.aload_n 0, 1) := by decide +kernel
theorem dX6_report_55 : decode cX6_report 55 = .ok (.getfield 208, 3) := by decide +kernel
theorem dX6_report_58 : decode cX6_report 58 = .ok (.new 23, 3) := by decide +kernel
theorem dX6_report_61 : decode cX6_report 61 = .ok (.dup, 1) := by decide +kernel
theorem dX6_report_62 : decode cX6_report 62 = .ok (.iload_n 1, 1) := by decide +kernel
theorem dX6_report_63 : decode cX6_report 63 = .ok (.iload_n 2, 1) := by decide +kernel
theorem dX6_report_64 : decode cX6_report 64 = .ok (.iload_n 3, 1) := by decide +kernel
theorem dX6_report_65 : decode cX6_report 65 = .ok (.iload 4, 2) := by decide +kernel
theorem dX6_report_67 : decode cX6_report 67 = .ok (.iload 5, 2) := by decide +kernel
theorem dX6_report_69 : decode cX6_report 69 = .ok (.invokespecial 211, 3) := by decide +kernel
theorem dX6_report_72 : decode cX6_report 72 = .ok (.aastore, 1) := by decide +kernel
theorem dX6_report_73 : decode cX6_report 73 = .ok (.aload_n 0, 1) := by decide +kernel
theorem dX6_report_74 : decode cX6_report 74 = .ok (.dup, 1) := by decide +kernel
theorem dX6_report_75 : decode cX6_report 75 = .ok (.getfield 208, 3) := by decide +kernel
theorem dX6_report_78 : decode cX6_report 78 = .ok (.iconst 1, 1) := by decide +kernel
theorem dX6_report_79 : decode cX6_report 79 = .ok (.iadd, 1) := by decide +kernel
theorem dX6_report_80 : decode cX6_report 80 = .ok (.putfield 208, 3) := by decide +kernel
theorem dX6_report_83 : decode cX6_report 83 = .ok (.aload_n 0, 1) := by decide +kernel
theorem dX6_report_84 : decode cX6_report 84 = .ok (.getfield 208, 3) := by decide +kernel
theorem dX6_report_87 : decode cX6_report 87 = .ok (.iconst 1, 1) := by decide +kernel
theorem dX6_report_88 : decode cX6_report 88 = .ok (.isub, 1) := by decide +kernel
theorem dX6_report_89 : decode cX6_report 89 = .ok (.ireturn, 1) := by decide +kernel
theorem dX6_spots_0 : decode cX6_spots 0 = .ok (.aload_n 0, 1) := by decide +kernel
theorem dX6_spots_1 : decode cX6_spots 1 = .ok (.iload_n 1, 1) := by decide +kernel
theorem dX6_spots_2 : decode cX6_spots 2 = .ok (.invokevirtual 121, 3) := by decide +kernel
theorem dX6_spots_5 : decode cX6_spots 5 = .ok (.astore_n 2, 1) := by decide +kernel
theorem dX6_spots_6 : decode cX6_spots 6 = .ok (.aload_n 2, 1) := by decide +kernel
theorem dX6_spots_7 : decode cX6_spots 7 = .ok (.ifnonnull 5, 3) := by decide +kernel
theorem dX6_spots_10 : decode cX6_spots 10 = .ok (.iconst (-1), 1) := by decide +kernel
theorem dX6_spots_11 : decode cX6_spots 11 = .ok (.ireturn, 1) := by decide +kernel
theorem dX6_spots_12 : decode cX6_spots 12 = .ok (.aload_n 2, 1) := by decide +kernel
theorem dX6_spots_13 : decode cX6_spots 13 = .ok (.invokevirtual 214, 3) := by decide +kernel
theorem dX6_spots_16 : decode cX6_spots 16 = .ok (.istore_n 3, 1) := by decide +kernel
theorem dX6_spots_17 : decode cX6_spots 17 = .ok (.iconst 0, 1) := by decide +kernel
theorem dX6_spots_18 : decode cX6_spots 18 = .ok (.istore 4, 2) := by decide +kernel
theorem dX6_spots_20 : decode cX6_spots 20 = .ok (.iload 4, 2) := by decide +kernel
theorem dX6_spots_22 : decode cX6_spots 22 = .ok (.aload_n 0, 1) := by decide +kernel
theorem dX6_spots_23 : decode cX6_spots 23 = .ok (.getfield 208, 3) := by decide +kernel
theorem dX6_spots_26 : decode cX6_spots 26 = .ok (.if_icmp .ge 52, 3) := by decide +kernel
theorem dX6_spots_29 : decode cX6_spots 29 = .ok (.iload 4, 2) := by decide +kernel
theorem dX6_spots_31 : decode cX6_spots 31 = .ok (.aload_n 0, 1) := by decide +kernel
theorem dX6_spots_32 : decode cX6_spots 32 = .ok (.getfield 25, 3) := by decide +kernel
theorem dX6_spots_35 : decode cX6_spots 35 = .ok (.arraylength, 1) := by decide +kernel
theorem dX6_spots_36 : decode cX6_spots 36 = .ok (.if_icmp .ge 42, 3) := by decide +kernel
theorem dX6_spots_39 : decode cX6_spots 39 = .ok (.aload_n 0, 1) := by decide +kernel
theorem dX6_spots_40 : decode cX6_spots 40 = .ok (.getfield 25, 3) := by decide +kernel
theorem dX6_spots_43 : decode cX6_spots 43 = .ok (.iload 4, 2) := by decide +kernel
theorem dX6_spots_45 : decode cX6_spots 45 = .ok (.aaload, 1) := by decide +kernel
theorem dX6_spots_46 : decode cX6_spots 46 = .ok (.astore 5, 2) := by decide +kernel
theorem dX6_spots_48 : decode cX6_spots 48 = .ok (.aload 5, 2) := by decide +kernel
theorem dX6_spots_50 : decode cX6_spots 50 = .ok (.ifnull 22, 3) := by decide +kernel
theorem dX6_spots_53 : decode cX6_spots 53 = .ok (.aload 5, 2) := by decide +kernel
theorem dX6_spots_55 : decode cX6_spots 55 = .ok (.getfield 217, 3) := by decide +kernel
theorem dX6_spots_58 : decode cX6_spots 58 = .ok (.iload_n 1, 1) := by decide +kernel
theorem dX6_spots_59 : decode cX6_spots 59 = .ok (.if_icmp .ne 13, 3) := by decide +kernel
theorem dX6_spots_62 : decode cX6_spots 62 = .ok (.iload_n 3, 1) := by decide +kernel
theorem dX6_spots_63 : decode cX6_spots 63 = .ok (.aload_n 0, 1) := by decide +kernel
theorem dX6_spots_64 : decode cX6_spots 64 = .ok (.aload_n 2, 1) := by decide +kernel
theorem dX6_spots_65 : decode cX6_spots 65 = .ok (.aload 5, 2) := by decide +kernel
theorem dX6_spots_67 : decode cX6_spots 67 = .ok (.invokevirtual 220, 3) := by decide +kernel
theorem dX6_spots_70 : decode cX6_spots 70 = .ok (.iand, 1) := by decide +kernel
theorem dX6_spots_71 : decode cX6_spots 71 = .ok (.istore_n 3, 1) := by decide +kernel
theorem dX6_spots_72 : decode cX6_spots 72 = .ok (.iinc 4 1, 3) := by decide +kernel
theorem dX6_spots_75 : decode cX6_spots 75 = .ok (.goto (-55), 3) := by decide +kernel
theorem dX6_spots_78 : decode cX6_spots 78 = .ok (.iload_n 3, 1) := by decide +kernel
theorem dX6_spots_79 : decode cX6_spots 79 = .ok (.ireturn, 1) := by decide +kernel
theorem dX6_fits_0 : decode cX6_fits 0 = .ok (.aload_n 0, 1) := by decide +kernel
theorem dX6_fits_1 : decode cX6_fits 1 = .ok (.getfield 42, 3) := by decide +kernel
theorem dX6_fits_4 : decode cX6_fits 4 = .ok (.aload_n 1, 1) := by decide +kernel
theorem dX6_fits_5 : decode cX6_fits 5 = .ok (.aload_n 2, 1) := by decide +kernel
theorem dX6_fits_6 : decode cX6_fits 6 = .ok (.getfield 224, 3) := by decide +kernel
theorem dX6_fits_9 : decode cX6_fits 9 = .ok (.aload_n 2, 1) := by decide +kernel
theorem dX6_fits_10 : decode cX6_fits 10 = .ok (.getfield 225, 3) := by decide +kernel
theorem dX6_fits_13 : decode cX6_fits 13 = .ok (.aload_n 2, 1) := by decide +kernel
theorem dX6_fits_14 : decode cX6_fits 14 = .ok (.getfield 228, 3) := by decide +kernel
theorem dX6_fits_17 : decode cX6_fits 17 = .ok (.invokevirtual 191, 3) := by decide +kernel
theorem dX6_fits_20 : decode cX6_fits 20 = .ok (.istore_n 3, 1) := by decide +kernel
theorem dX6_fits_21 : decode cX6_fits 21 = .ok (.iload_n 3, 1) := by decide +kernel
theorem dX6_fits_22 : decode cX6_fits 22 = .ok (.bipush (-9), 2) := by decide +kernel
theorem dX6_fits_24 : decode cX6_fits 24 = .ok (.if_icmp .ne 7, 3) := by decide +kernel
theorem dX6_fits_27 : decode cX6_fits 27 = .ok (.iconst 0, 1) := by decide +kernel
theorem dX6_fits_28 : decode cX6_fits 28 = .ok (.goto 6, 3) := by decide +kernel
theorem dX6_fits_31 : decode cX6_fits 31 = .ok (.iconst 1, 1) := by decide +kernel
theorem dX6_fits_32 : decode cX6_fits 32 = .ok (.iload_n 3, 1) := by decide +kernel
theorem dX6_fits_33 : decode cX6_fits 33 = .ok (.ishl, 1) := by decide +kernel
theorem dX6_fits_34 : decode cX6_fits 34 = .ok (.istore 4, 2) := by decide +kernel
theorem dX6_fits_36 : decode cX6_fits 36 = .ok (.aload_n 2, 1) := by decide +kernel
theorem dX6_fits_37 : decode cX6_fits 37 = .ok (.getfield 231, 3) := by decide +kernel
theorem dX6_fits_40 : decode cX6_fits 40 = .ok (.ifCond .eq 8, 3) := by decide +kernel
theorem dX6_fits_43 : decode cX6_fits 43 = .ok (.iload 4, 2) := by decide +kernel
theorem dX6_fits_45 : decode cX6_fits 45 = .ok (.goto 7, 3) := by decide +kernel
theorem dX6_fits_48 : decode cX6_fits 48 = .ok (.iload 4, 2) := by decide +kernel
theorem dX6_fits_50 : decode cX6_fits 50 = .ok (.iconst (-1), 1) := by decide +kernel
theorem dX6_fits_51 : decode cX6_fits 51 = .ok (.ixor, 1) := by decide +kernel
theorem dX6_fits_52 : decode cX6_fits 52 = .ok (.ireturn, 1) := by decide +kernel
theorem dX6_sheet_0 : decode cX6_sheet 0 = .ok (.aload_n 0, 1) := by decide +kernel
theorem dX6_sheet_1 : decode cX6_sheet 1 = .ok (.iconst 0, 1) := by decide +kernel
theorem dX6_sheet_2 : decode cX6_sheet 2 = .ok (.putfield 65, 3) := by decide +kernel
theorem dX6_sheet_5 : decode cX6_sheet 5 = .ok (.aload_n 0, 1) := by decide +kernel
theorem dX6_sheet_6 : decode cX6_sheet 6 = .ok (.iload_n 1, 1) := by decide +kernel
theorem dX6_sheet_7 : decode cX6_sheet 7 = .ok (.invokevirtual 70, 3) := by decide +kernel
theorem dX6_sheet_10 : decode cX6_sheet 10 = .ok (.astore 4, 2) := by decide +kernel
theorem dX6_sheet_12 : decode cX6_sheet 12 = .ok (.aload 4, 2) := by decide +kernel
theorem dX6_sheet_14 : decode cX6_sheet 14 = .ok (.ifnonnull 5, 3) := by decide +kernel
theorem dX6_sheet_17 : decode cX6_sheet 17 = .ok (.iconst (-1), 1) := by decide +kernel
theorem dX6_sheet_18 : decode cX6_sheet 18 = .ok (.ireturn, 1) := by decide +kernel
theorem dX6_sheet_19 : decode cX6_sheet 19 = .ok (.iload_n 2, 1) := by decide +kernel
theorem dX6_sheet_20 : decode cX6_sheet 20 = .ok (.invokestatic 74, 3) := by decide +kernel
theorem dX6_sheet_23 : decode cX6_sheet 23 = .ok (.ifCond .eq 9, 3) := by decide +kernel
theorem dX6_sheet_26 : decode cX6_sheet 26 = .ok (.iload_n 3, 1) := by decide +kernel
theorem dX6_sheet_27 : decode cX6_sheet 27 = .ok (.bipush 60, 2) := by decide +kernel
theorem dX6_sheet_29 : decode cX6_sheet 29 = .ok (.if_icmp .le 6, 3) := by decide +kernel
theorem dX6_sheet_32 : decode cX6_sheet 32 = .ok (.bipush (-2), 2) := by decide +kernel
theorem dX6_sheet_34 : decode cX6_sheet 34 = .ok (.ireturn, 1) := by decide +kernel
theorem dX6_sheet_35 : decode cX6_sheet 35 = .ok (.iload_n 3, 1) := by decide +kernel
theorem dX6_sheet_36 : decode cX6_sheet 36 = .ok (.ifCond .ge 9, 3) := by decide +kernel
theorem dX6_sheet_39 : decode cX6_sheet 39 = .ok (.aload_n 0, 1) := by decide +kernel
theorem dX6_sheet_40 : decode cX6_sheet 40 = .ok (.iconst 4, 1) := by decide +kernel
theorem dX6_sheet_41 : decode cX6_sheet 41 = .ok (.invokevirtual 82, 3) := by decide +kernel
theorem dX6_sheet_44 : decode cX6_sheet 44 = .ok (.ireturn, 1) := by decide +kernel
theorem dX6_sheet_45 : decode cX6_sheet 45 = .ok (.aload 4, 2) := by decide +kernel
theorem dX6_sheet_47 : decode cX6_sheet 47 = .ok (.iload_n 2, 1) := by decide +kernel
theorem dX6_sheet_48 : decode cX6_sheet 48 = .ok (.iload_n 3, 1) := by decide +kernel
theorem dX6_sheet_49 : decode cX6_sheet 49 = .ok (.invokevirtual 330, 3) := by decide +kernel
theorem dX6_sheet_52 : decode cX6_sheet 52 = .ok (.iconst 1, 1) := by decide +kernel
theorem dX6_sheet_53 : decode cX6_sheet 53 = .ok (.ireturn, 1) := by decide +kernel
theorem dX6_put_0 : decode cX6_put 0 = .ok (.aload_n 0, 1) := by decide +kernel
theorem dX6_put_1 : decode cX6_put 1 = .ok (.iconst 0, 1) := by decide +kernel
theorem dX6_put_2 : decode cX6_put 2 = .ok (.putfield 65, 3) := by decide +kernel
theorem dX6_put_5 : decode cX6_put 5 = .ok (.aload_n 0, 1) := by decide +kernel
theorem dX6_put_6 : decode cX6_put 6 = .ok (.iload_n 1, 1) := by decide +kernel
theorem dX6_put_7 : decode cX6_put 7 = .ok (.invokevirtual 70, 3) := by decide +kernel
theorem dX6_put_10 : decode cX6_put 10 = .ok (.astore 4, 2) := by decide +kernel
theorem dX6_put_12 : decode cX6_put 12 = .ok (.aload 4, 2) := by decide +kernel
theorem dX6_put_14 : decode cX6_put 14 = .ok (.ifnonnull 5, 3) := by decide +kernel
theorem dX6_put_17 : decode cX6_put 17 = .ok (.iconst (-1), 1) := by decide +kernel
theorem dX6_put_18 : decode cX6_put 18 = .ok (.ireturn, 1) := by decide +kernel
theorem dX6_put_19 : decode cX6_put 19 = .ok (.aload 4, 2) := by decide +kernel
theorem dX6_put_21 : decode cX6_put 21 = .ok (.invokevirtual 333, 3) := by decide +kernel
theorem dX6_put_24 : decode cX6_put 24 = .ok (.ifCond .eq 9, 3) := by decide +kernel
theorem dX6_put_27 : decode cX6_put 27 = .ok (.aload_n 0, 1) := by decide +kernel
theorem dX6_put_28 : decode cX6_put 28 = .ok (.iconst 1, 1) := by decide +kernel
theorem dX6_put_29 : decode cX6_put 29 = .ok (.invokevirtual 82, 3) := by decide +kernel
theorem dX6_put_32 : decode cX6_put 32 = .ok (.ireturn, 1) := by decide +kernel
theorem dX6_put_33 : decode cX6_put 33 = .ok (.iload_n 2, 1) := by decide +kernel
theorem dX6_put_34 : decode cX6_put 34 = .ok (.iconst 0, 1) := by decide +kernel
theorem dX6_put_35 : decode cX6_put 35 = .ok (.aload 4, 2) := by decide +kernel
theorem dX6_put_37 : decode cX6_put 37 = .ok (.getfield 336, 3) := by decide +kernel
theorem dX6_put_40 : decode cX6_put 40 = .ok (.iconst 1, 1) := by decide +kernel
theorem dX6_put_41 : decode cX6_put 41 = .ok (.isub, 1) := by decide +kernel
theorem dX6_put_42 : decode cX6_put 42 = .ok (.invokestatic 61, 3) := by decide +kernel
theorem dX6_put_45 : decode cX6_put 45 = .ok (.ifCond .ne 9, 3) := by decide +kernel
theorem dX6_put_48 : decode cX6_put 48 = .ok (.aload_n 0, 1) := by decide +kernel
theorem dX6_put_49 : decode cX6_put 49 = .ok (.iconst 3, 1) := by decide +kernel
theorem dX6_put_50 : decode cX6_put 50 = .ok (.invokevirtual 82, 3) := by decide +kernel
theorem dX6_put_53 : decode cX6_put 53 = .ok (.ireturn, 1) := by decide +kernel
theorem dX6_put_54 : decode cX6_put 54 = .ok (.aload 4, 2) := by decide +kernel
theorem dX6_put_56 : decode cX6_put 56 = .ok (.getfield 102, 3) := by decide +kernel
theorem dX6_put_59 : decode cX6_put 59 = .ok (.iload_n 2, 1) := by decide +kernel
theorem dX6_put_60 : decode cX6_put 60 = .ok (.aload 4, 2) := by decide +kernel
theorem dX6_put_62 : decode cX6_put 62 = .ok (.iload_n 3, 1) := by decide +kernel
theorem dX6_put_63 : decode cX6_put 63 = .ok (.invokevirtual 339, 3) := by decide +kernel
theorem dX6_put_66 : decode cX6_put 66 = .ok (.iastore, 1) := by decide +kernel
theorem dX6_put_67 : decode cX6_put 67 = .ok (.iconst 1, 1) := by decide +kernel
theorem dX6_put_68 : decode cX6_put 68 = .ok (.ireturn, 1) := by decide +kernel
