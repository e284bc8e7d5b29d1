theorem dX6_init_0 : decode cX6_init 0 = .ok (.aload_n 0, 1) := by decide +kernel
theorem dX6_init_1 : decode cX6_init 1 = .ok (.invokespecial 3, 3) := by decide +kernel
theorem dX6_init_4 : decode cX6_init 4 = .ok (.aload_n 0, 1) := by decide +kernel
theorem dX6_init_5 : decode cX6_init 5 = .ok (.iconst 4, 1) := by decide +kernel
theorem dX6_init_6 : decode cX6_init 6 = .ok (.anewarray 9, 3) := by decide +kernel
theorem dX6_init_9 : decode cX6_init 9 = .ok (.putfield 11, 3) := by decide +kernel
theorem dX6_init_12 : decode cX6_init 12 = .ok (.aload_n 0, 1) := by decide +kernel
theorem dX6_init_13 : decode cX6_init 13 = .ok (.iconst 3, 1) := by decide +kernel
theorem dX6_init_14 : decode cX6_init 14 = .ok (.anewarray 17, 3) := by decide +kernel
theorem dX6_init_17 : decode cX6_init 17 = .ok (.putfield 19, 3) := by decide +kernel
theorem dX6_init_20 : decode cX6_init 20 = .ok (.aload_n 0, 1) := by decide +kernel
theorem dX6_init_21 : decode cX6_init 21 = .ok (.bipush 12, 2) := by decide +kernel
theorem dX6_init_23 : decode cX6_init 23 = .ok (.anewarray 23, 3) := by decide +kernel
theorem dX6_init_26 : decode cX6_init 26 = .ok (.putfield 25, 3) := by decide +kernel
theorem dX6_init_29 : decode cX6_init 29 = .ok (.aload_n 0, 1) := by decide +kernel
theorem dX6_init_30 : decode cX6_init 30 = .ok (.bipush 8, 2) := by decide +kernel
theorem dX6_init_32 : decode cX6_init 32 = .ok (.anewarray 29, 3) := by decide +kernel
theorem dX6_init_35 : decode cX6_init 35 = .ok (.putfield 31, 3) := by decide +kernel
theorem dX6_init_38 : decode cX6_init 38 = .ok (.aload_n 0, 1) := by decide +kernel
theorem dX6_init_39 : decode cX6_init 39 = .ok (.bipush 30, 2) := by decide +kernel
theorem dX6_init_41 : decode cX6_init 41 = .ok (.newarray .int, 2) := by decide +kernel
theorem dX6_init_43 : decode cX6_init 43 = .ok (.putfield 35, 3) := by decide +kernel
theorem dX6_init_46 : decode cX6_init 46 = .ok (.aload_n 0, 1) := by decide +kernel
theorem dX6_init_47 : decode cX6_init 47 = .ok (.new 39, 3) := by decide +kernel
theorem dX6_init_50 : decode cX6_init 50 = .ok (.dup, 1) := by decide +kernel
theorem dX6_init_51 : decode cX6_init 51 = .ok (.invokespecial 41, 3) := by decide +kernel
theorem dX6_init_54 : decode cX6_init 54 = .ok (.putfield 42, 3) := by decide +kernel
theorem dX6_init_57 : decode cX6_init 57 = .ok (.aload_n 0, 1) := by decide +kernel
theorem dX6_init_58 : decode cX6_init 58 = .ok (.new 46, 3) := by decide +kernel
theorem dX6_init_61 : decode cX6_init 61 = .ok (.dup, 1) := by decide +kernel
theorem dX6_init_62 : decode cX6_init 62 = .ok (.invokespecial 48, 3) := by decide +kernel
theorem dX6_init_65 : decode cX6_init 65 = .ok (.putfield 49, 3) := by decide +kernel
theorem dX6_init_68 : decode cX6_init 68 = .ok (.iconst 0, 1) := by decide +kernel
theorem dX6_init_69 : decode cX6_init 69 = .ok (.istore_n 1, 1) := by decide +kernel
theorem dX6_init_70 : decode cX6_init 70 = .ok (.iload_n 1, 1) := by decide +kernel
theorem dX6_init_71 : decode cX6_init 71 = .ok (.aload_n 0, 1) := by decide +kernel
theorem dX6_init_72 : decode cX6_init 72 = .ok (.getfield 11, 3) := by decide +kernel
theorem dX6_init_75 : decode cX6_init 75 = .ok (.arraylength, 1) := by decide +kernel
theorem dX6_init_76 : decode cX6_init 76 = .ok (.if_icmp .ge 22, 3) := by decide +kernel
theorem dX6_init_79 : decode cX6_init 79 = .ok (.aload_n 0, 1) := by decide +kernel
theorem dX6_init_80 : decode cX6_init 80 = .ok (.getfield 11, 3) := by decide +kernel
theorem dX6_init_83 : decode cX6_init 83 = .ok (.iload_n 1, 1) := by decide +kernel
theorem dX6_init_84 : decode cX6_init 84 = .ok (.new 9, 3) := by decide +kernel
theorem dX6_init_87 : decode cX6_init 87 = .ok (.dup, 1) := by decide +kernel
theorem dX6_init_88 : decode cX6_init 88 = .ok (.invokespecial 53, 3) := by decide +kernel
theorem dX6_init_91 : decode cX6_init 91 = .ok (.aastore, 1) := by decide +kernel
theorem dX6_init_92 : decode cX6_init 92 = .ok (.iinc 1 1, 3) := by decide +kernel
theorem dX6_init_95 : decode cX6_init 95 = .ok (.goto (-25), 3) := by decide +kernel
theorem dX6_init_98 : decode cX6_init 98 = .ok (.return_, 1) := by decide +kernel
theorem dX6_houseAt_0 : decode cX6_houseAt 0 = .ok (.iload_n 1, 1) := by decide +kernel
theorem dX6_houseAt_1 : decode cX6_houseAt 1 = .ok (.ifCond .lt 29, 3) := by decide +kernel
theorem dX6_houseAt_4 : decode cX6_houseAt 4 = .ok (.iload_n 1, 1) := by decide +kernel
theorem dX6_houseAt_5 : decode cX6_houseAt 5 = .ok (.aload_n 0, 1) := by decide +kernel
theorem dX6_houseAt_6 : decode cX6_houseAt 6 = .ok (.getfield 54, 3) := by decide +kernel
theorem dX6_houseAt_9 : decode cX6_houseAt 9 = .ok (.if_icmp .ge 21, 3) := by decide +kernel
theorem dX6_houseAt_12 : decode cX6_houseAt 12 = .ok (.iload_n 1, 1) := by decide +kernel
theorem dX6_houseAt_13 : decode cX6_houseAt 13 = .ok (.aload_n 0, 1) := by decide +kernel
theorem dX6_houseAt_14 : decode cX6_houseAt 14 = .ok (.getfield 19, 3) := by decide +kernel
theorem dX6_houseAt_17 : decode cX6_houseAt 17 = .ok (.arraylength, 1) := by decide +kernel
theorem dX6_houseAt_18 : decode cX6_houseAt 18 = .ok (.if_icmp .ge 12, 3) := by decide +kernel
theorem dX6_houseAt_21 : decode cX6_houseAt 21 = .ok (.aload_n 0, 1) := by decide +kernel
theorem dX6_houseAt_22 : decode cX6_houseAt 22 = .ok (.getfield 19, 3) := by decide +kernel
theorem dX6_houseAt_25 : decode cX6_houseAt 25 = .ok (.iload_n 1, 1) := by decide +kernel
theorem dX6_houseAt_26 : decode cX6_houseAt 26 = .ok (.aaload, 1) := by decide +kernel
theorem dX6_houseAt_27 : decode cX6_houseAt 27 = .ok (.goto 4, 3) := by decide +kernel
theorem dX6_houseAt_30 : decode cX6_houseAt 30 = .ok (.aconst_null, 1) := by decide +kernel
theorem dX6_houseAt_31 : decode cX6_houseAt 31 = .ok (.areturn, 1) := by decide +kernel
theorem dX6_walkerAt_0 : decode cX6_walkerAt 0 = .ok (.iload_n 1, 1) := by decide +kernel
theorem dX6_walkerAt_1 : decode cX6_walkerAt 1 = .ok (.ifCond .lt 29, 3) := by decide +kernel
theorem dX6_walkerAt_4 : decode cX6_walkerAt 4 = .ok (.iload_n 1, 1) := by decide +kernel
theorem dX6_walkerAt_5 : decode cX6_walkerAt 5 = .ok (.aload_n 0, 1) := by decide +kernel
theorem dX6_walkerAt_6 : decode cX6_walkerAt 6 = .ok (.getfield 58, 3) := by decide +kernel
theorem dX6_walkerAt_9 : decode cX6_walkerAt 9 = .ok (.if_icmp .ge 21, 3) := by decide +kernel
theorem dX6_walkerAt_12 : decode cX6_walkerAt 12 = .ok (.iload_n 1, 1) := by decide +kernel
theorem dX6_walkerAt_13 : decode cX6_walkerAt 13 = .ok (.aload_n 0, 1) := by decide +kernel
theorem dX6_walkerAt_14 : decode cX6_walkerAt 14 = .ok (.getfield 31, 3) := by decide +kernel
theorem dX6_walkerAt_17 : decode cX6_walkerAt 17 = .ok (.arraylength, 1) := by decide +kernel
theorem dX6_walkerAt_18 : decode cX6_walkerAt 18 = .ok (.if_icmp .ge 12, 3) := by decide +kernel
theorem dX6_walkerAt_21 : decode cX6_walkerAt 21 = .ok (.aload_n 0, 1) := by decide +kernel
theorem dX6_walkerAt_22 : decode cX6_walkerAt 22 = .ok (.getfield 31, 3) := by decide +kernel
theorem dX6_walkerAt_25 : decode cX6_walkerAt 25 = .ok (.iload_n 1, 1) := by decide +kernel
theorem dX6_walkerAt_26 : decode cX6_walkerAt 26 = .ok (.aaload, 1) := by decide +kernel
theorem dX6_walkerAt_27 : decode cX6_walkerAt 27 = .ok (.goto 4, 3) := by decide +kernel
theorem dX6_walkerAt_30 : decode cX6_walkerAt 30 = .ok (.aconst_null, 1) := by decide +kernel
theorem dX6_walkerAt_31 : decode cX6_walkerAt 31 = .ok (.areturn, 1) := by decide +kernel
theorem dX6_sheetAt_0 : decode cX6_sheetAt 0 = .ok (.iload_n 1, 1) := by decide +kernel
theorem dX6_sheetAt_1 : decode cX6_sheetAt 1 = .ok (.ifCond .lt 21, 3) := by decide +kernel
theorem dX6_sheetAt_4 : decode cX6_sheetAt 4 = .ok (.iload_n 1, 1) := by decide +kernel
theorem dX6_sheetAt_5 : decode cX6_sheetAt 5 = .ok (.aload_n 0, 1) := by decide +kernel
theorem dX6_sheetAt_6 : decode cX6_sheetAt 6 = .ok (.getfield 11, 3) := by decide +kernel
theorem dX6_sheetAt_9 : decode cX6_sheetAt 9 = .ok (.arraylength, 1) := by decide +kernel
theorem dX6_sheetAt_10 : decode cX6_sheetAt 10 = .ok (.if_icmp .ge 12, 3) := by decide +kernel
theorem dX6_sheetAt_13 : decode cX6_sheetAt 13 = .ok (.aload_n 0, 1) := by decide +kernel
theorem dX6_sheetAt_14 : decode cX6_sheetAt 14 = .ok (.getfield 11, 3) := by decide +kernel
theorem dX6_sheetAt_17 : decode cX6_sheetAt 17 = .ok (.iload_n 1, 1) := by decide +kernel
theorem dX6_sheetAt_18 : decode cX6_sheetAt 18 = .ok (.aaload, 1) := by decide +kernel
theorem dX6_sheetAt_19 : decode cX6_sheetAt 19 = .ok (.goto 4, 3) := by decide +kernel
theorem dX6_sheetAt_22 : decode cX6_sheetAt 22 = .ok (.aconst_null, 1) := by decide +kernel
theorem dX6_sheetAt_23 : decode cX6_sheetAt 23 = .ok (.areturn, 1) := by decide +kernel
theorem dX6_within_0 : decode cX6_within 0 = .ok (.iload_n 0, 1) := by decide +kernel
theorem dX6_within_1 : decode cX6_within 1 = .ok (.iload_n 1, 1) := by decide +kernel
theorem dX6_within_2 : decode cX6_within 2 = .ok (.if_icmp .lt 12, 3) := by decide +kernel
theorem dX6_within_5 : decode cX6_within 5 = .ok (.iload_n 0, 1) := by decide +kernel
theorem dX6_within_6 : decode cX6_within 6 = .ok (.iload_n 2, 1) := by decide +kernel
theorem dX6_within_7 : decode cX6_within 7 = .ok (.if_icmp .gt 7, 3) := by decide +kernel
theorem dX6_within_10 : decode cX6_within 10 = .ok (.iconst 1, 1) := by decide +kernel
theorem dX6_within_11 : decode cX6_within 11 = .ok (.goto 4, 3) := by decide +kernel
theorem dX6_within_14 : decode cX6_within 14 = .ok (.iconst 0, 1) := by decide +kernel
theorem dX6_within_15 : decode cX6_within 15 = .ok (.ireturn, 1) := by decide +kernel
theorem dX6_isWay_0 : decode cX6_isWay 0 = .ok (.iload_n 0, 1) := by decide +kernel
theorem dX6_isWay_1 : decode cX6_isWay 1 = .ok (.iconst 0, 1) := by decide +kernel
theorem dX6_isWay_2 : decode cX6_isWay 2 = .ok (.iconst 2, 1) := by decide +kernel
theorem dX6_isWay_3 : decode cX6_isWay 3 = .ok (.invokestatic 61, 3) := by decide +kernel
theorem dX6_isWay_6 : decode cX6_isWay 6 = .ok (.ireturn, 1) := by decide +kernel
theorem dX6_isSort_0 : decode cX6_isSort 0 = .ok (.iload_n 0, 1) := by decide +kernel
theorem dX6_isSort_1 : decode cX6_isSort 1 = .ok (.iconst 0, 1) := by decide +kernel
theorem dX6_isSort_2 : decode cX6_isSort 2 = .ok (.iconst 2, 1) := by decide +kernel
theorem dX6_isSort_3 : decode cX6_isSort 3 = .ok (.invokestatic 61, 3) := by decide +kernel
theorem dX6_isSort_6 : decode cX6_isSort 6 = .ok (.ireturn, 1) := by decide +kernel
theorem dX6_isTurn_0 : decode cX6_isTurn 0 = .ok (.iload_n 0, 1) := by decide +kernel
theorem dX6_isTurn_1 : decode cX6_isTurn 1 = .ok (.bipush (-60), 2) := by decide +kernel
theorem dX6_isTurn_3 : decode cX6_isTurn 3 = .ok (.bipush 60, 2) := by decide +kernel
theorem dX6_isTurn_5 : decode cX6_isTurn 5 = .ok (.invokestatic 61, 3) := by decide +kernel
theorem dX6_isTurn_8 : decode cX6_isTurn 8 = .ok (.ifCond .eq 26, 3) := by decide +kernel
theorem dX6_isTurn_11 : decode cX6_isTurn 11 = .ok (.iload_n 1, 1) := by decide +kernel
theorem dX6_isTurn_12 : decode cX6_isTurn 12 = .ok (.bipush (-60), 2) := by decide +kernel
theorem dX6_isTurn_14 : decode cX6_isTurn 14 = .ok (.bipush 60, 2) := by decide +kernel
theorem dX6_isTurn_16 : decode cX6_isTurn 16 = .ok (.invokestatic 61, 3) := by decide +kernel
theorem dX6_isTurn_19 : decode cX6_isTurn 19 = .ok (.ifCond .eq 15, 3) := by decide +kernel
theorem dX6_isTurn_22 : decode cX6_isTurn 22 = .ok (.iload_n 0, 1) := by decide +kernel
theorem dX6_isTurn_23 : decode cX6_isTurn 23 = .ok (.ifCond .ne 7, 3) := by decide +kernel
theorem dX6_isTurn_26 : decode cX6_isTurn 26 = .ok (.iload_n 1, 1) := by decide +kernel
theorem dX6_isTurn_27 : decode cX6_isTurn 27 = .ok (.ifCond .eq 7, 3) := by decide +kernel
theorem dX6_isTurn_30 : decode cX6_isTurn 30 = .ok (.iconst 1, 1) := by decide +kernel
theorem dX6_isTurn_31 : decode cX6_isTurn 31 = .ok (.goto 4, 3) := by decide +kernel
theorem dX6_isTurn_34 : decode cX6_isTurn 34 = .ok (.iconst 0, 1) := by decide +kernel
theorem dX6_isTurn_35 : decode cX6_isTurn 35 = .ok (.ireturn, 1) := by decide +kernel
theorem dX6_faulted_0 : decode cX6_faulted 0 = .ok (.aload_n 0, 1) := by decide +kernel
theorem dX6_faulted_1 : decode cX6_faulted 1 = .ok (.iload_n 1, 1) := by decide +kernel
theorem dX6_faulted_2 : decode cX6_faulted 2 = .ok (.putfield 65, 3) := by decide +kernel
theorem dX6_faulted_5 : decode cX6_faulted 5 = .ok (.bipush (-10), 2) := by decide +kernel
theorem dX6_faulted_7 : decode cX6_faulted 7 = .ok (.iload_n 1, 1) := by decide +kernel
theorem dX6_faulted_8 : decode cX6_faulted 8 = .ok (.isub, 1) := by decide +kernel
theorem dX6_faulted_9 : decode cX6_faulted 9 = .ok (.ireturn, 1) := by decide +kernel
theorem dX6_lostBy_0 : decode cX6_lostBy 0 = .ok (.aload_n 0, 1) := by decide +kernel
theorem dX6_lostBy_1 : decode cX6_lostBy 1 = .ok (.iload_n 1, 1) := by decide +kernel
theorem dX6_lostBy_2 : decode cX6_lostBy 2 = .ok (.putfield 65, 3) := by decide +kernel
theorem dX6_lostBy_5 : decode cX6_lostBy 5 = .ok (.ldc2_w 68, 3) := by decide +kernel
theorem dX6_lostBy_8 : decode cX6_lostBy 8 = .ok (.lreturn, 1) := by decide +kernel
theorem dX6_house_0 : decode cX6_house 0 = .ok (.aload_n 0, 1) := by decide +kernel
theorem dX6_house_1 : decode cX6_house 1 = .ok (.iconst 0, 1) := by decide +kernel
theorem dX6_house_2 : decode cX6_house 2 = .ok (.putfield 65, 3) := by decide +kernel
theorem dX6_house_5 : decode cX6_house 5 = .ok (.aload_n 0, 1) := by decide +kernel
theorem dX6_house_6 : decode cX6_house 6 = .ok (.iload_n 1, 1) := by decide +kernel
theorem dX6_house_7 : decode cX6_house 7 = .ok (.invokevirtual 70, 3) := by decide +kernel
theorem dX6_house_10 : decode cX6_house 10 = .ok (.astore 5, 2) := by decide +kernel
theorem dX6_house_12 : decode cX6_house 12 = .ok (.aload 5, 2) := by decide +kernel
theorem dX6_house_14 : decode cX6_house 14 = .ok (.ifnonnull 5, 3) := by decide +kernel
theorem dX6_house_17 : decode cX6_house 17 = .ok (.iconst (-1), 1) := by decide +kernel
theorem dX6_house_18 : decode cX6_house 18 = .ok (.ireturn, 1) := by decide +kernel
theorem dX6_house_19 : decode cX6_house 19 = .ok (.iload_n 2, 1) := by decide +kernel
theorem dX6_house_20 : decode cX6_house 20 = .ok (.invokestatic 74, 3) := by decide +kernel
theorem dX6_house_23 : decode cX6_house 23 = .ok (.ifCond .ne 6, 3) := by decide +kernel
theorem dX6_house_26 : decode cX6_house 26 = .ok (.bipush (-2), 2) := by decide +kernel
theorem dX6_house_28 : decode cX6_house 28 = .ok (.ireturn, 1) := by decide +kernel
theorem dX6_house_29 : decode cX6_house 29 = .ok (.aload 5, 2) := by decide +kernel
theorem dX6_house_31 : decode cX6_house 31 = .ok (.iload_n 2, 1) := by decide +kernel
theorem dX6_house_32 : decode cX6_house 32 = .ok (.iload_n 3, 1) := by decide +kernel
theorem dX6_house_33 : decode cX6_house 33 = .ok (.iload 4, 2) := by decide +kernel
theorem dX6_house_35 : decode cX6_house 35 = .ok (.invokevirtual 78, 3) := by decide +kernel
theorem dX6_house_38 : decode cX6_house 38 = .ok (.istore 6, 2) := by decide +kernel
theorem dX6_house_40 : decode cX6_house 40 = .ok (.iload 6, 2) := by decide +kernel
theorem dX6_house_42 : decode cX6_house 42 = .ok (.ifCond .eq 10, 3) := by decide +kernel
theorem dX6_house_45 : decode cX6_house 45 = .ok (.aload_n 0, 1) := by decide +kernel
theorem dX6_house_46 : decode cX6_house 46 = .ok (.iload 6, 2) := by decide +kernel
theorem dX6_house_48 : decode cX6_house 48 = .ok (.invokevirtual 82, 3) := by decide +kernel
theorem dX6_house_51 : decode cX6_house 51 = .ok (.ireturn, 1) := by decide +kernel
theorem dX6_house_52 : decode cX6_house 52 = .ok (.aload 5, 2) := by decide +kernel
theorem dX6_house_54 : decode cX6_house 54 = .ok (.iload_n 3, 1) := by decide +kernel
theorem dX6_house_55 : decode cX6_house 55 = .ok (.iload 4, 2) := by decide +kernel
theorem dX6_house_57 : decode cX6_house 57 = .ok (.invokestatic 86, 3) := by decide +kernel
theorem dX6_house_60 : decode cX6_house 60 = .ok (.istore 7, 2) := by decide +kernel
theorem dX6_house_62 : decode cX6_house 62 = .ok (.iload 7, 2) := by decide +kernel
theorem dX6_house_64 : decode cX6_house 64 = .ok (.bipush (-9), 2) := by decide +kernel
theorem dX6_house_66 : decode cX6_house 66 = .ok (.if_icmp .eq 9, 3) := by decide +kernel
theorem dX6_house_69 : decode cX6_house 69 = .ok (.bipush (-100), 2) := by decide +kernel
theorem dX6_house_71 : decode cX6_house 71 = .ok (.iload 7, 2) := by decide +kernel
theorem dX6_house_73 : decode cX6_house 73 = .ok (.isub, 1) := by decide +kernel
theorem dX6_house_74 : decode cX6_house 74 = .ok (.ireturn, 1) := by decide +kernel
theorem dX6_house_75 : decode cX6_house 75 = .ok (.aload_n 0, 1) := by decide +kernel
theorem dX6_house_76 : decode cX6_house 76 = .ok (.getfield 54, 3) := by decide +kernel
theorem dX6_house_79 : decode cX6_house 79 = .ok (.aload_n 0, 1) := by decide +kernel
theorem dX6_house_80 : decode cX6_house 80 = .ok (.getfield 19, 3) := by decide +kernel
theorem dX6_house_83 : decode cX6_house 83 = .ok (.arraylength, 1) := by decide +kernel
theorem dX6_house_84 : decode cX6_house 84 = .ok (.if_icmp .lt 6, 3) := by decide +kernel
theorem dX6_house_87 : decode cX6_house 87 = .ok (.bipush (-4), 2) := by decide +kernel
theorem dX6_house_89 : decode cX6_house 89 = .ok (.ireturn, 1) := by decide +kernel
theorem dX6_house_90 : decode cX6_house 90 = .ok (.aload_n 0, 1) := by decide +kernel
theorem dX6_house_91 : decode cX6_house 91 = .ok (.getfield 19, 3) := by decide +kernel
theorem dX6_house_94 : decode cX6_house 94 = .ok (.aload_n 0, 1) := by decide +kernel
theorem dX6_house_95 : decode cX6_house 95 = .ok (.getfield 54, 3) := by decide +kernel
theorem dX6_house_98 : decode cX6_house 98 = .ok (.aload 5, 2) := by decide +kernel
theorem dX6_house_100 : decode cX6_house 100 = .ok (.iload_n 3, 1) := by decide +kernel
theorem dX6_house_101 : decode cX6_house 101 = .ok (.invokestatic 90, 3) := by decide +kernel
theorem dX6_house_104 : decode cX6_house 104 = .ok (.aastore, 1) := by decide +kernel
theorem dX6_house_105 : decode cX6_house 105 = .ok (.aload_n 0, 1) := by decide +kernel
theorem dX6_house_106 : decode cX6_house 106 = .ok (.dup, 1) := by decide +kernel
theorem dX6_house_107 : decode cX6_house 107 = .ok (.getfield 54, 3) := by decide +kernel
theorem dX6_house_110 : decode cX6_house 110 = .ok (.iconst 1, 1) := by decide +kernel
theorem dX6_house_111 : decode cX6_house 111 = .ok (.iadd, 1) := by decide +kernel
theorem dX6_house_112 : decode cX6_house 112 = .ok (.putfield 54, 3) := by decide +kernel
theorem dX6_house_115 : decode cX6_house 115 = .ok (.aload_n 0, 1) := by decide +kernel
theorem dX6_house_116 : decode cX6_house 116 = .ok (.getfield 54, 3) := by decide +kernel
theorem dX6_house_119 : decode cX6_house 119 = .ok (.iconst 1, 1) := by decide +kernel
theorem dX6_house_120 : decode cX6_house 120 = .ok (.isub, 1) := by decide +kernel
theorem dX6_house_121 : decode cX6_house 121 = .ok (.ireturn, 1) := by decide +kernel
theorem dX6_firstFaultOf_0 : decode cX6_firstFaultOf 0 = .ok (.iconst 0, 1) := by decide +kernel
theorem dX6_firstFaultOf_1 : decode cX6_firstFaultOf 1 = .ok (.istore_n 3, 1) := by decide +kernel
theorem dX6_firstFaultOf_2 : decode cX6_firstFaultOf 2 = .ok (.iload_n 3, 1) := by decide +kernel
theorem dX6_firstFaultOf_3 : decode cX6_firstFaultOf 3 = .ok (.iload_n 2, 1) := by decide +kernel
theorem dX6_firstFaultOf_4 : decode cX6_firstFaultOf 4 = .ok (.if_icmp .ge 20, 3) := by decide +kernel
theorem dX6_firstFaultOf_7 : decode cX6_firstFaultOf 7 = .ok (.aload_n 0, 1) := by decide +kernel
theorem dX6_firstFaultOf_8 : decode cX6_firstFaultOf 8 = .ok (.iload_n 1, 1) := by decide +kernel
theorem dX6_firstFaultOf_9 : decode cX6_firstFaultOf 9 = .ok (.iload_n 3, 1) := by decide +kernel
theorem dX6_firstFaultOf_10 : decode cX6_firstFaultOf 10 = .ok (.invokestatic 94, 3) := by decide +kernel
theorem dX6_firstFaultOf_13 : decode cX6_firstFaultOf 13 = .ok (.ifCond .ne 5, 3) := by decide +kernel
theorem dX6_firstFaultOf_16 : decode cX6_firstFaultOf 16 = .ok (.iload_n 3, 1) := by decide +kernel
theorem dX6_firstFaultOf_17 : decode cX6_firstFaultOf 17 = .ok (.ireturn, 1) := by decide +kernel
theorem dX6_firstFaultOf_18 : decode cX6_firstFaultOf 18 = .ok (.iinc 3 1, 3) := by decide +kernel
theorem dX6_firstFaultOf_21 : decode cX6_firstFaultOf 21 = .ok (.goto (-19), 3) := by decide +kernel
theorem dX6_firstFaultOf_24 : decode cX6_firstFaultOf 24 = .ok (.iload_n 2, 1) := by decide +kernel
theorem dX6_firstFaultOf_25 : decode cX6_firstFaultOf 25 = .ok (.iconst 5, 1) := by decide +kernel
theorem dX6_firstFaultOf_26 : decode cX6_firstFaultOf 26 = .ok (.if_icmp .ge 7, 3) := by decide +kernel
theorem dX6_firstFaultOf_29 : decode cX6_firstFaultOf 29 = .ok (.iconst 5, 1) := by decide +kernel
theorem dX6_firstFaultOf_30 : decode cX6_firstFaultOf 30 = .ok (.goto 10, 3) := by decide +kernel
theorem dX6_firstFaultOf_33 : decode cX6_firstFaultOf 33 = .ok (.iconst 5, 1) := by decide +kernel
theorem dX6_firstFaultOf_34 : decode cX6_firstFaultOf 34 = .ok (.aload_n 0, 1) := by decide +kernel
theorem dX6_firstFaultOf_35 : decode cX6_firstFaultOf 35 = .ok (.iload_n 1, 1) := by decide +kernel
theorem dX6_firstFaultOf_36 : decode cX6_firstFaultOf 36 = .ok (.invokestatic 98, 3) := by decide +kernel
theorem dX6_firstFaultOf_39 : decode cX6_firstFaultOf 39 = .ok (.iadd, 1) := by decide +kernel
theorem dX6_firstFaultOf_40 : decode cX6_firstFaultOf 40 = .ok (.istore_n 3, 1) := by decide +kernel
theorem dX6_firstFaultOf_41 : decode cX6_firstFaultOf 41 = .ok (.iload_n 2, 1) := by decide +kernel
theorem dX6_firstFaultOf_42 : decode cX6_firstFaultOf 42 = .ok (.iload_n 3, 1) := by decide +kernel
theorem dX6_firstFaultOf_43 : decode cX6_firstFaultOf 43 = .ok (.if_icmp .ge 7, 3) := by decide +kernel
theorem dX6_firstFaultOf_46 : decode cX6_firstFaultOf 46 = .ok (.iload_n 2, 1) := by decide +kernel
theorem dX6_firstFaultOf_47 : decode cX6_firstFaultOf 47 = .ok (.goto 5, 3) := by decide +kernel
theorem dX6_firstFaultOf_50 : decode cX6_firstFaultOf 50 = .ok (.bipush (-9), 2) := by decide +kernel
theorem dX6_firstFaultOf_52 : decode cX6_firstFaultOf 52 = .ok (.ireturn, 1) := by decide +kernel
theorem dX6_goesOn_0 : decode cX6_goesOn 0 = .ok (.aload_n 0, 1) := by decide +kernel
theorem dX6_goesOn_1 : decode cX6_goesOn 1 = .ok (.getfield 102, 3) := by decide +kernel
theorem dX6_goesOn_4 : decode cX6_goesOn 4 = .ok (.iload_n 1, 1) := by decide +kernel
theorem dX6_goesOn_5 : decode cX6_goesOn 5 = .ok (.iload_n 2, 1) := by decide +kernel
theorem dX6_goesOn_6 : decode cX6_goesOn 6 = .ok (.iadd, 1) := by decide +kernel
theorem dX6_goesOn_7 : decode cX6_goesOn 7 = .ok (.iaload, 1) := by decide +kernel
theorem dX6_goesOn_8 : decode cX6_goesOn 8 = .ok (.istore_n 3, 1) := by decide +kernel
theorem dX6_goesOn_9 : decode cX6_goesOn 9 = .ok (.iload_n 2, 1) := by decide +kernel
theorem dX6_goesOn_10 : decode cX6_goesOn 10 = .ok (.tableswitch 88 0 4 #[34, 46, 55, 67, 76], 34) := by decide +kernel
theorem dX6_goesOn_44 : decode cX6_goesOn 44 = .ok (.iload_n 3, 1) := by decide +kernel
theorem dX6_goesOn_45 : decode cX6_goesOn 45 = .ok (.bipush 119, 2) := by decide +kernel
theorem dX6_goesOn_47 : decode cX6_goesOn 47 = .ok (.if_icmp .ne 7, 3) := by decide +kernel
theorem dX6_goesOn_50 : decode cX6_goesOn 50 = .ok (.iconst 1, 1) := by decide +kernel
theorem dX6_goesOn_51 : decode cX6_goesOn 51 = .ok (.goto 4, 3) := by decide +kernel
theorem dX6_goesOn_54 : decode cX6_goesOn 54 = .ok (.iconst 0, 1) := by decide +kernel
theorem dX6_goesOn_55 : decode cX6_goesOn 55 = .ok (.ireturn, 1) := by decide +kernel
theorem dX6_goesOn_56 : decode cX6_goesOn 56 = .ok (.iload_n 3, 1) := by decide +kernel
theorem dX6_goesOn_57 : decode cX6_goesOn 57 = .ok (.bipush 49, 2) := by decide +kernel
theorem dX6_goesOn_59 : decode cX6_goesOn 59 = .ok (.bipush 52, 2) := by decide +kernel
theorem dX6_goesOn_61 : decode cX6_goesOn 61 = .ok (.invokestatic 61, 3) := by decide +kernel
theorem dX6_goesOn_64 : decode cX6_goesOn 64 = .ok (.ireturn, 1) := by decide +kernel
theorem dX6_goesOn_65 : decode cX6_goesOn 65 = .ok (.iload_n 3, 1) := by decide +kernel
theorem dX6_goesOn_66 : decode cX6_goesOn 66 = .ok (.bipush 104, 2) := by decide +kernel
theorem dX6_goesOn_68 : decode cX6_goesOn 68 = .ok (.if_icmp .ne 7, 3) := by decide +kernel
theorem dX6_goesOn_71 : decode cX6_goesOn 71 = .ok (.iconst 1, 1) := by decide +kernel
theorem dX6_goesOn_72 : decode cX6_goesOn 72 = .ok (.goto 4, 3) := by decide +kernel
theorem dX6_goesOn_75 : decode cX6_goesOn 75 = .ok (.iconst 0, 1) := by decide +kernel
theorem dX6_goesOn_76 : decode cX6_goesOn 76 = .ok (.ireturn, 1) := by decide +kernel
theorem dX6_goesOn_77 : decode cX6_goesOn 77 = .ok (.iload_n 3, 1) := by decide +kernel
theorem dX6_goesOn_78 : decode cX6_goesOn 78 = .ok (.bipush 49, 2) := by decide +kernel
theorem dX6_goesOn_80 : decode cX6_goesOn 80 = .ok (.bipush 51, 2) := by decide +kernel
theorem dX6_goesOn_82 : decode cX6_goesOn 82 = .ok (.invokestatic 61, 3) := by decide +kernel
theorem dX6_goesOn_85 : decode cX6_goesOn 85 = .ok (.ireturn, 1) := by decide +kernel
theorem dX6_goesOn_86 : decode cX6_goesOn 86 = .ok (.iload_n 3, 1) := by decide +kernel
theorem dX6_goesOn_87 : decode cX6_goesOn 87 = .ok (.bipush 59, 2) := by decide +kernel
theorem dX6_goesOn_89 : decode cX6_goesOn 89 = .ok (.if_icmp .ne 7, 3) := by decide +kernel
theorem dX6_goesOn_92 : decode cX6_goesOn 92 = .ok (.iconst 1, 1) := by decide +kernel
theorem dX6_goesOn_93 : decode cX6_goesOn 93 = .ok (.goto 4, 3) := by decide +kernel
theorem dX6_goesOn_96 : decode cX6_goesOn 96 = .ok (.iconst 0, 1) := by decide +kernel
theorem dX6_goesOn_97 : decode cX6_goesOn 97 = .ok (.ireturn, 1) := by decide +kernel
theorem dX6_goesOn_98 : decode cX6_goesOn 98 = .ok (.iload_n 2, 1) := by decide +kernel
theorem dX6_goesOn_99 : decode cX6_goesOn 99 = .ok (.iconst 5, 1) := by decide +kernel
theorem dX6_goesOn_100 : decode cX6_goesOn 100 = .ok (.aload_n 0, 1) := by decide +kernel
theorem dX6_goesOn_101 : decode cX6_goesOn 101 = .ok (.iload_n 1, 1) := by decide +kernel
theorem dX6_goesOn_102 : decode cX6_goesOn 102 = .ok (.invokestatic 98, 3) := by decide +kernel
theorem dX6_goesOn_105 : decode cX6_goesOn 105 = .ok (.iadd, 1) := by decide +kernel
theorem dX6_goesOn_106 : decode cX6_goesOn 106 = .ok (.if_icmp .ge 16, 3) := by decide +kernel
theorem dX6_goesOn_109 : decode cX6_goesOn 109 = .ok (.iload_n 3, 1) := by decide +kernel
theorem dX6_goesOn_110 : decode cX6_goesOn 110 = .ok (.invokestatic 105, 3) := by decide +kernel
theorem dX6_goesOn_113 : decode cX6_goesOn 113 = .ok (.bipush (-9), 2) := by decide +kernel
theorem dX6_goesOn_115 : decode cX6_goesOn 115 = .ok (.if_icmp .eq 7, 3) := by decide +kernel
theorem dX6_goesOn_118 : decode cX6_goesOn 118 = .ok (.iconst 1, 1) := by decide +kernel
theorem dX6_goesOn_119 : decode cX6_goesOn 119 = .ok (.goto 4, 3) := by decide +kernel
theorem dX6_goesOn_122 : decode cX6_goesOn 122 = .ok (.iconst 0, 1) := by decide +kernel
theorem dX6_goesOn_123 : decode cX6_goesOn 123 = .ok (.ireturn, 1) := by decide +kernel
theorem dX6_lettersOf_0 : decode cX6_lettersOf 0 = .ok (.aload_n 0, 1) := by decide +kernel
theorem dX6_lettersOf_1 : decode cX6_lettersOf 1 = .ok (.getfield 102, 3) := by decide +kernel
theorem dX6_lettersOf_4 : decode cX6_lettersOf 4 = .ok (.iload_n 1, 1) := by decide +kernel
theorem dX6_lettersOf_5 : decode cX6_lettersOf 5 = .ok (.iconst 1, 1) := by decide +kernel
theorem dX6_lettersOf_6 : decode cX6_lettersOf 6 = .ok (.iadd, 1) := by decide +kernel
theorem dX6_lettersOf_7 : decode cX6_lettersOf 7 = .ok (.iaload, 1) := by decide +kernel
theorem dX6_lettersOf_8 : decode cX6_lettersOf 8 = .ok (.bipush 48, 2) := by decide +kernel
theorem dX6_lettersOf_10 : decode cX6_lettersOf 10 = .ok (.isub, 1) := by decide +kernel
theorem dX6_lettersOf_11 : decode cX6_lettersOf 11 = .ok (.aload_n 0, 1) := by decide +kernel
theorem dX6_lettersOf_12 : decode cX6_lettersOf 12 = .ok (.getfield 102, 3) := by decide +kernel
theorem dX6_lettersOf_15 : decode cX6_lettersOf 15 = .ok (.iload_n 1, 1) := by decide +kernel
theorem dX6_lettersOf_16 : decode cX6_lettersOf 16 = .ok (.iconst 3, 1) := by decide +kernel
theorem dX6_lettersOf_17 : decode cX6_lettersOf 17 = .ok (.iadd, 1) := by decide +kernel
theorem dX6_lettersOf_18 : decode cX6_lettersOf 18 = .ok (.iaload, 1) := by decide +kernel
theorem dX6_lettersOf_19 : decode cX6_lettersOf 19 = .ok (.bipush 48, 2) := by decide +kernel
theorem dX6_lettersOf_21 : decode cX6_lettersOf 21 = .ok (.isub, 1) := by decide +kernel
theorem dX6_lettersOf_22 : decode cX6_lettersOf 22 = .ok (.invokestatic 108, 3) := by decide +kernel
theorem dX6_lettersOf_25 : decode cX6_lettersOf 25 = .ok (.ireturn, 1) := by decide +kernel
theorem dX6_sidesOf_0 : decode cX6_sidesOf 0 = .ok (.iconst 3, 1) := by decide +kernel
theorem dX6_sidesOf_1 : decode cX6_sidesOf 1 = .ok (.iload_n 0, 1) := by decide +kernel
theorem dX6_sidesOf_2 : decode cX6_sidesOf 2 = .ok (.imul, 1) := by decide +kernel
theorem dX6_sidesOf_3 : decode cX6_sidesOf 3 = .ok (.iload_n 1, 1) := by decide +kernel
theorem dX6_sidesOf_4 : decode cX6_sidesOf 4 = .ok (.imul, 1) := by decide +kernel
theorem dX6_sidesOf_5 : decode cX6_sidesOf 5 = .ok (.iload_n 0, 1) := by decide +kernel
theorem dX6_sidesOf_6 : decode cX6_sidesOf 6 = .ok (.iadd, 1) := by decide +kernel
theorem dX6_sidesOf_7 : decode cX6_sidesOf 7 = .ok (.iload_n 1, 1) := by decide +kernel
theorem dX6_sidesOf_8 : decode cX6_sidesOf 8 = .ok (.iadd, 1) := by decide +kernel
theorem dX6_sidesOf_9 : decode cX6_sidesOf 9 = .ok (.ireturn, 1) := by decide +kernel
theorem dX6_kindOf_0 : decode cX6_kindOf 0 = .ok (.iload_n 0, 1) := by decide +kernel
theorem dX6_kindOf_1 : decode cX6_kindOf 1 = .ok (.lookupswitch 41 #[(103, 37), (109, 35), (111, 39)], 35) := by decide +kernel
theorem dX6_kindOf_36 : decode cX6_kindOf 36 = .ok (.iconst 0, 1) := by decide +kernel
theorem dX6_kindOf_37 : decode cX6_kindOf 37 = .ok (.ireturn, 1) := by decide +kernel
theorem dX6_kindOf_38 : decode cX6_kindOf 38 = .ok (.iconst 1, 1) := by decide +kernel
theorem dX6_kindOf_39 : decode cX6_kindOf 39 = .ok (.ireturn, 1) := by decide +kernel
theorem dX6_kindOf_40 : decode cX6_kindOf 40 = .ok (.iconst 2, 1) := by decide +kernel
theorem dX6_kindOf_41 : decode cX6_kindOf 41 = .ok (.ireturn, 1) := by decide +kernel
theorem dX6_kindOf_42 : decode cX6_kindOf 42 = .ok (.bipush (-9), 2) := by decide +kernel
theorem dX6_kindOf_44 : decode cX6_kindOf 44 = .ok (.ireturn, 1) := by decide +kernel
theorem dX6_builtBy_0 : decode cX6_builtBy 0 = .ok (.new 17, 3) := by decide +kernel
theorem dX6_builtBy_3 : decode cX6_builtBy 3 = .ok (.dup, 1) := by decide +kernel
theorem dX6_builtBy_4 : decode cX6_builtBy 4 = .ok (.aload_n 0, 1) := by decide +kernel
theorem dX6_builtBy_5 : decode cX6_builtBy 5 = .ok (.getfield 102, 3) := by decide +kernel
theorem dX6_builtBy_8 : decode cX6_builtBy 8 = .ok (.iload_n 1, 1) := by decide +kernel
theorem dX6_builtBy_9 : decode cX6_builtBy 9 = .ok (.iconst 1, 1) := by decide +kernel
theorem dX6_builtBy_10 : decode cX6_builtBy 10 = .ok (.iadd, 1) := by decide +kernel
theorem dX6_builtBy_11 : decode cX6_builtBy 11 = .ok (.iaload, 1) := by decide +kernel
theorem dX6_builtBy_12 : decode cX6_builtBy 12 = .ok (.bipush 48, 2) := by decide +kernel
theorem dX6_builtBy_14 : decode cX6_builtBy 14 = .ok (.isub, 1) := by decide +kernel
theorem dX6_builtBy_15 : decode cX6_builtBy 15 = .ok (.aload_n 0, 1) := by decide +kernel
theorem dX6_builtBy_16 : decode cX6_builtBy 16 = .ok (.getfield 102, 3) := by decide +kernel
theorem dX6_builtBy_19 : decode cX6_builtBy 19 = .ok (.iload_n 1, 1) := by decide +kernel
theorem dX6_builtBy_20 : decode cX6_builtBy 20 = .ok (.iconst 3, 1) := by decide +kernel
theorem dX6_builtBy_21 : decode cX6_builtBy 21 = .ok (.iadd, 1) := by decide +kernel
theorem dX6_builtBy_22 : decode cX6_builtBy 22 = .ok (.iaload, 1) := by decide +kernel
theorem dX6_builtBy_23 : decode cX6_builtBy 23 = .ok (.bipush 48, 2) := by decide +kernel
theorem dX6_builtBy_25 : decode cX6_builtBy 25 = .ok (.isub, 1) := by decide +kernel
theorem dX6_builtBy_26 : decode cX6_builtBy 26 = .ok (.invokespecial 112, 3) := by decide +kernel
theorem dX6_builtBy_29 : decode cX6_builtBy 29 = .ok (.astore_n 2, 1) := by decide +kernel
theorem dX6_builtBy_30 : decode cX6_builtBy 30 = .ok (.iconst 0, 1) := by decide +kernel
theorem dX6_builtBy_31 : decode cX6_builtBy 31 = .ok (.istore_n 3, 1) := by decide +kernel
theorem dX6_builtBy_32 : decode cX6_builtBy 32 = .ok (.iload_n 3, 1) := by decide +kernel
theorem dX6_builtBy_33 : decode cX6_builtBy 33 = .ok (.aload_n 2, 1) := by decide +kernel
theorem dX6_builtBy_34 : decode cX6_builtBy 34 = .ok (.getfield 115, 3) := by decide +kernel
theorem dX6_builtBy_37 : decode cX6_builtBy 37 = .ok (.if_icmp .ge 28, 3) := by decide +kernel
theorem dX6_builtBy_40 : decode cX6_builtBy 40 = .ok (.aload_n 2, 1) := by decide +kernel
theorem dX6_builtBy_41 : decode cX6_builtBy 41 = .ok (.getfield 118, 3) := by decide +kernel
theorem dX6_builtBy_44 : decode cX6_builtBy 44 = .ok (.iload_n 3, 1) := by decide +kernel
theorem dX6_builtBy_45 : decode cX6_builtBy 45 = .ok (.aload_n 0, 1) := by decide +kernel
theorem dX6_builtBy_46 : decode cX6_builtBy 46 = .ok (.getfield 102, 3) := by decide +kernel
theorem dX6_builtBy_49 : decode cX6_builtBy 49 = .ok (.iload_n 1, 1) := by decide +kernel
theorem dX6_builtBy_50 : decode cX6_builtBy 50 = .ok (.iconst 5, 1) := by decide +kernel
theorem dX6_builtBy_51 : decode cX6_builtBy 51 = .ok (.iadd, 1) := by decide +kernel
theorem dX6_builtBy_52 : decode cX6_builtBy 52 = .ok (.iload_n 3, 1) := by decide +kernel
theorem dX6_builtBy_53 : decode cX6_builtBy 53 = .ok (.iadd, 1) := by decide +kernel
theorem dX6_builtBy_54 : decode cX6_builtBy 54 = .ok (.iaload, 1) := by decide +kernel
theorem dX6_builtBy_55 : decode cX6_builtBy 55 = .ok (.invokestatic 105, 3) := by decide +kernel
theorem dX6_builtBy_58 : decode cX6_builtBy 58 = .ok (.iastore, 1) := by decide +kernel
theorem dX6_builtBy_59 : decode cX6_builtBy 59 = .ok (.iinc 3 1, 3) := by decide +kernel
theorem dX6_builtBy_62 : decode cX6_builtBy 62 = .ok (.goto (-30), 3) := by decide +kernel
theorem dX6_builtBy_65 : decode cX6_builtBy 65 = .ok (.aload_n 2, 1) := by decide +kernel
theorem dX6_builtBy_66 : decode cX6_builtBy 66 = .ok (.areturn, 1) := by decide +kernel
theorem dX6_ofHouse_0 : decode cX6_ofHouse 0 = .ok (.aload_n 0, 1) := by decide +kernel
theorem dX6_ofHouse_1 : decode cX6_ofHouse 1 = .ok (.iload_n 1, 1) := by decide +kernel
theorem dX6_ofHouse_2 : decode cX6_ofHouse 2 = .ok (.invokevirtual 121, 3) := by decide +kernel
theorem dX6_ofHouse_5 : decode cX6_ofHouse 5 = .ok (.astore_n 3, 1) := by decide +kernel
theorem dX6_ofHouse_6 : decode cX6_ofHouse 6 = .ok (.aload_n 3, 1) := by decide +kernel
theorem dX6_ofHouse_7 : decode cX6_ofHouse 7 = .ok (.ifnonnull 5, 3) := by decide +kernel
theorem dX6_ofHouse_10 : decode cX6_ofHouse 10 = .ok (.iconst (-1), 1) := by decide +kernel
theorem dX6_ofHouse_11 : decode cX6_ofHouse 11 = .ok (.ireturn, 1) := by decide +kernel
theorem dX6_ofHouse_12 : decode cX6_ofHouse 12 = .ok (.iload_n 2, 1) := by decide +kernel
theorem dX6_ofHouse_13 : decode cX6_ofHouse 13 = .ok (.tableswitch 90 0 7 #[47, 52, 57, 62, 67, 73, 79, 85], 47) := by decide +kernel
theorem dX6_ofHouse_60 : decode cX6_ofHouse 60 = .ok (.aload_n 3, 1) := by decide +kernel
theorem dX6_ofHouse_61 : decode cX6_ofHouse 61 = .ok (.getfield 125, 3) := by decide +kernel
theorem dX6_ofHouse_64 : decode cX6_ofHouse 64 = .ok (.ireturn, 1) := by decide +kernel
theorem dX6_ofHouse_65 : decode cX6_ofHouse 65 = .ok (.aload_n 3, 1) := by decide +kernel
theorem dX6_ofHouse_66 : decode cX6_ofHouse 66 = .ok (.getfield 128, 3) := by decide +kernel
theorem dX6_ofHouse_69 : decode cX6_ofHouse 69 = .ok (.ireturn, 1) := by decide +kernel
theorem dX6_ofHouse_70 : decode cX6_ofHouse 70 = .ok (.aload_n 3, 1) := by decide +kernel
theorem dX6_ofHouse_71 : decode cX6_ofHouse 71 = .ok (.getfield 131, 3) := by decide +kernel
theorem dX6_ofHouse_74 : decode cX6_ofHouse 74 = .ok (.ireturn, 1) := by decide +kernel
theorem dX6_ofHouse_75 : decode cX6_ofHouse 75 = .ok (.aload_n 3, 1) := by decide +kernel
theorem dX6_ofHouse_76 : decode cX6_ofHouse 76 = .ok (.getfield 115, 3) := by decide +kernel
theorem dX6_ofHouse_79 : decode cX6_ofHouse 79 = .ok (.ireturn, 1) := by decide +kernel
theorem dX6_ofHouse_80 : decode cX6_ofHouse 80 = .ok (.aload_n 3, 1) := by decide +kernel
theorem dX6_ofHouse_81 : decode cX6_ofHouse 81 = .ok (.iconst 0, 1) := by decide +kernel
theorem dX6_ofHouse_82 : decode cX6_ofHouse 82 = .ok (.invokevirtual 134, 3) := by decide +kernel
theorem dX6_ofHouse_85 : decode cX6_ofHouse 85 = .ok (.ireturn, 1) := by decide +kernel
theorem dX6_ofHouse_86 : decode cX6_ofHouse 86 = .ok (.aload_n 3, 1) := by decide +kernel
theorem dX6_ofHouse_87 : decode cX6_ofHouse 87 = .ok (.iconst 1, 1) := by decide +kernel
theorem dX6_ofHouse_88 : decode cX6_ofHouse 88 = .ok (.invokevirtual 134, 3) := by decide +kernel
theorem dX6_ofHouse_91 : decode cX6_ofHouse 91 = .ok (.ireturn, 1) := by decide +kernel
theorem dX6_ofHouse_92 : decode cX6_ofHouse 92 = .ok (.aload_n 3, 1) := by decide +kernel
theorem dX6_ofHouse_93 : decode cX6_ofHouse 93 = .ok (.iconst 2, 1) := by decide +kernel
theorem dX6_ofHouse_94 : decode cX6_ofHouse 94 = .ok (.invokevirtual 134, 3) := by decide +kernel
theorem dX6_ofHouse_97 : decode cX6_ofHouse 97 = .ok (.ireturn, 1) := by decide +kernel
theorem dX6_ofHouse_98 : decode cX6_ofHouse 98 = .ok (.aload_n 3, 1) := by decide +kernel
theorem dX6_ofHouse_99 : decode cX6_ofHouse 99 = .ok (.invokevirtual 137, 3) := by decide +kernel
theorem dX6_ofHouse_102 : decode cX6_ofHouse 102 = .ok (.ireturn, 1) := by decide +kernel
theorem dX6_ofHouse_103 : decode cX6_ofHouse 103 = .ok (.bipush (-2), 2) := by decide +kernel
theorem dX6_ofHouse_105 : decode cX6_ofHouse 105 = .ok (.ireturn, 1) := by decide +kernel
theorem dX6_ofSide_0 : decode cX6_ofSide 0 = .ok (.aload_n 0, 1) := by decide +kernel
theorem dX6_ofSide_1 : decode cX6_ofSide 1 = .ok (.iload_n 1, 1) := by decide +kernel
theorem dX6_ofSide_2 : decode cX6_ofSide 2 = .ok (.invokevirtual 121, 3) := by decide +kernel
theorem dX6_ofSide_5 : decode cX6_ofSide 5 = .ok (.astore 4, 2) := by decide +kernel
theorem dX6_ofSide_7 : decode cX6_ofSide 7 = .ok (.aload 4, 2) := by decide +kernel
theorem dX6_ofSide_9 : decode cX6_ofSide 9 = .ok (.ifnull 12, 3) := by decide +kernel
theorem dX6_ofSide_12 : decode cX6_ofSide 12 = .ok (.aload 4, 2) := by decide +kernel
theorem dX6_ofSide_14 : decode cX6_ofSide 14 = .ok (.iload_n 2, 1) := by decide +kernel
theorem dX6_ofSide_15 : decode cX6_ofSide 15 = .ok (.invokevirtual 141, 3) := by decide +kernel
theorem dX6_ofSide_18 : decode cX6_ofSide 18 = .ok (.ifCond .ne 5, 3) := by decide +kernel
theorem dX6_ofSide_21 : decode cX6_ofSide 21 = .ok (.iconst (-1), 1) := by decide +kernel
theorem dX6_ofSide_22 : decode cX6_ofSide 22 = .ok (.ireturn, 1) := by decide +kernel
theorem dX6_ofSide_23 : decode cX6_ofSide 23 = .ok (.iload_n 3, 1) := by decide +kernel
theorem dX6_ofSide_24 : decode cX6_ofSide 24 = .ok (.tableswitch 76 0 4 #[36, 44, 52, 60, 68], 36) := by decide +kernel
theorem dX6_ofSide_60 : decode cX6_ofSide 60 = .ok (.aload 4, 2) := by decide +kernel
theorem dX6_ofSide_62 : decode cX6_ofSide 62 = .ok (.getfield 118, 3) := by decide +kernel
theorem dX6_ofSide_65 : decode cX6_ofSide 65 = .ok (.iload_n 2, 1) := by decide +kernel
theorem dX6_ofSide_66 : decode cX6_ofSide 66 = .ok (.iaload, 1) := by decide +kernel
theorem dX6_ofSide_67 : decode cX6_ofSide 67 = .ok (.ireturn, 1) := by decide +kernel
theorem dX6_ofSide_68 : decode cX6_ofSide 68 = .ok (.aload 4, 2) := by decide +kernel
theorem dX6_ofSide_70 : decode cX6_ofSide 70 = .ok (.getfield 144, 3) := by decide +kernel
theorem dX6_ofSide_73 : decode cX6_ofSide 73 = .ok (.iload_n 2, 1) := by decide +kernel
theorem dX6_ofSide_74 : decode cX6_ofSide 74 = .ok (.iaload, 1) := by decide +kernel
theorem dX6_ofSide_75 : decode cX6_ofSide 75 = .ok (.ireturn, 1) := by decide +kernel
theorem dX6_ofSide_76 : decode cX6_ofSide 76 = .ok (.aload 4, 2) := by decide +kernel
theorem dX6_ofSide_78 : decode cX6_ofSide 78 = .ok (.getfield 147, 3) := by decide +kernel
theorem dX6_ofSide_81 : decode cX6_ofSide 81 = .ok (.iload_n 2, 1) := by decide +kernel
theorem dX6_ofSide_82 : decode cX6_ofSide 82 = .ok (.iaload, 1) := by decide +kernel
theorem dX6_ofSide_83 : decode cX6_ofSide 83 = .ok (.ireturn, 1) := by decide +kernel
theorem dX6_ofSide_84 : decode cX6_ofSide 84 = .ok (.aload 4, 2) := by decide +kernel
theorem dX6_ofSide_86 : decode cX6_ofSide 86 = .ok (.getfield 150, 3) := by decide +kernel
theorem dX6_ofSide_89 : decode cX6_ofSide 89 = .ok (.iload_n 2, 1) := by decide +kernel
theorem dX6_ofSide_90 : decode cX6_ofSide 90 = .ok (.iaload, 1) := by decide +kernel
theorem dX6_ofSide_91 : decode cX6_ofSide 91 = .ok (.ireturn, 1) := by decide +kernel
theorem dX6_ofSide_92 : decode cX6_ofSide 92 = .ok (.aload 4, 2) := by decide +kernel
theorem dX6_ofSide_94 : decode cX6_ofSide 94 = .ok (.getfield 153, 3) := by decide +kernel
theorem dX6_ofSide_97 : decode cX6_ofSide 97 = .ok (.iload_n 2, 1) := by decide +kernel
theorem dX6_ofSide_98 : decode cX6_ofSide 98 = .ok (.iaload, 1) := by decide +kernel
theorem dX6_ofSide_99 : decode cX6_ofSide 99 = .ok (.ireturn, 1) := by decide +kernel
theorem dX6_ofSide_100 : decode cX6_ofSide 100 = .ok (.bipush (-2), 2) := by decide +kernel
theorem dX6_ofSide_102 : decode cX6_ofSide 102 = .ok (.ireturn, 1) := by decide +kernel
theorem dX6_side_0 : decode cX6_side 0 = .ok (.aload_n 0, 1) := by decide +kernel
theorem dX6_side_1 : decode cX6_side 1 = .ok (.iload_n 1, 1) := by decide +kernel
theorem dX6_side_2 : decode cX6_side 2 = .ok (.invokevirtual 121, 3) := by decide +kernel
theorem dX6_side_5 : decode cX6_side 5 = .ok (.astore 4, 2) := by decide +kernel
theorem dX6_side_7 : decode cX6_side 7 = .ok (.aload 4, 2) := by decide +kernel
theorem dX6_side_9 : decode cX6_side 9 = .ok (.ifnull 12, 3) := by decide +kernel
theorem dX6_side_12 : decode cX6_side 12 = .ok (.aload 4, 2) := by decide +kernel
theorem dX6_side_14 : decode cX6_side 14 = .ok (.iload_n 2, 1) := by decide +kernel
theorem dX6_side_15 : decode cX6_side 15 = .ok (.invokevirtual 156, 3) := by decide +kernel
theorem dX6_side_18 : decode cX6_side 18 = .ok (.ifCond .ne 5, 3) := by decide +kernel
theorem dX6_side_21 : decode cX6_side 21 = .ok (.iconst (-1), 1) := by decide +kernel
theorem dX6_side_22 : decode cX6_side 22 = .ok (.ireturn, 1) := by decide +kernel
theorem dX6_side_23 : decode cX6_side 23 = .ok (.iload_n 3, 1) := by decide +kernel
theorem dX6_side_24 : decode cX6_side 24 = .ok (.invokestatic 159, 3) := by decide +kernel
theorem dX6_side_27 : decode cX6_side 27 = .ok (.ifCond .eq 13, 3) := by decide +kernel
theorem dX6_side_30 : decode cX6_side 30 = .ok (.aload 4, 2) := by decide +kernel
theorem dX6_side_32 : decode cX6_side 32 = .ok (.iload_n 2, 1) := by decide +kernel
theorem dX6_side_33 : decode cX6_side 33 = .ok (.iload_n 3, 1) := by decide +kernel
theorem dX6_side_34 : decode cX6_side 34 = .ok (.invokevirtual 162, 3) := by decide +kernel
theorem dX6_side_37 : decode cX6_side 37 = .ok (.goto 5, 3) := by decide +kernel
theorem dX6_side_40 : decode cX6_side 40 = .ok (.bipush (-2), 2) := by decide +kernel
theorem dX6_side_42 : decode cX6_side 42 = .ok (.ireturn, 1) := by decide +kernel
theorem dX6_pane_0 : decode cX6_pane 0 = .ok (.aload_n 0, 1) := by decide +kernel
theorem dX6_pane_1 : decode cX6_pane 1 = .ok (.iload_n 1, 1) := by decide +kernel
theorem dX6_pane_2 : decode cX6_pane 2 = .ok (.invokevirtual 121, 3) := by decide +kernel
theorem dX6_pane_5 : decode cX6_pane 5 = .ok (.astore 4, 2) := by decide +kernel
theorem dX6_pane_7 : decode cX6_pane 7 = .ok (.aload 4, 2) := by decide +kernel
theorem dX6_pane_9 : decode cX6_pane 9 = .ok (.ifnull 12, 3) := by decide +kernel
theorem dX6_pane_12 : decode cX6_pane 12 = .ok (.aload 4, 2) := by decide +kernel
theorem dX6_pane_14 : decode cX6_pane 14 = .ok (.iload_n 2, 1) := by decide +kernel
theorem dX6_pane_15 : decode cX6_pane 15 = .ok (.invokevirtual 141, 3) := by decide +kernel
theorem dX6_pane_18 : decode cX6_pane 18 = .ok (.ifCond .ne 5, 3) := by decide +kernel
theorem dX6_pane_21 : decode cX6_pane 21 = .ok (.iconst (-1), 1) := by decide +kernel
theorem dX6_pane_22 : decode cX6_pane 22 = .ok (.ireturn, 1) := by decide +kernel
theorem dX6_pane_23 : decode cX6_pane 23 = .ok (.iload_n 3, 1) := by decide +kernel
theorem dX6_pane_24 : decode cX6_pane 24 = .ok (.iconst 0, 1) := by decide +kernel
theorem dX6_pane_25 : decode cX6_pane 25 = .ok (.iconst 2, 1) := by decide +kernel
theorem dX6_pane_26 : decode cX6_pane 26 = .ok (.invokestatic 61, 3) := by decide +kernel
theorem dX6_pane_29 : decode cX6_pane 29 = .ok (.ifCond .eq 13, 3) := by decide +kernel
theorem dX6_pane_32 : decode cX6_pane 32 = .ok (.aload 4, 2) := by decide +kernel
theorem dX6_pane_34 : decode cX6_pane 34 = .ok (.iload_n 2, 1) := by decide +kernel
theorem dX6_pane_35 : decode cX6_pane 35 = .ok (.iload_n 3, 1) := by decide +kernel
theorem dX6_pane_36 : decode cX6_pane 36 = .ok (.invokevirtual 165, 3) := by decide +kernel
theorem dX6_pane_39 : decode cX6_pane 39 = .ok (.goto 5, 3) := by decide +kernel
theorem dX6_pane_42 : decode cX6_pane 42 = .ok (.bipush (-2), 2) := by decide +kernel
theorem dX6_pane_44 : decode cX6_pane 44 = .ok (.ireturn, 1) := by decide +kernel
theorem dX6_seen_0 : decode cX6_seen 0 = .ok (.aload_n 0, 1) := by decide +kernel
theorem dX6_seen_1 : decode cX6_seen 1 = .ok (.iload_n 1, 1) := by decide +kernel
theorem dX6_seen_2 : decode cX6_seen 2 = .ok (.invokevirtual 121, 3) := by decide +kernel
theorem dX6_seen_5 : decode cX6_seen 5 = .ok (.astore 7, 2) := by decide +kernel
theorem dX6_seen_7 : decode cX6_seen 7 = .ok (.aload 7, 2) := by decide +kernel
theorem dX6_seen_9 : decode cX6_seen 9 = .ok (.ifnull 12, 3) := by decide +kernel
theorem dX6_seen_12 : decode cX6_seen 12 = .ok (.aload 7, 2) := by decide +kernel
theorem dX6_seen_14 : decode cX6_seen 14 = .ok (.iload_n 2, 1) := by decide +kernel
theorem dX6_seen_15 : decode cX6_seen 15 = .ok (.invokevirtual 156, 3) := by decide +kernel
theorem dX6_seen_18 : decode cX6_seen 18 = .ok (.ifCond .ne 5, 3) := by decide +kernel
theorem dX6_seen_21 : decode cX6_seen 21 = .ok (.iconst (-1), 1) := by decide +kernel
theorem dX6_seen_22 : decode cX6_seen 22 = .ok (.ireturn, 1) := by decide +kernel
theorem dX6_seen_23 : decode cX6_seen 23 = .ok (.iload_n 3, 1) := by decide +kernel
theorem dX6_seen_24 : decode cX6_seen 24 = .ok (.iload 4, 2) := by decide +kernel
theorem dX6_seen_26 : decode cX6_seen 26 = .ok (.invokestatic 168, 3) := by decide +kernel
theorem dX6_seen_29 : decode cX6_seen 29 = .ok (.ifCond .eq 25, 3) := by decide +kernel
theorem dX6_seen_32 : decode cX6_seen 32 = .ok (.iload 5, 2) := by decide +kernel
theorem dX6_seen_34 : decode cX6_seen 34 = .ok (.iconst 1, 1) := by decide +kernel
theorem dX6_seen_35 : decode cX6_seen 35 = .ok (.sipush 200, 3) := by decide +kernel
theorem dX6_seen_38 : decode cX6_seen 38 = .ok (.invokestatic 61, 3) := by decide +kernel
theorem dX6_seen_41 : decode cX6_seen 41 = .ok (.ifCond .eq 13, 3) := by decide +kernel
theorem dX6_seen_44 : decode cX6_seen 44 = .ok (.iload 6, 2) := by decide +kernel
theorem dX6_seen_46 : decode cX6_seen 46 = .ok (.iconst 0, 1) := by decide +kernel
theorem dX6_seen_47 : decode cX6_seen 47 = .ok (.iconst 3, 1) := by decide +kernel
theorem dX6_seen_48 : decode cX6_seen 48 = .ok (.invokestatic 61, 3) := by decide +kernel
theorem dX6_seen_51 : decode cX6_seen 51 = .ok (.ifCond .ne 6, 3) := by decide +kernel
theorem dX6_seen_54 : decode cX6_seen 54 = .ok (.bipush (-2), 2) := by decide +kernel
theorem dX6_seen_56 : decode cX6_seen 56 = .ok (.ireturn, 1) := by decide +kernel
theorem dX6_seen_57 : decode cX6_seen 57 = .ok (.aload_n 0, 1) := by decide +kernel
theorem dX6_seen_58 : decode cX6_seen 58 = .ok (.getfield 42, 3) := by decide +kernel
theorem dX6_seen_61 : decode cX6_seen 61 = .ok (.aload 7, 2) := by decide +kernel
theorem dX6_seen_63 : decode cX6_seen 63 = .ok (.iload_n 2, 1) := by decide +kernel
theorem dX6_seen_64 : decode cX6_seen 64 = .ok (.iload_n 3, 1) := by decide +kernel
theorem dX6_seen_65 : decode cX6_seen 65 = .ok (.iload 4, 2) := by decide +kernel
theorem dX6_seen_67 : decode cX6_seen 67 = .ok (.iload 5, 2) := by decide +kernel
theorem dX6_seen_69 : decode cX6_seen 69 = .ok (.invokevirtual 172, 3) := by decide +kernel
theorem dX6_seen_72 : decode cX6_seen 72 = .ok (.iload 6, 2) := by decide +kernel
theorem dX6_seen_74 : decode cX6_seen 74 = .ok (.tableswitch 50 0 2 #[26, 34, 42], 26) := by decide +kernel
theorem dX6_seen_100 : decode cX6_seen 100 = .ok (.aload_n 0, 1) := by decide +kernel
theorem dX6_seen_101 : decode cX6_seen 101 = .ok (.getfield 42, 3) := by decide +kernel
theorem dX6_seen_104 : decode cX6_seen 104 = .ok (.getfield 176, 3) := by decide +kernel
theorem dX6_seen_107 : decode cX6_seen 107 = .ok (.ireturn, 1) := by decide +kernel
theorem dX6_seen_108 : decode cX6_seen 108 = .ok (.aload_n 0, 1) := by decide +kernel
theorem dX6_seen_109 : decode cX6_seen 109 = .ok (.getfield 42, 3) := by decide +kernel
theorem dX6_seen_112 : decode cX6_seen 112 = .ok (.getfield 179, 3) := by decide +kernel
theorem dX6_seen_115 : decode cX6_seen 115 = .ok (.ireturn, 1) := by decide +kernel
theorem dX6_seen_116 : decode cX6_seen 116 = .ok (.aload_n 0, 1) := by decide +kernel
theorem dX6_seen_117 : decode cX6_seen 117 = .ok (.getfield 42, 3) := by decide +kernel
theorem dX6_seen_120 : decode cX6_seen 120 = .ok (.getfield 182, 3) := by decide +kernel
theorem dX6_seen_123 : decode cX6_seen 123 = .ok (.ireturn, 1) := by decide +kernel
theorem dX6_seen_124 : decode cX6_seen 124 = .ok (.aload_n 0, 1) := by decide +kernel
theorem dX6_seen_125 : decode cX6_seen 125 = .ok (.getfield 42, 3) := by decide +kernel
theorem dX6_seen_128 : decode cX6_seen 128 = .ok (.getfield 185, 3) := by decide +kernel
theorem dX6_seen_131 : decode cX6_seen 131 = .ok (.ireturn, 1) := by decide +kernel
theorem dX6_met_0 : decode cX6_met 0 = .ok (.aload_n 0, 1) := by decide +kernel
theorem dX6_met_1 : decode cX6_met 1 = .ok (.iload_n 1, 1) := by decide +kernel
theorem dX6_met_2 : decode cX6_met 2 = .ok (.invokevirtual 121, 3) := by decide +kernel
theorem dX6_met_5 : decode cX6_met 5 = .ok (.astore 6, 2) := by decide +kernel
theorem dX6_met_7 : decode cX6_met 7 = .ok (.aload 6, 2) := by decide +kernel
theorem dX6_met_9 : decode cX6_met 9 = .ok (.ifnull 12, 3) := by decide +kernel
theorem dX6_met_12 : decode cX6_met 12 = .ok (.aload 6, 2) := by decide +kernel
theorem dX6_met_14 : decode cX6_met 14 = .ok (.iload_n 2, 1) := by decide +kernel
theorem dX6_met_15 : decode cX6_met 15 = .ok (.invokevirtual 156, 3) := by decide +kernel
theorem dX6_met_18 : decode cX6_met 18 = .ok (.ifCond .ne 5, 3) := by decide +kernel
theorem dX6_met_21 : decode cX6_met 21 = .ok (.iconst (-1), 1) := by decide +kernel
theorem dX6_met_22 : decode cX6_met 22 = .ok (.ireturn, 1) := by decide +kernel
theorem dX6_met_23 : decode cX6_met 23 = .ok (.iload_n 3, 1) := by decide +kernel
theorem dX6_met_24 : decode cX6_met 24 = .ok (.iload 4, 2) := by decide +kernel
theorem dX6_met_26 : decode cX6_met 26 = .ok (.invokestatic 168, 3) := by decide +kernel
theorem dX6_met_29 : decode cX6_met 29 = .ok (.ifCond .eq 8, 3) := by decide +kernel
theorem dX6_met_32 : decode cX6_met 32 = .ok (.iload 5, 2) := by decide +kernel
theorem dX6_met_34 : decode cX6_met 34 = .ok (.ifCond .ge 6, 3) := by decide +kernel
theorem dX6_met_37 : decode cX6_met 37 = .ok (.bipush (-2), 2) := by decide +kernel
theorem dX6_met_39 : decode cX6_met 39 = .ok (.ireturn, 1) := by decide +kernel
theorem dX6_met_40 : decode cX6_met 40 = .ok (.iload 5, 2) := by decide +kernel
theorem dX6_met_42 : decode cX6_met 42 = .ok (.sipush 200, 3) := by decide +kernel
theorem dX6_met_45 : decode cX6_met 45 = .ok (.if_icmp .lt 6, 3) := by decide +kernel
theorem dX6_met_48 : decode cX6_met 48 = .ok (.bipush (-9), 2) := by decide +kernel
theorem dX6_met_50 : decode cX6_met 50 = .ok (.ireturn, 1) := by decide +kernel
theorem dX6_met_51 : decode cX6_met 51 = .ok (.aload_n 0, 1) := by decide +kernel
theorem dX6_met_52 : decode cX6_met 52 = .ok (.getfield 42, 3) := by decide +kernel
theorem dX6_met_55 : decode cX6_met 55 = .ok (.aload 6, 2) := by decide +kernel
theorem dX6_met_57 : decode cX6_met 57 = .ok (.iload_n 2, 1) := by decide +kernel
theorem dX6_met_58 : decode cX6_met 58 = .ok (.iload_n 3, 1) := by decide +kernel
theorem dX6_met_59 : decode cX6_met 59 = .ok (.iload 4, 2) := by decide +kernel
theorem dX6_met_61 : decode cX6_met 61 = .ok (.iload 5, 2) := by decide +kernel
theorem dX6_met_63 : decode cX6_met 63 = .ok (.iconst 1, 1) := by decide +kernel
theorem dX6_met_64 : decode cX6_met 64 = .ok (.iadd, 1) := by decide +kernel
theorem dX6_met_65 : decode cX6_met 65 = .ok (.invokevirtual 172, 3) := by decide +kernel
theorem dX6_met_68 : decode cX6_met 68 = .ok (.aload_n 0, 1) := by decide +kernel
theorem dX6_met_69 : decode cX6_met 69 = .ok (.getfield 42, 3) := by decide +kernel
theorem dX6_met_72 : decode cX6_met 72 = .ok (.getfield 179, 3) := by decide +kernel
theorem dX6_met_75 : decode cX6_met 75 = .ok (.iload 5, 2) := by decide +kernel
theorem dX6_met_77 : decode cX6_met 77 = .ok (.iconst 1, 1) := by decide +kernel
theorem dX6_met_78 : decode cX6_met 78 = .ok (.iadd, 1) := by decide +kernel
theorem dX6_met_79 : decode cX6_met 79 = .ok (.if_icmp .ne 13, 3) := by decide +kernel
theorem dX6_met_82 : decode cX6_met 82 = .ok (.aload_n 0, 1) := by decide +kernel
theorem dX6_met_83 : decode cX6_met 83 = .ok (.getfield 42, 3) := by decide +kernel
theorem dX6_met_86 : decode cX6_met 86 = .ok (.getfield 188, 3) := by decide +kernel
theorem dX6_met_89 : decode cX6_met 89 = .ok (.goto 5, 3) := by decide +kernel
theorem dX6_met_92 : decode cX6_met 92 = .ok (.bipush (-9), 2) := by decide +kernel
theorem dX6_met_94 : decode cX6_met 94 = .ok (.ireturn, 1) := by decide +kernel
theorem dX6_image_0 : decode cX6_image 0 = .ok (.aload_n 0, 1) := by decide +kernel
theorem dX6_image_1 : decode cX6_image 1 = .ok (.iload_n 1, 1) := by decide +kernel
theorem dX6_image_2 : decode cX6_image 2 = .ok (.invokevirtual 121, 3) := by decide +kernel
theorem dX6_image_5 : decode cX6_image 5 = .ok (.astore 5, 2) := by decide +kernel
theorem dX6_image_7 : decode cX6_image 7 = .ok (.aload 5, 2) := by decide +kernel
theorem dX6_image_9 : decode cX6_image 9 = .ok (.ifnull 12, 3) := by decide +kernel
theorem dX6_image_12 : decode cX6_image 12 = .ok (.aload 5, 2) := by decide +kernel
theorem dX6_image_14 : decode cX6_image 14 = .ok (.iload_n 2, 1) := by decide +kernel
theorem dX6_image_15 : decode cX6_image 15 = .ok (.invokevirtual 156, 3) := by decide +kernel
theorem dX6_image_18 : decode cX6_image 18 = .ok (.ifCond .ne 5, 3) := by decide +kernel
theorem dX6_image_21 : decode cX6_image 21 = .ok (.iconst (-1), 1) := by decide +kernel
theorem dX6_image_22 : decode cX6_image 22 = .ok (.ireturn, 1) := by decide +kernel
theorem dX6_image_23 : decode cX6_image 23 = .ok (.iload_n 3, 1) := by decide +kernel
theorem dX6_image_24 : decode cX6_image 24 = .ok (.iload 4, 2) := by decide +kernel
theorem dX6_image_26 : decode cX6_image 26 = .ok (.invokestatic 168, 3) := by decide +kernel
theorem dX6_image_29 : decode cX6_image 29 = .ok (.ifCond .eq 19, 3) := by decide +kernel
theorem dX6_image_32 : decode cX6_image 32 = .ok (.aload_n 0, 1) := by decide +kernel
theorem dX6_image_33 : decode cX6_image 33 = .ok (.getfield 42, 3) := by decide +kernel
theorem dX6_image_36 : decode cX6_image 36 = .ok (.aload 5, 2) := by decide +kernel
theorem dX6_image_38 : decode cX6_image 38 = .ok (.iload_n 2, 1) := by decide +kernel
theorem dX6_image_39 : decode cX6_image 39 = .ok (.iload_n 3, 1) := by decide +kernel
theorem dX6_image_40 : decode cX6_image 40 = .ok (.iload 4, 2) := by decide +kernel
theorem dX6_image_42 : decode cX6_image 42 = .ok (.invokevirtual 191, 3) := by decide +kernel
theorem dX6_image_45 : decode cX6_image 45 = .ok (.goto 5, 3) := by decide +kernel
theorem dX6_image_48 : decode cX6_image 48 = .ok (.bipush (-2), 2) := by decide +kernel
theorem dX6_image_50 : decode cX6_image 50 = .ok (.ireturn, 1) := by decide +kernel
theorem dX6_images_0 : decode cX6_images 0 = .ok (.aload_n 0, 1) := by decide +kernel
theorem dX6_images_1 : decode cX6_images 1 = .ok (.iload_n 1, 1) := by decide +kernel
theorem dX6_images_2 : decode cX6_images 2 = .ok (.invokevirtual 121, 3) := by decide +kernel
theorem dX6_images_5 : decode cX6_images 5 = .ok (.astore 6, 2) := by decide +kernel
theorem dX6_images_7 : decode cX6_images 7 = .ok (.aload 6, 2) := by decide +kernel
theorem dX6_images_9 : decode cX6_images 9 = .ok (.ifnull 21, 3) := by decide +kernel
theorem dX6_images_12 : decode cX6_images 12 = .ok (.aload 6, 2) := by decide +kernel
theorem dX6_images_14 : decode cX6_images 14 = .ok (.iload_n 2, 1) := by decide +kernel
theorem dX6_images_15 : decode cX6_images 15 = .ok (.invokevirtual 156, 3) := by decide +kernel
theorem dX6_images_18 : decode cX6_images 18 = .ok (.ifCond .eq 12, 3) := by decide +kernel
theorem dX6_images_21 : decode cX6_images 21 = .ok (.aload 6, 2) := by decide +kernel
theorem dX6_images_23 : decode cX6_images 23 = .ok (.iload_n 3, 1) := by decide +kernel
theorem dX6_images_24 : decode cX6_images 24 = .ok (.invokevirtual 156, 3) := by decide +kernel
theorem dX6_images_27 : decode cX6_images 27 = .ok (.ifCond .ne 5, 3) := by decide +kernel
theorem dX6_images_30 : decode cX6_images 30 = .ok (.iconst (-1), 1) := by decide +kernel
theorem dX6_images_31 : decode cX6_images 31 = .ok (.ireturn, 1) := by decide +kernel
theorem dX6_images_32 : decode cX6_images 32 = .ok (.iload 4, 2) := by decide +kernel
theorem dX6_images_34 : decode cX6_images 34 = .ok (.iconst 1, 1) := by decide +kernel
theorem dX6_images_35 : decode cX6_images 35 = .ok (.bipush 24, 2) := by decide +kernel
theorem dX6_images_37 : decode cX6_images 37 = .ok (.invokestatic 61, 3) := by decide +kernel
theorem dX6_images_40 : decode cX6_images 40 = .ok (.ifCond .eq 13, 3) := by decide +kernel
theorem dX6_images_43 : decode cX6_images 43 = .ok (.iload 5, 2) := by decide +kernel
theorem dX6_images_45 : decode cX6_images 45 = .ok (.iconst 0, 1) := by decide +kernel
theorem dX6_images_46 : decode cX6_images 46 = .ok (.iconst 2, 1) := by decide +kernel
theorem dX6_images_47 : decode cX6_images 47 = .ok (.invokestatic 61, 3) := by decide +kernel
theorem dX6_images_50 : decode cX6_images 50 = .ok (.ifCond .ne 6, 3) := by decide +kernel
theorem dX6_images_53 : decode cX6_images 53 = .ok (.bipush (-2), 2) := by decide +kernel
theorem dX6_images_55 : decode cX6_images 55 = .ok (.ireturn, 1) := by decide +kernel
theorem dX6_images_56 : decode cX6_images 56 = .ok (.aload_n 0, 1) := by decide +kernel
theorem dX6_images_57 : decode cX6_images 57 = .ok (.getfield 42, 3) := by decide +kernel
theorem dX6_images_60 : decode cX6_images 60 = .ok (.aload 6, 2) := by decide +kernel
theorem dX6_images_62 : decode cX6_images 62 = .ok (.iload_n 2, 1) := by decide +kernel
theorem dX6_images_63 : decode cX6_images 63 = .ok (.iload_n 3, 1) := by decide +kernel
theorem dX6_images_64 : decode cX6_images 64 = .ok (.iload 4, 2) := by decide +kernel
theorem dX6_images_66 : decode cX6_images 66 = .ok (.invokevirtual 195, 3) := by decide +kernel
theorem dX6_images_69 : decode cX6_images 69 = .ok (.iload 5, 2) := by decide +kernel
theorem dX6_images_71 : decode cX6_images 71 = .ok (.lookupswitch 56 #[(0, 25), (1, 33)], 25) := by decide +kernel
theorem dX6_images_96 : decode cX6_images 96 = .ok (.aload_n 0, 1) := by decide +kernel
theorem dX6_images_97 : decode cX6_images 97 = .ok (.getfield 42, 3) := by decide +kernel
theorem dX6_images_100 : decode cX6_images 100 = .ok (.getfield 199, 3) := by decide +kernel
theorem dX6_images_103 : decode cX6_images 103 = .ok (.ireturn, 1) := by decide +kernel
theorem dX6_images_104 : decode cX6_images 104 = .ok (.aload_n 0, 1) := by decide +kernel
theorem dX6_images_105 : decode cX6_images 105 = .ok (.getfield 42, 3) := by decide +kernel
theorem dX6_images_108 : decode cX6_images 108 = .ok (.getfield 199, 3) := by decide +kernel
theorem dX6_images_111 : decode cX6_images 111 = .ok (.ifCond .ne 8, 3) := by decide +kernel
theorem dX6_images_114 : decode cX6_images 114 = .ok (.bipush (-9), 2) := by decide +kernel
theorem dX6_images_116 : decode cX6_images 116 = .ok (.goto 10, 3) := by decide +kernel
theorem dX6_images_119 : decode cX6_images 119 = .ok (.aload_n 0, 1) := by decide +kernel
theorem dX6_images_120 : decode cX6_images 120 = .ok (.getfield 42, 3) := by decide +kernel
theorem dX6_images_123 : decode cX6_images 123 = .ok (.getfield 202, 3) := by decide +kernel
theorem dX6_images_126 : decode cX6_images 126 = .ok (.ireturn, 1) := by decide +kernel
theorem dX6_images_127 : decode cX6_images 127 = .ok (.aload_n 0, 1) := by decide +kernel
theorem dX6_images_128 : decode cX6_images 128 = .ok (.getfield 42, 3) := by decide +kernel
theorem dX6_images_131 : decode cX6_images 131 = .ok (.getfield 199, 3) := by decide +kernel
theorem dX6_images_134 : decode cX6_images 134 = .ok (.ifCond .ne 8, 3) := by decide +kernel
theorem dX6_images_137 : decode cX6_images 137 = .ok (.bipush (-9), 2) := by decide +kernel
theorem dX6_images_139 : decode cX6_images 139 = .ok (.goto 10, 3) := by decide +kernel
theorem dX6_images_142 : decode cX6_images 142 = .ok (.aload_n 0, 1) := by decide +kernel
theorem dX6_images_143 : decode cX6_images 143 = .ok (.getfield 42, 3) := by decide +kernel
theorem dX6_images_146 : decode cX6_images 146 = .ok (.getfield 205, 3) := by decide +kernel
theorem dX6_images_149 : decode cX6_images 149 = .ok (.ireturn, 1) := by decide +kernel
theorem dX6_report_0 : decode cX6_report 0 = .ok (.aload_n 0, 1) := by decide +kernel
theorem dX6_report_1 : decode cX6_report 1 = .ok (.iload_n 1, 1) := by decide +kernel
theorem dX6_report_2 : decode cX6_report 2 = .ok (.invokevirtual 121, 3) := by decide +kernel
theorem dX6_report_5 : decode cX6_report 5 = .ok (.astore 6, 2) := by decide +kernel
theorem dX6_report_7 : decode cX6_report 7 = .ok (.aload 6, 2) := by decide +kernel
theorem dX6_report_9 : decode cX6_report 9 = .ok (.ifnull 12, 3) := by decide +kernel
theorem dX6_report_12 : decode cX6_report 12 = .ok (.aload 6, 2) := by decide +kernel
theorem dX6_report_14 : decode cX6_report 14 = .ok (.iload_n 2, 1) := by decide +kernel
theorem dX6_report_15 : decode cX6_report 15 = .ok (.invokevirtual 156, 3) := by decide +kernel
theorem dX6_report_18 : decode cX6_report 18 = .ok (.ifCond .ne 5, 3) := by decide +kernel
theorem dX6_report_21 : decode cX6_report 21 = .ok (.iconst (-1), 1) := by decide +kernel
theorem dX6_report_22 : decode cX6_report 22 = .ok (.ireturn, 1) := by decide +kernel
theorem dX6_report_23 : decode cX6_report 23 = .ok (.iload_n 3, 1) := by decide +kernel
theorem dX6_report_24 : decode cX6_report 24 = .ok (.iload 4, 2) := by decide +kernel
theorem dX6_report_26 : decode cX6_report 26 = .ok (.invokestatic 168, 3) := by decide +kernel
theorem dX6_report_29 : decode cX6_report 29 = .ok (.ifCond .ne 6, 3) := by decide +kernel
theorem dX6_report_32 : decode cX6_report 32 = .ok (.bipush (-2), 2) := by decide +kernel
theorem dX6_report_34 : decode cX6_report 34 = .ok (.ireturn, 1) := by decide +kernel
theorem dX6_report_35 : decode cX6_report 35 = .ok (.aload_n 0, 1) := by decide +kernel
theorem dX6_report_36 : decode cX6_report 36 = .ok (.getfield 208, 3) := by decide +kernel
theorem dX6_report_39 : decode cX6_report 39 = .ok (.aload_n 0, 1) := by decide +kernel
theorem dX6_report_40 : decode cX6_report 40 = .ok (.getfield 25, 3) := by decide +kernel
theorem dX6_report_43 : decode cX6_report 43 = .ok (.arraylength, 1) := by decide +kernel
theorem dX6_report_44 : decode cX6_report 44 = .ok (.if_icmp .lt 6, 3) := by decide +kernel
theorem dX6_report_47 : decode cX6_report 47 = .ok (.bipush (-4), 2) := by decide +kernel
theorem dX6_report_49 : decode cX6_report 49 = .ok (.ireturn, 1) := by decide +kernel
theorem dX6_report_50 : decode cX6_report 50 = .ok (.aload_n 0, 1) := by decide +kernel
theorem dX6_report_51 : decode cX6_report 51 = .ok (.getfield 25, 3) := by decide +kernel
theorem dX6_report_54 : decode cX6_report 54 = .ok (.aload_n 0, 1) := by decide +kernel
theorem dX6_report_55 : decode cX6_report 55 = .ok (.getfield 208, 3) := by decide +kernel
theorem dX6_report_58 : decode cX6_report 58 = .ok (.new 23, 3) := by decide +kernel
theorem dX6_report_61 : decode cX6_report 61 = .ok (.dup, 1) := by decide +kernel
theorem dX6_report_62 : decode cX6_report 62 = .ok (.iload_n 1, 1) := by decide +kernel
theorem dX6_report_63 : decode cX6_report 63 = .ok (.iload_n 2, 1) := by decide +kernel
theorem dX6_report_64 : decode cX6_report 64 = .ok (.iload_n 3, 1) := by decide +kernel
theorem dX6_report_65 : decode cX6_report 65 = .ok (.iload 4, 2) := by decide +kernel
theorem dX6_report_67 : decode cX6_report 67 = .ok (.iload 5, 2) := by decide +kernel
theorem dX6_report_69 : decode cX6_report 69 = .ok (.invokespecial 211, 3) := by decide +kernel
theorem dX6_report_72 : decode cX6_report 72 = .ok (.aastore, 1) := by decide +kernel
theorem dX6_report_73 : decode cX6_report 73 = .ok (.aload_n 0, 1) := by decide +kernel
theorem dX6_report_74 : decode cX6_report 74 = .ok (.dup, 1) := by decide +kernel
theorem dX6_report_75 : decode cX6_report 75 = .ok (.getfield 208, 3) := by decide +kernel
theorem dX6_report_78 : decode cX6_report 78 = .ok (.iconst 1, 1) := by decide +kernel
theorem dX6_report_79 : decode cX6_report 79 = .ok (.iadd, 1) := by decide +kernel
theorem dX6_report_80 : decode cX6_report 80 = .ok (.putfield 208, 3) := by decide +kernel
theorem dX6_report_83 : decode cX6_report 83 = .ok (.aload_n 0, 1) := by decide +kernel
theorem dX6_report_84 : decode cX6_report 84 = .ok (.getfield 208, 3) := by decide +kernel
theorem dX6_report_87 : decode cX6_report 87 = .ok (.iconst 1, 1) := by decide +kernel
theorem dX6_report_88 : decode cX6_report 88 = .ok (.isub, 1) := by decide +kernel
theorem dX6_report_89 : decode cX6_report 89 = .ok (.ireturn, 1) := by decide +kernel
theorem dX6_spots_0 : decode cX6_spots 0 = .ok (.aload_n 0, 1) := by decide +kernel
theorem dX6_spots_1 : decode cX6_spots 1 = .ok (.iload_n 1, 1) := by decide +kernel
theorem dX6_spots_2 : decode cX6_spots 2 = .ok (.invokevirtual 121, 3) := by decide +kernel
theorem dX6_spots_5 : decode cX6_spots 5 = .ok (.astore_n 2, 1) := by decide +kernel
theorem dX6_spots_6 : decode cX6_spots 6 = .ok (.aload_n 2, 1) := by decide +kernel
theorem dX6_spots_7 : decode cX6_spots 7 = .ok (.ifnonnull 5, 3) := by decide +kernel
theorem dX6_spots_10 : decode cX6_spots 10 = .ok (.iconst (-1), 1) := by decide +kernel
theorem dX6_spots_11 : decode cX6_spots 11 = .ok (.ireturn, 1) := by decide +kernel
theorem dX6_spots_12 : decode cX6_spots 12 = .ok (.aload_n 2, 1) := by decide +kernel
theorem dX6_spots_13 : decode cX6_spots 13 = .ok (.invokevirtual 214, 3) := by decide +kernel
theorem dX6_spots_16 : decode cX6_spots 16 = .ok (.istore_n 3, 1) := by decide +kernel
theorem dX6_spots_17 : decode cX6_spots 17 = .ok (.iconst 0, 1) := by decide +kernel
theorem dX6_spots_18 : decode cX6_spots 18 = .ok (.istore 4, 2) := by decide +kernel
theorem dX6_spots_20 : decode cX6_spots 20 = .ok (.iload 4, 2) := by decide +kernel
theorem dX6_spots_22 : decode cX6_spots 22 = .ok (.aload_n 0, 1) := by decide +kernel
theorem dX6_spots_23 : decode cX6_spots 23 = .ok (.getfield 208, 3) := by decide +kernel
theorem dX6_spots_26 : decode cX6_spots 26 = .ok (.if_icmp .ge 52, 3) := by decide +kernel
theorem dX6_spots_29 : decode cX6_spots 29 = .ok (.iload 4, 2) := by decide +kernel
theorem dX6_spots_31 : decode cX6_spots 31 = .ok (.aload_n 0, 1) := by decide +kernel
theorem dX6_spots_32 : decode cX6_spots 32 = .ok (.getfield 25, 3) := by decide +kernel
theorem dX6_spots_35 : decode cX6_spots 35 = .ok (.arraylength, 1) := by decide +kernel
theorem dX6_spots_36 : decode cX6_spots 36 = .ok (.if_icmp .ge 42, 3) := by decide +kernel
theorem dX6_spots_39 : decode cX6_spots 39 = .ok (.aload_n 0, 1) := by decide +kernel
theorem dX6_spots_40 : decode cX6_spots 40 = .ok (.getfield 25, 3) := by decide +kernel
theorem dX6_spots_43 : decode cX6_spots 43 = .ok (.iload 4, 2) := by decide +kernel
theorem dX6_spots_45 : decode cX6_spots 45 = .ok (.aaload, 1) := by decide +kernel
theorem dX6_spots_46 : decode cX6_spots 46 = .ok (.astore 5, 2) := by decide +kernel
theorem dX6_spots_48 : decode cX6_spots 48 = .ok (.aload 5, 2) := by decide +kernel
theorem dX6_spots_50 : decode cX6_spots 50 = .ok (.ifnull 22, 3) := by decide +kernel
theorem dX6_spots_53 : decode cX6_spots 53 = .ok (.aload 5, 2) := by decide +kernel
theorem dX6_spots_55 : decode cX6_spots 55 = .ok (.getfield 217, 3) := by decide +kernel
theorem dX6_spots_58 : decode cX6_spots 58 = .ok (.iload_n 1, 1) := by decide +kernel
theorem dX6_spots_59 : decode cX6_spots 59 = .ok (.if_icmp .ne 13, 3) := by decide +kernel
theorem dX6_spots_62 : decode cX6_spots 62 = .ok (.iload_n 3, 1) := by decide +kernel
theorem dX6_spots_63 : decode cX6_spots 63 = .ok (.aload_n 0, 1) := by decide +kernel
theorem dX6_spots_64 : decode cX6_spots 64 = .ok (.aload_n 2, 1) := by decide +kernel
theorem dX6_spots_65 : decode cX6_spots 65 = .ok (.aload 5, 2) := by decide +kernel
theorem dX6_spots_67 : decode cX6_spots 67 = .ok (.invokevirtual 220, 3) := by decide +kernel
theorem dX6_spots_70 : decode cX6_spots 70 = .ok (.iand, 1) := by decide +kernel
theorem dX6_spots_71 : decode cX6_spots 71 = .ok (.istore_n 3, 1) := by decide +kernel
theorem dX6_spots_72 : decode cX6_spots 72 = .ok (.iinc 4 1, 3) := by decide +kernel
theorem dX6_spots_75 : decode cX6_spots 75 = .ok (.goto (-55), 3) := by decide +kernel
theorem dX6_spots_78 : decode cX6_spots 78 = .ok (.iload_n 3, 1) := by decide +kernel
theorem dX6_spots_79 : decode cX6_spots 79 = .ok (.ireturn, 1) := by decide +kernel
theorem dX6_fits_0 : decode cX6_fits 0 = .ok (.aload_n 0, 1) := by decide +kernel
theorem dX6_fits_1 : decode cX6_fits 1 = .ok (.getfield 42, 3) := by decide +kernel
theorem dX6_fits_4 : decode cX6_fits 4 = .ok (.aload_n 1, 1) := by decide +kernel
theorem dX6_fits_5 : decode cX6_fits 5 = .ok (.aload_n 2, 1) := by decide +kernel
theorem dX6_fits_6 : decode cX6_fits 6 = .ok (.getfield 224, 3) := by decide +kernel
theorem dX6_fits_9 : decode cX6_fits 9 = .ok (.aload_n 2, 1) := by decide +kernel
theorem dX6_fits_10 : decode cX6_fits 10 = .ok (.getfield 225, 3) := by decide +kernel
theorem dX6_fits_13 : decode cX6_fits 13 = .ok (.aload_n 2, 1) := by decide +kernel
theorem dX6_fits_14 : decode cX6_fits 14 = .ok (.getfield 228, 3) := by decide +kernel
theorem dX6_fits_17 : decode cX6_fits 17 = .ok (.invokevirtual 191, 3) := by decide +kernel
theorem dX6_fits_20 : decode cX6_fits 20 = .ok (.istore_n 3, 1) := by decide +kernel
theorem dX6_fits_21 : decode cX6_fits 21 = .ok (.iload_n 3, 1) := by decide +kernel
theorem dX6_fits_22 : decode cX6_fits 22 = .ok (.bipush (-9), 2) := by decide +kernel
theorem dX6_fits_24 : decode cX6_fits 24 = .ok (.if_icmp .ne 7, 3) := by decide +kernel
theorem dX6_fits_27 : decode cX6_fits 27 = .ok (.iconst 0, 1) := by decide +kernel
theorem dX6_fits_28 : decode cX6_fits 28 = .ok (.goto 6, 3) := by decide +kernel
theorem dX6_fits_31 : decode cX6_fits 31 = .ok (.iconst 1, 1) := by decide +kernel
theorem dX6_fits_32 : decode cX6_fits 32 = .ok (.iload_n 3, 1) := by decide +kernel
theorem dX6_fits_33 : decode cX6_fits 33 = .ok (.ishl, 1) := by decide +kernel
theorem dX6_fits_34 : decode cX6_fits 34 = .ok (.istore 4, 2) := by decide +kernel
theorem dX6_fits_36 : decode cX6_fits 36 = .ok (.aload_n 2, 1) := by decide +kernel
theorem dX6_fits_37 : decode cX6_fits 37 = .ok (.getfield 231, 3) := by decide +kernel
theorem dX6_fits_40 : decode cX6_fits 40 = .ok (.ifCond .eq 8, 3) := by decide +kernel
theorem dX6_fits_43 : decode cX6_fits 43 = .ok (.iload 4, 2) := by decide +kernel
theorem dX6_fits_45 : decode cX6_fits 45 = .ok (.goto 7, 3) := by decide +kernel
theorem dX6_fits_48 : decode cX6_fits 48 = .ok (.iload 4, 2) := by decide +kernel
theorem dX6_fits_50 : decode cX6_fits 50 = .ok (.iconst (-1), 1) := by decide +kernel
theorem dX6_fits_51 : decode cX6_fits 51 = .ok (.ixor, 1) := by decide +kernel
theorem dX6_fits_52 : decode cX6_fits 52 = .ok (.ireturn, 1) := by decide +kernel
theorem dX6_photograph_0 : decode cX6_photograph 0 = .ok (.aload_n 0, 1) := by decide +kernel
theorem dX6_photograph_1 : decode cX6_photograph 1 = .ok (.iconst 0, 1) := by decide +kernel
theorem dX6_photograph_2 : decode cX6_photograph 2 = .ok (.putfield 65, 3) := by decide +kernel
theorem dX6_photograph_5 : decode cX6_photograph 5 = .ok (.aload_n 0, 1) := by decide +kernel
theorem dX6_photograph_6 : decode cX6_photograph 6 = .ok (.iload_n 1, 1) := by decide +kernel
theorem dX6_photograph_7 : decode cX6_photograph 7 = .ok (.invokevirtual 70, 3) := by decide +kernel
theorem dX6_photograph_10 : decode cX6_photograph 10 = .ok (.astore 5, 2) := by decide +kernel
theorem dX6_photograph_12 : decode cX6_photograph 12 = .ok (.aload 5, 2) := by decide +kernel
theorem dX6_photograph_14 : decode cX6_photograph 14 = .ok (.ifnonnull 5, 3) := by decide +kernel
theorem dX6_photograph_17 : decode cX6_photograph 17 = .ok (.iconst (-1), 1) := by decide +kernel
theorem dX6_photograph_18 : decode cX6_photograph 18 = .ok (.ireturn, 1) := by decide +kernel
theorem dX6_photograph_19 : decode cX6_photograph 19 = .ok (.iload_n 2, 1) := by decide +kernel
theorem dX6_photograph_20 : decode cX6_photograph 20 = .ok (.invokestatic 74, 3) := by decide +kernel
theorem dX6_photograph_23 : decode cX6_photograph 23 = .ok (.ifCond .ne 6, 3) := by decide +kernel
theorem dX6_photograph_26 : decode cX6_photograph 26 = .ok (.bipush (-2), 2) := by decide +kernel
theorem dX6_photograph_28 : decode cX6_photograph 28 = .ok (.ireturn, 1) := by decide +kernel
theorem dX6_photograph_29 : decode cX6_photograph 29 = .ok (.aload 5, 2) := by decide +kernel
theorem dX6_photograph_31 : decode cX6_photograph 31 = .ok (.iload_n 2, 1) := by decide +kernel
theorem dX6_photograph_32 : decode cX6_photograph 32 = .ok (.iload_n 3, 1) := by decide +kernel
theorem dX6_photograph_33 : decode cX6_photograph 33 = .ok (.iload 4, 2) := by decide +kernel
theorem dX6_photograph_35 : decode cX6_photograph 35 = .ok (.invokevirtual 78, 3) := by decide +kernel
theorem dX6_photograph_38 : decode cX6_photograph 38 = .ok (.istore 6, 2) := by decide +kernel
theorem dX6_photograph_40 : decode cX6_photograph 40 = .ok (.iload 6, 2) := by decide +kernel
theorem dX6_photograph_42 : decode cX6_photograph 42 = .ok (.ifCond .eq 10, 3) := by decide +kernel
theorem dX6_photograph_45 : decode cX6_photograph 45 = .ok (.aload_n 0, 1) := by decide +kernel
theorem dX6_photograph_46 : decode cX6_photograph 46 = .ok (.iload 6, 2) := by decide +kernel
theorem dX6_photograph_48 : decode cX6_photograph 48 = .ok (.invokevirtual 82, 3) := by decide +kernel
theorem dX6_photograph_51 : decode cX6_photograph 51 = .ok (.ireturn, 1) := by decide +kernel
theorem dX6_photograph_52 : decode cX6_photograph 52 = .ok (.iload 4, 2) := by decide +kernel
theorem dX6_photograph_54 : decode cX6_photograph 54 = .ok (.iconst 5, 1) := by decide +kernel
theorem dX6_photograph_55 : decode cX6_photograph 55 = .ok (.bipush 30, 2) := by decide +kernel
theorem dX6_photograph_57 : decode cX6_photograph 57 = .ok (.invokestatic 61, 3) := by decide +kernel
theorem dX6_photograph_60 : decode cX6_photograph 60 = .ok (.ifCond .eq 10, 3) := by decide +kernel
theorem dX6_photograph_63 : decode cX6_photograph 63 = .ok (.iload 4, 2) := by decide +kernel
theorem dX6_photograph_65 : decode cX6_photograph 65 = .ok (.iconst 5, 1) := by decide +kernel
theorem dX6_photograph_66 : decode cX6_photograph 66 = .ok (.irem, 1) := by decide +kernel
theorem dX6_photograph_67 : decode cX6_photograph 67 = .ok (.ifCond .eq 6, 3) := by decide +kernel
theorem dX6_photograph_70 : decode cX6_photograph 70 = .ok (.bipush (-2), 2) := by decide +kernel
theorem dX6_photograph_72 : decode cX6_photograph 72 = .ok (.ireturn, 1) := by decide +kernel
theorem dX6_photograph_73 : decode cX6_photograph 73 = .ok (.iconst 0, 1) := by decide +kernel
theorem dX6_photograph_74 : decode cX6_photograph 74 = .ok (.istore 7, 2) := by decide +kernel
theorem dX6_photograph_76 : decode cX6_photograph 76 = .ok (.iload 7, 2) := by decide +kernel
theorem dX6_photograph_78 : decode cX6_photograph 78 = .ok (.iload 4, 2) := by decide +kernel
theorem dX6_photograph_80 : decode cX6_photograph 80 = .ok (.if_icmp .ge 40, 3) := by decide +kernel
theorem dX6_photograph_83 : decode cX6_photograph 83 = .ok (.aload 5, 2) := by decide +kernel
theorem dX6_photograph_85 : decode cX6_photograph 85 = .ok (.getfield 102, 3) := by decide +kernel
theorem dX6_photograph_88 : decode cX6_photograph 88 = .ok (.iload_n 3, 1) := by decide +kernel
theorem dX6_photograph_89 : decode cX6_photograph 89 = .ok (.iload 7, 2) := by decide +kernel
theorem dX6_photograph_91 : decode cX6_photograph 91 = .ok (.iadd, 1) := by decide +kernel
theorem dX6_photograph_92 : decode cX6_photograph 92 = .ok (.iaload, 1) := by decide +kernel
theorem dX6_photograph_93 : decode cX6_photograph 93 = .ok (.aload 5, 2) := by decide +kernel
theorem dX6_photograph_95 : decode cX6_photograph 95 = .ok (.getfield 102, 3) := by decide +kernel
theorem dX6_photograph_98 : decode cX6_photograph 98 = .ok (.iload_n 3, 1) := by decide +kernel
theorem dX6_photograph_99 : decode cX6_photograph 99 = .ok (.iload 7, 2) := by decide +kernel
theorem dX6_photograph_101 : decode cX6_photograph 101 = .ok (.iadd, 1) := by decide +kernel
theorem dX6_photograph_102 : decode cX6_photograph 102 = .ok (.iconst 1, 1) := by decide +kernel
theorem dX6_photograph_103 : decode cX6_photograph 103 = .ok (.iadd, 1) := by decide +kernel
theorem dX6_photograph_104 : decode cX6_photograph 104 = .ok (.iaload, 1) := by decide +kernel
theorem dX6_photograph_105 : decode cX6_photograph 105 = .ok (.invokestatic 168, 3) := by decide +kernel
theorem dX6_photograph_108 : decode cX6_photograph 108 = .ok (.ifCond .ne 6, 3) := by decide +kernel
theorem dX6_photograph_111 : decode cX6_photograph 111 = .ok (.bipush (-2), 2) := by decide +kernel
theorem dX6_photograph_113 : decode cX6_photograph 113 = .ok (.ireturn, 1) := by decide +kernel
theorem dX6_photograph_114 : decode cX6_photograph 114 = .ok (.iinc 7 5, 3) := by decide +kernel
theorem dX6_photograph_117 : decode cX6_photograph 117 = .ok (.goto (-41), 3) := by decide +kernel
theorem dX6_photograph_120 : decode cX6_photograph 120 = .ok (.aload 5, 2) := by decide +kernel
theorem dX6_photograph_122 : decode cX6_photograph 122 = .ok (.getfield 102, 3) := by decide +kernel
theorem dX6_photograph_125 : decode cX6_photograph 125 = .ok (.iload_n 3, 1) := by decide +kernel
theorem dX6_photograph_126 : decode cX6_photograph 126 = .ok (.aload_n 0, 1) := by decide +kernel
theorem dX6_photograph_127 : decode cX6_photograph 127 = .ok (.getfield 35, 3) := by decide +kernel
theorem dX6_photograph_130 : decode cX6_photograph 130 = .ok (.iconst 0, 1) := by decide +kernel
theorem dX6_photograph_131 : decode cX6_photograph 131 = .ok (.iload 4, 2) := by decide +kernel
theorem dX6_photograph_133 : decode cX6_photograph 133 = .ok (.invokestatic 235, 3) := by decide +kernel
theorem dX6_photograph_136 : decode cX6_photograph 136 = .ok (.aload_n 0, 1) := by decide +kernel
theorem dX6_photograph_137 : decode cX6_photograph 137 = .ok (.iload 4, 2) := by decide +kernel
theorem dX6_photograph_139 : decode cX6_photograph 139 = .ok (.iconst 5, 1) := by decide +kernel
theorem dX6_photograph_140 : decode cX6_photograph 140 = .ok (.idiv, 1) := by decide +kernel
theorem dX6_photograph_141 : decode cX6_photograph 141 = .ok (.putfield 241, 3) := by decide +kernel
theorem dX6_photograph_144 : decode cX6_photograph 144 = .ok (.aload_n 0, 1) := by decide +kernel
theorem dX6_photograph_145 : decode cX6_photograph 145 = .ok (.getfield 241, 3) := by decide +kernel
theorem dX6_photograph_148 : decode cX6_photograph 148 = .ok (.ireturn, 1) := by decide +kernel
theorem dX6_taken_0 : decode cX6_taken 0 = .ok (.aload_n 0, 1) := by decide +kernel
theorem dX6_taken_1 : decode cX6_taken 1 = .ok (.iload_n 1, 1) := by decide +kernel
theorem dX6_taken_2 : decode cX6_taken 2 = .ok (.invokevirtual 121, 3) := by decide +kernel
theorem dX6_taken_5 : decode cX6_taken 5 = .ok (.astore_n 2, 1) := by decide +kernel
theorem dX6_taken_6 : decode cX6_taken 6 = .ok (.aload_n 2, 1) := by decide +kernel
theorem dX6_taken_7 : decode cX6_taken 7 = .ok (.ifnonnull 5, 3) := by decide +kernel
theorem dX6_taken_10 : decode cX6_taken 10 = .ok (.iconst (-1), 1) := by decide +kernel
theorem dX6_taken_11 : decode cX6_taken 11 = .ok (.ireturn, 1) := by decide +kernel
theorem dX6_taken_12 : decode cX6_taken 12 = .ok (.aload_n 0, 1) := by decide +kernel
theorem dX6_taken_13 : decode cX6_taken 13 = .ok (.getfield 241, 3) := by decide +kernel
theorem dX6_taken_16 : decode cX6_taken 16 = .ok (.ifCond .ne 6, 3) := by decide +kernel
theorem dX6_taken_19 : decode cX6_taken 19 = .ok (.bipush (-3), 2) := by decide +kernel
theorem dX6_taken_21 : decode cX6_taken 21 = .ok (.ireturn, 1) := by decide +kernel
theorem dX6_taken_22 : decode cX6_taken 22 = .ok (.iconst 0, 1) := by decide +kernel
theorem dX6_taken_23 : decode cX6_taken 23 = .ok (.istore_n 3, 1) := by decide +kernel
theorem dX6_taken_24 : decode cX6_taken 24 = .ok (.iconst 0, 1) := by decide +kernel
theorem dX6_taken_25 : decode cX6_taken 25 = .ok (.istore 4, 2) := by decide +kernel
theorem dX6_taken_27 : decode cX6_taken 27 = .ok (.iload 4, 2) := by decide +kernel
theorem dX6_taken_29 : decode cX6_taken 29 = .ok (.aload_n 2, 1) := by decide +kernel
theorem dX6_taken_30 : decode cX6_taken 30 = .ok (.getfield 131, 3) := by decide +kernel
theorem dX6_taken_33 : decode cX6_taken 33 = .ok (.if_icmp .ge 26, 3) := by decide +kernel
theorem dX6_taken_36 : decode cX6_taken 36 = .ok (.aload_n 0, 1) := by decide +kernel
theorem dX6_taken_37 : decode cX6_taken 37 = .ok (.aload_n 2, 1) := by decide +kernel
theorem dX6_taken_38 : decode cX6_taken 38 = .ok (.iload 4, 2) := by decide +kernel
theorem dX6_taken_40 : decode cX6_taken 40 = .ok (.invokevirtual 244, 3) := by decide +kernel
theorem dX6_taken_43 : decode cX6_taken 43 = .ok (.ifCond .eq 10, 3) := by decide +kernel
theorem dX6_taken_46 : decode cX6_taken 46 = .ok (.iload_n 3, 1) := by decide +kernel
theorem dX6_taken_47 : decode cX6_taken 47 = .ok (.iconst 1, 1) := by decide +kernel
theorem dX6_taken_48 : decode cX6_taken 48 = .ok (.iload 4, 2) := by decide +kernel
theorem dX6_taken_50 : decode cX6_taken 50 = .ok (.ishl, 1) := by decide +kernel
theorem dX6_taken_51 : decode cX6_taken 51 = .ok (.ior, 1) := by decide +kernel
theorem dX6_taken_52 : decode cX6_taken 52 = .ok (.istore_n 3, 1) := by decide +kernel
theorem dX6_taken_53 : decode cX6_taken 53 = .ok (.iinc 4 1, 3) := by decide +kernel
theorem dX6_taken_56 : decode cX6_taken 56 = .ok (.goto (-29), 3) := by decide +kernel
theorem dX6_taken_59 : decode cX6_taken 59 = .ok (.iload_n 3, 1) := by decide +kernel
theorem dX6_taken_60 : decode cX6_taken 60 = .ok (.ireturn, 1) := by decide +kernel
theorem dX6_showsPhotoFrom_0 : decode cX6_showsPhotoFrom 0 = .ok (.iconst 0, 1) := by decide +kernel
theorem dX6_showsPhotoFrom_1 : decode cX6_showsPhotoFrom 1 = .ok (.istore_n 3, 1) := by decide +kernel
theorem dX6_showsPhotoFrom_2 : decode cX6_showsPhotoFrom 2 = .ok (.iload_n 3, 1) := by decide +kernel
theorem dX6_showsPhotoFrom_3 : decode cX6_showsPhotoFrom 3 = .ok (.aload_n 0, 1) := by decide +kernel
theorem dX6_showsPhotoFrom_4 : decode cX6_showsPhotoFrom 4 = .ok (.getfield 241, 3) := by decide +kernel
theorem dX6_showsPhotoFrom_7 : decode cX6_showsPhotoFrom 7 = .ok (.iconst 5, 1) := by decide +kernel
theorem dX6_showsPhotoFrom_8 : decode cX6_showsPhotoFrom 8 = .ok (.imul, 1) := by decide +kernel
theorem dX6_showsPhotoFrom_9 : decode cX6_showsPhotoFrom 9 = .ok (.if_icmp .ge 113, 3) := by decide +kernel
theorem dX6_showsPhotoFrom_12 : decode cX6_showsPhotoFrom 12 = .ok (.iload_n 3, 1) := by decide +kernel
theorem dX6_showsPhotoFrom_13 : decode cX6_showsPhotoFrom 13 = .ok (.iconst 5, 1) := by decide +kernel
theorem dX6_showsPhotoFrom_14 : decode cX6_showsPhotoFrom 14 = .ok (.iadd, 1) := by decide +kernel
theorem dX6_showsPhotoFrom_15 : decode cX6_showsPhotoFrom 15 = .ok (.aload_n 0, 1) := by decide +kernel
theorem dX6_showsPhotoFrom_16 : decode cX6_showsPhotoFrom 16 = .ok (.getfield 35, 3) := by decide +kernel
theorem dX6_showsPhotoFrom_19 : decode cX6_showsPhotoFrom 19 = .ok (.arraylength, 1) := by decide +kernel
theorem dX6_showsPhotoFrom_20 : decode cX6_showsPhotoFrom 20 = .ok (.if_icmp .gt 102, 3) := by decide +kernel
theorem dX6_showsPhotoFrom_23 : decode cX6_showsPhotoFrom 23 = .ok (.aload_n 0, 1) := by decide +kernel
theorem dX6_showsPhotoFrom_24 : decode cX6_showsPhotoFrom 24 = .ok (.getfield 42, 3) := by decide +kernel
theorem dX6_showsPhotoFrom_27 : decode cX6_showsPhotoFrom 27 = .ok (.aload_n 1, 1) := by decide +kernel
theorem dX6_showsPhotoFrom_28 : decode cX6_showsPhotoFrom 28 = .ok (.iload_n 2, 1) := by decide +kernel
theorem dX6_showsPhotoFrom_29 : decode cX6_showsPhotoFrom 29 = .ok (.aload_n 0, 1) := by decide +kernel
theorem dX6_showsPhotoFrom_30 : decode cX6_showsPhotoFrom 30 = .ok (.getfield 35, 3) := by decide +kernel
theorem dX6_showsPhotoFrom_33 : decode cX6_showsPhotoFrom 33 = .ok (.iload_n 3, 1) := by decide +kernel
theorem dX6_showsPhotoFrom_34 : decode cX6_showsPhotoFrom 34 = .ok (.iaload, 1) := by decide +kernel
theorem dX6_showsPhotoFrom_35 : decode cX6_showsPhotoFrom 35 = .ok (.aload_n 0, 1) := by decide +kernel
theorem dX6_showsPhotoFrom_36 : decode cX6_showsPhotoFrom 36 = .ok (.getfield 35, 3) := by decide +kernel
theorem dX6_showsPhotoFrom_39 : decode cX6_showsPhotoFrom 39 = .ok (.iload_n 3, 1) := by decide +kernel
theorem dX6_showsPhotoFrom_40 : decode cX6_showsPhotoFrom 40 = .ok (.iconst 1, 1) := by decide +kernel
theorem dX6_showsPhotoFrom_41 : decode cX6_showsPhotoFrom 41 = .ok (.iadd, 1) := by decide +kernel
theorem dX6_showsPhotoFrom_42 : decode cX6_showsPhotoFrom 42 = .ok (.iaload, 1) := by decide +kernel
theorem dX6_showsPhotoFrom_43 : decode cX6_showsPhotoFrom 43 = .ok (.bipush 60, 2) := by decide +kernel
theorem dX6_showsPhotoFrom_45 : decode cX6_showsPhotoFrom 45 = .ok (.invokevirtual 172, 3) := by decide +kernel
theorem dX6_showsPhotoFrom_48 : decode cX6_showsPhotoFrom 48 = .ok (.aload_n 0, 1) := by decide +kernel
theorem dX6_showsPhotoFrom_49 : decode cX6_showsPhotoFrom 49 = .ok (.getfield 42, 3) := by decide +kernel
theorem dX6_showsPhotoFrom_52 : decode cX6_showsPhotoFrom 52 = .ok (.getfield 176, 3) := by decide +kernel
theorem dX6_showsPhotoFrom_55 : decode cX6_showsPhotoFrom 55 = .ok (.aload_n 0, 1) := by decide +kernel
theorem dX6_showsPhotoFrom_56 : decode cX6_showsPhotoFrom 56 = .ok (.getfield 35, 3) := by decide +kernel
theorem dX6_showsPhotoFrom_59 : decode cX6_showsPhotoFrom 59 = .ok (.iload_n 3, 1) := by decide +kernel
theorem dX6_showsPhotoFrom_60 : decode cX6_showsPhotoFrom 60 = .ok (.iconst 2, 1) := by decide +kernel
theorem dX6_showsPhotoFrom_61 : decode cX6_showsPhotoFrom 61 = .ok (.iadd, 1) := by decide +kernel
theorem dX6_showsPhotoFrom_62 : decode cX6_showsPhotoFrom 62 = .ok (.iaload, 1) := by decide +kernel
theorem dX6_showsPhotoFrom_63 : decode cX6_showsPhotoFrom 63 = .ok (.if_icmp .ne 43, 3) := by decide +kernel
theorem dX6_showsPhotoFrom_66 : decode cX6_showsPhotoFrom 66 = .ok (.aload_n 0, 1) := by decide +kernel
theorem dX6_showsPhotoFrom_67 : decode cX6_showsPhotoFrom 67 = .ok (.getfield 42, 3) := by decide +kernel
theorem dX6_showsPhotoFrom_70 : decode cX6_showsPhotoFrom 70 = .ok (.getfield 179, 3) := by decide +kernel
theorem dX6_showsPhotoFrom_73 : decode cX6_showsPhotoFrom 73 = .ok (.aload_n 0, 1) := by decide +kernel
theorem dX6_showsPhotoFrom_74 : decode cX6_showsPhotoFrom 74 = .ok (.getfield 35, 3) := by decide +kernel
theorem dX6_showsPhotoFrom_77 : decode cX6_showsPhotoFrom 77 = .ok (.iload_n 3, 1) := by decide +kernel
theorem dX6_showsPhotoFrom_78 : decode cX6_showsPhotoFrom 78 = .ok (.iconst 3, 1) := by decide +kernel
theorem dX6_showsPhotoFrom_79 : decode cX6_showsPhotoFrom 79 = .ok (.iadd, 1) := by decide +kernel
theorem dX6_showsPhotoFrom_80 : decode cX6_showsPhotoFrom 80 = .ok (.iaload, 1) := by decide +kernel
theorem dX6_showsPhotoFrom_81 : decode cX6_showsPhotoFrom 81 = .ok (.if_icmp .ne 25, 3) := by decide +kernel
theorem dX6_showsPhotoFrom_84 : decode cX6_showsPhotoFrom 84 = .ok (.aload_n 0, 1) := by decide +kernel
theorem dX6_showsPhotoFrom_85 : decode cX6_showsPhotoFrom 85 = .ok (.getfield 42, 3) := by decide +kernel
theorem dX6_showsPhotoFrom_88 : decode cX6_showsPhotoFrom 88 = .ok (.getfield 182, 3) := by decide +kernel
theorem dX6_showsPhotoFrom_91 : decode cX6_showsPhotoFrom 91 = .ok (.aload_n 0, 1) := by decide +kernel
theorem dX6_showsPhotoFrom_92 : decode cX6_showsPhotoFrom 92 = .ok (.getfield 35, 3) := by decide +kernel
theorem dX6_showsPhotoFrom_95 : decode cX6_showsPhotoFrom 95 = .ok (.iload_n 3, 1) := by decide +kernel
theorem dX6_showsPhotoFrom_96 : decode cX6_showsPhotoFrom 96 = .ok (.iconst 4, 1) := by decide +kernel
theorem dX6_showsPhotoFrom_97 : decode cX6_showsPhotoFrom 97 = .ok (.iadd, 1) := by decide +kernel
theorem dX6_showsPhotoFrom_98 : decode cX6_showsPhotoFrom 98 = .ok (.iaload, 1) := by decide +kernel
theorem dX6_showsPhotoFrom_99 : decode cX6_showsPhotoFrom 99 = .ok (.if_icmp .ne 7, 3) := by decide +kernel
theorem dX6_showsPhotoFrom_102 : decode cX6_showsPhotoFrom 102 = .ok (.iconst 1, 1) := by decide +kernel
theorem dX6_showsPhotoFrom_103 : decode cX6_showsPhotoFrom 103 = .ok (.goto 4, 3) := by decide +kernel
theorem dX6_showsPhotoFrom_106 : decode cX6_showsPhotoFrom 106 = .ok (.iconst 0, 1) := by decide +kernel
theorem dX6_showsPhotoFrom_107 : decode cX6_showsPhotoFrom 107 = .ok (.istore 4, 2) := by decide +kernel
theorem dX6_showsPhotoFrom_109 : decode cX6_showsPhotoFrom 109 = .ok (.iload 4, 2) := by decide +kernel
theorem dX6_showsPhotoFrom_111 : decode cX6_showsPhotoFrom 111 = .ok (.ifCond .ne 5, 3) := by decide +kernel
theorem dX6_showsPhotoFrom_114 : decode cX6_showsPhotoFrom 114 = .ok (.iconst 0, 1) := by decide +kernel
theorem dX6_showsPhotoFrom_115 : decode cX6_showsPhotoFrom 115 = .ok (.ireturn, 1) := by decide +kernel
theorem dX6_showsPhotoFrom_116 : decode cX6_showsPhotoFrom 116 = .ok (.iinc 3 5, 3) := by decide +kernel
theorem dX6_showsPhotoFrom_119 : decode cX6_showsPhotoFrom 119 = .ok (.goto (-117), 3) := by decide +kernel
theorem dX6_showsPhotoFrom_122 : decode cX6_showsPhotoFrom 122 = .ok (.iconst 1, 1) := by decide +kernel
theorem dX6_showsPhotoFrom_123 : decode cX6_showsPhotoFrom 123 = .ok (.ireturn, 1) := by decide +kernel
theorem dX6_walker_0 : decode cX6_walker 0 = .ok (.aload_n 0, 1) := by decide +kernel
theorem dX6_walker_1 : decode cX6_walker 1 = .ok (.iload_n 2, 1) := by decide +kernel
theorem dX6_walker_2 : decode cX6_walker 2 = .ok (.invokevirtual 121, 3) := by decide +kernel
theorem dX6_walker_5 : decode cX6_walker 5 = .ok (.astore 5, 2) := by decide +kernel
theorem dX6_walker_7 : decode cX6_walker 7 = .ok (.aload 5, 2) := by decide +kernel
theorem dX6_walker_9 : decode cX6_walker 9 = .ok (.ifnull 12, 3) := by decide +kernel
theorem dX6_walker_12 : decode cX6_walker 12 = .ok (.aload 5, 2) := by decide +kernel
theorem dX6_walker_14 : decode cX6_walker 14 = .ok (.iload_n 3, 1) := by decide +kernel
theorem dX6_walker_15 : decode cX6_walker 15 = .ok (.invokevirtual 156, 3) := by decide +kernel
theorem dX6_walker_18 : decode cX6_walker 18 = .ok (.ifCond .ne 5, 3) := by decide +kernel
theorem dX6_walker_21 : decode cX6_walker 21 = .ok (.iconst (-1), 1) := by decide +kernel
theorem dX6_walker_22 : decode cX6_walker 22 = .ok (.ireturn, 1) := by decide +kernel
theorem dX6_walker_23 : decode cX6_walker 23 = .ok (.iload_n 1, 1) := by decide +kernel
theorem dX6_walker_24 : decode cX6_walker 24 = .ok (.iconst 0, 1) := by decide +kernel
theorem dX6_walker_25 : decode cX6_walker 25 = .ok (.iconst 2, 1) := by decide +kernel
theorem dX6_walker_26 : decode cX6_walker 26 = .ok (.invokestatic 61, 3) := by decide +kernel
theorem dX6_walker_29 : decode cX6_walker 29 = .ok (.ifCond .eq 11, 3) := by decide +kernel
theorem dX6_walker_32 : decode cX6_walker 32 = .ok (.iload 4, 2) := by decide +kernel
theorem dX6_walker_34 : decode cX6_walker 34 = .ok (.invokestatic 159, 3) := by decide +kernel
theorem dX6_walker_37 : decode cX6_walker 37 = .ok (.ifCond .ne 6, 3) := by decide +kernel
theorem dX6_walker_40 : decode cX6_walker 40 = .ok (.bipush (-2), 2) := by decide +kernel
theorem dX6_walker_42 : decode cX6_walker 42 = .ok (.ireturn, 1) := by decide +kernel
theorem dX6_walker_43 : decode cX6_walker 43 = .ok (.aload_n 0, 1) := by decide +kernel
theorem dX6_walker_44 : decode cX6_walker 44 = .ok (.getfield 58, 3) := by decide +kernel
theorem dX6_walker_47 : decode cX6_walker 47 = .ok (.aload_n 0, 1) := by decide +kernel
theorem dX6_walker_48 : decode cX6_walker 48 = .ok (.getfield 31, 3) := by decide +kernel
theorem dX6_walker_51 : decode cX6_walker 51 = .ok (.arraylength, 1) := by decide +kernel
theorem dX6_walker_52 : decode cX6_walker 52 = .ok (.if_icmp .lt 6, 3) := by decide +kernel
theorem dX6_walker_55 : decode cX6_walker 55 = .ok (.bipush (-4), 2) := by decide +kernel
theorem dX6_walker_57 : decode cX6_walker 57 = .ok (.ireturn, 1) := by decide +kernel
theorem dX6_walker_58 : decode cX6_walker 58 = .ok (.aload_n 0, 1) := by decide +kernel
theorem dX6_walker_59 : decode cX6_walker 59 = .ok (.getfield 31, 3) := by decide +kernel
theorem dX6_walker_62 : decode cX6_walker 62 = .ok (.aload_n 0, 1) := by decide +kernel
theorem dX6_walker_63 : decode cX6_walker 63 = .ok (.getfield 58, 3) := by decide +kernel
theorem dX6_walker_66 : decode cX6_walker 66 = .ok (.new 29, 3) := by decide +kernel
theorem dX6_walker_69 : decode cX6_walker 69 = .ok (.dup, 1) := by decide +kernel
theorem dX6_walker_70 : decode cX6_walker 70 = .ok (.iload_n 1, 1) := by decide +kernel
theorem dX6_walker_71 : decode cX6_walker 71 = .ok (.iload_n 2, 1) := by decide +kernel
theorem dX6_walker_72 : decode cX6_walker 72 = .ok (.iload_n 3, 1) := by decide +kernel
theorem dX6_walker_73 : decode cX6_walker 73 = .ok (.iload 4, 2) := by decide +kernel
theorem dX6_walker_75 : decode cX6_walker 75 = .ok (.invokespecial 248, 3) := by decide +kernel
theorem dX6_walker_78 : decode cX6_walker 78 = .ok (.aastore, 1) := by decide +kernel
theorem dX6_walker_79 : decode cX6_walker 79 = .ok (.aload_n 0, 1) := by decide +kernel
theorem dX6_walker_80 : decode cX6_walker 80 = .ok (.dup, 1) := by decide +kernel
theorem dX6_walker_81 : decode cX6_walker 81 = .ok (.getfield 58, 3) := by decide +kernel
theorem dX6_walker_84 : decode cX6_walker 84 = .ok (.iconst 1, 1) := by decide +kernel
theorem dX6_walker_85 : decode cX6_walker 85 = .ok (.iadd, 1) := by decide +kernel
theorem dX6_walker_86 : decode cX6_walker 86 = .ok (.putfield 58, 3) := by decide +kernel
theorem dX6_walker_89 : decode cX6_walker 89 = .ok (.aload_n 0, 1) := by decide +kernel
theorem dX6_walker_90 : decode cX6_walker 90 = .ok (.getfield 58, 3) := by decide +kernel
theorem dX6_walker_93 : decode cX6_walker 93 = .ok (.iconst 1, 1) := by decide +kernel
theorem dX6_walker_94 : decode cX6_walker 94 = .ok (.isub, 1) := by decide +kernel
theorem dX6_walker_95 : decode cX6_walker 95 = .ok (.ireturn, 1) := by decide +kernel
theorem dX6_ticks_0 : decode cX6_ticks 0 = .ok (.aload_n 0, 1) := by decide +kernel
theorem dX6_ticks_1 : decode cX6_ticks 1 = .ok (.iload_n 1, 1) := by decide +kernel
theorem dX6_ticks_2 : decode cX6_ticks 2 = .ok (.invokevirtual 121, 3) := by decide +kernel
theorem dX6_ticks_5 : decode cX6_ticks 5 = .ok (.astore_n 3, 1) := by decide +kernel
theorem dX6_ticks_6 : decode cX6_ticks 6 = .ok (.aload_n 3, 1) := by decide +kernel
theorem dX6_ticks_7 : decode cX6_ticks 7 = .ok (.ifnonnull 5, 3) := by decide +kernel
theorem dX6_ticks_10 : decode cX6_ticks 10 = .ok (.iconst (-1), 1) := by decide +kernel
theorem dX6_ticks_11 : decode cX6_ticks 11 = .ok (.ireturn, 1) := by decide +kernel
theorem dX6_ticks_12 : decode cX6_ticks 12 = .ok (.iload_n 2, 1) := by decide +kernel
theorem dX6_ticks_13 : decode cX6_ticks 13 = .ok (.iconst 0, 1) := by decide +kernel
theorem dX6_ticks_14 : decode cX6_ticks 14 = .ok (.sipush 200, 3) := by decide +kernel
theorem dX6_ticks_17 : decode cX6_ticks 17 = .ok (.invokestatic 61, 3) := by decide +kernel
theorem dX6_ticks_20 : decode cX6_ticks 20 = .ok (.ifCond .ne 6, 3) := by decide +kernel
theorem dX6_ticks_23 : decode cX6_ticks 23 = .ok (.bipush (-2), 2) := by decide +kernel
theorem dX6_ticks_25 : decode cX6_ticks 25 = .ok (.ireturn, 1) := by decide +kernel
theorem dX6_ticks_26 : decode cX6_ticks 26 = .ok (.aload_n 0, 1) := by decide +kernel
theorem dX6_ticks_27 : decode cX6_ticks 27 = .ok (.iload_n 1, 1) := by decide +kernel
theorem dX6_ticks_28 : decode cX6_ticks 28 = .ok (.invokevirtual 251, 3) := by decide +kernel
theorem dX6_ticks_31 : decode cX6_ticks 31 = .ok (.istore 4, 2) := by decide +kernel
theorem dX6_ticks_33 : decode cX6_ticks 33 = .ok (.iconst 0, 1) := by decide +kernel
theorem dX6_ticks_34 : decode cX6_ticks 34 = .ok (.istore 5, 2) := by decide +kernel
theorem dX6_ticks_36 : decode cX6_ticks 36 = .ok (.iload 5, 2) := by decide +kernel
theorem dX6_ticks_38 : decode cX6_ticks 38 = .ok (.iload_n 2, 1) := by decide +kernel
theorem dX6_ticks_39 : decode cX6_ticks 39 = .ok (.if_icmp .ge 27, 3) := by decide +kernel
theorem dX6_ticks_42 : decode cX6_ticks 42 = .ok (.iload 4, 2) := by decide +kernel
theorem dX6_ticks_44 : decode cX6_ticks 44 = .ok (.ifCond .le 22, 3) := by decide +kernel
theorem dX6_ticks_47 : decode cX6_ticks 47 = .ok (.aload_n 0, 1) := by decide +kernel
theorem dX6_ticks_48 : decode cX6_ticks 48 = .ok (.aload_n 3, 1) := by decide +kernel
theorem dX6_ticks_49 : decode cX6_ticks 49 = .ok (.iload_n 1, 1) := by decide +kernel
theorem dX6_ticks_50 : decode cX6_ticks 50 = .ok (.invokevirtual 254, 3) := by decide +kernel
theorem dX6_ticks_53 : decode cX6_ticks 53 = .ok (.aload_n 0, 1) := by decide +kernel
theorem dX6_ticks_54 : decode cX6_ticks 54 = .ok (.iload_n 1, 1) := by decide +kernel
theorem dX6_ticks_55 : decode cX6_ticks 55 = .ok (.invokevirtual 251, 3) := by decide +kernel
theorem dX6_ticks_58 : decode cX6_ticks 58 = .ok (.istore 4, 2) := by decide +kernel
theorem dX6_ticks_60 : decode cX6_ticks 60 = .ok (.iinc 5 1, 3) := by decide +kernel
theorem dX6_ticks_63 : decode cX6_ticks 63 = .ok (.goto (-27), 3) := by decide +kernel
theorem dX6_ticks_66 : decode cX6_ticks 66 = .ok (.iload 4, 2) := by decide +kernel
theorem dX6_ticks_68 : decode cX6_ticks 68 = .ok (.ireturn, 1) := by decide +kernel
theorem dX6_tickAll_0 : decode cX6_tickAll 0 = .ok (.iconst 0, 1) := by decide +kernel
theorem dX6_tickAll_1 : decode cX6_tickAll 1 = .ok (.istore_n 3, 1) := by decide +kernel
theorem dX6_tickAll_2 : decode cX6_tickAll 2 = .ok (.iload_n 3, 1) := by decide +kernel
theorem dX6_tickAll_3 : decode cX6_tickAll 3 = .ok (.aload_n 0, 1) := by decide +kernel
theorem dX6_tickAll_4 : decode cX6_tickAll 4 = .ok (.getfield 58, 3) := by decide +kernel
theorem dX6_tickAll_7 : decode cX6_tickAll 7 = .ok (.if_icmp .ge 54, 3) := by decide +kernel
theorem dX6_tickAll_10 : decode cX6_tickAll 10 = .ok (.iload_n 3, 1) := by decide +kernel
theorem dX6_tickAll_11 : decode cX6_tickAll 11 = .ok (.aload_n 0, 1) := by decide +kernel
theorem dX6_tickAll_12 : decode cX6_tickAll 12 = .ok (.getfield 31, 3) := by decide +kernel
theorem dX6_tickAll_15 : decode cX6_tickAll 15 = .ok (.arraylength, 1) := by decide +kernel
theorem dX6_tickAll_16 : decode cX6_tickAll 16 = .ok (.if_icmp .ge 45, 3) := by decide +kernel
theorem dX6_tickAll_19 : decode cX6_tickAll 19 = .ok (.aload_n 0, 1) := by decide +kernel
theorem dX6_tickAll_20 : decode cX6_tickAll 20 = .ok (.getfield 31, 3) := by decide +kernel
theorem dX6_tickAll_23 : decode cX6_tickAll 23 = .ok (.iload_n 3, 1) := by decide +kernel
theorem dX6_tickAll_24 : decode cX6_tickAll 24 = .ok (.aaload, 1) := by decide +kernel
theorem dX6_tickAll_25 : decode cX6_tickAll 25 = .ok (.astore 4, 2) := by decide +kernel
theorem dX6_tickAll_27 : decode cX6_tickAll 27 = .ok (.aload 4, 2) := by decide +kernel
theorem dX6_tickAll_29 : decode cX6_tickAll 29 = .ok (.ifnull 26, 3) := by decide +kernel
theorem dX6_tickAll_32 : decode cX6_tickAll 32 = .ok (.aload 4, 2) := by decide +kernel
theorem dX6_tickAll_34 : decode cX6_tickAll 34 = .ok (.getfield 258, 3) := by decide +kernel
theorem dX6_tickAll_37 : decode cX6_tickAll 37 = .ok (.iload_n 2, 1) := by decide +kernel
theorem dX6_tickAll_38 : decode cX6_tickAll 38 = .ok (.if_icmp .ne 17, 3) := by decide +kernel
theorem dX6_tickAll_41 : decode cX6_tickAll 41 = .ok (.aload 4, 2) := by decide +kernel
theorem dX6_tickAll_43 : decode cX6_tickAll 43 = .ok (.invokevirtual 259, 3) := by decide +kernel
theorem dX6_tickAll_46 : decode cX6_tickAll 46 = .ok (.ifCond .ne 9, 3) := by decide +kernel
theorem dX6_tickAll_49 : decode cX6_tickAll 49 = .ok (.aload 4, 2) := by decide +kernel
theorem dX6_tickAll_51 : decode cX6_tickAll 51 = .ok (.aload_n 1, 1) := by decide +kernel
theorem dX6_tickAll_52 : decode cX6_tickAll 52 = .ok (.invokevirtual 263, 3) := by decide +kernel
theorem dX6_tickAll_55 : decode cX6_tickAll 55 = .ok (.iinc 3 1, 3) := by decide +kernel
theorem dX6_tickAll_58 : decode cX6_tickAll 58 = .ok (.goto (-56), 3) := by decide +kernel
theorem dX6_tickAll_61 : decode cX6_tickAll 61 = .ok (.return_, 1) := by decide +kernel
theorem dX6_insideOf_0 : decode cX6_insideOf 0 = .ok (.iconst 0, 1) := by decide +kernel
theorem dX6_insideOf_1 : decode cX6_insideOf 1 = .ok (.istore_n 2, 1) := by decide +kernel
theorem dX6_insideOf_2 : decode cX6_insideOf 2 = .ok (.iconst 0, 1) := by decide +kernel
theorem dX6_insideOf_3 : decode cX6_insideOf 3 = .ok (.istore_n 3, 1) := by decide +kernel
theorem dX6_insideOf_4 : decode cX6_insideOf 4 = .ok (.iload_n 3, 1) := by decide +kernel
theorem dX6_insideOf_5 : decode cX6_insideOf 5 = .ok (.aload_n 0, 1) := by decide +kernel
theorem dX6_insideOf_6 : decode cX6_insideOf 6 = .ok (.getfield 58, 3) := by decide +kernel
theorem dX6_insideOf_9 : decode cX6_insideOf 9 = .ok (.if_icmp .ge 51, 3) := by decide +kernel
theorem dX6_insideOf_12 : decode cX6_insideOf 12 = .ok (.iload_n 3, 1) := by decide +kernel
theorem dX6_insideOf_13 : decode cX6_insideOf 13 = .ok (.aload_n 0, 1) := by decide +kernel
theorem dX6_insideOf_14 : decode cX6_insideOf 14 = .ok (.getfield 31, 3) := by decide +kernel
theorem dX6_insideOf_17 : decode cX6_insideOf 17 = .ok (.arraylength, 1) := by decide +kernel
theorem dX6_insideOf_18 : decode cX6_insideOf 18 = .ok (.if_icmp .ge 42, 3) := by decide +kernel
theorem dX6_insideOf_21 : decode cX6_insideOf 21 = .ok (.aload_n 0, 1) := by decide +kernel
theorem dX6_insideOf_22 : decode cX6_insideOf 22 = .ok (.getfield 31, 3) := by decide +kernel
theorem dX6_insideOf_25 : decode cX6_insideOf 25 = .ok (.iload_n 3, 1) := by decide +kernel
theorem dX6_insideOf_26 : decode cX6_insideOf 26 = .ok (.aaload, 1) := by decide +kernel
theorem dX6_insideOf_27 : decode cX6_insideOf 27 = .ok (.astore 4, 2) := by decide +kernel
theorem dX6_insideOf_29 : decode cX6_insideOf 29 = .ok (.aload 4, 2) := by decide +kernel
theorem dX6_insideOf_31 : decode cX6_insideOf 31 = .ok (.ifnull 23, 3) := by decide +kernel
theorem dX6_insideOf_34 : decode cX6_insideOf 34 = .ok (.aload 4, 2) := by decide +kernel
theorem dX6_insideOf_36 : decode cX6_insideOf 36 = .ok (.getfield 258, 3) := by decide +kernel
theorem dX6_insideOf_39 : decode cX6_insideOf 39 = .ok (.iload_n 1, 1) := by decide +kernel
theorem dX6_insideOf_40 : decode cX6_insideOf 40 = .ok (.if_icmp .ne 14, 3) := by decide +kernel
theorem dX6_insideOf_43 : decode cX6_insideOf 43 = .ok (.aload 4, 2) := by decide +kernel
theorem dX6_insideOf_45 : decode cX6_insideOf 45 = .ok (.invokevirtual 259, 3) := by decide +kernel
theorem dX6_insideOf_48 : decode cX6_insideOf 48 = .ok (.ifCond .ne 6, 3) := by decide +kernel
theorem dX6_insideOf_51 : decode cX6_insideOf 51 = .ok (.iinc 2 1, 3) := by decide +kernel
theorem dX6_insideOf_54 : decode cX6_insideOf 54 = .ok (.iinc 3 1, 3) := by decide +kernel
theorem dX6_insideOf_57 : decode cX6_insideOf 57 = .ok (.goto (-53), 3) := by decide +kernel
theorem dX6_insideOf_60 : decode cX6_insideOf 60 = .ok (.iload_n 2, 1) := by decide +kernel
theorem dX6_insideOf_61 : decode cX6_insideOf 61 = .ok (.ireturn, 1) := by decide +kernel
theorem dX6_ofWalker_0 : decode cX6_ofWalker 0 = .ok (.aload_n 0, 1) := by decide +kernel
theorem dX6_ofWalker_1 : decode cX6_ofWalker 1 = .ok (.iload_n 1, 1) := by decide +kernel
theorem dX6_ofWalker_2 : decode cX6_ofWalker 2 = .ok (.invokevirtual 267, 3) := by decide +kernel
theorem dX6_ofWalker_5 : decode cX6_ofWalker 5 = .ok (.astore_n 3, 1) := by decide +kernel
theorem dX6_ofWalker_6 : decode cX6_ofWalker 6 = .ok (.aload_n 3, 1) := by decide +kernel
theorem dX6_ofWalker_7 : decode cX6_ofWalker 7 = .ok (.ifnonnull 5, 3) := by decide +kernel
theorem dX6_ofWalker_10 : decode cX6_ofWalker 10 = .ok (.iconst (-1), 1) := by decide +kernel
theorem dX6_ofWalker_11 : decode cX6_ofWalker 11 = .ok (.ireturn, 1) := by decide +kernel
theorem dX6_ofWalker_12 : decode cX6_ofWalker 12 = .ok (.iload_n 2, 1) := by decide +kernel
theorem dX6_ofWalker_13 : decode cX6_ofWalker 13 = .ok (.tableswitch 90 0 6 #[43, 48, 53, 58, 63, 68, 73], 43) := by decide +kernel
theorem dX6_ofWalker_56 : decode cX6_ofWalker 56 = .ok (.aload_n 3, 1) := by decide +kernel
theorem dX6_ofWalker_57 : decode cX6_ofWalker 57 = .ok (.getfield 271, 3) := by decide +kernel
theorem dX6_ofWalker_60 : decode cX6_ofWalker 60 = .ok (.ireturn, 1) := by decide +kernel
theorem dX6_ofWalker_61 : decode cX6_ofWalker 61 = .ok (.aload_n 3, 1) := by decide +kernel
theorem dX6_ofWalker_62 : decode cX6_ofWalker 62 = .ok (.getfield 258, 3) := by decide +kernel
theorem dX6_ofWalker_65 : decode cX6_ofWalker 65 = .ok (.ireturn, 1) := by decide +kernel
theorem dX6_ofWalker_66 : decode cX6_ofWalker 66 = .ok (.aload_n 3, 1) := by decide +kernel
theorem dX6_ofWalker_67 : decode cX6_ofWalker 67 = .ok (.getfield 274, 3) := by decide +kernel
theorem dX6_ofWalker_70 : decode cX6_ofWalker 70 = .ok (.ireturn, 1) := by decide +kernel
theorem dX6_ofWalker_71 : decode cX6_ofWalker 71 = .ok (.aload_n 3, 1) := by decide +kernel
theorem dX6_ofWalker_72 : decode cX6_ofWalker 72 = .ok (.getfield 275, 3) := by decide +kernel
theorem dX6_ofWalker_75 : decode cX6_ofWalker 75 = .ok (.ireturn, 1) := by decide +kernel
theorem dX6_ofWalker_76 : decode cX6_ofWalker 76 = .ok (.aload_n 3, 1) := by decide +kernel
theorem dX6_ofWalker_77 : decode cX6_ofWalker 77 = .ok (.getfield 278, 3) := by decide +kernel
theorem dX6_ofWalker_80 : decode cX6_ofWalker 80 = .ok (.ireturn, 1) := by decide +kernel
theorem dX6_ofWalker_81 : decode cX6_ofWalker 81 = .ok (.aload_n 3, 1) := by decide +kernel
theorem dX6_ofWalker_82 : decode cX6_ofWalker 82 = .ok (.getfield 281, 3) := by decide +kernel
theorem dX6_ofWalker_85 : decode cX6_ofWalker 85 = .ok (.ireturn, 1) := by decide +kernel
theorem dX6_ofWalker_86 : decode cX6_ofWalker 86 = .ok (.aload_n 3, 1) := by decide +kernel
theorem dX6_ofWalker_87 : decode cX6_ofWalker 87 = .ok (.invokevirtual 259, 3) := by decide +kernel
theorem dX6_ofWalker_90 : decode cX6_ofWalker 90 = .ok (.ifCond .eq 10, 3) := by decide +kernel
theorem dX6_ofWalker_93 : decode cX6_ofWalker 93 = .ok (.aload_n 3, 1) := by decide +kernel
theorem dX6_ofWalker_94 : decode cX6_ofWalker 94 = .ok (.getfield 284, 3) := by decide +kernel
theorem dX6_ofWalker_97 : decode cX6_ofWalker 97 = .ok (.goto 5, 3) := by decide +kernel
theorem dX6_ofWalker_100 : decode cX6_ofWalker 100 = .ok (.bipush (-9), 2) := by decide +kernel
theorem dX6_ofWalker_102 : decode cX6_ofWalker 102 = .ok (.ireturn, 1) := by decide +kernel
theorem dX6_ofWalker_103 : decode cX6_ofWalker 103 = .ok (.bipush (-2), 2) := by decide +kernel
theorem dX6_ofWalker_105 : decode cX6_ofWalker 105 = .ok (.ireturn, 1) := by decide +kernel
theorem dX6_shut_0 : decode cX6_shut 0 = .ok (.aload_n 0, 1) := by decide +kernel
theorem dX6_shut_1 : decode cX6_shut 1 = .ok (.iload_n 1, 1) := by decide +kernel
theorem dX6_shut_2 : decode cX6_shut 2 = .ok (.invokevirtual 121, 3) := by decide +kernel
theorem dX6_shut_5 : decode cX6_shut 5 = .ok (.astore_n 2, 1) := by decide +kernel
theorem dX6_shut_6 : decode cX6_shut 6 = .ok (.aload_n 2, 1) := by decide +kernel
theorem dX6_shut_7 : decode cX6_shut 7 = .ok (.ifnonnull 7, 3) := by decide +kernel
theorem dX6_shut_10 : decode cX6_shut 10 = .ok (.iconst (-1), 1) := by decide +kernel
theorem dX6_shut_11 : decode cX6_shut 11 = .ok (.goto 7, 3) := by decide +kernel
theorem dX6_shut_14 : decode cX6_shut 14 = .ok (.aload_n 2, 1) := by decide +kernel
theorem dX6_shut_15 : decode cX6_shut 15 = .ok (.invokevirtual 287, 3) := by decide +kernel
theorem dX6_shut_18 : decode cX6_shut 18 = .ok (.ireturn, 1) := by decide +kernel
theorem dX6_far_0 : decode cX6_far 0 = .ok (.aload_n 0, 1) := by decide +kernel
theorem dX6_far_1 : decode cX6_far 1 = .ok (.iload_n 1, 1) := by decide +kernel
theorem dX6_far_2 : decode cX6_far 2 = .ok (.invokevirtual 121, 3) := by decide +kernel
theorem dX6_far_5 : decode cX6_far 5 = .ok (.astore_n 3, 1) := by decide +kernel
theorem dX6_far_6 : decode cX6_far 6 = .ok (.aload_n 3, 1) := by decide +kernel
theorem dX6_far_7 : decode cX6_far 7 = .ok (.ifnull 11, 3) := by decide +kernel
theorem dX6_far_10 : decode cX6_far 10 = .ok (.aload_n 3, 1) := by decide +kernel
theorem dX6_far_11 : decode cX6_far 11 = .ok (.iload_n 2, 1) := by decide +kernel
theorem dX6_far_12 : decode cX6_far 12 = .ok (.invokevirtual 156, 3) := by decide +kernel
theorem dX6_far_15 : decode cX6_far 15 = .ok (.ifCond .ne 7, 3) := by decide +kernel
theorem dX6_far_18 : decode cX6_far 18 = .ok (.iconst (-1), 1) := by decide +kernel
theorem dX6_far_19 : decode cX6_far 19 = .ok (.goto 8, 3) := by decide +kernel
theorem dX6_far_22 : decode cX6_far 22 = .ok (.aload_n 3, 1) := by decide +kernel
theorem dX6_far_23 : decode cX6_far 23 = .ok (.iload_n 2, 1) := by decide +kernel
theorem dX6_far_24 : decode cX6_far 24 = .ok (.invokevirtual 290, 3) := by decide +kernel
theorem dX6_far_27 : decode cX6_far 27 = .ok (.ireturn, 1) := by decide +kernel
theorem dX6_opened_0 : decode cX6_opened 0 = .ok (.aload_n 0, 1) := by decide +kernel
theorem dX6_opened_1 : decode cX6_opened 1 = .ok (.iload_n 1, 1) := by decide +kernel
theorem dX6_opened_2 : decode cX6_opened 2 = .ok (.invokevirtual 121, 3) := by decide +kernel
theorem dX6_opened_5 : decode cX6_opened 5 = .ok (.astore 4, 2) := by decide +kernel
theorem dX6_opened_7 : decode cX6_opened 7 = .ok (.aload 4, 2) := by decide +kernel
theorem dX6_opened_9 : decode cX6_opened 9 = .ok (.ifnull 12, 3) := by decide +kernel
theorem dX6_opened_12 : decode cX6_opened 12 = .ok (.iload_n 3, 1) := by decide +kernel
theorem dX6_opened_13 : decode cX6_opened 13 = .ok (.iconst (-1), 1) := by decide +kernel
theorem dX6_opened_14 : decode cX6_opened 14 = .ok (.iconst 1, 1) := by decide +kernel
theorem dX6_opened_15 : decode cX6_opened 15 = .ok (.invokestatic 61, 3) := by decide +kernel
theorem dX6_opened_18 : decode cX6_opened 18 = .ok (.ifCond .ne 5, 3) := by decide +kernel
theorem dX6_opened_21 : decode cX6_opened 21 = .ok (.iconst (-1), 1) := by decide +kernel
theorem dX6_opened_22 : decode cX6_opened 22 = .ok (.ireturn, 1) := by decide +kernel
theorem dX6_opened_23 : decode cX6_opened 23 = .ok (.iload_n 2, 1) := by decide +kernel
theorem dX6_opened_24 : decode cX6_opened 24 = .ok (.iconst 1, 1) := by decide +kernel
theorem dX6_opened_25 : decode cX6_opened 25 = .ok (.bipush 30, 2) := by decide +kernel
theorem dX6_opened_27 : decode cX6_opened 27 = .ok (.invokestatic 61, 3) := by decide +kernel
theorem dX6_opened_30 : decode cX6_opened 30 = .ok (.ifCond .ne 6, 3) := by decide +kernel
theorem dX6_opened_33 : decode cX6_opened 33 = .ok (.bipush (-2), 2) := by decide +kernel
theorem dX6_opened_35 : decode cX6_opened 35 = .ok (.ireturn, 1) := by decide +kernel
theorem dX6_opened_36 : decode cX6_opened 36 = .ok (.aload 4, 2) := by decide +kernel
theorem dX6_opened_38 : decode cX6_opened 38 = .ok (.iload_n 2, 1) := by decide +kernel
theorem dX6_opened_39 : decode cX6_opened 39 = .ok (.invokevirtual 293, 3) := by decide +kernel
theorem dX6_opened_42 : decode cX6_opened 42 = .ok (.istore 5, 2) := by decide +kernel
theorem dX6_opened_44 : decode cX6_opened 44 = .ok (.iload_n 3, 1) := by decide +kernel
theorem dX6_opened_45 : decode cX6_opened 45 = .ok (.iconst (-1), 1) := by decide +kernel
theorem dX6_opened_46 : decode cX6_opened 46 = .ok (.if_icmp .ne 6, 3) := by decide +kernel
theorem dX6_opened_49 : decode cX6_opened 49 = .ok (.iload 5, 2) := by decide +kernel
theorem dX6_opened_51 : decode cX6_opened 51 = .ok (.ireturn, 1) := by decide +kernel
theorem dX6_opened_52 : decode cX6_opened 52 = .ok (.iload_n 3, 1) := by decide +kernel
theorem dX6_opened_53 : decode cX6_opened 53 = .ok (.ifCond .ne 11, 3) := by decide +kernel
theorem dX6_opened_56 : decode cX6_opened 56 = .ok (.aload 4, 2) := by decide +kernel
theorem dX6_opened_58 : decode cX6_opened 58 = .ok (.getfield 296, 3) := by decide +kernel
theorem dX6_opened_61 : decode cX6_opened 61 = .ok (.goto 8, 3) := by decide +kernel
theorem dX6_opened_64 : decode cX6_opened 64 = .ok (.aload 4, 2) := by decide +kernel
theorem dX6_opened_66 : decode cX6_opened 66 = .ok (.getfield 299, 3) := by decide +kernel
theorem dX6_opened_69 : decode cX6_opened 69 = .ok (.ireturn, 1) := by decide +kernel
theorem dX6_keeps_0 : decode cX6_keeps 0 = .ok (.aload_n 0, 1) := by decide +kernel
theorem dX6_keeps_1 : decode cX6_keeps 1 = .ok (.iconst 0, 1) := by decide +kernel
theorem dX6_keeps_2 : decode cX6_keeps 2 = .ok (.putfield 65, 3) := by decide +kernel
theorem dX6_keeps_5 : decode cX6_keeps 5 = .ok (.aload_n 0, 1) := by decide +kernel
theorem dX6_keeps_6 : decode cX6_keeps 6 = .ok (.iload 4, 2) := by decide +kernel
theorem dX6_keeps_8 : decode cX6_keeps 8 = .ok (.invokevirtual 70, 3) := by decide +kernel
theorem dX6_keeps_11 : decode cX6_keeps 11 = .ok (.astore 9, 2) := by decide +kernel
theorem dX6_keeps_13 : decode cX6_keeps 13 = .ok (.aload_n 0, 1) := by decide +kernel
theorem dX6_keeps_14 : decode cX6_keeps 14 = .ok (.iload_n 1, 1) := by decide +kernel
theorem dX6_keeps_15 : decode cX6_keeps 15 = .ok (.invokevirtual 121, 3) := by decide +kernel
theorem dX6_keeps_18 : decode cX6_keeps 18 = .ok (.astore 10, 2) := by decide +kernel
theorem dX6_keeps_20 : decode cX6_keeps 20 = .ok (.aload 9, 2) := by decide +kernel
theorem dX6_keeps_22 : decode cX6_keeps 22 = .ok (.ifnull 17, 3) := by decide +kernel
theorem dX6_keeps_25 : decode cX6_keeps 25 = .ok (.aload 10, 2) := by decide +kernel
theorem dX6_keeps_27 : decode cX6_keeps 27 = .ok (.ifnull 12, 3) := by decide +kernel
theorem dX6_keeps_30 : decode cX6_keeps 30 = .ok (.aload 10, 2) := by decide +kernel
theorem dX6_keeps_32 : decode cX6_keeps 32 = .ok (.iload_n 2, 1) := by decide +kernel
theorem dX6_keeps_33 : decode cX6_keeps 33 = .ok (.invokevirtual 156, 3) := by decide +kernel
theorem dX6_keeps_36 : decode cX6_keeps 36 = .ok (.ifCond .ne 5, 3) := by decide +kernel
theorem dX6_keeps_39 : decode cX6_keeps 39 = .ok (.iconst (-1), 1) := by decide +kernel
theorem dX6_keeps_40 : decode cX6_keeps 40 = .ok (.ireturn, 1) := by decide +kernel
theorem dX6_keeps_41 : decode cX6_keeps 41 = .ok (.iload 5, 2) := by decide +kernel
theorem dX6_keeps_43 : decode cX6_keeps 43 = .ok (.invokestatic 74, 3) := by decide +kernel
theorem dX6_keeps_46 : decode cX6_keeps 46 = .ok (.ifCond .eq 20, 3) := by decide +kernel
theorem dX6_keeps_49 : decode cX6_keeps 49 = .ok (.iload_n 3, 1) := by decide +kernel
theorem dX6_keeps_50 : decode cX6_keeps 50 = .ok (.invokestatic 159, 3) := by decide +kernel
theorem dX6_keeps_53 : decode cX6_keeps 53 = .ok (.ifCond .eq 13, 3) := by decide +kernel
theorem dX6_keeps_56 : decode cX6_keeps 56 = .ok (.iload 8, 2) := by decide +kernel
theorem dX6_keeps_58 : decode cX6_keeps 58 = .ok (.iconst 0, 1) := by decide +kernel
theorem dX6_keeps_59 : decode cX6_keeps 59 = .ok (.iconst 1, 1) := by decide +kernel
theorem dX6_keeps_60 : decode cX6_keeps 60 = .ok (.invokestatic 61, 3) := by decide +kernel
theorem dX6_keeps_63 : decode cX6_keeps 63 = .ok (.ifCond .ne 6, 3) := by decide +kernel
theorem dX6_keeps_66 : decode cX6_keeps 66 = .ok (.bipush (-2), 2) := by decide +kernel
theorem dX6_keeps_68 : decode cX6_keeps 68 = .ok (.ireturn, 1) := by decide +kernel
theorem dX6_keeps_69 : decode cX6_keeps 69 = .ok (.aload 9, 2) := by decide +kernel
theorem dX6_keeps_71 : decode cX6_keeps 71 = .ok (.iload 5, 2) := by decide +kernel
theorem dX6_keeps_73 : decode cX6_keeps 73 = .ok (.iload 6, 2) := by decide +kernel
theorem dX6_keeps_75 : decode cX6_keeps 75 = .ok (.iload 7, 2) := by decide +kernel
theorem dX6_keeps_77 : decode cX6_keeps 77 = .ok (.invokevirtual 78, 3) := by decide +kernel
theorem dX6_keeps_80 : decode cX6_keeps 80 = .ok (.istore 11, 2) := by decide +kernel
theorem dX6_keeps_82 : decode cX6_keeps 82 = .ok (.iload 11, 2) := by decide +kernel
theorem dX6_keeps_84 : decode cX6_keeps 84 = .ok (.ifCond .eq 10, 3) := by decide +kernel
theorem dX6_keeps_87 : decode cX6_keeps 87 = .ok (.aload_n 0, 1) := by decide +kernel
theorem dX6_keeps_88 : decode cX6_keeps 88 = .ok (.iload 11, 2) := by decide +kernel
theorem dX6_keeps_90 : decode cX6_keeps 90 = .ok (.invokevirtual 82, 3) := by decide +kernel
theorem dX6_keeps_93 : decode cX6_keeps 93 = .ok (.ireturn, 1) := by decide +kernel
theorem dX6_keeps_94 : decode cX6_keeps 94 = .ok (.iload 7, 2) := by decide +kernel
theorem dX6_keeps_96 : decode cX6_keeps 96 = .ok (.iconst 1, 1) := by decide +kernel
theorem dX6_keeps_97 : decode cX6_keeps 97 = .ok (.bipush 8, 2) := by decide +kernel
theorem dX6_keeps_99 : decode cX6_keeps 99 = .ok (.invokestatic 61, 3) := by decide +kernel
theorem dX6_keeps_102 : decode cX6_keeps 102 = .ok (.ifCond .ne 6, 3) := by decide +kernel
theorem dX6_keeps_105 : decode cX6_keeps 105 = .ok (.bipush (-2), 2) := by decide +kernel
theorem dX6_keeps_107 : decode cX6_keeps 107 = .ok (.ireturn, 1) := by decide +kernel
theorem dX6_keeps_108 : decode cX6_keeps 108 = .ok (.aload 10, 2) := by decide +kernel
theorem dX6_keeps_110 : decode cX6_keeps 110 = .ok (.aload 9, 2) := by decide +kernel
theorem dX6_keeps_112 : decode cX6_keeps 112 = .ok (.iload 6, 2) := by decide +kernel
theorem dX6_keeps_114 : decode cX6_keeps 114 = .ok (.iload 7, 2) := by decide +kernel
theorem dX6_keeps_116 : decode cX6_keeps 116 = .ok (.invokestatic 302, 3) := by decide +kernel
theorem dX6_keeps_119 : decode cX6_keeps 119 = .ok (.ifCond .ne 5, 3) := by decide +kernel
theorem dX6_keeps_122 : decode cX6_keeps 122 = .ok (.iconst (-1), 1) := by decide +kernel
theorem dX6_keeps_123 : decode cX6_keeps 123 = .ok (.ireturn, 1) := by decide +kernel
theorem dX6_keeps_124 : decode cX6_keeps 124 = .ok (.aload 9, 2) := by decide +kernel
theorem dX6_keeps_126 : decode cX6_keeps 126 = .ok (.iload 6, 2) := by decide +kernel
theorem dX6_keeps_128 : decode cX6_keeps 128 = .ok (.iload 7, 2) := by decide +kernel
theorem dX6_keeps_130 : decode cX6_keeps 130 = .ok (.invokestatic 306, 3) := by decide +kernel
theorem dX6_keeps_133 : decode cX6_keeps 133 = .ok (.ifCond .eq 6, 3) := by decide +kernel
theorem dX6_keeps_136 : decode cX6_keeps 136 = .ok (.bipush (-2), 2) := by decide +kernel
theorem dX6_keeps_138 : decode cX6_keeps 138 = .ok (.ireturn, 1) := by decide +kernel
theorem dX6_keeps_139 : decode cX6_keeps 139 = .ok (.aload 10, 2) := by decide +kernel
theorem dX6_keeps_141 : decode cX6_keeps 141 = .ok (.aload 9, 2) := by decide +kernel
theorem dX6_keeps_143 : decode cX6_keeps 143 = .ok (.iload 6, 2) := by decide +kernel
theorem dX6_keeps_145 : decode cX6_keeps 145 = .ok (.iload 7, 2) := by decide +kernel
theorem dX6_keeps_147 : decode cX6_keeps 147 = .ok (.iload_n 2, 1) := by decide +kernel
theorem dX6_keeps_148 : decode cX6_keeps 148 = .ok (.iload_n 3, 1) := by decide +kernel
theorem dX6_keeps_149 : decode cX6_keeps 149 = .ok (.invokevirtual 309, 3) := by decide +kernel
theorem dX6_keeps_152 : decode cX6_keeps 152 = .ok (.iload 8, 2) := by decide +kernel
theorem dX6_keeps_154 : decode cX6_keeps 154 = .ok (.ifCond .ne 11, 3) := by decide +kernel
theorem dX6_keeps_157 : decode cX6_keeps 157 = .ok (.aload 10, 2) := by decide +kernel
theorem dX6_keeps_159 : decode cX6_keeps 159 = .ok (.getfield 313, 3) := by decide +kernel
theorem dX6_keeps_162 : decode cX6_keeps 162 = .ok (.goto 8, 3) := by decide +kernel
theorem dX6_keeps_165 : decode cX6_keeps 165 = .ok (.aload 10, 2) := by decide +kernel
theorem dX6_keeps_167 : decode cX6_keeps 167 = .ok (.getfield 316, 3) := by decide +kernel
theorem dX6_keeps_170 : decode cX6_keeps 170 = .ok (.ireturn, 1) := by decide +kernel
theorem dX6_areSides_0 : decode cX6_areSides 0 = .ok (.iload_n 2, 1) := by decide +kernel
theorem dX6_areSides_1 : decode cX6_areSides 1 = .ok (.istore 4, 2) := by decide +kernel
theorem dX6_areSides_3 : decode cX6_areSides 3 = .ok (.iload 4, 2) := by decide +kernel
theorem dX6_areSides_5 : decode cX6_areSides 5 = .ok (.iload_n 2, 1) := by decide +kernel
theorem dX6_areSides_6 : decode cX6_areSides 6 = .ok (.iload_n 3, 1) := by decide +kernel
theorem dX6_areSides_7 : decode cX6_areSides 7 = .ok (.iadd, 1) := by decide +kernel
theorem dX6_areSides_8 : decode cX6_areSides 8 = .ok (.if_icmp .ge 25, 3) := by decide +kernel
theorem dX6_areSides_11 : decode cX6_areSides 11 = .ok (.aload_n 0, 1) := by decide +kernel
theorem dX6_areSides_12 : decode cX6_areSides 12 = .ok (.aload_n 1, 1) := by decide +kernel
theorem dX6_areSides_13 : decode cX6_areSides 13 = .ok (.getfield 102, 3) := by decide +kernel
theorem dX6_areSides_16 : decode cX6_areSides 16 = .ok (.iload 4, 2) := by decide +kernel
theorem dX6_areSides_18 : decode cX6_areSides 18 = .ok (.iaload, 1) := by decide +kernel
theorem dX6_areSides_19 : decode cX6_areSides 19 = .ok (.invokevirtual 141, 3) := by decide +kernel
theorem dX6_areSides_22 : decode cX6_areSides 22 = .ok (.ifCond .ne 5, 3) := by decide +kernel
theorem dX6_areSides_25 : decode cX6_areSides 25 = .ok (.iconst 0, 1) := by decide +kernel
theorem dX6_areSides_26 : decode cX6_areSides 26 = .ok (.ireturn, 1) := by decide +kernel
theorem dX6_areSides_27 : decode cX6_areSides 27 = .ok (.iinc 4 1, 3) := by decide +kernel
theorem dX6_areSides_30 : decode cX6_areSides 30 = .ok (.goto (-27), 3) := by decide +kernel
theorem dX6_areSides_33 : decode cX6_areSides 33 = .ok (.iconst 1, 1) := by decide +kernel
theorem dX6_areSides_34 : decode cX6_areSides 34 = .ok (.ireturn, 1) := by decide +kernel
theorem dX6_hasLike_0 : decode cX6_hasLike 0 = .ok (.iload_n 1, 1) := by decide +kernel
theorem dX6_hasLike_1 : decode cX6_hasLike 1 = .ok (.istore_n 3, 1) := by decide +kernel
theorem dX6_hasLike_2 : decode cX6_hasLike 2 = .ok (.iload_n 3, 1) := by decide +kernel
theorem dX6_hasLike_3 : decode cX6_hasLike 3 = .ok (.iload_n 1, 1) := by decide +kernel
theorem dX6_hasLike_4 : decode cX6_hasLike 4 = .ok (.iload_n 2, 1) := by decide +kernel
theorem dX6_hasLike_5 : decode cX6_hasLike 5 = .ok (.iadd, 1) := by decide +kernel
theorem dX6_hasLike_6 : decode cX6_hasLike 6 = .ok (.if_icmp .ge 46, 3) := by decide +kernel
theorem dX6_hasLike_9 : decode cX6_hasLike 9 = .ok (.iload_n 3, 1) := by decide +kernel
theorem dX6_hasLike_10 : decode cX6_hasLike 10 = .ok (.iconst 1, 1) := by decide +kernel
theorem dX6_hasLike_11 : decode cX6_hasLike 11 = .ok (.iadd, 1) := by decide +kernel
theorem dX6_hasLike_12 : decode cX6_hasLike 12 = .ok (.istore 4, 2) := by decide +kernel
theorem dX6_hasLike_14 : decode cX6_hasLike 14 = .ok (.iload 4, 2) := by decide +kernel
theorem dX6_hasLike_16 : decode cX6_hasLike 16 = .ok (.iload_n 1, 1) := by decide +kernel
theorem dX6_hasLike_17 : decode cX6_hasLike 17 = .ok (.iload_n 2, 1) := by decide +kernel
theorem dX6_hasLike_18 : decode cX6_hasLike 18 = .ok (.iadd, 1) := by decide +kernel
theorem dX6_hasLike_19 : decode cX6_hasLike 19 = .ok (.if_icmp .ge 27, 3) := by decide +kernel
theorem dX6_hasLike_22 : decode cX6_hasLike 22 = .ok (.aload_n 0, 1) := by decide +kernel
theorem dX6_hasLike_23 : decode cX6_hasLike 23 = .ok (.getfield 102, 3) := by decide +kernel
theorem dX6_hasLike_26 : decode cX6_hasLike 26 = .ok (.iload_n 3, 1) := by decide +kernel
theorem dX6_hasLike_27 : decode cX6_hasLike 27 = .ok (.iaload, 1) := by decide +kernel
theorem dX6_hasLike_28 : decode cX6_hasLike 28 = .ok (.aload_n 0, 1) := by decide +kernel
theorem dX6_hasLike_29 : decode cX6_hasLike 29 = .ok (.getfield 102, 3) := by decide +kernel
theorem dX6_hasLike_32 : decode cX6_hasLike 32 = .ok (.iload 4, 2) := by decide +kernel
theorem dX6_hasLike_34 : decode cX6_hasLike 34 = .ok (.iaload, 1) := by decide +kernel
theorem dX6_hasLike_35 : decode cX6_hasLike 35 = .ok (.if_icmp .ne 5, 3) := by decide +kernel
theorem dX6_hasLike_38 : decode cX6_hasLike 38 = .ok (.iconst 1, 1) := by decide +kernel
theorem dX6_hasLike_39 : decode cX6_hasLike 39 = .ok (.ireturn, 1) := by decide +kernel
theorem dX6_hasLike_40 : decode cX6_hasLike 40 = .ok (.iinc 4 1, 3) := by decide +kernel
theorem dX6_hasLike_43 : decode cX6_hasLike 43 = .ok (.goto (-29), 3) := by decide +kernel
theorem dX6_hasLike_46 : decode cX6_hasLike 46 = .ok (.iinc 3 1, 3) := by decide +kernel
theorem dX6_hasLike_49 : decode cX6_hasLike 49 = .ok (.goto (-47), 3) := by decide +kernel
theorem dX6_hasLike_52 : decode cX6_hasLike 52 = .ok (.iconst 0, 1) := by decide +kernel
theorem dX6_hasLike_53 : decode cX6_hasLike 53 = .ok (.ireturn, 1) := by decide +kernel
theorem dX6_changed_0 : decode cX6_changed 0 = .ok (.aload_n 0, 1) := by decide +kernel
theorem dX6_changed_1 : decode cX6_changed 1 = .ok (.iload_n 1, 1) := by decide +kernel
theorem dX6_changed_2 : decode cX6_changed 2 = .ok (.invokevirtual 121, 3) := by decide +kernel
theorem dX6_changed_5 : decode cX6_changed 5 = .ok (.astore_n 3, 1) := by decide +kernel
theorem dX6_changed_6 : decode cX6_changed 6 = .ok (.aload_n 0, 1) := by decide +kernel
theorem dX6_changed_7 : decode cX6_changed 7 = .ok (.iload_n 2, 1) := by decide +kernel
theorem dX6_changed_8 : decode cX6_changed 8 = .ok (.invokevirtual 121, 3) := by decide +kernel
theorem dX6_changed_11 : decode cX6_changed 11 = .ok (.astore 4, 2) := by decide +kernel
theorem dX6_changed_13 : decode cX6_changed 13 = .ok (.aload_n 3, 1) := by decide +kernel
theorem dX6_changed_14 : decode cX6_changed 14 = .ok (.ifnull 13, 3) := by decide +kernel
theorem dX6_changed_17 : decode cX6_changed 17 = .ok (.aload 4, 2) := by decide +kernel
theorem dX6_changed_19 : decode cX6_changed 19 = .ok (.ifnull 8, 3) := by decide +kernel
theorem dX6_changed_22 : decode cX6_changed 22 = .ok (.iload_n 1, 1) := by decide +kernel
theorem dX6_changed_23 : decode cX6_changed 23 = .ok (.iload_n 2, 1) := by decide +kernel
theorem dX6_changed_24 : decode cX6_changed 24 = .ok (.if_icmp .ne 7, 3) := by decide +kernel
theorem dX6_changed_27 : decode cX6_changed 27 = .ok (.ldc2_w 68, 3) := by decide +kernel
theorem dX6_changed_30 : decode cX6_changed 30 = .ok (.lreturn, 1) := by decide +kernel
theorem dX6_changed_31 : decode cX6_changed 31 = .ok (.aload_n 0, 1) := by decide +kernel
theorem dX6_changed_32 : decode cX6_changed 32 = .ok (.getfield 49, 3) := by decide +kernel
theorem dX6_changed_35 : decode cX6_changed 35 = .ok (.aload_n 3, 1) := by decide +kernel
theorem dX6_changed_36 : decode cX6_changed 36 = .ok (.aload 4, 2) := by decide +kernel
theorem dX6_changed_38 : decode cX6_changed 38 = .ok (.invokevirtual 319, 3) := by decide +kernel
theorem dX6_changed_41 : decode cX6_changed 41 = .ok (.ifCond .eq 17, 3) := by decide +kernel
theorem dX6_changed_44 : decode cX6_changed 44 = .ok (.aload_n 0, 1) := by decide +kernel
theorem dX6_changed_45 : decode cX6_changed 45 = .ok (.getfield 49, 3) := by decide +kernel
theorem dX6_changed_48 : decode cX6_changed 48 = .ok (.aload_n 3, 1) := by decide +kernel
theorem dX6_changed_49 : decode cX6_changed 49 = .ok (.aload 4, 2) := by decide +kernel
theorem dX6_changed_51 : decode cX6_changed 51 = .ok (.invokevirtual 323, 3) := by decide +kernel
theorem dX6_changed_54 : decode cX6_changed 54 = .ok (.i2l, 1) := by decide +kernel
theorem dX6_changed_55 : decode cX6_changed 55 = .ok (.goto 6, 3) := by decide +kernel
theorem dX6_changed_58 : decode cX6_changed 58 = .ok (.ldc2_w 68, 3) := by decide +kernel
theorem dX6_changed_61 : decode cX6_changed 61 = .ok (.lreturn, 1) := by decide +kernel
theorem dX6_change_0 : decode cX6_change 0 = .ok (.aload_n 0, 1) := by decide +kernel
theorem dX6_change_1 : decode cX6_change 1 = .ok (.iload_n 1, 1) := by decide +kernel
theorem dX6_change_2 : decode cX6_change 2 = .ok (.invokevirtual 121, 3) := by decide +kernel
theorem dX6_change_5 : decode cX6_change 5 = .ok (.astore 4, 2) := by decide +kernel
theorem dX6_change_7 : decode cX6_change 7 = .ok (.aload_n 0, 1) := by decide +kernel
theorem dX6_change_8 : decode cX6_change 8 = .ok (.iload_n 2, 1) := by decide +kernel
theorem dX6_change_9 : decode cX6_change 9 = .ok (.invokevirtual 121, 3) := by decide +kernel
theorem dX6_change_12 : decode cX6_change 12 = .ok (.astore 5, 2) := by decide +kernel
theorem dX6_change_14 : decode cX6_change 14 = .ok (.aload 4, 2) := by decide +kernel
theorem dX6_change_16 : decode cX6_change 16 = .ok (.ifnull 18, 3) := by decide +kernel
theorem dX6_change_19 : decode cX6_change 19 = .ok (.aload 5, 2) := by decide +kernel
theorem dX6_change_21 : decode cX6_change 21 = .ok (.ifnull 13, 3) := by decide +kernel
theorem dX6_change_24 : decode cX6_change 24 = .ok (.iload_n 3, 1) := by decide +kernel
theorem dX6_change_25 : decode cX6_change 25 = .ok (.iconst 0, 1) := by decide +kernel
theorem dX6_change_26 : decode cX6_change 26 = .ok (.bipush 9, 2) := by decide +kernel
theorem dX6_change_28 : decode cX6_change 28 = .ok (.invokestatic 61, 3) := by decide +kernel
theorem dX6_change_31 : decode cX6_change 31 = .ok (.ifCond .ne 5, 3) := by decide +kernel
theorem dX6_change_34 : decode cX6_change 34 = .ok (.iconst (-1), 1) := by decide +kernel
theorem dX6_change_35 : decode cX6_change 35 = .ok (.ireturn, 1) := by decide +kernel
theorem dX6_change_36 : decode cX6_change 36 = .ok (.iload_n 1, 1) := by decide +kernel
theorem dX6_change_37 : decode cX6_change 37 = .ok (.iload_n 2, 1) := by decide +kernel
theorem dX6_change_38 : decode cX6_change 38 = .ok (.if_icmp .ne 6, 3) := by decide +kernel
theorem dX6_change_41 : decode cX6_change 41 = .ok (.bipush (-2), 2) := by decide +kernel
theorem dX6_change_43 : decode cX6_change 43 = .ok (.ireturn, 1) := by decide +kernel
theorem dX6_change_44 : decode cX6_change 44 = .ok (.aload_n 0, 1) := by decide +kernel
theorem dX6_change_45 : decode cX6_change 45 = .ok (.getfield 49, 3) := by decide +kernel
theorem dX6_change_48 : decode cX6_change 48 = .ok (.aload 4, 2) := by decide +kernel
theorem dX6_change_50 : decode cX6_change 50 = .ok (.aload 5, 2) := by decide +kernel
theorem dX6_change_52 : decode cX6_change 52 = .ok (.invokevirtual 319, 3) := by decide +kernel
theorem dX6_change_55 : decode cX6_change 55 = .ok (.ifCond .ne 6, 3) := by decide +kernel
theorem dX6_change_58 : decode cX6_change 58 = .ok (.bipush (-3), 2) := by decide +kernel
theorem dX6_change_60 : decode cX6_change 60 = .ok (.ireturn, 1) := by decide +kernel
theorem dX6_change_61 : decode cX6_change 61 = .ok (.aload_n 0, 1) := by decide +kernel
theorem dX6_change_62 : decode cX6_change 62 = .ok (.getfield 49, 3) := by decide +kernel
theorem dX6_change_65 : decode cX6_change 65 = .ok (.aload 4, 2) := by decide +kernel
theorem dX6_change_67 : decode cX6_change 67 = .ok (.aload 5, 2) := by decide +kernel
theorem dX6_change_69 : decode cX6_change 69 = .ok (.invokevirtual 323, 3) := by decide +kernel
theorem dX6_change_72 : decode cX6_change 72 = .ok (.ifCond .ne 8, 3) := by decide +kernel
theorem dX6_change_75 : decode cX6_change 75 = .ok (.bipush (-9), 2) := by decide +kernel
theorem dX6_change_77 : decode cX6_change 77 = .ok (.goto 11, 3) := by decide +kernel
theorem dX6_change_80 : decode cX6_change 80 = .ok (.aload_n 0, 1) := by decide +kernel
theorem dX6_change_81 : decode cX6_change 81 = .ok (.getfield 49, 3) := by decide +kernel
theorem dX6_change_84 : decode cX6_change 84 = .ok (.iload_n 3, 1) := by decide +kernel
theorem dX6_change_85 : decode cX6_change 85 = .ok (.invokevirtual 327, 3) := by decide +kernel
theorem dX6_change_88 : decode cX6_change 88 = .ok (.ireturn, 1) := by decide +kernel
theorem dX6_sheet_0 : decode cX6_sheet 0 = .ok (.aload_n 0, 1) := by decide +kernel
theorem dX6_sheet_1 : decode cX6_sheet 1 = .ok (.iconst 0, 1) := by decide +kernel
theorem dX6_sheet_2 : decode cX6_sheet 2 = .ok (.putfield 65, 3) := by decide +kernel
theorem dX6_sheet_5 : decode cX6_sheet 5 = .ok (.aload_n 0, 1) := by decide +kernel
theorem dX6_sheet_6 : decode cX6_sheet 6 = .ok (.iload_n 1, 1) := by decide +kernel
theorem dX6_sheet_7 : decode cX6_sheet 7 = .ok (.invokevirtual 70, 3) := by decide +kernel
theorem dX6_sheet_10 : decode cX6_sheet 10 = .ok (.astore 4, 2) := by decide +kernel
theorem dX6_sheet_12 : decode cX6_sheet 12 = .ok (.aload 4, 2) := by decide +kernel
theorem dX6_sheet_14 : decode cX6_sheet 14 = .ok (.ifnonnull 5, 3) := by decide +kernel
theorem dX6_sheet_17 : decode cX6_sheet 17 = .ok (.iconst (-1), 1) := by decide +kernel
theorem dX6_sheet_18 : decode cX6_sheet 18 = .ok (.ireturn, 1) := by decide +kernel
theorem dX6_sheet_19 : decode cX6_sheet 19 = .ok (.iload_n 2, 1) := by decide +kernel
theorem dX6_sheet_20 : decode cX6_sheet 20 = .ok (.invokestatic 74, 3) := by decide +kernel
theorem dX6_sheet_23 : decode cX6_sheet 23 = .ok (.ifCond .eq 9, 3) := by decide +kernel
theorem dX6_sheet_26 : decode cX6_sheet 26 = .ok (.iload_n 3, 1) := by decide +kernel
theorem dX6_sheet_27 : decode cX6_sheet 27 = .ok (.bipush 60, 2) := by decide +kernel
theorem dX6_sheet_29 : decode cX6_sheet 29 = .ok (.if_icmp .le 6, 3) := by decide +kernel
theorem dX6_sheet_32 : decode cX6_sheet 32 = .ok (.bipush (-2), 2) := by decide +kernel
theorem dX6_sheet_34 : decode cX6_sheet 34 = .ok (.ireturn, 1) := by decide +kernel
theorem dX6_sheet_35 : decode cX6_sheet 35 = .ok (.iload_n 3, 1) := by decide +kernel
theorem dX6_sheet_36 : decode cX6_sheet 36 = .ok (.ifCond .ge 9, 3) := by decide +kernel
theorem dX6_sheet_39 : decode cX6_sheet 39 = .ok (.aload_n 0, 1) := by decide +kernel
theorem dX6_sheet_40 : decode cX6_sheet 40 = .ok (.iconst 4, 1) := by decide +kernel
theorem dX6_sheet_41 : decode cX6_sheet 41 = .ok (.invokevirtual 82, 3) := by decide +kernel
theorem dX6_sheet_44 : decode cX6_sheet 44 = .ok (.ireturn, 1) := by decide +kernel
theorem dX6_sheet_45 : decode cX6_sheet 45 = .ok (.aload 4, 2) := by decide +kernel
theorem dX6_sheet_47 : decode cX6_sheet 47 = .ok (.iload_n 2, 1) := by decide +kernel
theorem dX6_sheet_48 : decode cX6_sheet 48 = .ok (.iload_n 3, 1) := by decide +kernel
theorem dX6_sheet_49 : decode cX6_sheet 49 = .ok (.invokevirtual 330, 3) := by decide +kernel
theorem dX6_sheet_52 : decode cX6_sheet 52 = .ok (.iconst 1, 1) := by decide +kernel
theorem dX6_sheet_53 : decode cX6_sheet 53 = .ok (.ireturn, 1) := by decide +kernel
theorem dX6_lose_0 : decode cX6_lose 0 = .ok (.aload_n 0, 1) := by decide +kernel
theorem dX6_lose_1 : decode cX6_lose 1 = .ok (.iload_n 1, 1) := by decide +kernel
theorem dX6_lose_2 : decode cX6_lose 2 = .ok (.invokevirtual 70, 3) := by decide +kernel
theorem dX6_lose_5 : decode cX6_lose 5 = .ok (.astore_n 2, 1) := by decide +kernel
theorem dX6_lose_6 : decode cX6_lose 6 = .ok (.aload_n 2, 1) := by decide +kernel
theorem dX6_lose_7 : decode cX6_lose 7 = .ok (.ifnonnull 5, 3) := by decide +kernel
theorem dX6_lose_10 : decode cX6_lose 10 = .ok (.iconst (-1), 1) := by decide +kernel
theorem dX6_lose_11 : decode cX6_lose 11 = .ok (.ireturn, 1) := by decide +kernel
theorem dX6_lose_12 : decode cX6_lose 12 = .ok (.aload_n 2, 1) := by decide +kernel
theorem dX6_lose_13 : decode cX6_lose 13 = .ok (.invokevirtual 333, 3) := by decide +kernel
theorem dX6_lose_16 : decode cX6_lose 16 = .ok (.ifCond .ne 7, 3) := by decide +kernel
theorem dX6_lose_19 : decode cX6_lose 19 = .ok (.iconst 1, 1) := by decide +kernel
theorem dX6_lose_20 : decode cX6_lose 20 = .ok (.goto 4, 3) := by decide +kernel
theorem dX6_lose_23 : decode cX6_lose 23 = .ok (.iconst 0, 1) := by decide +kernel
theorem dX6_lose_24 : decode cX6_lose 24 = .ok (.istore_n 3, 1) := by decide +kernel
theorem dX6_lose_25 : decode cX6_lose 25 = .ok (.aload_n 2, 1) := by decide +kernel
theorem dX6_lose_26 : decode cX6_lose 26 = .ok (.bipush (-9), 2) := by decide +kernel
theorem dX6_lose_28 : decode cX6_lose 28 = .ok (.iconst 0, 1) := by decide +kernel
theorem dX6_lose_29 : decode cX6_lose 29 = .ok (.invokevirtual 330, 3) := by decide +kernel
theorem dX6_lose_32 : decode cX6_lose 32 = .ok (.iload_n 3, 1) := by decide +kernel
theorem dX6_lose_33 : decode cX6_lose 33 = .ok (.ifCond .eq 7, 3) := by decide +kernel
theorem dX6_lose_36 : decode cX6_lose 36 = .ok (.iconst 1, 1) := by decide +kernel
theorem dX6_lose_37 : decode cX6_lose 37 = .ok (.goto 4, 3) := by decide +kernel
theorem dX6_lose_40 : decode cX6_lose 40 = .ok (.iconst 0, 1) := by decide +kernel
theorem dX6_lose_41 : decode cX6_lose 41 = .ok (.ireturn, 1) := by decide +kernel
theorem dX6_put_0 : decode cX6_put 0 = .ok (.aload_n 0, 1) := by decide +kernel
theorem dX6_put_1 : decode cX6_put 1 = .ok (.iconst 0, 1) := by decide +kernel
theorem dX6_put_2 : decode cX6_put 2 = .ok (.putfield 65, 3) := by decide +kernel
theorem dX6_put_5 : decode cX6_put 5 = .ok (.aload_n 0, 1) := by decide +kernel
theorem dX6_put_6 : decode cX6_put 6 = .ok (.iload_n 1, 1) := by decide +kernel
theorem dX6_put_7 : decode cX6_put 7 = .ok (.invokevirtual 70, 3) := by decide +kernel
theorem dX6_put_10 : decode cX6_put 10 = .ok (.astore 4, 2) := by decide +kernel
theorem dX6_put_12 : decode cX6_put 12 = .ok (.aload 4, 2) := by decide +kernel
theorem dX6_put_14 : decode cX6_put 14 = .ok (.ifnonnull 5, 3) := by decide +kernel
theorem dX6_put_17 : decode cX6_put 17 = .ok (.iconst (-1), 1) := by decide +kernel
theorem dX6_put_18 : decode cX6_put 18 = .ok (.ireturn, 1) := by decide +kernel
theorem dX6_put_19 : decode cX6_put 19 = .ok (.aload 4, 2) := by decide +kernel
theorem dX6_put_21 : decode cX6_put 21 = .ok (.invokevirtual 333, 3) := by decide +kernel
theorem dX6_put_24 : decode cX6_put 24 = .ok (.ifCond .eq 9, 3) := by decide +kernel
theorem dX6_put_27 : decode cX6_put 27 = .ok (.aload_n 0, 1) := by decide +kernel
theorem dX6_put_28 : decode cX6_put 28 = .ok (.iconst 1, 1) := by decide +kernel
theorem dX6_put_29 : decode cX6_put 29 = .ok (.invokevirtual 82, 3) := by decide +kernel
theorem dX6_put_32 : decode cX6_put 32 = .ok (.ireturn, 1) := by decide +kernel
theorem dX6_put_33 : decode cX6_put 33 = .ok (.iload_n 2, 1) := by decide +kernel
theorem dX6_put_34 : decode cX6_put 34 = .ok (.iconst 0, 1) := by decide +kernel
theorem dX6_put_35 : decode cX6_put 35 = .ok (.aload 4, 2) := by decide +kernel
theorem dX6_put_37 : decode cX6_put 37 = .ok (.getfield 336, 3) := by decide +kernel
theorem dX6_put_40 : decode cX6_put 40 = .ok (.iconst 1, 1) := by decide +kernel
theorem dX6_put_41 : decode cX6_put 41 = .ok (.isub, 1) := by decide +kernel
theorem dX6_put_42 : decode cX6_put 42 = .ok (.invokestatic 61, 3) := by decide +kernel
theorem dX6_put_45 : decode cX6_put 45 = .ok (.ifCond .ne 9, 3) := by decide +kernel
theorem dX6_put_48 : decode cX6_put 48 = .ok (.aload_n 0, 1) := by decide +kernel
theorem dX6_put_49 : decode cX6_put 49 = .ok (.iconst 3, 1) := by decide +kernel
theorem dX6_put_50 : decode cX6_put 50 = .ok (.invokevirtual 82, 3) := by decide +kernel
theorem dX6_put_53 : decode cX6_put 53 = .ok (.ireturn, 1) := by decide +kernel
theorem dX6_put_54 : decode cX6_put 54 = .ok (.aload 4, 2) := by decide +kernel
theorem dX6_put_56 : decode cX6_put 56 = .ok (.getfield 102, 3) := by decide +kernel
theorem dX6_put_59 : decode cX6_put 59 = .ok (.iload_n 2, 1) := by decide +kernel
theorem dX6_put_60 : decode cX6_put 60 = .ok (.aload 4, 2) := by decide +kernel
theorem dX6_put_62 : decode cX6_put 62 = .ok (.iload_n 3, 1) := by decide +kernel
theorem dX6_put_63 : decode cX6_put 63 = .ok (.invokevirtual 339, 3) := by decide +kernel
theorem dX6_put_66 : decode cX6_put 66 = .ok (.iastore, 1) := by decide +kernel
theorem dX6_put_67 : decode cX6_put 67 = .ok (.iconst 1, 1) := by decide +kernel
theorem dX6_put_68 : decode cX6_put 68 = .ok (.ireturn, 1) := by decide +kernel
theorem dX6_cell_0 : decode cX6_cell 0 = .ok (.aload_n 0, 1) := by decide +kernel
theorem dX6_cell_1 : decode cX6_cell 1 = .ok (.iconst 0, 1) := by decide +kernel
theorem dX6_cell_2 : decode cX6_cell 2 = .ok (.putfield 65, 3) := by decide +kernel
theorem dX6_cell_5 : decode cX6_cell 5 = .ok (.aload_n 0, 1) := by decide +kernel
theorem dX6_cell_6 : decode cX6_cell 6 = .ok (.iload_n 1, 1) := by decide +kernel
theorem dX6_cell_7 : decode cX6_cell 7 = .ok (.invokevirtual 70, 3) := by decide +kernel
theorem dX6_cell_10 : decode cX6_cell 10 = .ok (.astore 4, 2) := by decide +kernel
theorem dX6_cell_12 : decode cX6_cell 12 = .ok (.aload 4, 2) := by decide +kernel
theorem dX6_cell_14 : decode cX6_cell 14 = .ok (.ifnull 10, 3) := by decide +kernel
theorem dX6_cell_17 : decode cX6_cell 17 = .ok (.iload_n 3, 1) := by decide +kernel
theorem dX6_cell_18 : decode cX6_cell 18 = .ok (.invokestatic 74, 3) := by decide +kernel
theorem dX6_cell_21 : decode cX6_cell 21 = .ok (.ifCond .ne 7, 3) := by decide +kernel
theorem dX6_cell_24 : decode cX6_cell 24 = .ok (.ldc2_w 68, 3) := by decide +kernel
theorem dX6_cell_27 : decode cX6_cell 27 = .ok (.lreturn, 1) := by decide +kernel
theorem dX6_cell_28 : decode cX6_cell 28 = .ok (.aload 4, 2) := by decide +kernel
theorem dX6_cell_30 : decode cX6_cell 30 = .ok (.iload_n 3, 1) := by decide +kernel
theorem dX6_cell_31 : decode cX6_cell 31 = .ok (.invokevirtual 342, 3) := by decide +kernel
theorem dX6_cell_34 : decode cX6_cell 34 = .ok (.ifCond .ne 9, 3) := by decide +kernel
theorem dX6_cell_37 : decode cX6_cell 37 = .ok (.aload_n 0, 1) := by decide +kernel
theorem dX6_cell_38 : decode cX6_cell 38 = .ok (.iconst 2, 1) := by decide +kernel
theorem dX6_cell_39 : decode cX6_cell 39 = .ok (.invokevirtual 345, 3) := by decide +kernel
theorem dX6_cell_42 : decode cX6_cell 42 = .ok (.lreturn, 1) := by decide +kernel
theorem dX6_cell_43 : decode cX6_cell 43 = .ok (.aload 4, 2) := by decide +kernel
theorem dX6_cell_45 : decode cX6_cell 45 = .ok (.invokevirtual 333, 3) := by decide +kernel
theorem dX6_cell_48 : decode cX6_cell 48 = .ok (.ifCond .eq 9, 3) := by decide +kernel
theorem dX6_cell_51 : decode cX6_cell 51 = .ok (.aload_n 0, 1) := by decide +kernel
theorem dX6_cell_52 : decode cX6_cell 52 = .ok (.iconst 1, 1) := by decide +kernel
theorem dX6_cell_53 : decode cX6_cell 53 = .ok (.invokevirtual 345, 3) := by decide +kernel
theorem dX6_cell_56 : decode cX6_cell 56 = .ok (.lreturn, 1) := by decide +kernel
theorem dX6_cell_57 : decode cX6_cell 57 = .ok (.iload_n 2, 1) := by decide +kernel
theorem dX6_cell_58 : decode cX6_cell 58 = .ok (.iconst 0, 1) := by decide +kernel
theorem dX6_cell_59 : decode cX6_cell 59 = .ok (.aload 4, 2) := by decide +kernel
theorem dX6_cell_61 : decode cX6_cell 61 = .ok (.getfield 336, 3) := by decide +kernel
theorem dX6_cell_64 : decode cX6_cell 64 = .ok (.iconst 1, 1) := by decide +kernel
theorem dX6_cell_65 : decode cX6_cell 65 = .ok (.isub, 1) := by decide +kernel
theorem dX6_cell_66 : decode cX6_cell 66 = .ok (.invokestatic 61, 3) := by decide +kernel
theorem dX6_cell_69 : decode cX6_cell 69 = .ok (.ifCond .ne 9, 3) := by decide +kernel
theorem dX6_cell_72 : decode cX6_cell 72 = .ok (.aload_n 0, 1) := by decide +kernel
theorem dX6_cell_73 : decode cX6_cell 73 = .ok (.iconst 3, 1) := by decide +kernel
theorem dX6_cell_74 : decode cX6_cell 74 = .ok (.invokevirtual 345, 3) := by decide +kernel
theorem dX6_cell_77 : decode cX6_cell 77 = .ok (.lreturn, 1) := by decide +kernel
theorem dX6_cell_78 : decode cX6_cell 78 = .ok (.aload 4, 2) := by decide +kernel
theorem dX6_cell_80 : decode cX6_cell 80 = .ok (.getfield 102, 3) := by decide +kernel
theorem dX6_cell_83 : decode cX6_cell 83 = .ok (.iload_n 2, 1) := by decide +kernel
theorem dX6_cell_84 : decode cX6_cell 84 = .ok (.iaload, 1) := by decide +kernel
theorem dX6_cell_85 : decode cX6_cell 85 = .ok (.i2l, 1) := by decide +kernel
theorem dX6_cell_86 : decode cX6_cell 86 = .ok (.lreturn, 1) := by decide +kernel
theorem dX6_copy_0 : decode cX6_copy 0 = .ok (.aload_n 0, 1) := by decide +kernel
theorem dX6_copy_1 : decode cX6_copy 1 = .ok (.iconst 0, 1) := by decide +kernel
theorem dX6_copy_2 : decode cX6_copy 2 = .ok (.putfield 65, 3) := by decide +kernel
theorem dX6_copy_5 : decode cX6_copy 5 = .ok (.aload_n 0, 1) := by decide +kernel
theorem dX6_copy_6 : decode cX6_copy 6 = .ok (.iload_n 1, 1) := by decide +kernel
theorem dX6_copy_7 : decode cX6_copy 7 = .ok (.invokevirtual 70, 3) := by decide +kernel
theorem dX6_copy_10 : decode cX6_copy 10 = .ok (.astore 6, 2) := by decide +kernel
theorem dX6_copy_12 : decode cX6_copy 12 = .ok (.aload_n 0, 1) := by decide +kernel
theorem dX6_copy_13 : decode cX6_copy 13 = .ok (.iload_n 3, 1) := by decide +kernel
theorem dX6_copy_14 : decode cX6_copy 14 = .ok (.invokevirtual 70, 3) := by decide +kernel
theorem dX6_copy_17 : decode cX6_copy 17 = .ok (.astore 7, 2) := by decide +kernel
theorem dX6_copy_19 : decode cX6_copy 19 = .ok (.aload 6, 2) := by decide +kernel
theorem dX6_copy_21 : decode cX6_copy 21 = .ok (.ifnull 8, 3) := by decide +kernel
theorem dX6_copy_24 : decode cX6_copy 24 = .ok (.aload 7, 2) := by decide +kernel
theorem dX6_copy_26 : decode cX6_copy 26 = .ok (.ifnonnull 5, 3) := by decide +kernel
theorem dX6_copy_29 : decode cX6_copy 29 = .ok (.iconst (-1), 1) := by decide +kernel
theorem dX6_copy_30 : decode cX6_copy 30 = .ok (.ireturn, 1) := by decide +kernel
theorem dX6_copy_31 : decode cX6_copy 31 = .ok (.aload 6, 2) := by decide +kernel
theorem dX6_copy_33 : decode cX6_copy 33 = .ok (.invokevirtual 333, 3) := by decide +kernel
theorem dX6_copy_36 : decode cX6_copy 36 = .ok (.ifCond .ne 11, 3) := by decide +kernel
theorem dX6_copy_39 : decode cX6_copy 39 = .ok (.aload 7, 2) := by decide +kernel
theorem dX6_copy_41 : decode cX6_copy 41 = .ok (.invokevirtual 333, 3) := by decide +kernel
theorem dX6_copy_44 : decode cX6_copy 44 = .ok (.ifCond .eq 9, 3) := by decide +kernel
theorem dX6_copy_47 : decode cX6_copy 47 = .ok (.aload_n 0, 1) := by decide +kernel
theorem dX6_copy_48 : decode cX6_copy 48 = .ok (.iconst 1, 1) := by decide +kernel
theorem dX6_copy_49 : decode cX6_copy 49 = .ok (.invokevirtual 82, 3) := by decide +kernel
theorem dX6_copy_52 : decode cX6_copy 52 = .ok (.ireturn, 1) := by decide +kernel
theorem dX6_copy_53 : decode cX6_copy 53 = .ok (.aload 6, 2) := by decide +kernel
theorem dX6_copy_55 : decode cX6_copy 55 = .ok (.getfield 349, 3) := by decide +kernel
theorem dX6_copy_58 : decode cX6_copy 58 = .ok (.aload 7, 2) := by decide +kernel
theorem dX6_copy_60 : decode cX6_copy 60 = .ok (.getfield 349, 3) := by decide +kernel
theorem dX6_copy_63 : decode cX6_copy 63 = .ok (.if_icmp .eq 9, 3) := by decide +kernel
theorem dX6_copy_66 : decode cX6_copy 66 = .ok (.aload_n 0, 1) := by decide +kernel
theorem dX6_copy_67 : decode cX6_copy 67 = .ok (.iconst 2, 1) := by decide +kernel
theorem dX6_copy_68 : decode cX6_copy 68 = .ok (.invokevirtual 82, 3) := by decide +kernel
theorem dX6_copy_71 : decode cX6_copy 71 = .ok (.ireturn, 1) := by decide +kernel
theorem dX6_copy_72 : decode cX6_copy 72 = .ok (.iload 5, 2) := by decide +kernel
theorem dX6_copy_74 : decode cX6_copy 74 = .ok (.ifCond .lt 26, 3) := by decide +kernel
theorem dX6_copy_77 : decode cX6_copy 77 = .ok (.aload 6, 2) := by decide +kernel
theorem dX6_copy_79 : decode cX6_copy 79 = .ok (.iload_n 2, 1) := by decide +kernel
theorem dX6_copy_80 : decode cX6_copy 80 = .ok (.iload 5, 2) := by decide +kernel
theorem dX6_copy_82 : decode cX6_copy 82 = .ok (.invokevirtual 352, 3) := by decide +kernel
theorem dX6_copy_85 : decode cX6_copy 85 = .ok (.ifCond .eq 15, 3) := by decide +kernel
theorem dX6_copy_88 : decode cX6_copy 88 = .ok (.aload 7, 2) := by decide +kernel
theorem dX6_copy_90 : decode cX6_copy 90 = .ok (.iload 4, 2) := by decide +kernel
theorem dX6_copy_92 : decode cX6_copy 92 = .ok (.iload 5, 2) := by decide +kernel
theorem dX6_copy_94 : decode cX6_copy 94 = .ok (.invokevirtual 352, 3) := by decide +kernel
theorem dX6_copy_97 : decode cX6_copy 97 = .ok (.ifCond .ne 9, 3) := by decide +kernel
theorem dX6_copy_100 : decode cX6_copy 100 = .ok (.aload_n 0, 1) := by decide +kernel
theorem dX6_copy_101 : decode cX6_copy 101 = .ok (.iconst 3, 1) := by decide +kernel
theorem dX6_copy_102 : decode cX6_copy 102 = .ok (.invokevirtual 82, 3) := by decide +kernel
theorem dX6_copy_105 : decode cX6_copy 105 = .ok (.ireturn, 1) := by decide +kernel
theorem dX6_copy_106 : decode cX6_copy 106 = .ok (.aload 6, 2) := by decide +kernel
theorem dX6_copy_108 : decode cX6_copy 108 = .ok (.getfield 102, 3) := by decide +kernel
theorem dX6_copy_111 : decode cX6_copy 111 = .ok (.iload_n 2, 1) := by decide +kernel
theorem dX6_copy_112 : decode cX6_copy 112 = .ok (.aload 7, 2) := by decide +kernel
theorem dX6_copy_114 : decode cX6_copy 114 = .ok (.getfield 102, 3) := by decide +kernel
theorem dX6_copy_117 : decode cX6_copy 117 = .ok (.iload 4, 2) := by decide +kernel
theorem dX6_copy_119 : decode cX6_copy 119 = .ok (.iload 5, 2) := by decide +kernel
theorem dX6_copy_121 : decode cX6_copy 121 = .ok (.invokestatic 235, 3) := by decide +kernel
theorem dX6_copy_124 : decode cX6_copy 124 = .ok (.iload 5, 2) := by decide +kernel
theorem dX6_copy_126 : decode cX6_copy 126 = .ok (.ireturn, 1) := by decide +kernel
theorem dX6_tell_0 : decode cX6_tell 0 = .ok (.aload_n 0, 1) := by decide +kernel
theorem dX6_tell_1 : decode cX6_tell 1 = .ok (.iload_n 1, 1) := by decide +kernel
theorem dX6_tell_2 : decode cX6_tell 2 = .ok (.invokevirtual 267, 3) := by decide +kernel
theorem dX6_tell_5 : decode cX6_tell 5 = .ok (.astore_n 2, 1) := by decide +kernel
theorem dX6_tell_6 : decode cX6_tell 6 = .ok (.aload_n 2, 1) := by decide +kernel
theorem dX6_tell_7 : decode cX6_tell 7 = .ok (.ifnonnull 5, 3) := by decide +kernel
theorem dX6_tell_10 : decode cX6_tell 10 = .ok (.iconst (-1), 1) := by decide +kernel
theorem dX6_tell_11 : decode cX6_tell 11 = .ok (.ireturn, 1) := by decide +kernel
theorem dX6_tell_12 : decode cX6_tell 12 = .ok (.aload_n 2, 1) := by decide +kernel
theorem dX6_tell_13 : decode cX6_tell 13 = .ok (.getfield 271, 3) := by decide +kernel
theorem dX6_tell_16 : decode cX6_tell 16 = .ok (.lookupswitch 40 #[(1, 34), (2, 28)], 28) := by decide +kernel
theorem dX6_tell_44 : decode cX6_tell 44 = .ok (.aload_n 0, 1) := by decide +kernel
theorem dX6_tell_45 : decode cX6_tell 45 = .ok (.aload_n 2, 1) := by decide +kernel
theorem dX6_tell_46 : decode cX6_tell 46 = .ok (.invokevirtual 355, 3) := by decide +kernel
theorem dX6_tell_49 : decode cX6_tell 49 = .ok (.ireturn, 1) := by decide +kernel
theorem dX6_tell_50 : decode cX6_tell 50 = .ok (.aload_n 0, 1) := by decide +kernel
theorem dX6_tell_51 : decode cX6_tell 51 = .ok (.aload_n 2, 1) := by decide +kernel
theorem dX6_tell_52 : decode cX6_tell 52 = .ok (.invokevirtual 359, 3) := by decide +kernel
theorem dX6_tell_55 : decode cX6_tell 55 = .ok (.ireturn, 1) := by decide +kernel
theorem dX6_tell_56 : decode cX6_tell 56 = .ok (.aload_n 0, 1) := by decide +kernel
theorem dX6_tell_57 : decode cX6_tell 57 = .ok (.aload_n 2, 1) := by decide +kernel
theorem dX6_tell_58 : decode cX6_tell 58 = .ok (.invokevirtual 362, 3) := by decide +kernel
theorem dX6_tell_61 : decode cX6_tell 61 = .ok (.ireturn, 1) := by decide +kernel
theorem dX6_blindTells_0 : decode cX6_blindTells 0 = .ok (.aload_n 0, 1) := by decide +kernel
theorem dX6_blindTells_1 : decode cX6_blindTells 1 = .ok (.iconst 1, 1) := by decide +kernel
theorem dX6_blindTells_2 : decode cX6_blindTells 2 = .ok (.invokevirtual 365, 3) := by decide +kernel
theorem dX6_blindTells_5 : decode cX6_blindTells 5 = .ok (.aload_n 1, 1) := by decide +kernel
theorem dX6_blindTells_6 : decode cX6_blindTells 6 = .ok (.getfield 278, 3) := by decide +kernel
theorem dX6_blindTells_9 : decode cX6_blindTells 9 = .ok (.ireturn, 1) := by decide +kernel
theorem dX6_seerTells_0 : decode cX6_seerTells 0 = .ok (.aload_n 0, 1) := by decide +kernel
theorem dX6_seerTells_1 : decode cX6_seerTells 1 = .ok (.iconst 2, 1) := by decide +kernel
theorem dX6_seerTells_2 : decode cX6_seerTells 2 = .ok (.invokevirtual 365, 3) := by decide +kernel
theorem dX6_seerTells_5 : decode cX6_seerTells 5 = .ok (.aload_n 0, 1) := by decide +kernel
theorem dX6_seerTells_6 : decode cX6_seerTells 6 = .ok (.aload_n 1, 1) := by decide +kernel
theorem dX6_seerTells_7 : decode cX6_seerTells 7 = .ok (.invokevirtual 362, 3) := by decide +kernel
theorem dX6_seerTells_10 : decode cX6_seerTells 10 = .ok (.bipush 100, 2) := by decide +kernel
theorem dX6_seerTells_12 : decode cX6_seerTells 12 = .ok (.iadd, 1) := by decide +kernel
theorem dX6_seerTells_13 : decode cX6_seerTells 13 = .ok (.ireturn, 1) := by decide +kernel
theorem dX6_waryTells_0 : decode cX6_waryTells 0 = .ok (.aload_n 0, 1) := by decide +kernel
theorem dX6_waryTells_1 : decode cX6_waryTells 1 = .ok (.iconst 3, 1) := by decide +kernel
theorem dX6_waryTells_2 : decode cX6_waryTells 2 = .ok (.invokevirtual 365, 3) := by decide +kernel
theorem dX6_waryTells_5 : decode cX6_waryTells 5 = .ok (.aload_n 0, 1) := by decide +kernel
theorem dX6_waryTells_6 : decode cX6_waryTells 6 = .ok (.aload_n 1, 1) := by decide +kernel
theorem dX6_waryTells_7 : decode cX6_waryTells 7 = .ok (.invokevirtual 359, 3) := by decide +kernel
theorem dX6_waryTells_10 : decode cX6_waryTells 10 = .ok (.aload_n 0, 1) := by decide +kernel
theorem dX6_waryTells_11 : decode cX6_waryTells 11 = .ok (.aload_n 1, 1) := by decide +kernel
theorem dX6_waryTells_12 : decode cX6_waryTells 12 = .ok (.invokevirtual 362, 3) := by decide +kernel
theorem dX6_waryTells_15 : decode cX6_waryTells 15 = .ok (.iadd, 1) := by decide +kernel
theorem dX6_waryTells_16 : decode cX6_waryTells 16 = .ok (.ireturn, 1) := by decide +kernel
theorem dX6_leave_0 : decode cX6_leave 0 = .ok (.aload_n 0, 1) := by decide +kernel
theorem dX6_leave_1 : decode cX6_leave 1 = .ok (.bipush 31, 2) := by decide +kernel
theorem dX6_leave_3 : decode cX6_leave 3 = .ok (.aload_n 0, 1) := by decide +kernel
theorem dX6_leave_4 : decode cX6_leave 4 = .ok (.getfield 369, 3) := by decide +kernel
theorem dX6_leave_7 : decode cX6_leave 7 = .ok (.imul, 1) := by decide +kernel
theorem dX6_leave_8 : decode cX6_leave 8 = .ok (.iload_n 1, 1) := by decide +kernel
theorem dX6_leave_9 : decode cX6_leave 9 = .ok (.iadd, 1) := by decide +kernel
theorem dX6_leave_10 : decode cX6_leave 10 = .ok (.putfield 369, 3) := by decide +kernel
theorem dX6_leave_13 : decode cX6_leave 13 = .ok (.return_, 1) := by decide +kernel
theorem dX6_greet_0 : decode cX6_greet 0 = .ok (.aload_n 0, 1) := by decide +kernel
theorem dX6_greet_1 : decode cX6_greet 1 = .ok (.iload_n 1, 1) := by decide +kernel
theorem dX6_greet_2 : decode cX6_greet 2 = .ok (.invokevirtual 267, 3) := by decide +kernel
theorem dX6_greet_5 : decode cX6_greet 5 = .ok (.astore_n 2, 1) := by decide +kernel
theorem dX6_greet_6 : decode cX6_greet 6 = .ok (.aload_n 2, 1) := by decide +kernel
theorem dX6_greet_7 : decode cX6_greet 7 = .ok (.ifnonnull 5, 3) := by decide +kernel
theorem dX6_greet_10 : decode cX6_greet 10 = .ok (.iconst (-1), 1) := by decide +kernel
theorem dX6_greet_11 : decode cX6_greet 11 = .ok (.ireturn, 1) := by decide +kernel
theorem dX6_greet_12 : decode cX6_greet 12 = .ok (.aload_n 2, 1) := by decide +kernel
theorem dX6_greet_13 : decode cX6_greet 13 = .ok (.getfield 271, 3) := by decide +kernel
theorem dX6_greet_16 : decode cX6_greet 16 = .ok (.iconst 2, 1) := by decide +kernel
theorem dX6_greet_17 : decode cX6_greet 17 = .ok (.if_icmp .ne 11, 3) := by decide +kernel
theorem dX6_greet_20 : decode cX6_greet 20 = .ok (.aload_n 0, 1) := by decide +kernel
theorem dX6_greet_21 : decode cX6_greet 21 = .ok (.iconst 5, 1) := by decide +kernel
theorem dX6_greet_22 : decode cX6_greet 22 = .ok (.invokevirtual 365, 3) := by decide +kernel
theorem dX6_greet_25 : decode cX6_greet 25 = .ok (.bipush 70, 2) := by decide +kernel
theorem dX6_greet_27 : decode cX6_greet 27 = .ok (.ireturn, 1) := by decide +kernel
theorem dX6_greet_28 : decode cX6_greet 28 = .ok (.aload_n 0, 1) := by decide +kernel
theorem dX6_greet_29 : decode cX6_greet 29 = .ok (.iconst 4, 1) := by decide +kernel
theorem dX6_greet_30 : decode cX6_greet 30 = .ok (.invokevirtual 365, 3) := by decide +kernel
theorem dX6_greet_33 : decode cX6_greet 33 = .ok (.iload_n 1, 1) := by decide +kernel
theorem dX6_greet_34 : decode cX6_greet 34 = .ok (.ireturn, 1) := by decide +kernel
theorem dX6_as_0 : decode cX6_as 0 = .ok (.aload_n 0, 1) := by decide +kernel
theorem dX6_as_1 : decode cX6_as 1 = .ok (.iconst 0, 1) := by decide +kernel
theorem dX6_as_2 : decode cX6_as 2 = .ok (.putfield 65, 3) := by decide +kernel
theorem dX6_as_5 : decode cX6_as 5 = .ok (.aload_n 0, 1) := by decide +kernel
theorem dX6_as_6 : decode cX6_as 6 = .ok (.iload_n 1, 1) := by decide +kernel
theorem dX6_as_7 : decode cX6_as 7 = .ok (.invokevirtual 267, 3) := by decide +kernel
theorem dX6_as_10 : decode cX6_as 10 = .ok (.astore_n 3, 1) := by decide +kernel
theorem dX6_as_11 : decode cX6_as 11 = .ok (.aload_n 3, 1) := by decide +kernel
theorem dX6_as_12 : decode cX6_as 12 = .ok (.ifnonnull 5, 3) := by decide +kernel
theorem dX6_as_15 : decode cX6_as 15 = .ok (.iconst (-1), 1) := by decide +kernel
theorem dX6_as_16 : decode cX6_as 16 = .ok (.ireturn, 1) := by decide +kernel
theorem dX6_as_17 : decode cX6_as 17 = .ok (.iload_n 2, 1) := by decide +kernel
theorem dX6_as_18 : decode cX6_as 18 = .ok (.iconst 0, 1) := by decide +kernel
theorem dX6_as_19 : decode cX6_as 19 = .ok (.iconst 2, 1) := by decide +kernel
theorem dX6_as_20 : decode cX6_as 20 = .ok (.invokestatic 61, 3) := by decide +kernel
theorem dX6_as_23 : decode cX6_as 23 = .ok (.ifCond .ne 6, 3) := by decide +kernel
theorem dX6_as_26 : decode cX6_as 26 = .ok (.bipush (-2), 2) := by decide +kernel
theorem dX6_as_28 : decode cX6_as 28 = .ok (.ireturn, 1) := by decide +kernel
theorem dX6_as_29 : decode cX6_as 29 = .ok (.aload_n 3, 1) := by decide +kernel
theorem dX6_as_30 : decode cX6_as 30 = .ok (.getfield 271, 3) := by decide +kernel
theorem dX6_as_33 : decode cX6_as 33 = .ok (.iload_n 2, 1) := by decide +kernel
theorem dX6_as_34 : decode cX6_as 34 = .ok (.if_icmp .lt 7, 3) := by decide +kernel
theorem dX6_as_37 : decode cX6_as 37 = .ok (.iconst 1, 1) := by decide +kernel
theorem dX6_as_38 : decode cX6_as 38 = .ok (.goto 8, 3) := by decide +kernel
theorem dX6_as_41 : decode cX6_as 41 = .ok (.aload_n 0, 1) := by decide +kernel
theorem dX6_as_42 : decode cX6_as 42 = .ok (.iconst 2, 1) := by decide +kernel
theorem dX6_as_43 : decode cX6_as 43 = .ok (.invokevirtual 82, 3) := by decide +kernel
theorem dX6_as_46 : decode cX6_as 46 = .ok (.ireturn, 1) := by decide +kernel
theorem dX6_trace_0 : decode cX6_trace 0 = .ok (.aload_n 0, 1) := by decide +kernel
theorem dX6_trace_1 : decode cX6_trace 1 = .ok (.getfield 369, 3) := by decide +kernel
theorem dX6_trace_4 : decode cX6_trace 4 = .ok (.ireturn, 1) := by decide +kernel
theorem dX6_fault_0 : decode cX6_fault 0 = .ok (.aload_n 0, 1) := by decide +kernel
theorem dX6_fault_1 : decode cX6_fault 1 = .ok (.getfield 65, 3) := by decide +kernel
theorem dX6_fault_4 : decode cX6_fault 4 = .ok (.ireturn, 1) := by decide +kernel
theorem dX6_many_0 : decode cX6_many 0 = .ok (.iload_n 1, 1) := by decide +kernel
theorem dX6_many_1 : decode cX6_many 1 = .ok (.tableswitch 60 0 4 #[35, 40, 45, 50, 55], 35) := by decide +kernel
theorem dX6_many_36 : decode cX6_many 36 = .ok (.aload_n 0, 1) := by decide +kernel
theorem dX6_many_37 : decode cX6_many 37 = .ok (.getfield 54, 3) := by decide +kernel
theorem dX6_many_40 : decode cX6_many 40 = .ok (.ireturn, 1) := by decide +kernel
theorem dX6_many_41 : decode cX6_many 41 = .ok (.aload_n 0, 1) := by decide +kernel
theorem dX6_many_42 : decode cX6_many 42 = .ok (.getfield 208, 3) := by decide +kernel
theorem dX6_many_45 : decode cX6_many 45 = .ok (.ireturn, 1) := by decide +kernel
theorem dX6_many_46 : decode cX6_many 46 = .ok (.aload_n 0, 1) := by decide +kernel
theorem dX6_many_47 : decode cX6_many 47 = .ok (.getfield 241, 3) := by decide +kernel
theorem dX6_many_50 : decode cX6_many 50 = .ok (.ireturn, 1) := by decide +kernel
theorem dX6_many_51 : decode cX6_many 51 = .ok (.aload_n 0, 1) := by decide +kernel
theorem dX6_many_52 : decode cX6_many 52 = .ok (.getfield 58, 3) := by decide +kernel
theorem dX6_many_55 : decode cX6_many 55 = .ok (.ireturn, 1) := by decide +kernel
theorem dX6_many_56 : decode cX6_many 56 = .ok (.aload_n 0, 1) := by decide +kernel
theorem dX6_many_57 : decode cX6_many 57 = .ok (.invokevirtual 372, 3) := by decide +kernel
theorem dX6_many_60 : decode cX6_many 60 = .ok (.ireturn, 1) := by decide +kernel
theorem dX6_many_61 : decode cX6_many 61 = .ok (.bipush (-2), 2) := by decide +kernel
theorem dX6_many_63 : decode cX6_many 63 = .ok (.ireturn, 1) := by decide +kernel
theorem dX6_outs_0 : decode cX6_outs 0 = .ok (.iconst 0, 1) := by decide +kernel
theorem dX6_outs_1 : decode cX6_outs 1 = .ok (.istore_n 1, 1) := by decide +kernel
theorem dX6_outs_2 : decode cX6_outs 2 = .ok (.iconst 0, 1) := by decide +kernel
theorem dX6_outs_3 : decode cX6_outs 3 = .ok (.istore_n 2, 1) := by decide +kernel
theorem dX6_outs_4 : decode cX6_outs 4 = .ok (.iload_n 2, 1) := by decide +kernel
theorem dX6_outs_5 : decode cX6_outs 5 = .ok (.aload_n 0, 1) := by decide +kernel
theorem dX6_outs_6 : decode cX6_outs 6 = .ok (.getfield 58, 3) := by decide +kernel
theorem dX6_outs_9 : decode cX6_outs 9 = .ok (.if_icmp .ge 39, 3) := by decide +kernel
theorem dX6_outs_12 : decode cX6_outs 12 = .ok (.iload_n 2, 1) := by decide +kernel
theorem dX6_outs_13 : decode cX6_outs 13 = .ok (.aload_n 0, 1) := by decide +kernel
theorem dX6_outs_14 : decode cX6_outs 14 = .ok (.getfield 31, 3) := by decide +kernel
theorem dX6_outs_17 : decode cX6_outs 17 = .ok (.arraylength, 1) := by decide +kernel
theorem dX6_outs_18 : decode cX6_outs 18 = .ok (.if_icmp .ge 30, 3) := by decide +kernel
theorem dX6_outs_21 : decode cX6_outs 21 = .ok (.aload_n 0, 1) := by decide +kernel
theorem dX6_outs_22 : decode cX6_outs 22 = .ok (.getfield 31, 3) := by decide +kernel
theorem dX6_outs_25 : decode cX6_outs 25 = .ok (.iload_n 2, 1) := by decide +kernel
theorem dX6_outs_26 : decode cX6_outs 26 = .ok (.aaload, 1) := by decide +kernel
theorem dX6_outs_27 : decode cX6_outs 27 = .ok (.astore_n 3, 1) := by decide +kernel
theorem dX6_outs_28 : decode cX6_outs 28 = .ok (.aload_n 3, 1) := by decide +kernel
theorem dX6_outs_29 : decode cX6_outs 29 = .ok (.ifnull 13, 3) := by decide +kernel
theorem dX6_outs_32 : decode cX6_outs 32 = .ok (.aload_n 3, 1) := by decide +kernel
theorem dX6_outs_33 : decode cX6_outs 33 = .ok (.invokevirtual 259, 3) := by decide +kernel
theorem dX6_outs_36 : decode cX6_outs 36 = .ok (.ifCond .eq 6, 3) := by decide +kernel
theorem dX6_outs_39 : decode cX6_outs 39 = .ok (.iinc 1 1, 3) := by decide +kernel
theorem dX6_outs_42 : decode cX6_outs 42 = .ok (.iinc 2 1, 3) := by decide +kernel
theorem dX6_outs_45 : decode cX6_outs 45 = .ok (.goto (-41), 3) := by decide +kernel
theorem dX6_outs_48 : decode cX6_outs 48 = .ok (.iload_n 1, 1) := by decide +kernel
theorem dX6_outs_49 : decode cX6_outs 49 = .ok (.ireturn, 1) := by decide +kernel
