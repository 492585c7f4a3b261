/-! Decode rows by program. -/
theorem d_Routes_init_0 : decode b_Routes_init 0 = .ok (.aload_n 0, 1) := by decide +kernel
theorem d_Routes_init_1 : decode b_Routes_init 1 = .ok (.invokespecial 3, 3) := by decide +kernel
theorem d_Routes_init_4 : decode b_Routes_init 4 = .ok (.aload_n 0, 1) := by decide +kernel
theorem d_Routes_init_5 : decode b_Routes_init 5 = .ok (.bipush 12, 2) := by decide +kernel
theorem d_Routes_init_7 : decode b_Routes_init 7 = .ok (.bipush 12, 2) := by decide +kernel
theorem d_Routes_init_9 : decode b_Routes_init 9 = .ok (.multianewarray 9 2, 4) := by decide +kernel
theorem d_Routes_init_13 : decode b_Routes_init 13 = .ok (.putfield 11, 3) := by decide +kernel
theorem d_Routes_init_16 : decode b_Routes_init 16 = .ok (.aload_n 0, 1) := by decide +kernel
theorem d_Routes_init_17 : decode b_Routes_init 17 = .ok (.bipush 12, 2) := by decide +kernel
theorem d_Routes_init_19 : decode b_Routes_init 19 = .ok (.newarray .int, 2) := by decide +kernel
theorem d_Routes_init_21 : decode b_Routes_init 21 = .ok (.putfield 16, 3) := by decide +kernel
theorem d_Routes_init_24 : decode b_Routes_init 24 = .ok (.aload_n 0, 1) := by decide +kernel
theorem d_Routes_init_25 : decode b_Routes_init 25 = .ok (.bipush 12, 2) := by decide +kernel
theorem d_Routes_init_27 : decode b_Routes_init 27 = .ok (.bipush 12, 2) := by decide +kernel
theorem d_Routes_init_29 : decode b_Routes_init 29 = .ok (.multianewarray 9 2, 4) := by decide +kernel
theorem d_Routes_init_33 : decode b_Routes_init 33 = .ok (.putfield 20, 3) := by decide +kernel
theorem d_Routes_init_36 : decode b_Routes_init 36 = .ok (.aload_n 0, 1) := by decide +kernel
theorem d_Routes_init_37 : decode b_Routes_init 37 = .ok (.bipush 12, 2) := by decide +kernel
theorem d_Routes_init_39 : decode b_Routes_init 39 = .ok (.newarray .int, 2) := by decide +kernel
theorem d_Routes_init_41 : decode b_Routes_init 41 = .ok (.putfield 23, 3) := by decide +kernel
theorem d_Routes_init_44 : decode b_Routes_init 44 = .ok (.aload_n 0, 1) := by decide +kernel
theorem d_Routes_init_45 : decode b_Routes_init 45 = .ok (.bipush 12, 2) := by decide +kernel
theorem d_Routes_init_47 : decode b_Routes_init 47 = .ok (.newarray .int, 2) := by decide +kernel
theorem d_Routes_init_49 : decode b_Routes_init 49 = .ok (.putfield 26, 3) := by decide +kernel
theorem d_Routes_init_52 : decode b_Routes_init 52 = .ok (.aload_n 0, 1) := by decide +kernel
theorem d_Routes_init_53 : decode b_Routes_init 53 = .ok (.bipush 12, 2) := by decide +kernel
theorem d_Routes_init_55 : decode b_Routes_init 55 = .ok (.newarray .boolean, 2) := by decide +kernel
theorem d_Routes_init_57 : decode b_Routes_init 57 = .ok (.putfield 29, 3) := by decide +kernel
theorem d_Routes_init_60 : decode b_Routes_init 60 = .ok (.aload_n 0, 1) := by decide +kernel
theorem d_Routes_init_61 : decode b_Routes_init 61 = .ok (.aload_n 1, 1) := by decide +kernel
theorem d_Routes_init_62 : decode b_Routes_init 62 = .ok (.putfield 33, 3) := by decide +kernel
theorem d_Routes_init_65 : decode b_Routes_init 65 = .ok (.aload_n 0, 1) := by decide +kernel
theorem d_Routes_init_66 : decode b_Routes_init 66 = .ok (.aload_n 2, 1) := by decide +kernel
theorem d_Routes_init_67 : decode b_Routes_init 67 = .ok (.putfield 37, 3) := by decide +kernel
theorem d_Routes_init_70 : decode b_Routes_init 70 = .ok (.return_, 1) := by decide +kernel
theorem d_Routes_masksOf_0 : decode b_Routes_masksOf 0 = .ok (.aload_n 0, 1) := by decide +kernel
theorem d_Routes_masksOf_1 : decode b_Routes_masksOf 1 = .ok (.getfield 33, 3) := by decide +kernel
theorem d_Routes_masksOf_4 : decode b_Routes_masksOf 4 = .ok (.iload_n 1, 1) := by decide +kernel
theorem d_Routes_masksOf_5 : decode b_Routes_masksOf 5 = .ok (.invokevirtual 41, 3) := by decide +kernel
theorem d_Routes_masksOf_8 : decode b_Routes_masksOf 8 = .ok (.aload_n 0, 1) := by decide +kernel
theorem d_Routes_masksOf_9 : decode b_Routes_masksOf 9 = .ok (.getfield 37, 3) := by decide +kernel
theorem d_Routes_masksOf_12 : decode b_Routes_masksOf 12 = .ok (.invokevirtual 47, 3) := by decide +kernel
theorem d_Routes_masksOf_15 : decode b_Routes_masksOf 15 = .ok (.iadd, 1) := by decide +kernel
theorem d_Routes_masksOf_16 : decode b_Routes_masksOf 16 = .ok (.istore_n 2, 1) := by decide +kernel
theorem d_Routes_masksOf_17 : decode b_Routes_masksOf 17 = .ok (.aload_n 0, 1) := by decide +kernel
theorem d_Routes_masksOf_18 : decode b_Routes_masksOf 18 = .ok (.getfield 16, 3) := by decide +kernel
theorem d_Routes_masksOf_21 : decode b_Routes_masksOf 21 = .ok (.iload_n 1, 1) := by decide +kernel
theorem d_Routes_masksOf_22 : decode b_Routes_masksOf 22 = .ok (.iaload, 1) := by decide +kernel
theorem d_Routes_masksOf_23 : decode b_Routes_masksOf 23 = .ok (.iload_n 2, 1) := by decide +kernel
theorem d_Routes_masksOf_24 : decode b_Routes_masksOf 24 = .ok (.if_icmp .eq 15, 3) := by decide +kernel
theorem d_Routes_masksOf_27 : decode b_Routes_masksOf 27 = .ok (.aload_n 0, 1) := by decide +kernel
theorem d_Routes_masksOf_28 : decode b_Routes_masksOf 28 = .ok (.iload_n 1, 1) := by decide +kernel
theorem d_Routes_masksOf_29 : decode b_Routes_masksOf 29 = .ok (.invokevirtual 53, 3) := by decide +kernel
theorem d_Routes_masksOf_32 : decode b_Routes_masksOf 32 = .ok (.aload_n 0, 1) := by decide +kernel
theorem d_Routes_masksOf_33 : decode b_Routes_masksOf 33 = .ok (.getfield 16, 3) := by decide +kernel
theorem d_Routes_masksOf_36 : decode b_Routes_masksOf 36 = .ok (.iload_n 1, 1) := by decide +kernel
theorem d_Routes_masksOf_37 : decode b_Routes_masksOf 37 = .ok (.iload_n 2, 1) := by decide +kernel
theorem d_Routes_masksOf_38 : decode b_Routes_masksOf 38 = .ok (.iastore, 1) := by decide +kernel
theorem d_Routes_masksOf_39 : decode b_Routes_masksOf 39 = .ok (.aload_n 0, 1) := by decide +kernel
theorem d_Routes_masksOf_40 : decode b_Routes_masksOf 40 = .ok (.getfield 11, 3) := by decide +kernel
theorem d_Routes_masksOf_43 : decode b_Routes_masksOf 43 = .ok (.iload_n 1, 1) := by decide +kernel
theorem d_Routes_masksOf_44 : decode b_Routes_masksOf 44 = .ok (.aaload, 1) := by decide +kernel
theorem d_Routes_masksOf_45 : decode b_Routes_masksOf 45 = .ok (.areturn, 1) := by decide +kernel
theorem d_Routes_lengthOfWay_0 : decode b_Routes_lengthOfWay 0 = .ok (.aload_n 0, 1) := by decide +kernel
theorem d_Routes_lengthOfWay_1 : decode b_Routes_lengthOfWay 1 = .ok (.getfield 33, 3) := by decide +kernel
theorem d_Routes_lengthOfWay_4 : decode b_Routes_lengthOfWay 4 = .ok (.iload_n 1, 1) := by decide +kernel
theorem d_Routes_lengthOfWay_5 : decode b_Routes_lengthOfWay 5 = .ok (.aload_n 0, 1) := by decide +kernel
theorem d_Routes_lengthOfWay_6 : decode b_Routes_lengthOfWay 6 = .ok (.getfield 20, 3) := by decide +kernel
theorem d_Routes_lengthOfWay_9 : decode b_Routes_lengthOfWay 9 = .ok (.invokevirtual 57, 3) := by decide +kernel
theorem d_Routes_lengthOfWay_12 : decode b_Routes_lengthOfWay 12 = .ok (.aload_n 0, 1) := by decide +kernel
theorem d_Routes_lengthOfWay_13 : decode b_Routes_lengthOfWay 13 = .ok (.iload_n 1, 1) := by decide +kernel
theorem d_Routes_lengthOfWay_14 : decode b_Routes_lengthOfWay 14 = .ok (.invokevirtual 61, 3) := by decide +kernel
theorem d_Routes_lengthOfWay_17 : decode b_Routes_lengthOfWay 17 = .ok (.aload_n 0, 1) := by decide +kernel
theorem d_Routes_lengthOfWay_18 : decode b_Routes_lengthOfWay 18 = .ok (.getfield 23, 3) := by decide +kernel
theorem d_Routes_lengthOfWay_21 : decode b_Routes_lengthOfWay 21 = .ok (.iload_n 2, 1) := by decide +kernel
theorem d_Routes_lengthOfWay_22 : decode b_Routes_lengthOfWay 22 = .ok (.iaload, 1) := by decide +kernel
theorem d_Routes_lengthOfWay_23 : decode b_Routes_lengthOfWay 23 = .ok (.ireturn, 1) := by decide +kernel
theorem d_Routes_spareNeighbour_0 : decode b_Routes_spareNeighbour 0 = .ok (.aload_n 0, 1) := by decide +kernel
theorem d_Routes_spareNeighbour_1 : decode b_Routes_spareNeighbour 1 = .ok (.getfield 33, 3) := by decide +kernel
theorem d_Routes_spareNeighbour_4 : decode b_Routes_spareNeighbour 4 = .ok (.iload_n 1, 1) := by decide +kernel
theorem d_Routes_spareNeighbour_5 : decode b_Routes_spareNeighbour 5 = .ok (.aload_n 0, 1) := by decide +kernel
theorem d_Routes_spareNeighbour_6 : decode b_Routes_spareNeighbour 6 = .ok (.getfield 20, 3) := by decide +kernel
theorem d_Routes_spareNeighbour_9 : decode b_Routes_spareNeighbour 9 = .ok (.invokevirtual 57, 3) := by decide +kernel
theorem d_Routes_spareNeighbour_12 : decode b_Routes_spareNeighbour 12 = .ok (.aload_n 0, 1) := by decide +kernel
theorem d_Routes_spareNeighbour_13 : decode b_Routes_spareNeighbour 13 = .ok (.iload_n 1, 1) := by decide +kernel
theorem d_Routes_spareNeighbour_14 : decode b_Routes_spareNeighbour 14 = .ok (.invokevirtual 61, 3) := by decide +kernel
theorem d_Routes_spareNeighbour_17 : decode b_Routes_spareNeighbour 17 = .ok (.iload_n 2, 1) := by decide +kernel
theorem d_Routes_spareNeighbour_18 : decode b_Routes_spareNeighbour 18 = .ok (.iload_n 1, 1) := by decide +kernel
theorem d_Routes_spareNeighbour_19 : decode b_Routes_spareNeighbour 19 = .ok (.if_icmp .eq 13, 3) := by decide +kernel
theorem d_Routes_spareNeighbour_22 : decode b_Routes_spareNeighbour 22 = .ok (.aload_n 0, 1) := by decide +kernel
theorem d_Routes_spareNeighbour_23 : decode b_Routes_spareNeighbour 23 = .ok (.getfield 23, 3) := by decide +kernel
theorem d_Routes_spareNeighbour_26 : decode b_Routes_spareNeighbour 26 = .ok (.iload_n 2, 1) := by decide +kernel
theorem d_Routes_spareNeighbour_27 : decode b_Routes_spareNeighbour 27 = .ok (.iaload, 1) := by decide +kernel
theorem d_Routes_spareNeighbour_28 : decode b_Routes_spareNeighbour 28 = .ok (.iconst (-1), 1) := by decide +kernel
theorem d_Routes_spareNeighbour_29 : decode b_Routes_spareNeighbour 29 = .ok (.if_icmp .ne 5, 3) := by decide +kernel
theorem d_Routes_spareNeighbour_32 : decode b_Routes_spareNeighbour 32 = .ok (.iconst (-1), 1) := by decide +kernel
theorem d_Routes_spareNeighbour_33 : decode b_Routes_spareNeighbour 33 = .ok (.ireturn, 1) := by decide +kernel
theorem d_Routes_spareNeighbour_34 : decode b_Routes_spareNeighbour 34 = .ok (.aload_n 0, 1) := by decide +kernel
theorem d_Routes_spareNeighbour_35 : decode b_Routes_spareNeighbour 35 = .ok (.getfield 23, 3) := by decide +kernel
theorem d_Routes_spareNeighbour_38 : decode b_Routes_spareNeighbour 38 = .ok (.iload_n 2, 1) := by decide +kernel
theorem d_Routes_spareNeighbour_39 : decode b_Routes_spareNeighbour 39 = .ok (.iaload, 1) := by decide +kernel
theorem d_Routes_spareNeighbour_40 : decode b_Routes_spareNeighbour 40 = .ok (.istore_n 3, 1) := by decide +kernel
theorem d_Routes_spareNeighbour_41 : decode b_Routes_spareNeighbour 41 = .ok (.aload_n 0, 1) := by decide +kernel
theorem d_Routes_spareNeighbour_42 : decode b_Routes_spareNeighbour 42 = .ok (.getfield 26, 3) := by decide +kernel
theorem d_Routes_spareNeighbour_45 : decode b_Routes_spareNeighbour 45 = .ok (.iload_n 2, 1) := by decide +kernel
theorem d_Routes_spareNeighbour_46 : decode b_Routes_spareNeighbour 46 = .ok (.iaload, 1) := by decide +kernel
theorem d_Routes_spareNeighbour_47 : decode b_Routes_spareNeighbour 47 = .ok (.istore 4, 2) := by decide +kernel
theorem d_Routes_spareNeighbour_49 : decode b_Routes_spareNeighbour 49 = .ok (.iconst 0, 1) := by decide +kernel
theorem d_Routes_spareNeighbour_50 : decode b_Routes_spareNeighbour 50 = .ok (.istore 5, 2) := by decide +kernel
theorem d_Routes_spareNeighbour_52 : decode b_Routes_spareNeighbour 52 = .ok (.iload 5, 2) := by decide +kernel
theorem d_Routes_spareNeighbour_54 : decode b_Routes_spareNeighbour 54 = .ok (.bipush 12, 2) := by decide +kernel
theorem d_Routes_spareNeighbour_56 : decode b_Routes_spareNeighbour 56 = .ok (.if_icmp .ge 54, 3) := by decide +kernel
theorem d_Routes_spareNeighbour_59 : decode b_Routes_spareNeighbour 59 = .ok (.iload 5, 2) := by decide +kernel
theorem d_Routes_spareNeighbour_61 : decode b_Routes_spareNeighbour 61 = .ok (.iload 4, 2) := by decide +kernel
theorem d_Routes_spareNeighbour_63 : decode b_Routes_spareNeighbour 63 = .ok (.if_icmp .eq 41, 3) := by decide +kernel
theorem d_Routes_spareNeighbour_66 : decode b_Routes_spareNeighbour 66 = .ok (.aload_n 0, 1) := by decide +kernel
theorem d_Routes_spareNeighbour_67 : decode b_Routes_spareNeighbour 67 = .ok (.getfield 20, 3) := by decide +kernel
theorem d_Routes_spareNeighbour_70 : decode b_Routes_spareNeighbour 70 = .ok (.iload_n 1, 1) := by decide +kernel
theorem d_Routes_spareNeighbour_71 : decode b_Routes_spareNeighbour 71 = .ok (.aaload, 1) := by decide +kernel
theorem d_Routes_spareNeighbour_72 : decode b_Routes_spareNeighbour 72 = .ok (.iload 5, 2) := by decide +kernel
theorem d_Routes_spareNeighbour_74 : decode b_Routes_spareNeighbour 74 = .ok (.iaload, 1) := by decide +kernel
theorem d_Routes_spareNeighbour_75 : decode b_Routes_spareNeighbour 75 = .ok (.ifCond .eq 29, 3) := by decide +kernel
theorem d_Routes_spareNeighbour_78 : decode b_Routes_spareNeighbour 78 = .ok (.aload_n 0, 1) := by decide +kernel
theorem d_Routes_spareNeighbour_79 : decode b_Routes_spareNeighbour 79 = .ok (.iload 5, 2) := by decide +kernel
theorem d_Routes_spareNeighbour_81 : decode b_Routes_spareNeighbour 81 = .ok (.invokevirtual 61, 3) := by decide +kernel
theorem d_Routes_spareNeighbour_84 : decode b_Routes_spareNeighbour 84 = .ok (.aload_n 0, 1) := by decide +kernel
theorem d_Routes_spareNeighbour_85 : decode b_Routes_spareNeighbour 85 = .ok (.getfield 23, 3) := by decide +kernel
theorem d_Routes_spareNeighbour_88 : decode b_Routes_spareNeighbour 88 = .ok (.iload_n 2, 1) := by decide +kernel
theorem d_Routes_spareNeighbour_89 : decode b_Routes_spareNeighbour 89 = .ok (.iaload, 1) := by decide +kernel
theorem d_Routes_spareNeighbour_90 : decode b_Routes_spareNeighbour 90 = .ok (.aload_n 0, 1) := by decide +kernel
theorem d_Routes_spareNeighbour_91 : decode b_Routes_spareNeighbour 91 = .ok (.getfield 23, 3) := by decide +kernel
theorem d_Routes_spareNeighbour_94 : decode b_Routes_spareNeighbour 94 = .ok (.iload_n 1, 1) := by decide +kernel
theorem d_Routes_spareNeighbour_95 : decode b_Routes_spareNeighbour 95 = .ok (.iaload, 1) := by decide +kernel
theorem d_Routes_spareNeighbour_96 : decode b_Routes_spareNeighbour 96 = .ok (.iload_n 3, 1) := by decide +kernel
theorem d_Routes_spareNeighbour_97 : decode b_Routes_spareNeighbour 97 = .ok (.iadd, 1) := by decide +kernel
theorem d_Routes_spareNeighbour_98 : decode b_Routes_spareNeighbour 98 = .ok (.if_icmp .ge 6, 3) := by decide +kernel
theorem d_Routes_spareNeighbour_101 : decode b_Routes_spareNeighbour 101 = .ok (.iload 5, 2) := by decide +kernel
theorem d_Routes_spareNeighbour_103 : decode b_Routes_spareNeighbour 103 = .ok (.ireturn, 1) := by decide +kernel
theorem d_Routes_spareNeighbour_104 : decode b_Routes_spareNeighbour 104 = .ok (.iinc 5 1, 3) := by decide +kernel
theorem d_Routes_spareNeighbour_107 : decode b_Routes_spareNeighbour 107 = .ok (.goto (-55), 3) := by decide +kernel
theorem d_Routes_spareNeighbour_110 : decode b_Routes_spareNeighbour 110 = .ok (.iconst (-1), 1) := by decide +kernel
theorem d_Routes_spareNeighbour_111 : decode b_Routes_spareNeighbour 111 = .ok (.ireturn, 1) := by decide +kernel
theorem d_Routes_reckonMasks_0 : decode b_Routes_reckonMasks 0 = .ok (.aload_n 0, 1) := by decide +kernel
theorem d_Routes_reckonMasks_1 : decode b_Routes_reckonMasks 1 = .ok (.getfield 33, 3) := by decide +kernel
theorem d_Routes_reckonMasks_4 : decode b_Routes_reckonMasks 4 = .ok (.iload_n 1, 1) := by decide +kernel
theorem d_Routes_reckonMasks_5 : decode b_Routes_reckonMasks 5 = .ok (.aload_n 0, 1) := by decide +kernel
theorem d_Routes_reckonMasks_6 : decode b_Routes_reckonMasks 6 = .ok (.getfield 20, 3) := by decide +kernel
theorem d_Routes_reckonMasks_9 : decode b_Routes_reckonMasks 9 = .ok (.invokevirtual 57, 3) := by decide +kernel
theorem d_Routes_reckonMasks_12 : decode b_Routes_reckonMasks 12 = .ok (.aload_n 0, 1) := by decide +kernel
theorem d_Routes_reckonMasks_13 : decode b_Routes_reckonMasks 13 = .ok (.iload_n 1, 1) := by decide +kernel
theorem d_Routes_reckonMasks_14 : decode b_Routes_reckonMasks 14 = .ok (.invokevirtual 61, 3) := by decide +kernel
theorem d_Routes_reckonMasks_17 : decode b_Routes_reckonMasks 17 = .ok (.iconst 0, 1) := by decide +kernel
theorem d_Routes_reckonMasks_18 : decode b_Routes_reckonMasks 18 = .ok (.istore_n 2, 1) := by decide +kernel
theorem d_Routes_reckonMasks_19 : decode b_Routes_reckonMasks 19 = .ok (.iload_n 2, 1) := by decide +kernel
theorem d_Routes_reckonMasks_20 : decode b_Routes_reckonMasks 20 = .ok (.bipush 12, 2) := by decide +kernel
theorem d_Routes_reckonMasks_22 : decode b_Routes_reckonMasks 22 = .ok (.if_icmp .ge 18, 3) := by decide +kernel
theorem d_Routes_reckonMasks_25 : decode b_Routes_reckonMasks 25 = .ok (.aload_n 0, 1) := by decide +kernel
theorem d_Routes_reckonMasks_26 : decode b_Routes_reckonMasks 26 = .ok (.getfield 11, 3) := by decide +kernel
theorem d_Routes_reckonMasks_29 : decode b_Routes_reckonMasks 29 = .ok (.iload_n 1, 1) := by decide +kernel
theorem d_Routes_reckonMasks_30 : decode b_Routes_reckonMasks 30 = .ok (.aaload, 1) := by decide +kernel
theorem d_Routes_reckonMasks_31 : decode b_Routes_reckonMasks 31 = .ok (.iload_n 2, 1) := by decide +kernel
theorem d_Routes_reckonMasks_32 : decode b_Routes_reckonMasks 32 = .ok (.iconst 0, 1) := by decide +kernel
theorem d_Routes_reckonMasks_33 : decode b_Routes_reckonMasks 33 = .ok (.iastore, 1) := by decide +kernel
theorem d_Routes_reckonMasks_34 : decode b_Routes_reckonMasks 34 = .ok (.iinc 2 1, 3) := by decide +kernel
theorem d_Routes_reckonMasks_37 : decode b_Routes_reckonMasks 37 = .ok (.goto (-18), 3) := by decide +kernel
theorem d_Routes_reckonMasks_40 : decode b_Routes_reckonMasks 40 = .ok (.iconst 0, 1) := by decide +kernel
theorem d_Routes_reckonMasks_41 : decode b_Routes_reckonMasks 41 = .ok (.istore_n 2, 1) := by decide +kernel
theorem d_Routes_reckonMasks_42 : decode b_Routes_reckonMasks 42 = .ok (.iload_n 2, 1) := by decide +kernel
theorem d_Routes_reckonMasks_43 : decode b_Routes_reckonMasks 43 = .ok (.bipush 12, 2) := by decide +kernel
theorem d_Routes_reckonMasks_45 : decode b_Routes_reckonMasks 45 = .ok (.if_icmp .ge 48, 3) := by decide +kernel
theorem d_Routes_reckonMasks_48 : decode b_Routes_reckonMasks 48 = .ok (.iload_n 2, 1) := by decide +kernel
theorem d_Routes_reckonMasks_49 : decode b_Routes_reckonMasks 49 = .ok (.iload_n 1, 1) := by decide +kernel
theorem d_Routes_reckonMasks_50 : decode b_Routes_reckonMasks 50 = .ok (.if_icmp .eq 37, 3) := by decide +kernel
theorem d_Routes_reckonMasks_53 : decode b_Routes_reckonMasks 53 = .ok (.aload_n 0, 1) := by decide +kernel
theorem d_Routes_reckonMasks_54 : decode b_Routes_reckonMasks 54 = .ok (.getfield 23, 3) := by decide +kernel
theorem d_Routes_reckonMasks_57 : decode b_Routes_reckonMasks 57 = .ok (.iload_n 2, 1) := by decide +kernel
theorem d_Routes_reckonMasks_58 : decode b_Routes_reckonMasks 58 = .ok (.iaload, 1) := by decide +kernel
theorem d_Routes_reckonMasks_59 : decode b_Routes_reckonMasks 59 = .ok (.iconst (-1), 1) := by decide +kernel
theorem d_Routes_reckonMasks_60 : decode b_Routes_reckonMasks 60 = .ok (.if_icmp .eq 27, 3) := by decide +kernel
theorem d_Routes_reckonMasks_63 : decode b_Routes_reckonMasks 63 = .ok (.aload_n 0, 1) := by decide +kernel
theorem d_Routes_reckonMasks_64 : decode b_Routes_reckonMasks 64 = .ok (.getfield 11, 3) := by decide +kernel
theorem d_Routes_reckonMasks_67 : decode b_Routes_reckonMasks 67 = .ok (.iload_n 1, 1) := by decide +kernel
theorem d_Routes_reckonMasks_68 : decode b_Routes_reckonMasks 68 = .ok (.aaload, 1) := by decide +kernel
theorem d_Routes_reckonMasks_69 : decode b_Routes_reckonMasks 69 = .ok (.aload_n 0, 1) := by decide +kernel
theorem d_Routes_reckonMasks_70 : decode b_Routes_reckonMasks 70 = .ok (.getfield 26, 3) := by decide +kernel
theorem d_Routes_reckonMasks_73 : decode b_Routes_reckonMasks 73 = .ok (.iload_n 2, 1) := by decide +kernel
theorem d_Routes_reckonMasks_74 : decode b_Routes_reckonMasks 74 = .ok (.iaload, 1) := by decide +kernel
theorem d_Routes_reckonMasks_75 : decode b_Routes_reckonMasks 75 = .ok (.dup2, 1) := by decide +kernel
theorem d_Routes_reckonMasks_76 : decode b_Routes_reckonMasks 76 = .ok (.iaload, 1) := by decide +kernel
theorem d_Routes_reckonMasks_77 : decode b_Routes_reckonMasks 77 = .ok (.aload_n 0, 1) := by decide +kernel
theorem d_Routes_reckonMasks_78 : decode b_Routes_reckonMasks 78 = .ok (.getfield 37, 3) := by decide +kernel
theorem d_Routes_reckonMasks_81 : decode b_Routes_reckonMasks 81 = .ok (.iload_n 2, 1) := by decide +kernel
theorem d_Routes_reckonMasks_82 : decode b_Routes_reckonMasks 82 = .ok (.invokevirtual 64, 3) := by decide +kernel
theorem d_Routes_reckonMasks_85 : decode b_Routes_reckonMasks 85 = .ok (.ior, 1) := by decide +kernel
theorem d_Routes_reckonMasks_86 : decode b_Routes_reckonMasks 86 = .ok (.iastore, 1) := by decide +kernel
theorem d_Routes_reckonMasks_87 : decode b_Routes_reckonMasks 87 = .ok (.iinc 2 1, 3) := by decide +kernel
theorem d_Routes_reckonMasks_90 : decode b_Routes_reckonMasks 90 = .ok (.goto (-48), 3) := by decide +kernel
theorem d_Routes_reckonMasks_93 : decode b_Routes_reckonMasks 93 = .ok (.return_, 1) := by decide +kernel
theorem d_Routes_reckonWaysFrom_0 : decode b_Routes_reckonWaysFrom 0 = .ok (.iconst 0, 1) := by decide +kernel
theorem d_Routes_reckonWaysFrom_1 : decode b_Routes_reckonWaysFrom 1 = .ok (.istore_n 2, 1) := by decide +kernel
theorem d_Routes_reckonWaysFrom_2 : decode b_Routes_reckonWaysFrom 2 = .ok (.iload_n 2, 1) := by decide +kernel
theorem d_Routes_reckonWaysFrom_3 : decode b_Routes_reckonWaysFrom 3 = .ok (.bipush 12, 2) := by decide +kernel
theorem d_Routes_reckonWaysFrom_5 : decode b_Routes_reckonWaysFrom 5 = .ok (.if_icmp .ge 30, 3) := by decide +kernel
theorem d_Routes_reckonWaysFrom_8 : decode b_Routes_reckonWaysFrom 8 = .ok (.aload_n 0, 1) := by decide +kernel
theorem d_Routes_reckonWaysFrom_9 : decode b_Routes_reckonWaysFrom 9 = .ok (.getfield 23, 3) := by decide +kernel
theorem d_Routes_reckonWaysFrom_12 : decode b_Routes_reckonWaysFrom 12 = .ok (.iload_n 2, 1) := by decide +kernel
theorem d_Routes_reckonWaysFrom_13 : decode b_Routes_reckonWaysFrom 13 = .ok (.iconst (-1), 1) := by decide +kernel
theorem d_Routes_reckonWaysFrom_14 : decode b_Routes_reckonWaysFrom 14 = .ok (.iastore, 1) := by decide +kernel
theorem d_Routes_reckonWaysFrom_15 : decode b_Routes_reckonWaysFrom 15 = .ok (.aload_n 0, 1) := by decide +kernel
theorem d_Routes_reckonWaysFrom_16 : decode b_Routes_reckonWaysFrom 16 = .ok (.getfield 26, 3) := by decide +kernel
theorem d_Routes_reckonWaysFrom_19 : decode b_Routes_reckonWaysFrom 19 = .ok (.iload_n 2, 1) := by decide +kernel
theorem d_Routes_reckonWaysFrom_20 : decode b_Routes_reckonWaysFrom 20 = .ok (.iload_n 2, 1) := by decide +kernel
theorem d_Routes_reckonWaysFrom_21 : decode b_Routes_reckonWaysFrom 21 = .ok (.iastore, 1) := by decide +kernel
theorem d_Routes_reckonWaysFrom_22 : decode b_Routes_reckonWaysFrom 22 = .ok (.aload_n 0, 1) := by decide +kernel
theorem d_Routes_reckonWaysFrom_23 : decode b_Routes_reckonWaysFrom 23 = .ok (.getfield 29, 3) := by decide +kernel
theorem d_Routes_reckonWaysFrom_26 : decode b_Routes_reckonWaysFrom 26 = .ok (.iload_n 2, 1) := by decide +kernel
theorem d_Routes_reckonWaysFrom_27 : decode b_Routes_reckonWaysFrom 27 = .ok (.iconst 0, 1) := by decide +kernel
theorem d_Routes_reckonWaysFrom_28 : decode b_Routes_reckonWaysFrom 28 = .ok (.bastore, 1) := by decide +kernel
theorem d_Routes_reckonWaysFrom_29 : decode b_Routes_reckonWaysFrom 29 = .ok (.iinc 2 1, 3) := by decide +kernel
theorem d_Routes_reckonWaysFrom_32 : decode b_Routes_reckonWaysFrom 32 = .ok (.goto (-30), 3) := by decide +kernel
theorem d_Routes_reckonWaysFrom_35 : decode b_Routes_reckonWaysFrom 35 = .ok (.aload_n 0, 1) := by decide +kernel
theorem d_Routes_reckonWaysFrom_36 : decode b_Routes_reckonWaysFrom 36 = .ok (.getfield 23, 3) := by decide +kernel
theorem d_Routes_reckonWaysFrom_39 : decode b_Routes_reckonWaysFrom 39 = .ok (.iload_n 1, 1) := by decide +kernel
theorem d_Routes_reckonWaysFrom_40 : decode b_Routes_reckonWaysFrom 40 = .ok (.iconst 0, 1) := by decide +kernel
theorem d_Routes_reckonWaysFrom_41 : decode b_Routes_reckonWaysFrom 41 = .ok (.iastore, 1) := by decide +kernel
theorem d_Routes_reckonWaysFrom_42 : decode b_Routes_reckonWaysFrom 42 = .ok (.iload_n 1, 1) := by decide +kernel
theorem d_Routes_reckonWaysFrom_43 : decode b_Routes_reckonWaysFrom 43 = .ok (.istore_n 2, 1) := by decide +kernel
theorem d_Routes_reckonWaysFrom_44 : decode b_Routes_reckonWaysFrom 44 = .ok (.iconst 0, 1) := by decide +kernel
theorem d_Routes_reckonWaysFrom_45 : decode b_Routes_reckonWaysFrom 45 = .ok (.istore_n 3, 1) := by decide +kernel
theorem d_Routes_reckonWaysFrom_46 : decode b_Routes_reckonWaysFrom 46 = .ok (.iload_n 3, 1) := by decide +kernel
theorem d_Routes_reckonWaysFrom_47 : decode b_Routes_reckonWaysFrom 47 = .ok (.bipush 12, 2) := by decide +kernel
theorem d_Routes_reckonWaysFrom_49 : decode b_Routes_reckonWaysFrom 49 = .ok (.if_icmp .ge 32, 3) := by decide +kernel
theorem d_Routes_reckonWaysFrom_52 : decode b_Routes_reckonWaysFrom 52 = .ok (.iload_n 2, 1) := by decide +kernel
theorem d_Routes_reckonWaysFrom_53 : decode b_Routes_reckonWaysFrom 53 = .ok (.iconst (-1), 1) := by decide +kernel
theorem d_Routes_reckonWaysFrom_54 : decode b_Routes_reckonWaysFrom 54 = .ok (.if_icmp .eq 27, 3) := by decide +kernel
theorem d_Routes_reckonWaysFrom_57 : decode b_Routes_reckonWaysFrom 57 = .ok (.aload_n 0, 1) := by decide +kernel
theorem d_Routes_reckonWaysFrom_58 : decode b_Routes_reckonWaysFrom 58 = .ok (.getfield 29, 3) := by decide +kernel
theorem d_Routes_reckonWaysFrom_61 : decode b_Routes_reckonWaysFrom 61 = .ok (.iload_n 2, 1) := by decide +kernel
theorem d_Routes_reckonWaysFrom_62 : decode b_Routes_reckonWaysFrom 62 = .ok (.iconst 1, 1) := by decide +kernel
theorem d_Routes_reckonWaysFrom_63 : decode b_Routes_reckonWaysFrom 63 = .ok (.bastore, 1) := by decide +kernel
theorem d_Routes_reckonWaysFrom_64 : decode b_Routes_reckonWaysFrom 64 = .ok (.aload_n 0, 1) := by decide +kernel
theorem d_Routes_reckonWaysFrom_65 : decode b_Routes_reckonWaysFrom 65 = .ok (.iload_n 1, 1) := by decide +kernel
theorem d_Routes_reckonWaysFrom_66 : decode b_Routes_reckonWaysFrom 66 = .ok (.iload_n 2, 1) := by decide +kernel
theorem d_Routes_reckonWaysFrom_67 : decode b_Routes_reckonWaysFrom 67 = .ok (.invokevirtual 67, 3) := by decide +kernel
theorem d_Routes_reckonWaysFrom_70 : decode b_Routes_reckonWaysFrom 70 = .ok (.aload_n 0, 1) := by decide +kernel
theorem d_Routes_reckonWaysFrom_71 : decode b_Routes_reckonWaysFrom 71 = .ok (.invokevirtual 71, 3) := by decide +kernel
theorem d_Routes_reckonWaysFrom_74 : decode b_Routes_reckonWaysFrom 74 = .ok (.istore_n 2, 1) := by decide +kernel
theorem d_Routes_reckonWaysFrom_75 : decode b_Routes_reckonWaysFrom 75 = .ok (.iinc 3 1, 3) := by decide +kernel
theorem d_Routes_reckonWaysFrom_78 : decode b_Routes_reckonWaysFrom 78 = .ok (.goto (-32), 3) := by decide +kernel
theorem d_Routes_reckonWaysFrom_81 : decode b_Routes_reckonWaysFrom 81 = .ok (.return_, 1) := by decide +kernel
theorem d_Routes_nearestNotDone_0 : decode b_Routes_nearestNotDone 0 = .ok (.iconst (-1), 1) := by decide +kernel
theorem d_Routes_nearestNotDone_1 : decode b_Routes_nearestNotDone 1 = .ok (.istore_n 1, 1) := by decide +kernel
theorem d_Routes_nearestNotDone_2 : decode b_Routes_nearestNotDone 2 = .ok (.iconst 0, 1) := by decide +kernel
theorem d_Routes_nearestNotDone_3 : decode b_Routes_nearestNotDone 3 = .ok (.istore_n 2, 1) := by decide +kernel
theorem d_Routes_nearestNotDone_4 : decode b_Routes_nearestNotDone 4 = .ok (.iload_n 2, 1) := by decide +kernel
theorem d_Routes_nearestNotDone_5 : decode b_Routes_nearestNotDone 5 = .ok (.bipush 12, 2) := by decide +kernel
theorem d_Routes_nearestNotDone_7 : decode b_Routes_nearestNotDone 7 = .ok (.if_icmp .ge 50, 3) := by decide +kernel
theorem d_Routes_nearestNotDone_10 : decode b_Routes_nearestNotDone 10 = .ok (.aload_n 0, 1) := by decide +kernel
theorem d_Routes_nearestNotDone_11 : decode b_Routes_nearestNotDone 11 = .ok (.getfield 29, 3) := by decide +kernel
theorem d_Routes_nearestNotDone_14 : decode b_Routes_nearestNotDone 14 = .ok (.iload_n 2, 1) := by decide +kernel
theorem d_Routes_nearestNotDone_15 : decode b_Routes_nearestNotDone 15 = .ok (.baload, 1) := by decide +kernel
theorem d_Routes_nearestNotDone_16 : decode b_Routes_nearestNotDone 16 = .ok (.ifCond .ne 35, 3) := by decide +kernel
theorem d_Routes_nearestNotDone_19 : decode b_Routes_nearestNotDone 19 = .ok (.aload_n 0, 1) := by decide +kernel
theorem d_Routes_nearestNotDone_20 : decode b_Routes_nearestNotDone 20 = .ok (.getfield 23, 3) := by decide +kernel
theorem d_Routes_nearestNotDone_23 : decode b_Routes_nearestNotDone 23 = .ok (.iload_n 2, 1) := by decide +kernel
theorem d_Routes_nearestNotDone_24 : decode b_Routes_nearestNotDone 24 = .ok (.iaload, 1) := by decide +kernel
theorem d_Routes_nearestNotDone_25 : decode b_Routes_nearestNotDone 25 = .ok (.iconst (-1), 1) := by decide +kernel
theorem d_Routes_nearestNotDone_26 : decode b_Routes_nearestNotDone 26 = .ok (.if_icmp .eq 25, 3) := by decide +kernel
theorem d_Routes_nearestNotDone_29 : decode b_Routes_nearestNotDone 29 = .ok (.iload_n 1, 1) := by decide +kernel
theorem d_Routes_nearestNotDone_30 : decode b_Routes_nearestNotDone 30 = .ok (.iconst (-1), 1) := by decide +kernel
theorem d_Routes_nearestNotDone_31 : decode b_Routes_nearestNotDone 31 = .ok (.if_icmp .eq 18, 3) := by decide +kernel
theorem d_Routes_nearestNotDone_34 : decode b_Routes_nearestNotDone 34 = .ok (.aload_n 0, 1) := by decide +kernel
theorem d_Routes_nearestNotDone_35 : decode b_Routes_nearestNotDone 35 = .ok (.getfield 23, 3) := by decide +kernel
theorem d_Routes_nearestNotDone_38 : decode b_Routes_nearestNotDone 38 = .ok (.iload_n 2, 1) := by decide +kernel
theorem d_Routes_nearestNotDone_39 : decode b_Routes_nearestNotDone 39 = .ok (.iaload, 1) := by decide +kernel
theorem d_Routes_nearestNotDone_40 : decode b_Routes_nearestNotDone 40 = .ok (.aload_n 0, 1) := by decide +kernel
theorem d_Routes_nearestNotDone_41 : decode b_Routes_nearestNotDone 41 = .ok (.getfield 23, 3) := by decide +kernel
theorem d_Routes_nearestNotDone_44 : decode b_Routes_nearestNotDone 44 = .ok (.iload_n 1, 1) := by decide +kernel
theorem d_Routes_nearestNotDone_45 : decode b_Routes_nearestNotDone 45 = .ok (.iaload, 1) := by decide +kernel
theorem d_Routes_nearestNotDone_46 : decode b_Routes_nearestNotDone 46 = .ok (.if_icmp .ge 5, 3) := by decide +kernel
theorem d_Routes_nearestNotDone_49 : decode b_Routes_nearestNotDone 49 = .ok (.iload_n 2, 1) := by decide +kernel
theorem d_Routes_nearestNotDone_50 : decode b_Routes_nearestNotDone 50 = .ok (.istore_n 1, 1) := by decide +kernel
theorem d_Routes_nearestNotDone_51 : decode b_Routes_nearestNotDone 51 = .ok (.iinc 2 1, 3) := by decide +kernel
theorem d_Routes_nearestNotDone_54 : decode b_Routes_nearestNotDone 54 = .ok (.goto (-50), 3) := by decide +kernel
theorem d_Routes_nearestNotDone_57 : decode b_Routes_nearestNotDone 57 = .ok (.iload_n 1, 1) := by decide +kernel
theorem d_Routes_nearestNotDone_58 : decode b_Routes_nearestNotDone 58 = .ok (.ireturn, 1) := by decide +kernel
theorem d_Routes_extendWays_0 : decode b_Routes_extendWays 0 = .ok (.iconst 0, 1) := by decide +kernel
theorem d_Routes_extendWays_1 : decode b_Routes_extendWays 1 = .ok (.istore_n 3, 1) := by decide +kernel
theorem d_Routes_extendWays_2 : decode b_Routes_extendWays 2 = .ok (.iload_n 3, 1) := by decide +kernel
theorem d_Routes_extendWays_3 : decode b_Routes_extendWays 3 = .ok (.bipush 12, 2) := by decide +kernel
theorem d_Routes_extendWays_5 : decode b_Routes_extendWays 5 = .ok (.if_icmp .ge 124, 3) := by decide +kernel
theorem d_Routes_extendWays_8 : decode b_Routes_extendWays 8 = .ok (.aload_n 0, 1) := by decide +kernel
theorem d_Routes_extendWays_9 : decode b_Routes_extendWays 9 = .ok (.getfield 20, 3) := by decide +kernel
theorem d_Routes_extendWays_12 : decode b_Routes_extendWays 12 = .ok (.iload_n 2, 1) := by decide +kernel
theorem d_Routes_extendWays_13 : decode b_Routes_extendWays 13 = .ok (.aaload, 1) := by decide +kernel
theorem d_Routes_extendWays_14 : decode b_Routes_extendWays 14 = .ok (.iload_n 3, 1) := by decide +kernel
theorem d_Routes_extendWays_15 : decode b_Routes_extendWays 15 = .ok (.iaload, 1) := by decide +kernel
theorem d_Routes_extendWays_16 : decode b_Routes_extendWays 16 = .ok (.ifCond .eq 107, 3) := by decide +kernel
theorem d_Routes_extendWays_19 : decode b_Routes_extendWays 19 = .ok (.aload_n 0, 1) := by decide +kernel
theorem d_Routes_extendWays_20 : decode b_Routes_extendWays 20 = .ok (.getfield 23, 3) := by decide +kernel
theorem d_Routes_extendWays_23 : decode b_Routes_extendWays 23 = .ok (.iload_n 2, 1) := by decide +kernel
theorem d_Routes_extendWays_24 : decode b_Routes_extendWays 24 = .ok (.iaload, 1) := by decide +kernel
theorem d_Routes_extendWays_25 : decode b_Routes_extendWays 25 = .ok (.aload_n 0, 1) := by decide +kernel
theorem d_Routes_extendWays_26 : decode b_Routes_extendWays 26 = .ok (.getfield 20, 3) := by decide +kernel
theorem d_Routes_extendWays_29 : decode b_Routes_extendWays 29 = .ok (.iload_n 2, 1) := by decide +kernel
theorem d_Routes_extendWays_30 : decode b_Routes_extendWays 30 = .ok (.aaload, 1) := by decide +kernel
theorem d_Routes_extendWays_31 : decode b_Routes_extendWays 31 = .ok (.iload_n 3, 1) := by decide +kernel
theorem d_Routes_extendWays_32 : decode b_Routes_extendWays 32 = .ok (.iaload, 1) := by decide +kernel
theorem d_Routes_extendWays_33 : decode b_Routes_extendWays 33 = .ok (.iadd, 1) := by decide +kernel
theorem d_Routes_extendWays_34 : decode b_Routes_extendWays 34 = .ok (.istore 4, 2) := by decide +kernel
theorem d_Routes_extendWays_36 : decode b_Routes_extendWays 36 = .ok (.iload_n 2, 1) := by decide +kernel
theorem d_Routes_extendWays_37 : decode b_Routes_extendWays 37 = .ok (.iload_n 1, 1) := by decide +kernel
theorem d_Routes_extendWays_38 : decode b_Routes_extendWays 38 = .ok (.if_icmp .ne 7, 3) := by decide +kernel
theorem d_Routes_extendWays_41 : decode b_Routes_extendWays 41 = .ok (.iload_n 3, 1) := by decide +kernel
theorem d_Routes_extendWays_42 : decode b_Routes_extendWays 42 = .ok (.goto 9, 3) := by decide +kernel
theorem d_Routes_extendWays_45 : decode b_Routes_extendWays 45 = .ok (.aload_n 0, 1) := by decide +kernel
theorem d_Routes_extendWays_46 : decode b_Routes_extendWays 46 = .ok (.getfield 26, 3) := by decide +kernel
theorem d_Routes_extendWays_49 : decode b_Routes_extendWays 49 = .ok (.iload_n 2, 1) := by decide +kernel
theorem d_Routes_extendWays_50 : decode b_Routes_extendWays 50 = .ok (.iaload, 1) := by decide +kernel
theorem d_Routes_extendWays_51 : decode b_Routes_extendWays 51 = .ok (.istore 5, 2) := by decide +kernel
theorem d_Routes_extendWays_53 : decode b_Routes_extendWays 53 = .ok (.aload_n 0, 1) := by decide +kernel
theorem d_Routes_extendWays_54 : decode b_Routes_extendWays 54 = .ok (.getfield 23, 3) := by decide +kernel
theorem d_Routes_extendWays_57 : decode b_Routes_extendWays 57 = .ok (.iload_n 3, 1) := by decide +kernel
theorem d_Routes_extendWays_58 : decode b_Routes_extendWays 58 = .ok (.iaload, 1) := by decide +kernel
theorem d_Routes_extendWays_59 : decode b_Routes_extendWays 59 = .ok (.iconst (-1), 1) := by decide +kernel
theorem d_Routes_extendWays_60 : decode b_Routes_extendWays 60 = .ok (.if_icmp .eq 14, 3) := by decide +kernel
theorem d_Routes_extendWays_63 : decode b_Routes_extendWays 63 = .ok (.iload 4, 2) := by decide +kernel
theorem d_Routes_extendWays_65 : decode b_Routes_extendWays 65 = .ok (.aload_n 0, 1) := by decide +kernel
theorem d_Routes_extendWays_66 : decode b_Routes_extendWays 66 = .ok (.getfield 23, 3) := by decide +kernel
theorem d_Routes_extendWays_69 : decode b_Routes_extendWays 69 = .ok (.iload_n 3, 1) := by decide +kernel
theorem d_Routes_extendWays_70 : decode b_Routes_extendWays 70 = .ok (.iaload, 1) := by decide +kernel
theorem d_Routes_extendWays_71 : decode b_Routes_extendWays 71 = .ok (.if_icmp .ge 22, 3) := by decide +kernel
theorem d_Routes_extendWays_74 : decode b_Routes_extendWays 74 = .ok (.aload_n 0, 1) := by decide +kernel
theorem d_Routes_extendWays_75 : decode b_Routes_extendWays 75 = .ok (.getfield 23, 3) := by decide +kernel
theorem d_Routes_extendWays_78 : decode b_Routes_extendWays 78 = .ok (.iload_n 3, 1) := by decide +kernel
theorem d_Routes_extendWays_79 : decode b_Routes_extendWays 79 = .ok (.iload 4, 2) := by decide +kernel
theorem d_Routes_extendWays_81 : decode b_Routes_extendWays 81 = .ok (.iastore, 1) := by decide +kernel
theorem d_Routes_extendWays_82 : decode b_Routes_extendWays 82 = .ok (.aload_n 0, 1) := by decide +kernel
theorem d_Routes_extendWays_83 : decode b_Routes_extendWays 83 = .ok (.getfield 26, 3) := by decide +kernel
theorem d_Routes_extendWays_86 : decode b_Routes_extendWays 86 = .ok (.iload_n 3, 1) := by decide +kernel
theorem d_Routes_extendWays_87 : decode b_Routes_extendWays 87 = .ok (.iload 5, 2) := by decide +kernel
theorem d_Routes_extendWays_89 : decode b_Routes_extendWays 89 = .ok (.iastore, 1) := by decide +kernel
theorem d_Routes_extendWays_90 : decode b_Routes_extendWays 90 = .ok (.goto 33, 3) := by decide +kernel
theorem d_Routes_extendWays_93 : decode b_Routes_extendWays 93 = .ok (.iload 4, 2) := by decide +kernel
theorem d_Routes_extendWays_95 : decode b_Routes_extendWays 95 = .ok (.aload_n 0, 1) := by decide +kernel
theorem d_Routes_extendWays_96 : decode b_Routes_extendWays 96 = .ok (.getfield 23, 3) := by decide +kernel
theorem d_Routes_extendWays_99 : decode b_Routes_extendWays 99 = .ok (.iload_n 3, 1) := by decide +kernel
theorem d_Routes_extendWays_100 : decode b_Routes_extendWays 100 = .ok (.iaload, 1) := by decide +kernel
theorem d_Routes_extendWays_101 : decode b_Routes_extendWays 101 = .ok (.if_icmp .ne 22, 3) := by decide +kernel
theorem d_Routes_extendWays_104 : decode b_Routes_extendWays 104 = .ok (.iload 5, 2) := by decide +kernel
theorem d_Routes_extendWays_106 : decode b_Routes_extendWays 106 = .ok (.aload_n 0, 1) := by decide +kernel
theorem d_Routes_extendWays_107 : decode b_Routes_extendWays 107 = .ok (.getfield 26, 3) := by decide +kernel
theorem d_Routes_extendWays_110 : decode b_Routes_extendWays 110 = .ok (.iload_n 3, 1) := by decide +kernel
theorem d_Routes_extendWays_111 : decode b_Routes_extendWays 111 = .ok (.iaload, 1) := by decide +kernel
theorem d_Routes_extendWays_112 : decode b_Routes_extendWays 112 = .ok (.if_icmp .ge 11, 3) := by decide +kernel
theorem d_Routes_extendWays_115 : decode b_Routes_extendWays 115 = .ok (.aload_n 0, 1) := by decide +kernel
theorem d_Routes_extendWays_116 : decode b_Routes_extendWays 116 = .ok (.getfield 26, 3) := by decide +kernel
theorem d_Routes_extendWays_119 : decode b_Routes_extendWays 119 = .ok (.iload_n 3, 1) := by decide +kernel
theorem d_Routes_extendWays_120 : decode b_Routes_extendWays 120 = .ok (.iload 5, 2) := by decide +kernel
theorem d_Routes_extendWays_122 : decode b_Routes_extendWays 122 = .ok (.iastore, 1) := by decide +kernel
theorem d_Routes_extendWays_123 : decode b_Routes_extendWays 123 = .ok (.iinc 3 1, 3) := by decide +kernel
theorem d_Routes_extendWays_126 : decode b_Routes_extendWays 126 = .ok (.goto (-124), 3) := by decide +kernel
theorem d_Routes_extendWays_129 : decode b_Routes_extendWays 129 = .ok (.return_, 1) := by decide +kernel
