/-! Decode rows by program. -/
theorem d_Net_init_0 : decode b_Net_init 0 = .ok (.aload_n 0, 1) := by decide +kernel
theorem d_Net_init_1 : decode b_Net_init 1 = .ok (.invokespecial 1, 3) := by decide +kernel
theorem d_Net_init_4 : decode b_Net_init 4 = .ok (.aload_n 0, 1) := by decide +kernel
theorem d_Net_init_5 : decode b_Net_init 5 = .ok (.new 7, 3) := by decide +kernel
theorem d_Net_init_8 : decode b_Net_init 8 = .ok (.dup, 1) := by decide +kernel
theorem d_Net_init_9 : decode b_Net_init 9 = .ok (.invokespecial 9, 3) := by decide +kernel
theorem d_Net_init_12 : decode b_Net_init 12 = .ok (.putfield 10, 3) := by decide +kernel
theorem d_Net_init_15 : decode b_Net_init 15 = .ok (.aload_n 0, 1) := by decide +kernel
theorem d_Net_init_16 : decode b_Net_init 16 = .ok (.new 16, 3) := by decide +kernel
theorem d_Net_init_19 : decode b_Net_init 19 = .ok (.dup, 1) := by decide +kernel
theorem d_Net_init_20 : decode b_Net_init 20 = .ok (.invokespecial 18, 3) := by decide +kernel
theorem d_Net_init_23 : decode b_Net_init 23 = .ok (.putfield 19, 3) := by decide +kernel
theorem d_Net_init_26 : decode b_Net_init 26 = .ok (.aload_n 0, 1) := by decide +kernel
theorem d_Net_init_27 : decode b_Net_init 27 = .ok (.new 23, 3) := by decide +kernel
theorem d_Net_init_30 : decode b_Net_init 30 = .ok (.dup, 1) := by decide +kernel
theorem d_Net_init_31 : decode b_Net_init 31 = .ok (.invokespecial 25, 3) := by decide +kernel
theorem d_Net_init_34 : decode b_Net_init 34 = .ok (.putfield 26, 3) := by decide +kernel
theorem d_Net_init_37 : decode b_Net_init 37 = .ok (.aload_n 0, 1) := by decide +kernel
theorem d_Net_init_38 : decode b_Net_init 38 = .ok (.new 30, 3) := by decide +kernel
theorem d_Net_init_41 : decode b_Net_init 41 = .ok (.dup, 1) := by decide +kernel
theorem d_Net_init_42 : decode b_Net_init 42 = .ok (.aload_n 0, 1) := by decide +kernel
theorem d_Net_init_43 : decode b_Net_init 43 = .ok (.getfield 19, 3) := by decide +kernel
theorem d_Net_init_46 : decode b_Net_init 46 = .ok (.aload_n 0, 1) := by decide +kernel
theorem d_Net_init_47 : decode b_Net_init 47 = .ok (.getfield 26, 3) := by decide +kernel
theorem d_Net_init_50 : decode b_Net_init 50 = .ok (.invokespecial 32, 3) := by decide +kernel
theorem d_Net_init_53 : decode b_Net_init 53 = .ok (.putfield 35, 3) := by decide +kernel
theorem d_Net_init_56 : decode b_Net_init 56 = .ok (.aload_n 0, 1) := by decide +kernel
theorem d_Net_init_57 : decode b_Net_init 57 = .ok (.new 39, 3) := by decide +kernel
theorem d_Net_init_60 : decode b_Net_init 60 = .ok (.dup, 1) := by decide +kernel
theorem d_Net_init_61 : decode b_Net_init 61 = .ok (.aload_n 0, 1) := by decide +kernel
theorem d_Net_init_62 : decode b_Net_init 62 = .ok (.getfield 26, 3) := by decide +kernel
theorem d_Net_init_65 : decode b_Net_init 65 = .ok (.aload_n 0, 1) := by decide +kernel
theorem d_Net_init_66 : decode b_Net_init 66 = .ok (.getfield 10, 3) := by decide +kernel
theorem d_Net_init_69 : decode b_Net_init 69 = .ok (.invokespecial 41, 3) := by decide +kernel
theorem d_Net_init_72 : decode b_Net_init 72 = .ok (.putfield 44, 3) := by decide +kernel
theorem d_Net_init_75 : decode b_Net_init 75 = .ok (.aload_n 0, 1) := by decide +kernel
theorem d_Net_init_76 : decode b_Net_init 76 = .ok (.new 48, 3) := by decide +kernel
theorem d_Net_init_79 : decode b_Net_init 79 = .ok (.dup, 1) := by decide +kernel
theorem d_Net_init_80 : decode b_Net_init 80 = .ok (.aload_n 0, 1) := by decide +kernel
theorem d_Net_init_81 : decode b_Net_init 81 = .ok (.getfield 19, 3) := by decide +kernel
theorem d_Net_init_84 : decode b_Net_init 84 = .ok (.aload_n 0, 1) := by decide +kernel
theorem d_Net_init_85 : decode b_Net_init 85 = .ok (.getfield 10, 3) := by decide +kernel
theorem d_Net_init_88 : decode b_Net_init 88 = .ok (.aload_n 0, 1) := by decide +kernel
theorem d_Net_init_89 : decode b_Net_init 89 = .ok (.getfield 44, 3) := by decide +kernel
theorem d_Net_init_92 : decode b_Net_init 92 = .ok (.invokespecial 50, 3) := by decide +kernel
theorem d_Net_init_95 : decode b_Net_init 95 = .ok (.putfield 53, 3) := by decide +kernel
theorem d_Net_init_98 : decode b_Net_init 98 = .ok (.aload_n 0, 1) := by decide +kernel
theorem d_Net_init_99 : decode b_Net_init 99 = .ok (.new 57, 3) := by decide +kernel
theorem d_Net_init_102 : decode b_Net_init 102 = .ok (.dup, 1) := by decide +kernel
theorem d_Net_init_103 : decode b_Net_init 103 = .ok (.aload_n 0, 1) := by decide +kernel
theorem d_Net_init_104 : decode b_Net_init 104 = .ok (.getfield 10, 3) := by decide +kernel
theorem d_Net_init_107 : decode b_Net_init 107 = .ok (.invokespecial 59, 3) := by decide +kernel
theorem d_Net_init_110 : decode b_Net_init 110 = .ok (.putfield 62, 3) := by decide +kernel
theorem d_Net_init_113 : decode b_Net_init 113 = .ok (.return_, 1) := by decide +kernel
theorem d_Net_edge_0 : decode b_Net_edge 0 = .ok (.iload_n 1, 1) := by decide +kernel
theorem d_Net_edge_1 : decode b_Net_edge 1 = .ok (.invokestatic 66, 3) := by decide +kernel
theorem d_Net_edge_4 : decode b_Net_edge 4 = .ok (.ifCond .eq 17, 3) := by decide +kernel
theorem d_Net_edge_7 : decode b_Net_edge 7 = .ok (.iload_n 2, 1) := by decide +kernel
theorem d_Net_edge_8 : decode b_Net_edge 8 = .ok (.ifCond .lt 13, 3) := by decide +kernel
theorem d_Net_edge_11 : decode b_Net_edge 11 = .ok (.iload_n 2, 1) := by decide +kernel
theorem d_Net_edge_12 : decode b_Net_edge 12 = .ok (.bipush 32, 2) := by decide +kernel
theorem d_Net_edge_14 : decode b_Net_edge 14 = .ok (.if_icmp .ge 7, 3) := by decide +kernel
theorem d_Net_edge_17 : decode b_Net_edge 17 = .ok (.iconst 1, 1) := by decide +kernel
theorem d_Net_edge_18 : decode b_Net_edge 18 = .ok (.goto 4, 3) := by decide +kernel
theorem d_Net_edge_21 : decode b_Net_edge 21 = .ok (.iconst 0, 1) := by decide +kernel
theorem d_Net_edge_22 : decode b_Net_edge 22 = .ok (.invokestatic 70, 3) := by decide +kernel
theorem d_Net_edge_25 : decode b_Net_edge 25 = .ok (.aload_n 0, 1) := by decide +kernel
theorem d_Net_edge_26 : decode b_Net_edge 26 = .ok (.getfield 10, 3) := by decide +kernel
theorem d_Net_edge_29 : decode b_Net_edge 29 = .ok (.iload_n 1, 1) := by decide +kernel
theorem d_Net_edge_30 : decode b_Net_edge 30 = .ok (.invokevirtual 74, 3) := by decide +kernel
theorem d_Net_edge_33 : decode b_Net_edge 33 = .ok (.ifCond .ne 20, 3) := by decide +kernel
theorem d_Net_edge_36 : decode b_Net_edge 36 = .ok (.aload_n 0, 1) := by decide +kernel
theorem d_Net_edge_37 : decode b_Net_edge 37 = .ok (.getfield 10, 3) := by decide +kernel
theorem d_Net_edge_40 : decode b_Net_edge 40 = .ok (.iconst 1, 1) := by decide +kernel
theorem d_Net_edge_41 : decode b_Net_edge 41 = .ok (.iload_n 2, 1) := by decide +kernel
theorem d_Net_edge_42 : decode b_Net_edge 42 = .ok (.ishl, 1) := by decide +kernel
theorem d_Net_edge_43 : decode b_Net_edge 43 = .ok (.invokevirtual 77, 3) := by decide +kernel
theorem d_Net_edge_46 : decode b_Net_edge 46 = .ok (.ifCond .ne 7, 3) := by decide +kernel
theorem d_Net_edge_49 : decode b_Net_edge 49 = .ok (.iconst 1, 1) := by decide +kernel
theorem d_Net_edge_50 : decode b_Net_edge 50 = .ok (.goto 4, 3) := by decide +kernel
theorem d_Net_edge_53 : decode b_Net_edge 53 = .ok (.iconst 0, 1) := by decide +kernel
theorem d_Net_edge_54 : decode b_Net_edge 54 = .ok (.invokestatic 70, 3) := by decide +kernel
theorem d_Net_edge_57 : decode b_Net_edge 57 = .ok (.aload_n 0, 1) := by decide +kernel
theorem d_Net_edge_58 : decode b_Net_edge 58 = .ok (.getfield 10, 3) := by decide +kernel
theorem d_Net_edge_61 : decode b_Net_edge 61 = .ok (.iload_n 1, 1) := by decide +kernel
theorem d_Net_edge_62 : decode b_Net_edge 62 = .ok (.iconst 1, 1) := by decide +kernel
theorem d_Net_edge_63 : decode b_Net_edge 63 = .ok (.iload_n 2, 1) := by decide +kernel
theorem d_Net_edge_64 : decode b_Net_edge 64 = .ok (.ishl, 1) := by decide +kernel
theorem d_Net_edge_65 : decode b_Net_edge 65 = .ok (.invokevirtual 80, 3) := by decide +kernel
theorem d_Net_edge_68 : decode b_Net_edge 68 = .ok (.return_, 1) := by decide +kernel
theorem d_Net_link_0 : decode b_Net_link 0 = .ok (.aload_n 0, 1) := by decide +kernel
theorem d_Net_link_1 : decode b_Net_link 1 = .ok (.getfield 35, 3) := by decide +kernel
theorem d_Net_link_4 : decode b_Net_link 4 = .ok (.invokevirtual 84, 3) := by decide +kernel
theorem d_Net_link_7 : decode b_Net_link 7 = .ok (.invokestatic 88, 3) := by decide +kernel
theorem d_Net_link_10 : decode b_Net_link 10 = .ok (.iload_n 1, 1) := by decide +kernel
theorem d_Net_link_11 : decode b_Net_link 11 = .ok (.invokestatic 66, 3) := by decide +kernel
theorem d_Net_link_14 : decode b_Net_link 14 = .ok (.ifCond .eq 19, 3) := by decide +kernel
theorem d_Net_link_17 : decode b_Net_link 17 = .ok (.iload_n 2, 1) := by decide +kernel
theorem d_Net_link_18 : decode b_Net_link 18 = .ok (.invokestatic 66, 3) := by decide +kernel
theorem d_Net_link_21 : decode b_Net_link 21 = .ok (.ifCond .eq 12, 3) := by decide +kernel
theorem d_Net_link_24 : decode b_Net_link 24 = .ok (.iload_n 1, 1) := by decide +kernel
theorem d_Net_link_25 : decode b_Net_link 25 = .ok (.iload_n 2, 1) := by decide +kernel
theorem d_Net_link_26 : decode b_Net_link 26 = .ok (.if_icmp .eq 7, 3) := by decide +kernel
theorem d_Net_link_29 : decode b_Net_link 29 = .ok (.iconst 1, 1) := by decide +kernel
theorem d_Net_link_30 : decode b_Net_link 30 = .ok (.goto 4, 3) := by decide +kernel
theorem d_Net_link_33 : decode b_Net_link 33 = .ok (.iconst 0, 1) := by decide +kernel
theorem d_Net_link_34 : decode b_Net_link 34 = .ok (.invokestatic 70, 3) := by decide +kernel
theorem d_Net_link_37 : decode b_Net_link 37 = .ok (.iload_n 3, 1) := by decide +kernel
theorem d_Net_link_38 : decode b_Net_link 38 = .ok (.iconst 1, 1) := by decide +kernel
theorem d_Net_link_39 : decode b_Net_link 39 = .ok (.if_icmp .lt 26, 3) := by decide +kernel
theorem d_Net_link_42 : decode b_Net_link 42 = .ok (.iload_n 3, 1) := by decide +kernel
theorem d_Net_link_43 : decode b_Net_link 43 = .ok (.sipush 1000, 3) := by decide +kernel
theorem d_Net_link_46 : decode b_Net_link 46 = .ok (.if_icmp .gt 19, 3) := by decide +kernel
theorem d_Net_link_49 : decode b_Net_link 49 = .ok (.aload_n 0, 1) := by decide +kernel
theorem d_Net_link_50 : decode b_Net_link 50 = .ok (.getfield 19, 3) := by decide +kernel
theorem d_Net_link_53 : decode b_Net_link 53 = .ok (.iload_n 1, 1) := by decide +kernel
theorem d_Net_link_54 : decode b_Net_link 54 = .ok (.iload_n 2, 1) := by decide +kernel
theorem d_Net_link_55 : decode b_Net_link 55 = .ok (.invokevirtual 91, 3) := by decide +kernel
theorem d_Net_link_58 : decode b_Net_link 58 = .ok (.ifCond .ne 7, 3) := by decide +kernel
theorem d_Net_link_61 : decode b_Net_link 61 = .ok (.iconst 1, 1) := by decide +kernel
theorem d_Net_link_62 : decode b_Net_link 62 = .ok (.goto 4, 3) := by decide +kernel
theorem d_Net_link_65 : decode b_Net_link 65 = .ok (.iconst 0, 1) := by decide +kernel
theorem d_Net_link_66 : decode b_Net_link 66 = .ok (.invokestatic 70, 3) := by decide +kernel
theorem d_Net_link_69 : decode b_Net_link 69 = .ok (.aload_n 0, 1) := by decide +kernel
theorem d_Net_link_70 : decode b_Net_link 70 = .ok (.getfield 19, 3) := by decide +kernel
theorem d_Net_link_73 : decode b_Net_link 73 = .ok (.iload_n 1, 1) := by decide +kernel
theorem d_Net_link_74 : decode b_Net_link 74 = .ok (.iload_n 2, 1) := by decide +kernel
theorem d_Net_link_75 : decode b_Net_link 75 = .ok (.iload_n 3, 1) := by decide +kernel
theorem d_Net_link_76 : decode b_Net_link 76 = .ok (.invokevirtual 95, 3) := by decide +kernel
theorem d_Net_link_79 : decode b_Net_link 79 = .ok (.aload_n 0, 1) := by decide +kernel
theorem d_Net_link_80 : decode b_Net_link 80 = .ok (.getfield 35, 3) := by decide +kernel
theorem d_Net_link_83 : decode b_Net_link 83 = .ok (.iload_n 1, 1) := by decide +kernel
theorem d_Net_link_84 : decode b_Net_link 84 = .ok (.iload_n 2, 1) := by decide +kernel
theorem d_Net_link_85 : decode b_Net_link 85 = .ok (.invokestatic 98, 3) := by decide +kernel
theorem d_Net_link_88 : decode b_Net_link 88 = .ok (.iload_n 1, 1) := by decide +kernel
theorem d_Net_link_89 : decode b_Net_link 89 = .ok (.iload_n 2, 1) := by decide +kernel
theorem d_Net_link_90 : decode b_Net_link 90 = .ok (.invokestatic 104, 3) := by decide +kernel
theorem d_Net_link_93 : decode b_Net_link 93 = .ok (.invokevirtual 107, 3) := by decide +kernel
theorem d_Net_link_96 : decode b_Net_link 96 = .ok (.return_, 1) := by decide +kernel
theorem d_Net_cut_0 : decode b_Net_cut 0 = .ok (.iload_n 1, 1) := by decide +kernel
theorem d_Net_cut_1 : decode b_Net_cut 1 = .ok (.invokestatic 66, 3) := by decide +kernel
theorem d_Net_cut_4 : decode b_Net_cut 4 = .ok (.ifCond .eq 26, 3) := by decide +kernel
theorem d_Net_cut_7 : decode b_Net_cut 7 = .ok (.iload_n 2, 1) := by decide +kernel
theorem d_Net_cut_8 : decode b_Net_cut 8 = .ok (.invokestatic 66, 3) := by decide +kernel
theorem d_Net_cut_11 : decode b_Net_cut 11 = .ok (.ifCond .eq 19, 3) := by decide +kernel
theorem d_Net_cut_14 : decode b_Net_cut 14 = .ok (.aload_n 0, 1) := by decide +kernel
theorem d_Net_cut_15 : decode b_Net_cut 15 = .ok (.getfield 19, 3) := by decide +kernel
theorem d_Net_cut_18 : decode b_Net_cut 18 = .ok (.iload_n 1, 1) := by decide +kernel
theorem d_Net_cut_19 : decode b_Net_cut 19 = .ok (.iload_n 2, 1) := by decide +kernel
theorem d_Net_cut_20 : decode b_Net_cut 20 = .ok (.invokevirtual 110, 3) := by decide +kernel
theorem d_Net_cut_23 : decode b_Net_cut 23 = .ok (.ifCond .eq 7, 3) := by decide +kernel
theorem d_Net_cut_26 : decode b_Net_cut 26 = .ok (.iconst 1, 1) := by decide +kernel
theorem d_Net_cut_27 : decode b_Net_cut 27 = .ok (.goto 4, 3) := by decide +kernel
theorem d_Net_cut_30 : decode b_Net_cut 30 = .ok (.iconst 0, 1) := by decide +kernel
theorem d_Net_cut_31 : decode b_Net_cut 31 = .ok (.invokestatic 70, 3) := by decide +kernel
theorem d_Net_cut_34 : decode b_Net_cut 34 = .ok (.aload_n 0, 1) := by decide +kernel
theorem d_Net_cut_35 : decode b_Net_cut 35 = .ok (.getfield 19, 3) := by decide +kernel
theorem d_Net_cut_38 : decode b_Net_cut 38 = .ok (.iload_n 1, 1) := by decide +kernel
theorem d_Net_cut_39 : decode b_Net_cut 39 = .ok (.iload_n 2, 1) := by decide +kernel
theorem d_Net_cut_40 : decode b_Net_cut 40 = .ok (.invokevirtual 113, 3) := by decide +kernel
theorem d_Net_cut_43 : decode b_Net_cut 43 = .ok (.return_, 1) := by decide +kernel
theorem d_Net_notice_0 : decode b_Net_notice 0 = .ok (.aload_n 0, 1) := by decide +kernel
theorem d_Net_notice_1 : decode b_Net_notice 1 = .ok (.getfield 35, 3) := by decide +kernel
theorem d_Net_notice_4 : decode b_Net_notice 4 = .ok (.invokevirtual 84, 3) := by decide +kernel
theorem d_Net_notice_7 : decode b_Net_notice 7 = .ok (.invokestatic 88, 3) := by decide +kernel
theorem d_Net_notice_10 : decode b_Net_notice 10 = .ok (.iload_n 1, 1) := by decide +kernel
theorem d_Net_notice_11 : decode b_Net_notice 11 = .ok (.invokestatic 66, 3) := by decide +kernel
theorem d_Net_notice_14 : decode b_Net_notice 14 = .ok (.ifCond .eq 14, 3) := by decide +kernel
theorem d_Net_notice_17 : decode b_Net_notice 17 = .ok (.iload_n 2, 1) := by decide +kernel
theorem d_Net_notice_18 : decode b_Net_notice 18 = .ok (.invokestatic 66, 3) := by decide +kernel
theorem d_Net_notice_21 : decode b_Net_notice 21 = .ok (.ifCond .eq 7, 3) := by decide +kernel
theorem d_Net_notice_24 : decode b_Net_notice 24 = .ok (.iconst 1, 1) := by decide +kernel
theorem d_Net_notice_25 : decode b_Net_notice 25 = .ok (.goto 4, 3) := by decide +kernel
theorem d_Net_notice_28 : decode b_Net_notice 28 = .ok (.iconst 0, 1) := by decide +kernel
theorem d_Net_notice_29 : decode b_Net_notice 29 = .ok (.invokestatic 70, 3) := by decide +kernel
theorem d_Net_notice_32 : decode b_Net_notice 32 = .ok (.aload_n 0, 1) := by decide +kernel
theorem d_Net_notice_33 : decode b_Net_notice 33 = .ok (.getfield 19, 3) := by decide +kernel
theorem d_Net_notice_36 : decode b_Net_notice 36 = .ok (.iload_n 1, 1) := by decide +kernel
theorem d_Net_notice_37 : decode b_Net_notice 37 = .ok (.iload_n 2, 1) := by decide +kernel
theorem d_Net_notice_38 : decode b_Net_notice 38 = .ok (.invokevirtual 116, 3) := by decide +kernel
theorem d_Net_notice_41 : decode b_Net_notice 41 = .ok (.ifCond .eq 19, 3) := by decide +kernel
theorem d_Net_notice_44 : decode b_Net_notice 44 = .ok (.aload_n 0, 1) := by decide +kernel
theorem d_Net_notice_45 : decode b_Net_notice 45 = .ok (.getfield 19, 3) := by decide +kernel
theorem d_Net_notice_48 : decode b_Net_notice 48 = .ok (.iload_n 1, 1) := by decide +kernel
theorem d_Net_notice_49 : decode b_Net_notice 49 = .ok (.iload_n 2, 1) := by decide +kernel
theorem d_Net_notice_50 : decode b_Net_notice 50 = .ok (.invokevirtual 119, 3) := by decide +kernel
theorem d_Net_notice_53 : decode b_Net_notice 53 = .ok (.ifCond .eq 7, 3) := by decide +kernel
theorem d_Net_notice_56 : decode b_Net_notice 56 = .ok (.iconst 1, 1) := by decide +kernel
theorem d_Net_notice_57 : decode b_Net_notice 57 = .ok (.goto 4, 3) := by decide +kernel
theorem d_Net_notice_60 : decode b_Net_notice 60 = .ok (.iconst 0, 1) := by decide +kernel
theorem d_Net_notice_61 : decode b_Net_notice 61 = .ok (.invokestatic 70, 3) := by decide +kernel
theorem d_Net_notice_64 : decode b_Net_notice 64 = .ok (.aload_n 0, 1) := by decide +kernel
theorem d_Net_notice_65 : decode b_Net_notice 65 = .ok (.getfield 19, 3) := by decide +kernel
theorem d_Net_notice_68 : decode b_Net_notice 68 = .ok (.iload_n 1, 1) := by decide +kernel
theorem d_Net_notice_69 : decode b_Net_notice 69 = .ok (.iload_n 2, 1) := by decide +kernel
theorem d_Net_notice_70 : decode b_Net_notice 70 = .ok (.invokevirtual 122, 3) := by decide +kernel
theorem d_Net_notice_73 : decode b_Net_notice 73 = .ok (.aload_n 0, 1) := by decide +kernel
theorem d_Net_notice_74 : decode b_Net_notice 74 = .ok (.getfield 35, 3) := by decide +kernel
theorem d_Net_notice_77 : decode b_Net_notice 77 = .ok (.iload_n 1, 1) := by decide +kernel
theorem d_Net_notice_78 : decode b_Net_notice 78 = .ok (.invokevirtual 125, 3) := by decide +kernel
theorem d_Net_notice_81 : decode b_Net_notice 81 = .ok (.return_, 1) := by decide +kernel
theorem d_Net_step_0 : decode b_Net_step 0 = .ok (.aload_n 0, 1) := by decide +kernel
theorem d_Net_step_1 : decode b_Net_step 1 = .ok (.getfield 35, 3) := by decide +kernel
theorem d_Net_step_4 : decode b_Net_step 4 = .ok (.invokevirtual 129, 3) := by decide +kernel
theorem d_Net_step_7 : decode b_Net_step 7 = .ok (.sipush 3900, 3) := by decide +kernel
theorem d_Net_step_10 : decode b_Net_step 10 = .ok (.if_icmp .ge 7, 3) := by decide +kernel
theorem d_Net_step_13 : decode b_Net_step 13 = .ok (.iconst 1, 1) := by decide +kernel
theorem d_Net_step_14 : decode b_Net_step 14 = .ok (.goto 4, 3) := by decide +kernel
theorem d_Net_step_17 : decode b_Net_step 17 = .ok (.iconst 0, 1) := by decide +kernel
theorem d_Net_step_18 : decode b_Net_step 18 = .ok (.invokestatic 88, 3) := by decide +kernel
theorem d_Net_step_21 : decode b_Net_step 21 = .ok (.iload_n 1, 1) := by decide +kernel
theorem d_Net_step_22 : decode b_Net_step 22 = .ok (.invokestatic 133, 3) := by decide +kernel
theorem d_Net_step_25 : decode b_Net_step 25 = .ok (.invokestatic 70, 3) := by decide +kernel
theorem d_Net_step_28 : decode b_Net_step 28 = .ok (.iconst 0, 1) := by decide +kernel
theorem d_Net_step_29 : decode b_Net_step 29 = .ok (.istore_n 2, 1) := by decide +kernel
theorem d_Net_step_30 : decode b_Net_step 30 = .ok (.iload_n 2, 1) := by decide +kernel
theorem d_Net_step_31 : decode b_Net_step 31 = .ok (.iload_n 1, 1) := by decide +kernel
theorem d_Net_step_32 : decode b_Net_step 32 = .ok (.if_icmp .ge 39, 3) := by decide +kernel
theorem d_Net_step_35 : decode b_Net_step 35 = .ok (.aload_n 0, 1) := by decide +kernel
theorem d_Net_step_36 : decode b_Net_step 36 = .ok (.getfield 35, 3) := by decide +kernel
theorem d_Net_step_39 : decode b_Net_step 39 = .ok (.invokevirtual 129, 3) := by decide +kernel
theorem d_Net_step_42 : decode b_Net_step 42 = .ok (.ifCond .le 29, 3) := by decide +kernel
theorem d_Net_step_45 : decode b_Net_step 45 = .ok (.aload_n 0, 1) := by decide +kernel
theorem d_Net_step_46 : decode b_Net_step 46 = .ok (.getfield 35, 3) := by decide +kernel
theorem d_Net_step_49 : decode b_Net_step 49 = .ok (.invokevirtual 129, 3) := by decide +kernel
theorem d_Net_step_52 : decode b_Net_step 52 = .ok (.sipush 3900, 3) := by decide +kernel
theorem d_Net_step_55 : decode b_Net_step 55 = .ok (.if_icmp .ge 16, 3) := by decide +kernel
theorem d_Net_step_58 : decode b_Net_step 58 = .ok (.aload_n 0, 1) := by decide +kernel
theorem d_Net_step_59 : decode b_Net_step 59 = .ok (.getfield 35, 3) := by decide +kernel
theorem d_Net_step_62 : decode b_Net_step 62 = .ok (.invokevirtual 136, 3) := by decide +kernel
theorem d_Net_step_65 : decode b_Net_step 65 = .ok (.iinc 2 1, 3) := by decide +kernel
theorem d_Net_step_68 : decode b_Net_step 68 = .ok (.goto (-38), 3) := by decide +kernel
theorem d_Net_step_71 : decode b_Net_step 71 = .ok (.iload_n 2, 1) := by decide +kernel
theorem d_Net_step_72 : decode b_Net_step 72 = .ok (.ireturn, 1) := by decide +kernel
theorem d_Net_settled_0 : decode b_Net_settled 0 = .ok (.aload_n 0, 1) := by decide +kernel
theorem d_Net_settled_1 : decode b_Net_settled 1 = .ok (.getfield 35, 3) := by decide +kernel
theorem d_Net_settled_4 : decode b_Net_settled 4 = .ok (.invokevirtual 129, 3) := by decide +kernel
theorem d_Net_settled_7 : decode b_Net_settled 7 = .ok (.ifCond .ne 17, 3) := by decide +kernel
theorem d_Net_settled_10 : decode b_Net_settled 10 = .ok (.aload_n 0, 1) := by decide +kernel
theorem d_Net_settled_11 : decode b_Net_settled 11 = .ok (.getfield 35, 3) := by decide +kernel
theorem d_Net_settled_14 : decode b_Net_settled 14 = .ok (.invokevirtual 139, 3) := by decide +kernel
theorem d_Net_settled_17 : decode b_Net_settled 17 = .ok (.ifCond .eq 7, 3) := by decide +kernel
theorem d_Net_settled_20 : decode b_Net_settled 20 = .ok (.iconst 1, 1) := by decide +kernel
theorem d_Net_settled_21 : decode b_Net_settled 21 = .ok (.goto 4, 3) := by decide +kernel
theorem d_Net_settled_24 : decode b_Net_settled 24 = .ok (.iconst 0, 1) := by decide +kernel
theorem d_Net_settled_25 : decode b_Net_settled 25 = .ok (.ireturn, 1) := by decide +kernel
theorem d_Net_mask_0 : decode b_Net_mask 0 = .ok (.iload_n 1, 1) := by decide +kernel
theorem d_Net_mask_1 : decode b_Net_mask 1 = .ok (.invokestatic 66, 3) := by decide +kernel
theorem d_Net_mask_4 : decode b_Net_mask 4 = .ok (.ifCond .eq 14, 3) := by decide +kernel
theorem d_Net_mask_7 : decode b_Net_mask 7 = .ok (.iload_n 2, 1) := by decide +kernel
theorem d_Net_mask_8 : decode b_Net_mask 8 = .ok (.invokestatic 66, 3) := by decide +kernel
theorem d_Net_mask_11 : decode b_Net_mask 11 = .ok (.ifCond .eq 7, 3) := by decide +kernel
theorem d_Net_mask_14 : decode b_Net_mask 14 = .ok (.iconst 1, 1) := by decide +kernel
theorem d_Net_mask_15 : decode b_Net_mask 15 = .ok (.goto 4, 3) := by decide +kernel
theorem d_Net_mask_18 : decode b_Net_mask 18 = .ok (.iconst 0, 1) := by decide +kernel
theorem d_Net_mask_19 : decode b_Net_mask 19 = .ok (.invokestatic 70, 3) := by decide +kernel
theorem d_Net_mask_22 : decode b_Net_mask 22 = .ok (.aload_n 0, 1) := by decide +kernel
theorem d_Net_mask_23 : decode b_Net_mask 23 = .ok (.getfield 44, 3) := by decide +kernel
theorem d_Net_mask_26 : decode b_Net_mask 26 = .ok (.iload_n 1, 1) := by decide +kernel
theorem d_Net_mask_27 : decode b_Net_mask 27 = .ok (.invokevirtual 142, 3) := by decide +kernel
theorem d_Net_mask_30 : decode b_Net_mask 30 = .ok (.iload_n 2, 1) := by decide +kernel
theorem d_Net_mask_31 : decode b_Net_mask 31 = .ok (.iaload, 1) := by decide +kernel
theorem d_Net_mask_32 : decode b_Net_mask 32 = .ok (.ireturn, 1) := by decide +kernel
theorem d_Net_distance_0 : decode b_Net_distance 0 = .ok (.iload_n 1, 1) := by decide +kernel
theorem d_Net_distance_1 : decode b_Net_distance 1 = .ok (.invokestatic 66, 3) := by decide +kernel
theorem d_Net_distance_4 : decode b_Net_distance 4 = .ok (.ifCond .eq 14, 3) := by decide +kernel
theorem d_Net_distance_7 : decode b_Net_distance 7 = .ok (.iload_n 2, 1) := by decide +kernel
theorem d_Net_distance_8 : decode b_Net_distance 8 = .ok (.invokestatic 66, 3) := by decide +kernel
theorem d_Net_distance_11 : decode b_Net_distance 11 = .ok (.ifCond .eq 7, 3) := by decide +kernel
theorem d_Net_distance_14 : decode b_Net_distance 14 = .ok (.iconst 1, 1) := by decide +kernel
theorem d_Net_distance_15 : decode b_Net_distance 15 = .ok (.goto 4, 3) := by decide +kernel
theorem d_Net_distance_18 : decode b_Net_distance 18 = .ok (.iconst 0, 1) := by decide +kernel
theorem d_Net_distance_19 : decode b_Net_distance 19 = .ok (.invokestatic 70, 3) := by decide +kernel
theorem d_Net_distance_22 : decode b_Net_distance 22 = .ok (.aload_n 0, 1) := by decide +kernel
theorem d_Net_distance_23 : decode b_Net_distance 23 = .ok (.getfield 44, 3) := by decide +kernel
theorem d_Net_distance_26 : decode b_Net_distance 26 = .ok (.iload_n 1, 1) := by decide +kernel
theorem d_Net_distance_27 : decode b_Net_distance 27 = .ok (.iload_n 2, 1) := by decide +kernel
theorem d_Net_distance_28 : decode b_Net_distance 28 = .ok (.invokevirtual 146, 3) := by decide +kernel
theorem d_Net_distance_31 : decode b_Net_distance 31 = .ok (.ireturn, 1) := by decide +kernel
theorem d_Net_alternate_0 : decode b_Net_alternate 0 = .ok (.iload_n 1, 1) := by decide +kernel
theorem d_Net_alternate_1 : decode b_Net_alternate 1 = .ok (.invokestatic 66, 3) := by decide +kernel
theorem d_Net_alternate_4 : decode b_Net_alternate 4 = .ok (.ifCond .eq 14, 3) := by decide +kernel
theorem d_Net_alternate_7 : decode b_Net_alternate 7 = .ok (.iload_n 2, 1) := by decide +kernel
theorem d_Net_alternate_8 : decode b_Net_alternate 8 = .ok (.invokestatic 66, 3) := by decide +kernel
theorem d_Net_alternate_11 : decode b_Net_alternate 11 = .ok (.ifCond .eq 7, 3) := by decide +kernel
theorem d_Net_alternate_14 : decode b_Net_alternate 14 = .ok (.iconst 1, 1) := by decide +kernel
theorem d_Net_alternate_15 : decode b_Net_alternate 15 = .ok (.goto 4, 3) := by decide +kernel
theorem d_Net_alternate_18 : decode b_Net_alternate 18 = .ok (.iconst 0, 1) := by decide +kernel
theorem d_Net_alternate_19 : decode b_Net_alternate 19 = .ok (.invokestatic 70, 3) := by decide +kernel
theorem d_Net_alternate_22 : decode b_Net_alternate 22 = .ok (.aload_n 0, 1) := by decide +kernel
theorem d_Net_alternate_23 : decode b_Net_alternate 23 = .ok (.getfield 44, 3) := by decide +kernel
theorem d_Net_alternate_26 : decode b_Net_alternate 26 = .ok (.iload_n 1, 1) := by decide +kernel
theorem d_Net_alternate_27 : decode b_Net_alternate 27 = .ok (.iload_n 2, 1) := by decide +kernel
theorem d_Net_alternate_28 : decode b_Net_alternate 28 = .ok (.invokevirtual 149, 3) := by decide +kernel
theorem d_Net_alternate_31 : decode b_Net_alternate 31 = .ok (.ireturn, 1) := by decide +kernel
theorem d_Net_stored_0 : decode b_Net_stored 0 = .ok (.iload_n 1, 1) := by decide +kernel
theorem d_Net_stored_1 : decode b_Net_stored 1 = .ok (.invokestatic 66, 3) := by decide +kernel
theorem d_Net_stored_4 : decode b_Net_stored 4 = .ok (.ifCond .eq 14, 3) := by decide +kernel
theorem d_Net_stored_7 : decode b_Net_stored 7 = .ok (.iload_n 2, 1) := by decide +kernel
theorem d_Net_stored_8 : decode b_Net_stored 8 = .ok (.invokestatic 66, 3) := by decide +kernel
theorem d_Net_stored_11 : decode b_Net_stored 11 = .ok (.ifCond .eq 7, 3) := by decide +kernel
theorem d_Net_stored_14 : decode b_Net_stored 14 = .ok (.iconst 1, 1) := by decide +kernel
theorem d_Net_stored_15 : decode b_Net_stored 15 = .ok (.goto 4, 3) := by decide +kernel
theorem d_Net_stored_18 : decode b_Net_stored 18 = .ok (.iconst 0, 1) := by decide +kernel
theorem d_Net_stored_19 : decode b_Net_stored 19 = .ok (.invokestatic 70, 3) := by decide +kernel
theorem d_Net_stored_22 : decode b_Net_stored 22 = .ok (.aload_n 0, 1) := by decide +kernel
theorem d_Net_stored_23 : decode b_Net_stored 23 = .ok (.getfield 26, 3) := by decide +kernel
theorem d_Net_stored_26 : decode b_Net_stored 26 = .ok (.aload_n 0, 1) := by decide +kernel
theorem d_Net_stored_27 : decode b_Net_stored 27 = .ok (.getfield 26, 3) := by decide +kernel
theorem d_Net_stored_30 : decode b_Net_stored 30 = .ok (.iload_n 1, 1) := by decide +kernel
theorem d_Net_stored_31 : decode b_Net_stored 31 = .ok (.iload_n 2, 1) := by decide +kernel
theorem d_Net_stored_32 : decode b_Net_stored 32 = .ok (.invokevirtual 152, 3) := by decide +kernel
theorem d_Net_stored_35 : decode b_Net_stored 35 = .ok (.invokevirtual 155, 3) := by decide +kernel
theorem d_Net_stored_38 : decode b_Net_stored 38 = .ok (.ireturn, 1) := by decide +kernel
theorem d_Net_ingress_0 : decode b_Net_ingress 0 = .ok (.iload_n 1, 1) := by decide +kernel
theorem d_Net_ingress_1 : decode b_Net_ingress 1 = .ok (.invokestatic 159, 3) := by decide +kernel
theorem d_Net_ingress_4 : decode b_Net_ingress 4 = .ok (.ifCond .eq 26, 3) := by decide +kernel
theorem d_Net_ingress_7 : decode b_Net_ingress 7 = .ok (.aload_n 0, 1) := by decide +kernel
theorem d_Net_ingress_8 : decode b_Net_ingress 8 = .ok (.iload_n 2, 1) := by decide +kernel
theorem d_Net_ingress_9 : decode b_Net_ingress 9 = .ok (.invokevirtual 162, 3) := by decide +kernel
theorem d_Net_ingress_12 : decode b_Net_ingress 12 = .ok (.ifCond .eq 18, 3) := by decide +kernel
theorem d_Net_ingress_15 : decode b_Net_ingress 15 = .ok (.aload_n 0, 1) := by decide +kernel
theorem d_Net_ingress_16 : decode b_Net_ingress 16 = .ok (.getfield 62, 3) := by decide +kernel
theorem d_Net_ingress_19 : decode b_Net_ingress 19 = .ok (.iload_n 1, 1) := by decide +kernel
theorem d_Net_ingress_20 : decode b_Net_ingress 20 = .ok (.invokevirtual 163, 3) := by decide +kernel
theorem d_Net_ingress_23 : decode b_Net_ingress 23 = .ok (.ifCond .eq 7, 3) := by decide +kernel
theorem d_Net_ingress_26 : decode b_Net_ingress 26 = .ok (.iconst 1, 1) := by decide +kernel
theorem d_Net_ingress_27 : decode b_Net_ingress 27 = .ok (.goto 4, 3) := by decide +kernel
theorem d_Net_ingress_30 : decode b_Net_ingress 30 = .ok (.iconst 0, 1) := by decide +kernel
theorem d_Net_ingress_31 : decode b_Net_ingress 31 = .ok (.invokestatic 70, 3) := by decide +kernel
theorem d_Net_ingress_34 : decode b_Net_ingress 34 = .ok (.aload_n 0, 1) := by decide +kernel
theorem d_Net_ingress_35 : decode b_Net_ingress 35 = .ok (.getfield 62, 3) := by decide +kernel
theorem d_Net_ingress_38 : decode b_Net_ingress 38 = .ok (.iload_n 1, 1) := by decide +kernel
theorem d_Net_ingress_39 : decode b_Net_ingress 39 = .ok (.iload_n 2, 1) := by decide +kernel
theorem d_Net_ingress_40 : decode b_Net_ingress 40 = .ok (.invokevirtual 166, 3) := by decide +kernel
theorem d_Net_ingress_43 : decode b_Net_ingress 43 = .ok (.return_, 1) := by decide +kernel
theorem d_Net_join_0 : decode b_Net_join 0 = .ok (.aload_n 0, 1) := by decide +kernel
theorem d_Net_join_1 : decode b_Net_join 1 = .ok (.iload_n 1, 1) := by decide +kernel
theorem d_Net_join_2 : decode b_Net_join 2 = .ok (.invokevirtual 162, 3) := by decide +kernel
theorem d_Net_join_5 : decode b_Net_join 5 = .ok (.ifCond .eq 24, 3) := by decide +kernel
theorem d_Net_join_8 : decode b_Net_join 8 = .ok (.iload_n 2, 1) := by decide +kernel
theorem d_Net_join_9 : decode b_Net_join 9 = .ok (.invokestatic 159, 3) := by decide +kernel
theorem d_Net_join_12 : decode b_Net_join 12 = .ok (.ifCond .eq 17, 3) := by decide +kernel
theorem d_Net_join_15 : decode b_Net_join 15 = .ok (.iload_n 3, 1) := by decide +kernel
theorem d_Net_join_16 : decode b_Net_join 16 = .ok (.iconst 1, 1) := by decide +kernel
theorem d_Net_join_17 : decode b_Net_join 17 = .ok (.if_icmp .eq 8, 3) := by decide +kernel
theorem d_Net_join_20 : decode b_Net_join 20 = .ok (.iload_n 3, 1) := by decide +kernel
theorem d_Net_join_21 : decode b_Net_join 21 = .ok (.iconst (-1), 1) := by decide +kernel
theorem d_Net_join_22 : decode b_Net_join 22 = .ok (.if_icmp .ne 7, 3) := by decide +kernel
theorem d_Net_join_25 : decode b_Net_join 25 = .ok (.iconst 1, 1) := by decide +kernel
theorem d_Net_join_26 : decode b_Net_join 26 = .ok (.goto 4, 3) := by decide +kernel
theorem d_Net_join_29 : decode b_Net_join 29 = .ok (.iconst 0, 1) := by decide +kernel
theorem d_Net_join_30 : decode b_Net_join 30 = .ok (.invokestatic 70, 3) := by decide +kernel
theorem d_Net_join_33 : decode b_Net_join 33 = .ok (.aload_n 0, 1) := by decide +kernel
theorem d_Net_join_34 : decode b_Net_join 34 = .ok (.getfield 62, 3) := by decide +kernel
theorem d_Net_join_37 : decode b_Net_join 37 = .ok (.iload_n 1, 1) := by decide +kernel
theorem d_Net_join_38 : decode b_Net_join 38 = .ok (.iload_n 2, 1) := by decide +kernel
theorem d_Net_join_39 : decode b_Net_join 39 = .ok (.invokevirtual 169, 3) := by decide +kernel
theorem d_Net_join_42 : decode b_Net_join 42 = .ok (.iload_n 3, 1) := by decide +kernel
theorem d_Net_join_43 : decode b_Net_join 43 = .ok (.iadd, 1) := by decide +kernel
theorem d_Net_join_44 : decode b_Net_join 44 = .ok (.istore 4, 2) := by decide +kernel
theorem d_Net_join_46 : decode b_Net_join 46 = .ok (.iload 4, 2) := by decide +kernel
theorem d_Net_join_48 : decode b_Net_join 48 = .ok (.ifCond .lt 14, 3) := by decide +kernel
theorem d_Net_join_51 : decode b_Net_join 51 = .ok (.iload 4, 2) := by decide +kernel
theorem d_Net_join_53 : decode b_Net_join 53 = .ok (.bipush 100, 2) := by decide +kernel
theorem d_Net_join_55 : decode b_Net_join 55 = .ok (.if_icmp .gt 7, 3) := by decide +kernel
theorem d_Net_join_58 : decode b_Net_join 58 = .ok (.iconst 1, 1) := by decide +kernel
theorem d_Net_join_59 : decode b_Net_join 59 = .ok (.goto 4, 3) := by decide +kernel
theorem d_Net_join_62 : decode b_Net_join 62 = .ok (.iconst 0, 1) := by decide +kernel
theorem d_Net_join_63 : decode b_Net_join 63 = .ok (.invokestatic 70, 3) := by decide +kernel
theorem d_Net_join_66 : decode b_Net_join 66 = .ok (.aload_n 0, 1) := by decide +kernel
theorem d_Net_join_67 : decode b_Net_join 67 = .ok (.getfield 62, 3) := by decide +kernel
theorem d_Net_join_70 : decode b_Net_join 70 = .ok (.iload_n 1, 1) := by decide +kernel
theorem d_Net_join_71 : decode b_Net_join 71 = .ok (.iload_n 2, 1) := by decide +kernel
theorem d_Net_join_72 : decode b_Net_join 72 = .ok (.iload 4, 2) := by decide +kernel
theorem d_Net_join_74 : decode b_Net_join 74 = .ok (.invokevirtual 172, 3) := by decide +kernel
theorem d_Net_join_77 : decode b_Net_join 77 = .ok (.invokestatic 88, 3) := by decide +kernel
theorem d_Net_join_80 : decode b_Net_join 80 = .ok (.aload_n 0, 1) := by decide +kernel
theorem d_Net_join_81 : decode b_Net_join 81 = .ok (.getfield 62, 3) := by decide +kernel
theorem d_Net_join_84 : decode b_Net_join 84 = .ok (.iload_n 1, 1) := by decide +kernel
theorem d_Net_join_85 : decode b_Net_join 85 = .ok (.iload_n 2, 1) := by decide +kernel
theorem d_Net_join_86 : decode b_Net_join 86 = .ok (.iload 4, 2) := by decide +kernel
theorem d_Net_join_88 : decode b_Net_join 88 = .ok (.invokevirtual 176, 3) := by decide +kernel
theorem d_Net_join_91 : decode b_Net_join 91 = .ok (.iload 4, 2) := by decide +kernel
theorem d_Net_join_93 : decode b_Net_join 93 = .ok (.ireturn, 1) := by decide +kernel
theorem d_Net_report_0 : decode b_Net_report 0 = .ok (.aload_n 0, 1) := by decide +kernel
theorem d_Net_report_1 : decode b_Net_report 1 = .ok (.getfield 62, 3) := by decide +kernel
theorem d_Net_report_4 : decode b_Net_report 4 = .ok (.invokevirtual 179, 3) := by decide +kernel
theorem d_Net_report_7 : decode b_Net_report 7 = .ok (.sipush 3900, 3) := by decide +kernel
theorem d_Net_report_10 : decode b_Net_report 10 = .ok (.if_icmp .ge 7, 3) := by decide +kernel
theorem d_Net_report_13 : decode b_Net_report 13 = .ok (.iconst 1, 1) := by decide +kernel
theorem d_Net_report_14 : decode b_Net_report 14 = .ok (.goto 4, 3) := by decide +kernel
theorem d_Net_report_17 : decode b_Net_report 17 = .ok (.iconst 0, 1) := by decide +kernel
theorem d_Net_report_18 : decode b_Net_report 18 = .ok (.invokestatic 88, 3) := by decide +kernel
theorem d_Net_report_21 : decode b_Net_report 21 = .ok (.aload_n 0, 1) := by decide +kernel
theorem d_Net_report_22 : decode b_Net_report 22 = .ok (.iload_n 1, 1) := by decide +kernel
theorem d_Net_report_23 : decode b_Net_report 23 = .ok (.invokevirtual 162, 3) := by decide +kernel
theorem d_Net_report_26 : decode b_Net_report 26 = .ok (.invokestatic 70, 3) := by decide +kernel
theorem d_Net_report_29 : decode b_Net_report 29 = .ok (.aload_n 0, 1) := by decide +kernel
theorem d_Net_report_30 : decode b_Net_report 30 = .ok (.getfield 62, 3) := by decide +kernel
theorem d_Net_report_33 : decode b_Net_report 33 = .ok (.iload_n 1, 1) := by decide +kernel
theorem d_Net_report_34 : decode b_Net_report 34 = .ok (.invokevirtual 180, 3) := by decide +kernel
theorem d_Net_report_37 : decode b_Net_report 37 = .ok (.return_, 1) := by decide +kernel
theorem d_Net_carry_0 : decode b_Net_carry 0 = .ok (.iload_n 1, 1) := by decide +kernel
theorem d_Net_carry_1 : decode b_Net_carry 1 = .ok (.iconst (-1), 1) := by decide +kernel
theorem d_Net_carry_2 : decode b_Net_carry 2 = .ok (.if_icmp .eq 10, 3) := by decide +kernel
theorem d_Net_carry_5 : decode b_Net_carry 5 = .ok (.iload_n 1, 1) := by decide +kernel
theorem d_Net_carry_6 : decode b_Net_carry 6 = .ok (.invokestatic 133, 3) := by decide +kernel
theorem d_Net_carry_9 : decode b_Net_carry 9 = .ok (.ifCond .eq 7, 3) := by decide +kernel
theorem d_Net_carry_12 : decode b_Net_carry 12 = .ok (.iconst 1, 1) := by decide +kernel
theorem d_Net_carry_13 : decode b_Net_carry 13 = .ok (.goto 4, 3) := by decide +kernel
theorem d_Net_carry_16 : decode b_Net_carry 16 = .ok (.iconst 0, 1) := by decide +kernel
theorem d_Net_carry_17 : decode b_Net_carry 17 = .ok (.invokestatic 70, 3) := by decide +kernel
theorem d_Net_carry_20 : decode b_Net_carry 20 = .ok (.iload_n 1, 1) := by decide +kernel
theorem d_Net_carry_21 : decode b_Net_carry 21 = .ok (.iconst (-1), 1) := by decide +kernel
theorem d_Net_carry_22 : decode b_Net_carry 22 = .ok (.if_icmp .ne 11, 3) := by decide +kernel
theorem d_Net_carry_25 : decode b_Net_carry 25 = .ok (.aload_n 0, 1) := by decide +kernel
theorem d_Net_carry_26 : decode b_Net_carry 26 = .ok (.getfield 62, 3) := by decide +kernel
theorem d_Net_carry_29 : decode b_Net_carry 29 = .ok (.invokevirtual 183, 3) := by decide +kernel
theorem d_Net_carry_32 : decode b_Net_carry 32 = .ok (.ireturn, 1) := by decide +kernel
theorem d_Net_carry_33 : decode b_Net_carry 33 = .ok (.iconst 0, 1) := by decide +kernel
theorem d_Net_carry_34 : decode b_Net_carry 34 = .ok (.istore_n 2, 1) := by decide +kernel
theorem d_Net_carry_35 : decode b_Net_carry 35 = .ok (.iload_n 2, 1) := by decide +kernel
theorem d_Net_carry_36 : decode b_Net_carry 36 = .ok (.iload_n 1, 1) := by decide +kernel
theorem d_Net_carry_37 : decode b_Net_carry 37 = .ok (.if_icmp .ge 26, 3) := by decide +kernel
theorem d_Net_carry_40 : decode b_Net_carry 40 = .ok (.aload_n 0, 1) := by decide +kernel
theorem d_Net_carry_41 : decode b_Net_carry 41 = .ok (.getfield 62, 3) := by decide +kernel
theorem d_Net_carry_44 : decode b_Net_carry 44 = .ok (.invokevirtual 179, 3) := by decide +kernel
theorem d_Net_carry_47 : decode b_Net_carry 47 = .ok (.ifCond .le 16, 3) := by decide +kernel
theorem d_Net_carry_50 : decode b_Net_carry 50 = .ok (.aload_n 0, 1) := by decide +kernel
theorem d_Net_carry_51 : decode b_Net_carry 51 = .ok (.getfield 62, 3) := by decide +kernel
theorem d_Net_carry_54 : decode b_Net_carry 54 = .ok (.invokevirtual 186, 3) := by decide +kernel
theorem d_Net_carry_57 : decode b_Net_carry 57 = .ok (.iinc 2 1, 3) := by decide +kernel
theorem d_Net_carry_60 : decode b_Net_carry 60 = .ok (.goto (-25), 3) := by decide +kernel
theorem d_Net_carry_63 : decode b_Net_carry 63 = .ok (.iload_n 2, 1) := by decide +kernel
theorem d_Net_carry_64 : decode b_Net_carry 64 = .ok (.ireturn, 1) := by decide +kernel
theorem d_Net_bits_0 : decode b_Net_bits 0 = .ok (.iload_n 1, 1) := by decide +kernel
theorem d_Net_bits_1 : decode b_Net_bits 1 = .ok (.invokestatic 159, 3) := by decide +kernel
theorem d_Net_bits_4 : decode b_Net_bits 4 = .ok (.invokestatic 70, 3) := by decide +kernel
theorem d_Net_bits_7 : decode b_Net_bits 7 = .ok (.aload_n 0, 1) := by decide +kernel
theorem d_Net_bits_8 : decode b_Net_bits 8 = .ok (.getfield 62, 3) := by decide +kernel
theorem d_Net_bits_11 : decode b_Net_bits 11 = .ok (.iload_n 1, 1) := by decide +kernel
theorem d_Net_bits_12 : decode b_Net_bits 12 = .ok (.invokevirtual 187, 3) := by decide +kernel
theorem d_Net_bits_15 : decode b_Net_bits 15 = .ok (.ireturn, 1) := by decide +kernel
theorem d_Net_send_0 : decode b_Net_send 0 = .ok (.iload_n 1, 1) := by decide +kernel
theorem d_Net_send_1 : decode b_Net_send 1 = .ok (.invokestatic 66, 3) := by decide +kernel
theorem d_Net_send_4 : decode b_Net_send 4 = .ok (.ifCond .eq 26, 3) := by decide +kernel
theorem d_Net_send_7 : decode b_Net_send 7 = .ok (.iload_n 2, 1) := by decide +kernel
theorem d_Net_send_8 : decode b_Net_send 8 = .ok (.invokestatic 159, 3) := by decide +kernel
theorem d_Net_send_11 : decode b_Net_send 11 = .ok (.ifCond .eq 19, 3) := by decide +kernel
theorem d_Net_send_14 : decode b_Net_send 14 = .ok (.aload_n 0, 1) := by decide +kernel
theorem d_Net_send_15 : decode b_Net_send 15 = .ok (.getfield 62, 3) := by decide +kernel
theorem d_Net_send_18 : decode b_Net_send 18 = .ok (.iload_n 2, 1) := by decide +kernel
theorem d_Net_send_19 : decode b_Net_send 19 = .ok (.invokevirtual 190, 3) := by decide +kernel
theorem d_Net_send_22 : decode b_Net_send 22 = .ok (.iload_n 1, 1) := by decide +kernel
theorem d_Net_send_23 : decode b_Net_send 23 = .ok (.if_icmp .ne 7, 3) := by decide +kernel
theorem d_Net_send_26 : decode b_Net_send 26 = .ok (.iconst 1, 1) := by decide +kernel
theorem d_Net_send_27 : decode b_Net_send 27 = .ok (.goto 4, 3) := by decide +kernel
theorem d_Net_send_30 : decode b_Net_send 30 = .ok (.iconst 0, 1) := by decide +kernel
theorem d_Net_send_31 : decode b_Net_send 31 = .ok (.invokestatic 70, 3) := by decide +kernel
theorem d_Net_send_34 : decode b_Net_send 34 = .ok (.aload_n 0, 1) := by decide +kernel
theorem d_Net_send_35 : decode b_Net_send 35 = .ok (.getfield 62, 3) := by decide +kernel
theorem d_Net_send_38 : decode b_Net_send 38 = .ok (.iload_n 2, 1) := by decide +kernel
theorem d_Net_send_39 : decode b_Net_send 39 = .ok (.invokevirtual 187, 3) := by decide +kernel
theorem d_Net_send_42 : decode b_Net_send 42 = .ok (.istore_n 3, 1) := by decide +kernel
theorem d_Net_send_43 : decode b_Net_send 43 = .ok (.aload_n 0, 1) := by decide +kernel
theorem d_Net_send_44 : decode b_Net_send 44 = .ok (.getfield 53, 3) := by decide +kernel
theorem d_Net_send_47 : decode b_Net_send 47 = .ok (.iload_n 1, 1) := by decide +kernel
theorem d_Net_send_48 : decode b_Net_send 48 = .ok (.iload_n 3, 1) := by decide +kernel
theorem d_Net_send_49 : decode b_Net_send 49 = .ok (.invokevirtual 193, 3) := by decide +kernel
theorem d_Net_send_52 : decode b_Net_send 52 = .ok (.invokestatic 88, 3) := by decide +kernel
theorem d_Net_send_55 : decode b_Net_send 55 = .ok (.aload_n 0, 1) := by decide +kernel
theorem d_Net_send_56 : decode b_Net_send 56 = .ok (.getfield 53, 3) := by decide +kernel
theorem d_Net_send_59 : decode b_Net_send 59 = .ok (.iload_n 1, 1) := by decide +kernel
theorem d_Net_send_60 : decode b_Net_send 60 = .ok (.iload_n 3, 1) := by decide +kernel
theorem d_Net_send_61 : decode b_Net_send 61 = .ok (.invokevirtual 196, 3) := by decide +kernel
theorem d_Net_send_64 : decode b_Net_send 64 = .ok (.ireturn, 1) := by decide +kernel
theorem d_Net_sendBits_0 : decode b_Net_sendBits 0 = .ok (.iload_n 1, 1) := by decide +kernel
theorem d_Net_sendBits_1 : decode b_Net_sendBits 1 = .ok (.invokestatic 66, 3) := by decide +kernel
theorem d_Net_sendBits_4 : decode b_Net_sendBits 4 = .ok (.invokestatic 70, 3) := by decide +kernel
theorem d_Net_sendBits_7 : decode b_Net_sendBits 7 = .ok (.aload_n 0, 1) := by decide +kernel
theorem d_Net_sendBits_8 : decode b_Net_sendBits 8 = .ok (.getfield 53, 3) := by decide +kernel
theorem d_Net_sendBits_11 : decode b_Net_sendBits 11 = .ok (.iload_n 1, 1) := by decide +kernel
theorem d_Net_sendBits_12 : decode b_Net_sendBits 12 = .ok (.iload_n 2, 1) := by decide +kernel
theorem d_Net_sendBits_13 : decode b_Net_sendBits 13 = .ok (.invokevirtual 193, 3) := by decide +kernel
theorem d_Net_sendBits_16 : decode b_Net_sendBits 16 = .ok (.invokestatic 88, 3) := by decide +kernel
theorem d_Net_sendBits_19 : decode b_Net_sendBits 19 = .ok (.aload_n 0, 1) := by decide +kernel
theorem d_Net_sendBits_20 : decode b_Net_sendBits 20 = .ok (.getfield 53, 3) := by decide +kernel
theorem d_Net_sendBits_23 : decode b_Net_sendBits 23 = .ok (.iload_n 1, 1) := by decide +kernel
theorem d_Net_sendBits_24 : decode b_Net_sendBits 24 = .ok (.iload_n 2, 1) := by decide +kernel
theorem d_Net_sendBits_25 : decode b_Net_sendBits 25 = .ok (.invokevirtual 196, 3) := by decide +kernel
theorem d_Net_sendBits_28 : decode b_Net_sendBits 28 = .ok (.ireturn, 1) := by decide +kernel
theorem d_Net_move_0 : decode b_Net_move 0 = .ok (.iload_n 1, 1) := by decide +kernel
theorem d_Net_move_1 : decode b_Net_move 1 = .ok (.iconst (-1), 1) := by decide +kernel
theorem d_Net_move_2 : decode b_Net_move 2 = .ok (.if_icmp .eq 16, 3) := by decide +kernel
theorem d_Net_move_5 : decode b_Net_move 5 = .ok (.aload_n 0, 1) := by decide +kernel
theorem d_Net_move_6 : decode b_Net_move 6 = .ok (.getfield 53, 3) := by decide +kernel
theorem d_Net_move_9 : decode b_Net_move 9 = .ok (.invokevirtual 199, 3) := by decide +kernel
theorem d_Net_move_12 : decode b_Net_move 12 = .ok (.sipush 3900, 3) := by decide +kernel
theorem d_Net_move_15 : decode b_Net_move 15 = .ok (.if_icmp .ge 7, 3) := by decide +kernel
theorem d_Net_move_18 : decode b_Net_move 18 = .ok (.iconst 1, 1) := by decide +kernel
theorem d_Net_move_19 : decode b_Net_move 19 = .ok (.goto 4, 3) := by decide +kernel
theorem d_Net_move_22 : decode b_Net_move 22 = .ok (.iconst 0, 1) := by decide +kernel
theorem d_Net_move_23 : decode b_Net_move 23 = .ok (.invokestatic 88, 3) := by decide +kernel
theorem d_Net_move_26 : decode b_Net_move 26 = .ok (.iload_n 1, 1) := by decide +kernel
theorem d_Net_move_27 : decode b_Net_move 27 = .ok (.iconst (-1), 1) := by decide +kernel
theorem d_Net_move_28 : decode b_Net_move 28 = .ok (.if_icmp .eq 10, 3) := by decide +kernel
theorem d_Net_move_31 : decode b_Net_move 31 = .ok (.iload_n 1, 1) := by decide +kernel
theorem d_Net_move_32 : decode b_Net_move 32 = .ok (.invokestatic 133, 3) := by decide +kernel
theorem d_Net_move_35 : decode b_Net_move 35 = .ok (.ifCond .eq 7, 3) := by decide +kernel
theorem d_Net_move_38 : decode b_Net_move 38 = .ok (.iconst 1, 1) := by decide +kernel
theorem d_Net_move_39 : decode b_Net_move 39 = .ok (.goto 4, 3) := by decide +kernel
theorem d_Net_move_42 : decode b_Net_move 42 = .ok (.iconst 0, 1) := by decide +kernel
theorem d_Net_move_43 : decode b_Net_move 43 = .ok (.invokestatic 70, 3) := by decide +kernel
theorem d_Net_move_46 : decode b_Net_move 46 = .ok (.iload_n 1, 1) := by decide +kernel
theorem d_Net_move_47 : decode b_Net_move 47 = .ok (.iconst (-1), 1) := by decide +kernel
theorem d_Net_move_48 : decode b_Net_move 48 = .ok (.if_icmp .ne 11, 3) := by decide +kernel
theorem d_Net_move_51 : decode b_Net_move 51 = .ok (.aload_n 0, 1) := by decide +kernel
theorem d_Net_move_52 : decode b_Net_move 52 = .ok (.getfield 53, 3) := by decide +kernel
theorem d_Net_move_55 : decode b_Net_move 55 = .ok (.invokevirtual 200, 3) := by decide +kernel
theorem d_Net_move_58 : decode b_Net_move 58 = .ok (.ireturn, 1) := by decide +kernel
theorem d_Net_move_59 : decode b_Net_move 59 = .ok (.iconst 0, 1) := by decide +kernel
theorem d_Net_move_60 : decode b_Net_move 60 = .ok (.istore_n 2, 1) := by decide +kernel
theorem d_Net_move_61 : decode b_Net_move 61 = .ok (.iload_n 2, 1) := by decide +kernel
theorem d_Net_move_62 : decode b_Net_move 62 = .ok (.iload_n 1, 1) := by decide +kernel
theorem d_Net_move_63 : decode b_Net_move 63 = .ok (.if_icmp .ge 39, 3) := by decide +kernel
theorem d_Net_move_66 : decode b_Net_move 66 = .ok (.aload_n 0, 1) := by decide +kernel
theorem d_Net_move_67 : decode b_Net_move 67 = .ok (.getfield 53, 3) := by decide +kernel
theorem d_Net_move_70 : decode b_Net_move 70 = .ok (.invokevirtual 199, 3) := by decide +kernel
theorem d_Net_move_73 : decode b_Net_move 73 = .ok (.ifCond .le 29, 3) := by decide +kernel
theorem d_Net_move_76 : decode b_Net_move 76 = .ok (.aload_n 0, 1) := by decide +kernel
theorem d_Net_move_77 : decode b_Net_move 77 = .ok (.getfield 53, 3) := by decide +kernel
theorem d_Net_move_80 : decode b_Net_move 80 = .ok (.invokevirtual 199, 3) := by decide +kernel
theorem d_Net_move_83 : decode b_Net_move 83 = .ok (.sipush 3900, 3) := by decide +kernel
theorem d_Net_move_86 : decode b_Net_move 86 = .ok (.if_icmp .ge 16, 3) := by decide +kernel
theorem d_Net_move_89 : decode b_Net_move 89 = .ok (.aload_n 0, 1) := by decide +kernel
theorem d_Net_move_90 : decode b_Net_move 90 = .ok (.getfield 53, 3) := by decide +kernel
theorem d_Net_move_93 : decode b_Net_move 93 = .ok (.invokevirtual 201, 3) := by decide +kernel
theorem d_Net_move_96 : decode b_Net_move 96 = .ok (.iinc 2 1, 3) := by decide +kernel
theorem d_Net_move_99 : decode b_Net_move 99 = .ok (.goto (-38), 3) := by decide +kernel
theorem d_Net_move_102 : decode b_Net_move 102 = .ok (.iload_n 2, 1) := by decide +kernel
theorem d_Net_move_103 : decode b_Net_move 103 = .ok (.ireturn, 1) := by decide +kernel
theorem d_Net_delivered_0 : decode b_Net_delivered 0 = .ok (.aload_n 0, 1) := by decide +kernel
theorem d_Net_delivered_1 : decode b_Net_delivered 1 = .ok (.iload_n 1, 1) := by decide +kernel
theorem d_Net_delivered_2 : decode b_Net_delivered 2 = .ok (.invokevirtual 202, 3) := by decide +kernel
theorem d_Net_delivered_5 : decode b_Net_delivered 5 = .ok (.invokestatic 70, 3) := by decide +kernel
theorem d_Net_delivered_8 : decode b_Net_delivered 8 = .ok (.aload_n 0, 1) := by decide +kernel
theorem d_Net_delivered_9 : decode b_Net_delivered 9 = .ok (.getfield 53, 3) := by decide +kernel
theorem d_Net_delivered_12 : decode b_Net_delivered 12 = .ok (.iload_n 1, 1) := by decide +kernel
theorem d_Net_delivered_13 : decode b_Net_delivered 13 = .ok (.invokevirtual 205, 3) := by decide +kernel
theorem d_Net_delivered_16 : decode b_Net_delivered 16 = .ok (.ireturn, 1) := by decide +kernel
theorem d_Net_crossings_0 : decode b_Net_crossings 0 = .ok (.aload_n 0, 1) := by decide +kernel
theorem d_Net_crossings_1 : decode b_Net_crossings 1 = .ok (.iload_n 1, 1) := by decide +kernel
theorem d_Net_crossings_2 : decode b_Net_crossings 2 = .ok (.invokevirtual 202, 3) := by decide +kernel
theorem d_Net_crossings_5 : decode b_Net_crossings 5 = .ok (.invokestatic 70, 3) := by decide +kernel
theorem d_Net_crossings_8 : decode b_Net_crossings 8 = .ok (.aload_n 0, 1) := by decide +kernel
theorem d_Net_crossings_9 : decode b_Net_crossings 9 = .ok (.getfield 53, 3) := by decide +kernel
theorem d_Net_crossings_12 : decode b_Net_crossings 12 = .ok (.iload_n 1, 1) := by decide +kernel
theorem d_Net_crossings_13 : decode b_Net_crossings 13 = .ok (.invokevirtual 208, 3) := by decide +kernel
theorem d_Net_crossings_16 : decode b_Net_crossings 16 = .ok (.ireturn, 1) := by decide +kernel
theorem d_Net_count_0 : decode b_Net_count 0 = .ok (.iload_n 1, 1) := by decide +kernel
theorem d_Net_count_1 : decode b_Net_count 1 = .ok (.tableswitch 111 0 7 #[47, 55, 63, 71, 79, 87, 95, 103], 47) := by decide +kernel
theorem d_Net_count_48 : decode b_Net_count 48 = .ok (.aload_n 0, 1) := by decide +kernel
theorem d_Net_count_49 : decode b_Net_count 49 = .ok (.getfield 35, 3) := by decide +kernel
theorem d_Net_count_52 : decode b_Net_count 52 = .ok (.invokevirtual 129, 3) := by decide +kernel
theorem d_Net_count_55 : decode b_Net_count 55 = .ok (.ireturn, 1) := by decide +kernel
theorem d_Net_count_56 : decode b_Net_count 56 = .ok (.aload_n 0, 1) := by decide +kernel
theorem d_Net_count_57 : decode b_Net_count 57 = .ok (.getfield 53, 3) := by decide +kernel
theorem d_Net_count_60 : decode b_Net_count 60 = .ok (.invokevirtual 199, 3) := by decide +kernel
theorem d_Net_count_63 : decode b_Net_count 63 = .ok (.ireturn, 1) := by decide +kernel
theorem d_Net_count_64 : decode b_Net_count 64 = .ok (.aload_n 0, 1) := by decide +kernel
theorem d_Net_count_65 : decode b_Net_count 65 = .ok (.getfield 62, 3) := by decide +kernel
theorem d_Net_count_68 : decode b_Net_count 68 = .ok (.invokevirtual 179, 3) := by decide +kernel
theorem d_Net_count_71 : decode b_Net_count 71 = .ok (.ireturn, 1) := by decide +kernel
theorem d_Net_count_72 : decode b_Net_count 72 = .ok (.aload_n 0, 1) := by decide +kernel
theorem d_Net_count_73 : decode b_Net_count 73 = .ok (.getfield 53, 3) := by decide +kernel
theorem d_Net_count_76 : decode b_Net_count 76 = .ok (.invokevirtual 211, 3) := by decide +kernel
theorem d_Net_count_79 : decode b_Net_count 79 = .ok (.ireturn, 1) := by decide +kernel
theorem d_Net_count_80 : decode b_Net_count 80 = .ok (.aload_n 0, 1) := by decide +kernel
theorem d_Net_count_81 : decode b_Net_count 81 = .ok (.getfield 53, 3) := by decide +kernel
theorem d_Net_count_84 : decode b_Net_count 84 = .ok (.invokevirtual 214, 3) := by decide +kernel
theorem d_Net_count_87 : decode b_Net_count 87 = .ok (.ireturn, 1) := by decide +kernel
theorem d_Net_count_88 : decode b_Net_count 88 = .ok (.aload_n 0, 1) := by decide +kernel
theorem d_Net_count_89 : decode b_Net_count 89 = .ok (.getfield 53, 3) := by decide +kernel
theorem d_Net_count_92 : decode b_Net_count 92 = .ok (.invokevirtual 217, 3) := by decide +kernel
theorem d_Net_count_95 : decode b_Net_count 95 = .ok (.ireturn, 1) := by decide +kernel
theorem d_Net_count_96 : decode b_Net_count 96 = .ok (.aload_n 0, 1) := by decide +kernel
theorem d_Net_count_97 : decode b_Net_count 97 = .ok (.getfield 53, 3) := by decide +kernel
theorem d_Net_count_100 : decode b_Net_count 100 = .ok (.invokevirtual 220, 3) := by decide +kernel
theorem d_Net_count_103 : decode b_Net_count 103 = .ok (.ireturn, 1) := by decide +kernel
theorem d_Net_count_104 : decode b_Net_count 104 = .ok (.aload_n 0, 1) := by decide +kernel
theorem d_Net_count_105 : decode b_Net_count 105 = .ok (.getfield 35, 3) := by decide +kernel
theorem d_Net_count_108 : decode b_Net_count 108 = .ok (.invokevirtual 223, 3) := by decide +kernel
theorem d_Net_count_111 : decode b_Net_count 111 = .ok (.ireturn, 1) := by decide +kernel
theorem d_Net_count_112 : decode b_Net_count 112 = .ok (.iconst (-1), 1) := by decide +kernel
theorem d_Net_count_113 : decode b_Net_count 113 = .ok (.ireturn, 1) := by decide +kernel
theorem d_Net_demand_0 : decode b_Net_demand 0 = .ok (.iload_n 0, 1) := by decide +kernel
theorem d_Net_demand_1 : decode b_Net_demand 1 = .ok (.ifCond .ne 13, 3) := by decide +kernel
theorem d_Net_demand_4 : decode b_Net_demand 4 = .ok (.new 226, 3) := by decide +kernel
theorem d_Net_demand_7 : decode b_Net_demand 7 = .ok (.dup, 1) := by decide +kernel
theorem d_Net_demand_8 : decode b_Net_demand 8 = .ok (.ldc 228, 2) := by decide +kernel
theorem d_Net_demand_10 : decode b_Net_demand 10 = .ok (.invokespecial 230, 3) := by decide +kernel
theorem d_Net_demand_13 : decode b_Net_demand 13 = .ok (.athrow, 1) := by decide +kernel
theorem d_Net_demand_14 : decode b_Net_demand 14 = .ok (.return_, 1) := by decide +kernel
theorem d_Net_demandRoom_0 : decode b_Net_demandRoom 0 = .ok (.iload_n 0, 1) := by decide +kernel
theorem d_Net_demandRoom_1 : decode b_Net_demandRoom 1 = .ok (.ifCond .ne 13, 3) := by decide +kernel
theorem d_Net_demandRoom_4 : decode b_Net_demandRoom 4 = .ok (.new 233, 3) := by decide +kernel
theorem d_Net_demandRoom_7 : decode b_Net_demandRoom 7 = .ok (.dup, 1) := by decide +kernel
theorem d_Net_demandRoom_8 : decode b_Net_demandRoom 8 = .ok (.ldc 235, 2) := by decide +kernel
theorem d_Net_demandRoom_10 : decode b_Net_demandRoom 10 = .ok (.invokespecial 237, 3) := by decide +kernel
theorem d_Net_demandRoom_13 : decode b_Net_demandRoom 13 = .ok (.athrow, 1) := by decide +kernel
theorem d_Net_demandRoom_14 : decode b_Net_demandRoom 14 = .ok (.return_, 1) := by decide +kernel
theorem d_Net_isRouter_0 : decode b_Net_isRouter 0 = .ok (.iload_n 0, 1) := by decide +kernel
theorem d_Net_isRouter_1 : decode b_Net_isRouter 1 = .ok (.ifCond .lt 13, 3) := by decide +kernel
theorem d_Net_isRouter_4 : decode b_Net_isRouter 4 = .ok (.iload_n 0, 1) := by decide +kernel
theorem d_Net_isRouter_5 : decode b_Net_isRouter 5 = .ok (.bipush 12, 2) := by decide +kernel
theorem d_Net_isRouter_7 : decode b_Net_isRouter 7 = .ok (.if_icmp .ge 7, 3) := by decide +kernel
theorem d_Net_isRouter_10 : decode b_Net_isRouter 10 = .ok (.iconst 1, 1) := by decide +kernel
theorem d_Net_isRouter_11 : decode b_Net_isRouter 11 = .ok (.goto 4, 3) := by decide +kernel
theorem d_Net_isRouter_14 : decode b_Net_isRouter 14 = .ok (.iconst 0, 1) := by decide +kernel
theorem d_Net_isRouter_15 : decode b_Net_isRouter 15 = .ok (.ireturn, 1) := by decide +kernel
theorem d_Net_isGroup_0 : decode b_Net_isGroup 0 = .ok (.iload_n 0, 1) := by decide +kernel
theorem d_Net_isGroup_1 : decode b_Net_isGroup 1 = .ok (.ifCond .lt 13, 3) := by decide +kernel
theorem d_Net_isGroup_4 : decode b_Net_isGroup 4 = .ok (.iload_n 0, 1) := by decide +kernel
theorem d_Net_isGroup_5 : decode b_Net_isGroup 5 = .ok (.bipush 8, 2) := by decide +kernel
theorem d_Net_isGroup_7 : decode b_Net_isGroup 7 = .ok (.if_icmp .ge 7, 3) := by decide +kernel
theorem d_Net_isGroup_10 : decode b_Net_isGroup 10 = .ok (.iconst 1, 1) := by decide +kernel
theorem d_Net_isGroup_11 : decode b_Net_isGroup 11 = .ok (.goto 4, 3) := by decide +kernel
theorem d_Net_isGroup_14 : decode b_Net_isGroup 14 = .ok (.iconst 0, 1) := by decide +kernel
theorem d_Net_isGroup_15 : decode b_Net_isGroup 15 = .ok (.ireturn, 1) := by decide +kernel
theorem d_Net_isNumberOfTurns_0 : decode b_Net_isNumberOfTurns 0 = .ok (.iload_n 0, 1) := by decide +kernel
theorem d_Net_isNumberOfTurns_1 : decode b_Net_isNumberOfTurns 1 = .ok (.iconst 1, 1) := by decide +kernel
theorem d_Net_isNumberOfTurns_2 : decode b_Net_isNumberOfTurns 2 = .ok (.if_icmp .lt 14, 3) := by decide +kernel
theorem d_Net_isNumberOfTurns_5 : decode b_Net_isNumberOfTurns 5 = .ok (.iload_n 0, 1) := by decide +kernel
theorem d_Net_isNumberOfTurns_6 : decode b_Net_isNumberOfTurns 6 = .ok (.sipush 1000, 3) := by decide +kernel
theorem d_Net_isNumberOfTurns_9 : decode b_Net_isNumberOfTurns 9 = .ok (.if_icmp .gt 7, 3) := by decide +kernel
theorem d_Net_isNumberOfTurns_12 : decode b_Net_isNumberOfTurns 12 = .ok (.iconst 1, 1) := by decide +kernel
theorem d_Net_isNumberOfTurns_13 : decode b_Net_isNumberOfTurns 13 = .ok (.goto 4, 3) := by decide +kernel
theorem d_Net_isNumberOfTurns_16 : decode b_Net_isNumberOfTurns 16 = .ok (.iconst 0, 1) := by decide +kernel
theorem d_Net_isNumberOfTurns_17 : decode b_Net_isNumberOfTurns 17 = .ok (.ireturn, 1) := by decide +kernel
theorem d_Net_isEdge_0 : decode b_Net_isEdge 0 = .ok (.iload_n 1, 1) := by decide +kernel
theorem d_Net_isEdge_1 : decode b_Net_isEdge 1 = .ok (.invokestatic 66, 3) := by decide +kernel
theorem d_Net_isEdge_4 : decode b_Net_isEdge 4 = .ok (.ifCond .eq 18, 3) := by decide +kernel
theorem d_Net_isEdge_7 : decode b_Net_isEdge 7 = .ok (.aload_n 0, 1) := by decide +kernel
theorem d_Net_isEdge_8 : decode b_Net_isEdge 8 = .ok (.getfield 10, 3) := by decide +kernel
theorem d_Net_isEdge_11 : decode b_Net_isEdge 11 = .ok (.iload_n 1, 1) := by decide +kernel
theorem d_Net_isEdge_12 : decode b_Net_isEdge 12 = .ok (.invokevirtual 74, 3) := by decide +kernel
theorem d_Net_isEdge_15 : decode b_Net_isEdge 15 = .ok (.ifCond .eq 7, 3) := by decide +kernel
theorem d_Net_isEdge_18 : decode b_Net_isEdge 18 = .ok (.iconst 1, 1) := by decide +kernel
theorem d_Net_isEdge_19 : decode b_Net_isEdge 19 = .ok (.goto 4, 3) := by decide +kernel
theorem d_Net_isEdge_22 : decode b_Net_isEdge 22 = .ok (.iconst 0, 1) := by decide +kernel
theorem d_Net_isEdge_23 : decode b_Net_isEdge 23 = .ok (.ireturn, 1) := by decide +kernel
theorem d_Net_isPacket_0 : decode b_Net_isPacket 0 = .ok (.iload_n 1, 1) := by decide +kernel
theorem d_Net_isPacket_1 : decode b_Net_isPacket 1 = .ok (.iconst 1, 1) := by decide +kernel
theorem d_Net_isPacket_2 : decode b_Net_isPacket 2 = .ok (.if_icmp .lt 18, 3) := by decide +kernel
theorem d_Net_isPacket_5 : decode b_Net_isPacket 5 = .ok (.iload_n 1, 1) := by decide +kernel
theorem d_Net_isPacket_6 : decode b_Net_isPacket 6 = .ok (.aload_n 0, 1) := by decide +kernel
theorem d_Net_isPacket_7 : decode b_Net_isPacket 7 = .ok (.getfield 53, 3) := by decide +kernel
theorem d_Net_isPacket_10 : decode b_Net_isPacket 10 = .ok (.invokevirtual 211, 3) := by decide +kernel
theorem d_Net_isPacket_13 : decode b_Net_isPacket 13 = .ok (.if_icmp .gt 7, 3) := by decide +kernel
theorem d_Net_isPacket_16 : decode b_Net_isPacket 16 = .ok (.iconst 1, 1) := by decide +kernel
theorem d_Net_isPacket_17 : decode b_Net_isPacket 17 = .ok (.goto 4, 3) := by decide +kernel
theorem d_Net_isPacket_20 : decode b_Net_isPacket 20 = .ok (.iconst 0, 1) := by decide +kernel
theorem d_Net_isPacket_21 : decode b_Net_isPacket 21 = .ok (.ireturn, 1) := by decide +kernel
