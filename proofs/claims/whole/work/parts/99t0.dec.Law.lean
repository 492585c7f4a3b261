/-! Decode rows by program. -/
theorem d_Law_edge_0 : decode b_Law_edge 0 = .ok (.aload_n 0, 1) := by decide +kernel
theorem d_Law_edge_1 : decode b_Law_edge 1 = .ok (.iload_n 1, 1) := by decide +kernel
theorem d_Law_edge_2 : decode b_Law_edge 2 = .ok (.iload_n 2, 1) := by decide +kernel
theorem d_Law_edge_3 : decode b_Law_edge 3 = .ok (.invokevirtual 7, 3) := by decide +kernel
theorem d_Law_edge_6 : decode b_Law_edge 6 = .ok (.goto 6, 3) := by decide +kernel
theorem d_Law_edge_9 : decode b_Law_edge 9 = .ok (.astore_n 3, 1) := by decide +kernel
theorem d_Law_edge_10 : decode b_Law_edge 10 = .ok (.iconst 1, 1) := by decide +kernel
theorem d_Law_edge_11 : decode b_Law_edge 11 = .ok (.ireturn, 1) := by decide +kernel
theorem d_Law_edge_12 : decode b_Law_edge 12 = .ok (.iconst 0, 1) := by decide +kernel
theorem d_Law_edge_13 : decode b_Law_edge 13 = .ok (.ireturn, 1) := by decide +kernel
theorem d_Law_link_0 : decode b_Law_link 0 = .ok (.aload_n 0, 1) := by decide +kernel
theorem d_Law_link_1 : decode b_Law_link 1 = .ok (.iload_n 1, 1) := by decide +kernel
theorem d_Law_link_2 : decode b_Law_link 2 = .ok (.iload_n 2, 1) := by decide +kernel
theorem d_Law_link_3 : decode b_Law_link 3 = .ok (.iload_n 3, 1) := by decide +kernel
theorem d_Law_link_4 : decode b_Law_link 4 = .ok (.invokevirtual 15, 3) := by decide +kernel
theorem d_Law_link_7 : decode b_Law_link 7 = .ok (.goto 11, 3) := by decide +kernel
theorem d_Law_link_10 : decode b_Law_link 10 = .ok (.astore 4, 2) := by decide +kernel
theorem d_Law_link_12 : decode b_Law_link 12 = .ok (.iconst 1, 1) := by decide +kernel
theorem d_Law_link_13 : decode b_Law_link 13 = .ok (.ireturn, 1) := by decide +kernel
theorem d_Law_link_14 : decode b_Law_link 14 = .ok (.astore 4, 2) := by decide +kernel
theorem d_Law_link_16 : decode b_Law_link 16 = .ok (.iconst 2, 1) := by decide +kernel
theorem d_Law_link_17 : decode b_Law_link 17 = .ok (.ireturn, 1) := by decide +kernel
theorem d_Law_link_18 : decode b_Law_link 18 = .ok (.iconst 0, 1) := by decide +kernel
theorem d_Law_link_19 : decode b_Law_link 19 = .ok (.ireturn, 1) := by decide +kernel
theorem d_Law_cut_0 : decode b_Law_cut 0 = .ok (.aload_n 0, 1) := by decide +kernel
theorem d_Law_cut_1 : decode b_Law_cut 1 = .ok (.iload_n 1, 1) := by decide +kernel
theorem d_Law_cut_2 : decode b_Law_cut 2 = .ok (.iload_n 2, 1) := by decide +kernel
theorem d_Law_cut_3 : decode b_Law_cut 3 = .ok (.invokevirtual 21, 3) := by decide +kernel
theorem d_Law_cut_6 : decode b_Law_cut 6 = .ok (.goto 6, 3) := by decide +kernel
theorem d_Law_cut_9 : decode b_Law_cut 9 = .ok (.astore_n 3, 1) := by decide +kernel
theorem d_Law_cut_10 : decode b_Law_cut 10 = .ok (.iconst 1, 1) := by decide +kernel
theorem d_Law_cut_11 : decode b_Law_cut 11 = .ok (.ireturn, 1) := by decide +kernel
theorem d_Law_cut_12 : decode b_Law_cut 12 = .ok (.iconst 0, 1) := by decide +kernel
theorem d_Law_cut_13 : decode b_Law_cut 13 = .ok (.ireturn, 1) := by decide +kernel
theorem d_Law_notice_0 : decode b_Law_notice 0 = .ok (.aload_n 0, 1) := by decide +kernel
theorem d_Law_notice_1 : decode b_Law_notice 1 = .ok (.iload_n 1, 1) := by decide +kernel
theorem d_Law_notice_2 : decode b_Law_notice 2 = .ok (.iload_n 2, 1) := by decide +kernel
theorem d_Law_notice_3 : decode b_Law_notice 3 = .ok (.invokevirtual 24, 3) := by decide +kernel
theorem d_Law_notice_6 : decode b_Law_notice 6 = .ok (.goto 9, 3) := by decide +kernel
theorem d_Law_notice_9 : decode b_Law_notice 9 = .ok (.astore_n 3, 1) := by decide +kernel
theorem d_Law_notice_10 : decode b_Law_notice 10 = .ok (.iconst 1, 1) := by decide +kernel
theorem d_Law_notice_11 : decode b_Law_notice 11 = .ok (.ireturn, 1) := by decide +kernel
theorem d_Law_notice_12 : decode b_Law_notice 12 = .ok (.astore_n 3, 1) := by decide +kernel
theorem d_Law_notice_13 : decode b_Law_notice 13 = .ok (.iconst 2, 1) := by decide +kernel
theorem d_Law_notice_14 : decode b_Law_notice 14 = .ok (.ireturn, 1) := by decide +kernel
theorem d_Law_notice_15 : decode b_Law_notice 15 = .ok (.iconst 0, 1) := by decide +kernel
theorem d_Law_notice_16 : decode b_Law_notice 16 = .ok (.ireturn, 1) := by decide +kernel
theorem d_Law_step_0 : decode b_Law_step 0 = .ok (.aload_n 2, 1) := by decide +kernel
theorem d_Law_step_1 : decode b_Law_step 1 = .ok (.iconst 0, 1) := by decide +kernel
theorem d_Law_step_2 : decode b_Law_step 2 = .ok (.aload_n 0, 1) := by decide +kernel
theorem d_Law_step_3 : decode b_Law_step 3 = .ok (.iload_n 1, 1) := by decide +kernel
theorem d_Law_step_4 : decode b_Law_step 4 = .ok (.invokevirtual 27, 3) := by decide +kernel
theorem d_Law_step_7 : decode b_Law_step 7 = .ok (.i2l, 1) := by decide +kernel
theorem d_Law_step_8 : decode b_Law_step 8 = .ok (.lastore, 1) := by decide +kernel
theorem d_Law_step_9 : decode b_Law_step 9 = .ok (.goto 9, 3) := by decide +kernel
theorem d_Law_step_12 : decode b_Law_step 12 = .ok (.astore_n 3, 1) := by decide +kernel
theorem d_Law_step_13 : decode b_Law_step 13 = .ok (.iconst 1, 1) := by decide +kernel
theorem d_Law_step_14 : decode b_Law_step 14 = .ok (.ireturn, 1) := by decide +kernel
theorem d_Law_step_15 : decode b_Law_step 15 = .ok (.astore_n 3, 1) := by decide +kernel
theorem d_Law_step_16 : decode b_Law_step 16 = .ok (.iconst 2, 1) := by decide +kernel
theorem d_Law_step_17 : decode b_Law_step 17 = .ok (.ireturn, 1) := by decide +kernel
theorem d_Law_step_18 : decode b_Law_step 18 = .ok (.iconst 0, 1) := by decide +kernel
theorem d_Law_step_19 : decode b_Law_step 19 = .ok (.ireturn, 1) := by decide +kernel
theorem d_Law_mask_0 : decode b_Law_mask 0 = .ok (.aload_n 3, 1) := by decide +kernel
theorem d_Law_mask_1 : decode b_Law_mask 1 = .ok (.iconst 0, 1) := by decide +kernel
theorem d_Law_mask_2 : decode b_Law_mask 2 = .ok (.aload_n 0, 1) := by decide +kernel
theorem d_Law_mask_3 : decode b_Law_mask 3 = .ok (.iload_n 1, 1) := by decide +kernel
theorem d_Law_mask_4 : decode b_Law_mask 4 = .ok (.iload_n 2, 1) := by decide +kernel
theorem d_Law_mask_5 : decode b_Law_mask 5 = .ok (.invokevirtual 31, 3) := by decide +kernel
theorem d_Law_mask_8 : decode b_Law_mask 8 = .ok (.i2l, 1) := by decide +kernel
theorem d_Law_mask_9 : decode b_Law_mask 9 = .ok (.lastore, 1) := by decide +kernel
theorem d_Law_mask_10 : decode b_Law_mask 10 = .ok (.goto 7, 3) := by decide +kernel
theorem d_Law_mask_13 : decode b_Law_mask 13 = .ok (.astore 4, 2) := by decide +kernel
theorem d_Law_mask_15 : decode b_Law_mask 15 = .ok (.iconst 1, 1) := by decide +kernel
theorem d_Law_mask_16 : decode b_Law_mask 16 = .ok (.ireturn, 1) := by decide +kernel
theorem d_Law_mask_17 : decode b_Law_mask 17 = .ok (.iconst 0, 1) := by decide +kernel
theorem d_Law_mask_18 : decode b_Law_mask 18 = .ok (.ireturn, 1) := by decide +kernel
theorem d_Law_distance_0 : decode b_Law_distance 0 = .ok (.aload_n 3, 1) := by decide +kernel
theorem d_Law_distance_1 : decode b_Law_distance 1 = .ok (.iconst 0, 1) := by decide +kernel
theorem d_Law_distance_2 : decode b_Law_distance 2 = .ok (.aload_n 0, 1) := by decide +kernel
theorem d_Law_distance_3 : decode b_Law_distance 3 = .ok (.iload_n 1, 1) := by decide +kernel
theorem d_Law_distance_4 : decode b_Law_distance 4 = .ok (.iload_n 2, 1) := by decide +kernel
theorem d_Law_distance_5 : decode b_Law_distance 5 = .ok (.invokevirtual 35, 3) := by decide +kernel
theorem d_Law_distance_8 : decode b_Law_distance 8 = .ok (.i2l, 1) := by decide +kernel
theorem d_Law_distance_9 : decode b_Law_distance 9 = .ok (.lastore, 1) := by decide +kernel
theorem d_Law_distance_10 : decode b_Law_distance 10 = .ok (.goto 7, 3) := by decide +kernel
theorem d_Law_distance_13 : decode b_Law_distance 13 = .ok (.astore 4, 2) := by decide +kernel
theorem d_Law_distance_15 : decode b_Law_distance 15 = .ok (.iconst 1, 1) := by decide +kernel
theorem d_Law_distance_16 : decode b_Law_distance 16 = .ok (.ireturn, 1) := by decide +kernel
theorem d_Law_distance_17 : decode b_Law_distance 17 = .ok (.iconst 0, 1) := by decide +kernel
theorem d_Law_distance_18 : decode b_Law_distance 18 = .ok (.ireturn, 1) := by decide +kernel
theorem d_Law_alternate_0 : decode b_Law_alternate 0 = .ok (.aload_n 3, 1) := by decide +kernel
theorem d_Law_alternate_1 : decode b_Law_alternate 1 = .ok (.iconst 0, 1) := by decide +kernel
theorem d_Law_alternate_2 : decode b_Law_alternate 2 = .ok (.aload_n 0, 1) := by decide +kernel
theorem d_Law_alternate_3 : decode b_Law_alternate 3 = .ok (.iload_n 1, 1) := by decide +kernel
theorem d_Law_alternate_4 : decode b_Law_alternate 4 = .ok (.iload_n 2, 1) := by decide +kernel
theorem d_Law_alternate_5 : decode b_Law_alternate 5 = .ok (.invokevirtual 38, 3) := by decide +kernel
theorem d_Law_alternate_8 : decode b_Law_alternate 8 = .ok (.i2l, 1) := by decide +kernel
theorem d_Law_alternate_9 : decode b_Law_alternate 9 = .ok (.lastore, 1) := by decide +kernel
theorem d_Law_alternate_10 : decode b_Law_alternate 10 = .ok (.goto 7, 3) := by decide +kernel
theorem d_Law_alternate_13 : decode b_Law_alternate 13 = .ok (.astore 4, 2) := by decide +kernel
theorem d_Law_alternate_15 : decode b_Law_alternate 15 = .ok (.iconst 1, 1) := by decide +kernel
theorem d_Law_alternate_16 : decode b_Law_alternate 16 = .ok (.ireturn, 1) := by decide +kernel
theorem d_Law_alternate_17 : decode b_Law_alternate 17 = .ok (.iconst 0, 1) := by decide +kernel
theorem d_Law_alternate_18 : decode b_Law_alternate 18 = .ok (.ireturn, 1) := by decide +kernel
theorem d_Law_stored_0 : decode b_Law_stored 0 = .ok (.aload_n 3, 1) := by decide +kernel
theorem d_Law_stored_1 : decode b_Law_stored 1 = .ok (.iconst 0, 1) := by decide +kernel
theorem d_Law_stored_2 : decode b_Law_stored 2 = .ok (.aload_n 0, 1) := by decide +kernel
theorem d_Law_stored_3 : decode b_Law_stored 3 = .ok (.iload_n 1, 1) := by decide +kernel
theorem d_Law_stored_4 : decode b_Law_stored 4 = .ok (.iload_n 2, 1) := by decide +kernel
theorem d_Law_stored_5 : decode b_Law_stored 5 = .ok (.invokevirtual 41, 3) := by decide +kernel
theorem d_Law_stored_8 : decode b_Law_stored 8 = .ok (.i2l, 1) := by decide +kernel
theorem d_Law_stored_9 : decode b_Law_stored 9 = .ok (.lastore, 1) := by decide +kernel
theorem d_Law_stored_10 : decode b_Law_stored 10 = .ok (.goto 7, 3) := by decide +kernel
theorem d_Law_stored_13 : decode b_Law_stored 13 = .ok (.astore 4, 2) := by decide +kernel
theorem d_Law_stored_15 : decode b_Law_stored 15 = .ok (.iconst 1, 1) := by decide +kernel
theorem d_Law_stored_16 : decode b_Law_stored 16 = .ok (.ireturn, 1) := by decide +kernel
theorem d_Law_stored_17 : decode b_Law_stored 17 = .ok (.iconst 0, 1) := by decide +kernel
theorem d_Law_stored_18 : decode b_Law_stored 18 = .ok (.ireturn, 1) := by decide +kernel
theorem d_Law_ingress_0 : decode b_Law_ingress 0 = .ok (.aload_n 0, 1) := by decide +kernel
theorem d_Law_ingress_1 : decode b_Law_ingress 1 = .ok (.iload_n 1, 1) := by decide +kernel
theorem d_Law_ingress_2 : decode b_Law_ingress 2 = .ok (.iload_n 2, 1) := by decide +kernel
theorem d_Law_ingress_3 : decode b_Law_ingress 3 = .ok (.invokevirtual 44, 3) := by decide +kernel
theorem d_Law_ingress_6 : decode b_Law_ingress 6 = .ok (.goto 6, 3) := by decide +kernel
theorem d_Law_ingress_9 : decode b_Law_ingress 9 = .ok (.astore_n 3, 1) := by decide +kernel
theorem d_Law_ingress_10 : decode b_Law_ingress 10 = .ok (.iconst 1, 1) := by decide +kernel
theorem d_Law_ingress_11 : decode b_Law_ingress 11 = .ok (.ireturn, 1) := by decide +kernel
theorem d_Law_ingress_12 : decode b_Law_ingress 12 = .ok (.iconst 0, 1) := by decide +kernel
theorem d_Law_ingress_13 : decode b_Law_ingress 13 = .ok (.ireturn, 1) := by decide +kernel
theorem d_Law_join_0 : decode b_Law_join 0 = .ok (.aload 4, 2) := by decide +kernel
theorem d_Law_join_2 : decode b_Law_join 2 = .ok (.iconst 0, 1) := by decide +kernel
theorem d_Law_join_3 : decode b_Law_join 3 = .ok (.aload_n 0, 1) := by decide +kernel
theorem d_Law_join_4 : decode b_Law_join 4 = .ok (.iload_n 1, 1) := by decide +kernel
theorem d_Law_join_5 : decode b_Law_join 5 = .ok (.iload_n 2, 1) := by decide +kernel
theorem d_Law_join_6 : decode b_Law_join 6 = .ok (.iload_n 3, 1) := by decide +kernel
theorem d_Law_join_7 : decode b_Law_join 7 = .ok (.invokevirtual 47, 3) := by decide +kernel
theorem d_Law_join_10 : decode b_Law_join 10 = .ok (.i2l, 1) := by decide +kernel
theorem d_Law_join_11 : decode b_Law_join 11 = .ok (.lastore, 1) := by decide +kernel
theorem d_Law_join_12 : decode b_Law_join 12 = .ok (.goto 11, 3) := by decide +kernel
theorem d_Law_join_15 : decode b_Law_join 15 = .ok (.astore 5, 2) := by decide +kernel
theorem d_Law_join_17 : decode b_Law_join 17 = .ok (.iconst 1, 1) := by decide +kernel
theorem d_Law_join_18 : decode b_Law_join 18 = .ok (.ireturn, 1) := by decide +kernel
theorem d_Law_join_19 : decode b_Law_join 19 = .ok (.astore 5, 2) := by decide +kernel
theorem d_Law_join_21 : decode b_Law_join 21 = .ok (.iconst 2, 1) := by decide +kernel
theorem d_Law_join_22 : decode b_Law_join 22 = .ok (.ireturn, 1) := by decide +kernel
theorem d_Law_join_23 : decode b_Law_join 23 = .ok (.iconst 0, 1) := by decide +kernel
theorem d_Law_join_24 : decode b_Law_join 24 = .ok (.ireturn, 1) := by decide +kernel
theorem d_Law_report_0 : decode b_Law_report 0 = .ok (.aload_n 0, 1) := by decide +kernel
theorem d_Law_report_1 : decode b_Law_report 1 = .ok (.iload_n 1, 1) := by decide +kernel
theorem d_Law_report_2 : decode b_Law_report 2 = .ok (.invokevirtual 51, 3) := by decide +kernel
theorem d_Law_report_5 : decode b_Law_report 5 = .ok (.goto 9, 3) := by decide +kernel
theorem d_Law_report_8 : decode b_Law_report 8 = .ok (.astore_n 2, 1) := by decide +kernel
theorem d_Law_report_9 : decode b_Law_report 9 = .ok (.iconst 1, 1) := by decide +kernel
theorem d_Law_report_10 : decode b_Law_report 10 = .ok (.ireturn, 1) := by decide +kernel
theorem d_Law_report_11 : decode b_Law_report 11 = .ok (.astore_n 2, 1) := by decide +kernel
theorem d_Law_report_12 : decode b_Law_report 12 = .ok (.iconst 2, 1) := by decide +kernel
theorem d_Law_report_13 : decode b_Law_report 13 = .ok (.ireturn, 1) := by decide +kernel
theorem d_Law_report_14 : decode b_Law_report 14 = .ok (.iconst 0, 1) := by decide +kernel
theorem d_Law_report_15 : decode b_Law_report 15 = .ok (.ireturn, 1) := by decide +kernel
theorem d_Law_carry_0 : decode b_Law_carry 0 = .ok (.aload_n 2, 1) := by decide +kernel
theorem d_Law_carry_1 : decode b_Law_carry 1 = .ok (.iconst 0, 1) := by decide +kernel
theorem d_Law_carry_2 : decode b_Law_carry 2 = .ok (.aload_n 0, 1) := by decide +kernel
theorem d_Law_carry_3 : decode b_Law_carry 3 = .ok (.iload_n 1, 1) := by decide +kernel
theorem d_Law_carry_4 : decode b_Law_carry 4 = .ok (.invokevirtual 55, 3) := by decide +kernel
theorem d_Law_carry_7 : decode b_Law_carry 7 = .ok (.i2l, 1) := by decide +kernel
theorem d_Law_carry_8 : decode b_Law_carry 8 = .ok (.lastore, 1) := by decide +kernel
theorem d_Law_carry_9 : decode b_Law_carry 9 = .ok (.goto 6, 3) := by decide +kernel
theorem d_Law_carry_12 : decode b_Law_carry 12 = .ok (.astore_n 3, 1) := by decide +kernel
theorem d_Law_carry_13 : decode b_Law_carry 13 = .ok (.iconst 1, 1) := by decide +kernel
theorem d_Law_carry_14 : decode b_Law_carry 14 = .ok (.ireturn, 1) := by decide +kernel
theorem d_Law_carry_15 : decode b_Law_carry 15 = .ok (.iconst 0, 1) := by decide +kernel
theorem d_Law_carry_16 : decode b_Law_carry 16 = .ok (.ireturn, 1) := by decide +kernel
theorem d_Law_bits_0 : decode b_Law_bits 0 = .ok (.aload_n 2, 1) := by decide +kernel
theorem d_Law_bits_1 : decode b_Law_bits 1 = .ok (.iconst 0, 1) := by decide +kernel
theorem d_Law_bits_2 : decode b_Law_bits 2 = .ok (.aload_n 0, 1) := by decide +kernel
theorem d_Law_bits_3 : decode b_Law_bits 3 = .ok (.iload_n 1, 1) := by decide +kernel
theorem d_Law_bits_4 : decode b_Law_bits 4 = .ok (.invokevirtual 58, 3) := by decide +kernel
theorem d_Law_bits_7 : decode b_Law_bits 7 = .ok (.i2l, 1) := by decide +kernel
theorem d_Law_bits_8 : decode b_Law_bits 8 = .ok (.lastore, 1) := by decide +kernel
theorem d_Law_bits_9 : decode b_Law_bits 9 = .ok (.goto 6, 3) := by decide +kernel
theorem d_Law_bits_12 : decode b_Law_bits 12 = .ok (.astore_n 3, 1) := by decide +kernel
theorem d_Law_bits_13 : decode b_Law_bits 13 = .ok (.iconst 1, 1) := by decide +kernel
theorem d_Law_bits_14 : decode b_Law_bits 14 = .ok (.ireturn, 1) := by decide +kernel
theorem d_Law_bits_15 : decode b_Law_bits 15 = .ok (.iconst 0, 1) := by decide +kernel
theorem d_Law_bits_16 : decode b_Law_bits 16 = .ok (.ireturn, 1) := by decide +kernel
theorem d_Law_send_0 : decode b_Law_send 0 = .ok (.aload_n 3, 1) := by decide +kernel
theorem d_Law_send_1 : decode b_Law_send 1 = .ok (.iconst 0, 1) := by decide +kernel
theorem d_Law_send_2 : decode b_Law_send 2 = .ok (.aload_n 0, 1) := by decide +kernel
theorem d_Law_send_3 : decode b_Law_send 3 = .ok (.iload_n 1, 1) := by decide +kernel
theorem d_Law_send_4 : decode b_Law_send 4 = .ok (.iload_n 2, 1) := by decide +kernel
theorem d_Law_send_5 : decode b_Law_send 5 = .ok (.invokevirtual 61, 3) := by decide +kernel
theorem d_Law_send_8 : decode b_Law_send 8 = .ok (.i2l, 1) := by decide +kernel
theorem d_Law_send_9 : decode b_Law_send 9 = .ok (.lastore, 1) := by decide +kernel
theorem d_Law_send_10 : decode b_Law_send 10 = .ok (.goto 11, 3) := by decide +kernel
theorem d_Law_send_13 : decode b_Law_send 13 = .ok (.astore 4, 2) := by decide +kernel
theorem d_Law_send_15 : decode b_Law_send 15 = .ok (.iconst 1, 1) := by decide +kernel
theorem d_Law_send_16 : decode b_Law_send 16 = .ok (.ireturn, 1) := by decide +kernel
theorem d_Law_send_17 : decode b_Law_send 17 = .ok (.astore 4, 2) := by decide +kernel
theorem d_Law_send_19 : decode b_Law_send 19 = .ok (.iconst 2, 1) := by decide +kernel
theorem d_Law_send_20 : decode b_Law_send 20 = .ok (.ireturn, 1) := by decide +kernel
theorem d_Law_send_21 : decode b_Law_send 21 = .ok (.iconst 0, 1) := by decide +kernel
theorem d_Law_send_22 : decode b_Law_send 22 = .ok (.ireturn, 1) := by decide +kernel
theorem d_Law_sendBits_0 : decode b_Law_sendBits 0 = .ok (.aload_n 3, 1) := by decide +kernel
theorem d_Law_sendBits_1 : decode b_Law_sendBits 1 = .ok (.iconst 0, 1) := by decide +kernel
theorem d_Law_sendBits_2 : decode b_Law_sendBits 2 = .ok (.aload_n 0, 1) := by decide +kernel
theorem d_Law_sendBits_3 : decode b_Law_sendBits 3 = .ok (.iload_n 1, 1) := by decide +kernel
theorem d_Law_sendBits_4 : decode b_Law_sendBits 4 = .ok (.iload_n 2, 1) := by decide +kernel
theorem d_Law_sendBits_5 : decode b_Law_sendBits 5 = .ok (.invokevirtual 64, 3) := by decide +kernel
theorem d_Law_sendBits_8 : decode b_Law_sendBits 8 = .ok (.i2l, 1) := by decide +kernel
theorem d_Law_sendBits_9 : decode b_Law_sendBits 9 = .ok (.lastore, 1) := by decide +kernel
theorem d_Law_sendBits_10 : decode b_Law_sendBits 10 = .ok (.goto 11, 3) := by decide +kernel
theorem d_Law_sendBits_13 : decode b_Law_sendBits 13 = .ok (.astore 4, 2) := by decide +kernel
theorem d_Law_sendBits_15 : decode b_Law_sendBits 15 = .ok (.iconst 1, 1) := by decide +kernel
theorem d_Law_sendBits_16 : decode b_Law_sendBits 16 = .ok (.ireturn, 1) := by decide +kernel
theorem d_Law_sendBits_17 : decode b_Law_sendBits 17 = .ok (.astore 4, 2) := by decide +kernel
theorem d_Law_sendBits_19 : decode b_Law_sendBits 19 = .ok (.iconst 2, 1) := by decide +kernel
theorem d_Law_sendBits_20 : decode b_Law_sendBits 20 = .ok (.ireturn, 1) := by decide +kernel
theorem d_Law_sendBits_21 : decode b_Law_sendBits 21 = .ok (.iconst 0, 1) := by decide +kernel
theorem d_Law_sendBits_22 : decode b_Law_sendBits 22 = .ok (.ireturn, 1) := by decide +kernel
theorem d_Law_move_0 : decode b_Law_move 0 = .ok (.aload_n 2, 1) := by decide +kernel
theorem d_Law_move_1 : decode b_Law_move 1 = .ok (.iconst 0, 1) := by decide +kernel
theorem d_Law_move_2 : decode b_Law_move 2 = .ok (.aload_n 0, 1) := by decide +kernel
theorem d_Law_move_3 : decode b_Law_move 3 = .ok (.iload_n 1, 1) := by decide +kernel
theorem d_Law_move_4 : decode b_Law_move 4 = .ok (.invokevirtual 67, 3) := by decide +kernel
theorem d_Law_move_7 : decode b_Law_move 7 = .ok (.i2l, 1) := by decide +kernel
theorem d_Law_move_8 : decode b_Law_move 8 = .ok (.lastore, 1) := by decide +kernel
theorem d_Law_move_9 : decode b_Law_move 9 = .ok (.goto 9, 3) := by decide +kernel
theorem d_Law_move_12 : decode b_Law_move 12 = .ok (.astore_n 3, 1) := by decide +kernel
theorem d_Law_move_13 : decode b_Law_move 13 = .ok (.iconst 1, 1) := by decide +kernel
theorem d_Law_move_14 : decode b_Law_move 14 = .ok (.ireturn, 1) := by decide +kernel
theorem d_Law_move_15 : decode b_Law_move 15 = .ok (.astore_n 3, 1) := by decide +kernel
theorem d_Law_move_16 : decode b_Law_move 16 = .ok (.iconst 2, 1) := by decide +kernel
theorem d_Law_move_17 : decode b_Law_move 17 = .ok (.ireturn, 1) := by decide +kernel
theorem d_Law_move_18 : decode b_Law_move 18 = .ok (.iconst 0, 1) := by decide +kernel
theorem d_Law_move_19 : decode b_Law_move 19 = .ok (.ireturn, 1) := by decide +kernel
theorem d_Law_delivered_0 : decode b_Law_delivered 0 = .ok (.aload_n 2, 1) := by decide +kernel
theorem d_Law_delivered_1 : decode b_Law_delivered 1 = .ok (.iconst 0, 1) := by decide +kernel
theorem d_Law_delivered_2 : decode b_Law_delivered 2 = .ok (.aload_n 0, 1) := by decide +kernel
theorem d_Law_delivered_3 : decode b_Law_delivered 3 = .ok (.iload_n 1, 1) := by decide +kernel
theorem d_Law_delivered_4 : decode b_Law_delivered 4 = .ok (.invokevirtual 70, 3) := by decide +kernel
theorem d_Law_delivered_7 : decode b_Law_delivered 7 = .ok (.i2l, 1) := by decide +kernel
theorem d_Law_delivered_8 : decode b_Law_delivered 8 = .ok (.lastore, 1) := by decide +kernel
theorem d_Law_delivered_9 : decode b_Law_delivered 9 = .ok (.goto 6, 3) := by decide +kernel
theorem d_Law_delivered_12 : decode b_Law_delivered 12 = .ok (.astore_n 3, 1) := by decide +kernel
theorem d_Law_delivered_13 : decode b_Law_delivered 13 = .ok (.iconst 1, 1) := by decide +kernel
theorem d_Law_delivered_14 : decode b_Law_delivered 14 = .ok (.ireturn, 1) := by decide +kernel
theorem d_Law_delivered_15 : decode b_Law_delivered 15 = .ok (.iconst 0, 1) := by decide +kernel
theorem d_Law_delivered_16 : decode b_Law_delivered 16 = .ok (.ireturn, 1) := by decide +kernel
theorem d_Law_crossings_0 : decode b_Law_crossings 0 = .ok (.aload_n 2, 1) := by decide +kernel
theorem d_Law_crossings_1 : decode b_Law_crossings 1 = .ok (.iconst 0, 1) := by decide +kernel
theorem d_Law_crossings_2 : decode b_Law_crossings 2 = .ok (.aload_n 0, 1) := by decide +kernel
theorem d_Law_crossings_3 : decode b_Law_crossings 3 = .ok (.iload_n 1, 1) := by decide +kernel
theorem d_Law_crossings_4 : decode b_Law_crossings 4 = .ok (.invokevirtual 73, 3) := by decide +kernel
theorem d_Law_crossings_7 : decode b_Law_crossings 7 = .ok (.i2l, 1) := by decide +kernel
theorem d_Law_crossings_8 : decode b_Law_crossings 8 = .ok (.lastore, 1) := by decide +kernel
theorem d_Law_crossings_9 : decode b_Law_crossings 9 = .ok (.goto 6, 3) := by decide +kernel
theorem d_Law_crossings_12 : decode b_Law_crossings 12 = .ok (.astore_n 3, 1) := by decide +kernel
theorem d_Law_crossings_13 : decode b_Law_crossings 13 = .ok (.iconst 1, 1) := by decide +kernel
theorem d_Law_crossings_14 : decode b_Law_crossings 14 = .ok (.ireturn, 1) := by decide +kernel
theorem d_Law_crossings_15 : decode b_Law_crossings 15 = .ok (.iconst 0, 1) := by decide +kernel
theorem d_Law_crossings_16 : decode b_Law_crossings 16 = .ok (.ireturn, 1) := by decide +kernel
theorem d_Law_law_0 : decode b_Law_law 0 = .ok (.new 8, 3) := by decide +kernel
theorem d_Law_law_3 : decode b_Law_law 3 = .ok (.dup, 1) := by decide +kernel
theorem d_Law_law_4 : decode b_Law_law 4 = .ok (.invokespecial 76, 3) := by decide +kernel
theorem d_Law_law_7 : decode b_Law_law 7 = .ok (.astore_n 1, 1) := by decide +kernel
theorem d_Law_law_8 : decode b_Law_law 8 = .ok (.new 77, 3) := by decide +kernel
theorem d_Law_law_11 : decode b_Law_law 11 = .ok (.dup, 1) := by decide +kernel
theorem d_Law_law_12 : decode b_Law_law 12 = .ok (.invokespecial 79, 3) := by decide +kernel
theorem d_Law_law_15 : decode b_Law_law 15 = .ok (.astore_n 2, 1) := by decide +kernel
theorem d_Law_law_16 : decode b_Law_law 16 = .ok (.iconst 1, 1) := by decide +kernel
theorem d_Law_law_17 : decode b_Law_law 17 = .ok (.newarray .long, 2) := by decide +kernel
theorem d_Law_law_19 : decode b_Law_law 19 = .ok (.astore_n 3, 1) := by decide +kernel
theorem d_Law_law_20 : decode b_Law_law 20 = .ok (.iconst 0, 1) := by decide +kernel
theorem d_Law_law_21 : decode b_Law_law 21 = .ok (.istore 4, 2) := by decide +kernel
theorem d_Law_law_23 : decode b_Law_law 23 = .ok (.iload 4, 2) := by decide +kernel
theorem d_Law_law_25 : decode b_Law_law 25 = .ok (.aload_n 0, 1) := by decide +kernel
theorem d_Law_law_26 : decode b_Law_law 26 = .ok (.arraylength, 1) := by decide +kernel
theorem d_Law_law_27 : decode b_Law_law 27 = .ok (.iconst 4, 1) := by decide +kernel
theorem d_Law_law_28 : decode b_Law_law 28 = .ok (.isub, 1) := by decide +kernel
theorem d_Law_law_29 : decode b_Law_law 29 = .ok (.if_icmp .gt 1263, 3) := by decide +kernel
theorem d_Law_law_32 : decode b_Law_law 32 = .ok (.aload_n 0, 1) := by decide +kernel
theorem d_Law_law_33 : decode b_Law_law 33 = .ok (.iload 4, 2) := by decide +kernel
theorem d_Law_law_35 : decode b_Law_law 35 = .ok (.iaload, 1) := by decide +kernel
theorem d_Law_law_36 : decode b_Law_law 36 = .ok (.bipush 31, 2) := by decide +kernel
theorem d_Law_law_38 : decode b_Law_law 38 = .ok (.iand, 1) := by decide +kernel
theorem d_Law_law_39 : decode b_Law_law 39 = .ok (.tableswitch 1247 0 20 #[97, 145, 205, 253, 301, 357, 370, 438, 506, 574, 642, 690, 770, 806, 862, 918, 986, 1054, 1110, 1166, 1222], 97) := by decide +kernel
theorem d_Law_law_136 : decode b_Law_law 136 = .ok (.aload_n 1, 1) := by decide +kernel
theorem d_Law_law_137 : decode b_Law_law 137 = .ok (.aload_n 0, 1) := by decide +kernel
theorem d_Law_law_138 : decode b_Law_law 138 = .ok (.iload 4, 2) := by decide +kernel
theorem d_Law_law_140 : decode b_Law_law 140 = .ok (.iconst 1, 1) := by decide +kernel
theorem d_Law_law_141 : decode b_Law_law 141 = .ok (.iadd, 1) := by decide +kernel
theorem d_Law_law_142 : decode b_Law_law 142 = .ok (.iaload, 1) := by decide +kernel
theorem d_Law_law_143 : decode b_Law_law 143 = .ok (.aload_n 0, 1) := by decide +kernel
theorem d_Law_law_144 : decode b_Law_law 144 = .ok (.iload 4, 2) := by decide +kernel
theorem d_Law_law_146 : decode b_Law_law 146 = .ok (.iconst 2, 1) := by decide +kernel
theorem d_Law_law_147 : decode b_Law_law 147 = .ok (.iadd, 1) := by decide +kernel
theorem d_Law_law_148 : decode b_Law_law 148 = .ok (.iaload, 1) := by decide +kernel
theorem d_Law_law_149 : decode b_Law_law 149 = .ok (.invokestatic 80, 3) := by decide +kernel
theorem d_Law_law_152 : decode b_Law_law 152 = .ok (.istore 5, 2) := by decide +kernel
theorem d_Law_law_154 : decode b_Law_law 154 = .ok (.aload_n 2, 1) := by decide +kernel
theorem d_Law_law_155 : decode b_Law_law 155 = .ok (.aload_n 0, 1) := by decide +kernel
theorem d_Law_law_156 : decode b_Law_law 156 = .ok (.iload 4, 2) := by decide +kernel
theorem d_Law_law_158 : decode b_Law_law 158 = .ok (.iconst 1, 1) := by decide +kernel
theorem d_Law_law_159 : decode b_Law_law 159 = .ok (.iadd, 1) := by decide +kernel
theorem d_Law_law_160 : decode b_Law_law 160 = .ok (.iaload, 1) := by decide +kernel
theorem d_Law_law_161 : decode b_Law_law 161 = .ok (.aload_n 0, 1) := by decide +kernel
theorem d_Law_law_162 : decode b_Law_law 162 = .ok (.iload 4, 2) := by decide +kernel
theorem d_Law_law_164 : decode b_Law_law 164 = .ok (.iconst 2, 1) := by decide +kernel
theorem d_Law_law_165 : decode b_Law_law 165 = .ok (.iadd, 1) := by decide +kernel
theorem d_Law_law_166 : decode b_Law_law 166 = .ok (.iaload, 1) := by decide +kernel
theorem d_Law_law_167 : decode b_Law_law 167 = .ok (.invokevirtual 85, 3) := by decide +kernel
theorem d_Law_law_170 : decode b_Law_law 170 = .ok (.aload_n 2, 1) := by decide +kernel
theorem d_Law_law_171 : decode b_Law_law 171 = .ok (.invokevirtual 86, 3) := by decide +kernel
theorem d_Law_law_174 : decode b_Law_law 174 = .ok (.iload 5, 2) := by decide +kernel
theorem d_Law_law_176 : decode b_Law_law 176 = .ok (.if_icmp .eq 5, 3) := by decide +kernel
theorem d_Law_law_179 : decode b_Law_law 179 = .ok (.iconst 0, 1) := by decide +kernel
theorem d_Law_law_180 : decode b_Law_law 180 = .ok (.ireturn, 1) := by decide +kernel
theorem d_Law_law_181 : decode b_Law_law 181 = .ok (.goto 1105, 3) := by decide +kernel
theorem d_Law_law_184 : decode b_Law_law 184 = .ok (.aload_n 1, 1) := by decide +kernel
theorem d_Law_law_185 : decode b_Law_law 185 = .ok (.aload_n 0, 1) := by decide +kernel
theorem d_Law_law_186 : decode b_Law_law 186 = .ok (.iload 4, 2) := by decide +kernel
theorem d_Law_law_188 : decode b_Law_law 188 = .ok (.iconst 1, 1) := by decide +kernel
theorem d_Law_law_189 : decode b_Law_law 189 = .ok (.iadd, 1) := by decide +kernel
theorem d_Law_law_190 : decode b_Law_law 190 = .ok (.iaload, 1) := by decide +kernel
theorem d_Law_law_191 : decode b_Law_law 191 = .ok (.aload_n 0, 1) := by decide +kernel
theorem d_Law_law_192 : decode b_Law_law 192 = .ok (.iload 4, 2) := by decide +kernel
theorem d_Law_law_194 : decode b_Law_law 194 = .ok (.iconst 2, 1) := by decide +kernel
theorem d_Law_law_195 : decode b_Law_law 195 = .ok (.iadd, 1) := by decide +kernel
theorem d_Law_law_196 : decode b_Law_law 196 = .ok (.iaload, 1) := by decide +kernel
theorem d_Law_law_197 : decode b_Law_law 197 = .ok (.aload_n 0, 1) := by decide +kernel
theorem d_Law_law_198 : decode b_Law_law 198 = .ok (.iload 4, 2) := by decide +kernel
theorem d_Law_law_200 : decode b_Law_law 200 = .ok (.iconst 3, 1) := by decide +kernel
theorem d_Law_law_201 : decode b_Law_law 201 = .ok (.iadd, 1) := by decide +kernel
theorem d_Law_law_202 : decode b_Law_law 202 = .ok (.iaload, 1) := by decide +kernel
theorem d_Law_law_203 : decode b_Law_law 203 = .ok (.invokestatic 90, 3) := by decide +kernel
theorem d_Law_law_206 : decode b_Law_law 206 = .ok (.istore 5, 2) := by decide +kernel
theorem d_Law_law_208 : decode b_Law_law 208 = .ok (.aload_n 2, 1) := by decide +kernel
theorem d_Law_law_209 : decode b_Law_law 209 = .ok (.aload_n 0, 1) := by decide +kernel
theorem d_Law_law_210 : decode b_Law_law 210 = .ok (.iload 4, 2) := by decide +kernel
theorem d_Law_law_212 : decode b_Law_law 212 = .ok (.iconst 1, 1) := by decide +kernel
theorem d_Law_law_213 : decode b_Law_law 213 = .ok (.iadd, 1) := by decide +kernel
theorem d_Law_law_214 : decode b_Law_law 214 = .ok (.iaload, 1) := by decide +kernel
theorem d_Law_law_215 : decode b_Law_law 215 = .ok (.aload_n 0, 1) := by decide +kernel
theorem d_Law_law_216 : decode b_Law_law 216 = .ok (.iload 4, 2) := by decide +kernel
theorem d_Law_law_218 : decode b_Law_law 218 = .ok (.iconst 2, 1) := by decide +kernel
theorem d_Law_law_219 : decode b_Law_law 219 = .ok (.iadd, 1) := by decide +kernel
theorem d_Law_law_220 : decode b_Law_law 220 = .ok (.iaload, 1) := by decide +kernel
theorem d_Law_law_221 : decode b_Law_law 221 = .ok (.aload_n 0, 1) := by decide +kernel
theorem d_Law_law_222 : decode b_Law_law 222 = .ok (.iload 4, 2) := by decide +kernel
theorem d_Law_law_224 : decode b_Law_law 224 = .ok (.iconst 3, 1) := by decide +kernel
theorem d_Law_law_225 : decode b_Law_law 225 = .ok (.iadd, 1) := by decide +kernel
theorem d_Law_law_226 : decode b_Law_law 226 = .ok (.iaload, 1) := by decide +kernel
theorem d_Law_law_227 : decode b_Law_law 227 = .ok (.invokevirtual 93, 3) := by decide +kernel
theorem d_Law_law_230 : decode b_Law_law 230 = .ok (.aload_n 2, 1) := by decide +kernel
theorem d_Law_law_231 : decode b_Law_law 231 = .ok (.invokevirtual 86, 3) := by decide +kernel
theorem d_Law_law_234 : decode b_Law_law 234 = .ok (.iload 5, 2) := by decide +kernel
theorem d_Law_law_236 : decode b_Law_law 236 = .ok (.if_icmp .eq 5, 3) := by decide +kernel
theorem d_Law_law_239 : decode b_Law_law 239 = .ok (.iconst 0, 1) := by decide +kernel
theorem d_Law_law_240 : decode b_Law_law 240 = .ok (.ireturn, 1) := by decide +kernel
theorem d_Law_law_241 : decode b_Law_law 241 = .ok (.goto 1045, 3) := by decide +kernel
theorem d_Law_law_244 : decode b_Law_law 244 = .ok (.aload_n 1, 1) := by decide +kernel
theorem d_Law_law_245 : decode b_Law_law 245 = .ok (.aload_n 0, 1) := by decide +kernel
theorem d_Law_law_246 : decode b_Law_law 246 = .ok (.iload 4, 2) := by decide +kernel
theorem d_Law_law_248 : decode b_Law_law 248 = .ok (.iconst 1, 1) := by decide +kernel
theorem d_Law_law_249 : decode b_Law_law 249 = .ok (.iadd, 1) := by decide +kernel
theorem d_Law_law_250 : decode b_Law_law 250 = .ok (.iaload, 1) := by decide +kernel
theorem d_Law_law_251 : decode b_Law_law 251 = .ok (.aload_n 0, 1) := by decide +kernel
theorem d_Law_law_252 : decode b_Law_law 252 = .ok (.iload 4, 2) := by decide +kernel
theorem d_Law_law_254 : decode b_Law_law 254 = .ok (.iconst 2, 1) := by decide +kernel
theorem d_Law_law_255 : decode b_Law_law 255 = .ok (.iadd, 1) := by decide +kernel
theorem d_Law_law_256 : decode b_Law_law 256 = .ok (.iaload, 1) := by decide +kernel
theorem d_Law_law_257 : decode b_Law_law 257 = .ok (.invokestatic 94, 3) := by decide +kernel
theorem d_Law_law_260 : decode b_Law_law 260 = .ok (.istore 5, 2) := by decide +kernel
theorem d_Law_law_262 : decode b_Law_law 262 = .ok (.aload_n 2, 1) := by decide +kernel
theorem d_Law_law_263 : decode b_Law_law 263 = .ok (.aload_n 0, 1) := by decide +kernel
theorem d_Law_law_264 : decode b_Law_law 264 = .ok (.iload 4, 2) := by decide +kernel
theorem d_Law_law_266 : decode b_Law_law 266 = .ok (.iconst 1, 1) := by decide +kernel
theorem d_Law_law_267 : decode b_Law_law 267 = .ok (.iadd, 1) := by decide +kernel
theorem d_Law_law_268 : decode b_Law_law 268 = .ok (.iaload, 1) := by decide +kernel
theorem d_Law_law_269 : decode b_Law_law 269 = .ok (.aload_n 0, 1) := by decide +kernel
theorem d_Law_law_270 : decode b_Law_law 270 = .ok (.iload 4, 2) := by decide +kernel
theorem d_Law_law_272 : decode b_Law_law 272 = .ok (.iconst 2, 1) := by decide +kernel
theorem d_Law_law_273 : decode b_Law_law 273 = .ok (.iadd, 1) := by decide +kernel
theorem d_Law_law_274 : decode b_Law_law 274 = .ok (.iaload, 1) := by decide +kernel
theorem d_Law_law_275 : decode b_Law_law 275 = .ok (.invokevirtual 96, 3) := by decide +kernel
theorem d_Law_law_278 : decode b_Law_law 278 = .ok (.aload_n 2, 1) := by decide +kernel
theorem d_Law_law_279 : decode b_Law_law 279 = .ok (.invokevirtual 86, 3) := by decide +kernel
theorem d_Law_law_282 : decode b_Law_law 282 = .ok (.iload 5, 2) := by decide +kernel
theorem d_Law_law_284 : decode b_Law_law 284 = .ok (.if_icmp .eq 5, 3) := by decide +kernel
theorem d_Law_law_287 : decode b_Law_law 287 = .ok (.iconst 0, 1) := by decide +kernel
theorem d_Law_law_288 : decode b_Law_law 288 = .ok (.ireturn, 1) := by decide +kernel
theorem d_Law_law_289 : decode b_Law_law 289 = .ok (.goto 997, 3) := by decide +kernel
theorem d_Law_law_292 : decode b_Law_law 292 = .ok (.aload_n 1, 1) := by decide +kernel
theorem d_Law_law_293 : decode b_Law_law 293 = .ok (.aload_n 0, 1) := by decide +kernel
theorem d_Law_law_294 : decode b_Law_law 294 = .ok (.iload 4, 2) := by decide +kernel
theorem d_Law_law_296 : decode b_Law_law 296 = .ok (.iconst 1, 1) := by decide +kernel
theorem d_Law_law_297 : decode b_Law_law 297 = .ok (.iadd, 1) := by decide +kernel
theorem d_Law_law_298 : decode b_Law_law 298 = .ok (.iaload, 1) := by decide +kernel
theorem d_Law_law_299 : decode b_Law_law 299 = .ok (.aload_n 0, 1) := by decide +kernel
theorem d_Law_law_300 : decode b_Law_law 300 = .ok (.iload 4, 2) := by decide +kernel
theorem d_Law_law_302 : decode b_Law_law 302 = .ok (.iconst 2, 1) := by decide +kernel
theorem d_Law_law_303 : decode b_Law_law 303 = .ok (.iadd, 1) := by decide +kernel
theorem d_Law_law_304 : decode b_Law_law 304 = .ok (.iaload, 1) := by decide +kernel
theorem d_Law_law_305 : decode b_Law_law 305 = .ok (.invokestatic 97, 3) := by decide +kernel
theorem d_Law_law_308 : decode b_Law_law 308 = .ok (.istore 5, 2) := by decide +kernel
theorem d_Law_law_310 : decode b_Law_law 310 = .ok (.aload_n 2, 1) := by decide +kernel
theorem d_Law_law_311 : decode b_Law_law 311 = .ok (.aload_n 0, 1) := by decide +kernel
theorem d_Law_law_312 : decode b_Law_law 312 = .ok (.iload 4, 2) := by decide +kernel
theorem d_Law_law_314 : decode b_Law_law 314 = .ok (.iconst 1, 1) := by decide +kernel
theorem d_Law_law_315 : decode b_Law_law 315 = .ok (.iadd, 1) := by decide +kernel
theorem d_Law_law_316 : decode b_Law_law 316 = .ok (.iaload, 1) := by decide +kernel
theorem d_Law_law_317 : decode b_Law_law 317 = .ok (.aload_n 0, 1) := by decide +kernel
theorem d_Law_law_318 : decode b_Law_law 318 = .ok (.iload 4, 2) := by decide +kernel
theorem d_Law_law_320 : decode b_Law_law 320 = .ok (.iconst 2, 1) := by decide +kernel
theorem d_Law_law_321 : decode b_Law_law 321 = .ok (.iadd, 1) := by decide +kernel
theorem d_Law_law_322 : decode b_Law_law 322 = .ok (.iaload, 1) := by decide +kernel
theorem d_Law_law_323 : decode b_Law_law 323 = .ok (.invokevirtual 99, 3) := by decide +kernel
theorem d_Law_law_326 : decode b_Law_law 326 = .ok (.aload_n 2, 1) := by decide +kernel
theorem d_Law_law_327 : decode b_Law_law 327 = .ok (.invokevirtual 86, 3) := by decide +kernel
theorem d_Law_law_330 : decode b_Law_law 330 = .ok (.iload 5, 2) := by decide +kernel
theorem d_Law_law_332 : decode b_Law_law 332 = .ok (.if_icmp .eq 5, 3) := by decide +kernel
theorem d_Law_law_335 : decode b_Law_law 335 = .ok (.iconst 0, 1) := by decide +kernel
theorem d_Law_law_336 : decode b_Law_law 336 = .ok (.ireturn, 1) := by decide +kernel
theorem d_Law_law_337 : decode b_Law_law 337 = .ok (.goto 949, 3) := by decide +kernel
theorem d_Law_law_340 : decode b_Law_law 340 = .ok (.aload_n 1, 1) := by decide +kernel
theorem d_Law_law_341 : decode b_Law_law 341 = .ok (.aload_n 0, 1) := by decide +kernel
theorem d_Law_law_342 : decode b_Law_law 342 = .ok (.iload 4, 2) := by decide +kernel
theorem d_Law_law_344 : decode b_Law_law 344 = .ok (.iconst 1, 1) := by decide +kernel
theorem d_Law_law_345 : decode b_Law_law 345 = .ok (.iadd, 1) := by decide +kernel
theorem d_Law_law_346 : decode b_Law_law 346 = .ok (.iaload, 1) := by decide +kernel
theorem d_Law_law_347 : decode b_Law_law 347 = .ok (.aload_n 3, 1) := by decide +kernel
theorem d_Law_law_348 : decode b_Law_law 348 = .ok (.invokestatic 100, 3) := by decide +kernel
theorem d_Law_law_351 : decode b_Law_law 351 = .ok (.istore 5, 2) := by decide +kernel
theorem d_Law_law_353 : decode b_Law_law 353 = .ok (.aload_n 2, 1) := by decide +kernel
theorem d_Law_law_354 : decode b_Law_law 354 = .ok (.aload_n 0, 1) := by decide +kernel
theorem d_Law_law_355 : decode b_Law_law 355 = .ok (.iload 4, 2) := by decide +kernel
theorem d_Law_law_357 : decode b_Law_law 357 = .ok (.iconst 1, 1) := by decide +kernel
theorem d_Law_law_358 : decode b_Law_law 358 = .ok (.iadd, 1) := by decide +kernel
theorem d_Law_law_359 : decode b_Law_law 359 = .ok (.iaload, 1) := by decide +kernel
theorem d_Law_law_360 : decode b_Law_law 360 = .ok (.invokevirtual 103, 3) := by decide +kernel
theorem d_Law_law_363 : decode b_Law_law 363 = .ok (.istore 6, 2) := by decide +kernel
theorem d_Law_law_365 : decode b_Law_law 365 = .ok (.aload_n 2, 1) := by decide +kernel
theorem d_Law_law_366 : decode b_Law_law 366 = .ok (.invokevirtual 86, 3) := by decide +kernel
theorem d_Law_law_369 : decode b_Law_law 369 = .ok (.iload 5, 2) := by decide +kernel
theorem d_Law_law_371 : decode b_Law_law 371 = .ok (.if_icmp .eq 5, 3) := by decide +kernel
theorem d_Law_law_374 : decode b_Law_law 374 = .ok (.iconst 0, 1) := by decide +kernel
theorem d_Law_law_375 : decode b_Law_law 375 = .ok (.ireturn, 1) := by decide +kernel
theorem d_Law_law_376 : decode b_Law_law 376 = .ok (.iload 5, 2) := by decide +kernel
theorem d_Law_law_378 : decode b_Law_law 378 = .ok (.ifCond .ne 15, 3) := by decide +kernel
theorem d_Law_law_381 : decode b_Law_law 381 = .ok (.aload_n 3, 1) := by decide +kernel
theorem d_Law_law_382 : decode b_Law_law 382 = .ok (.iconst 0, 1) := by decide +kernel
theorem d_Law_law_383 : decode b_Law_law 383 = .ok (.laload, 1) := by decide +kernel
theorem d_Law_law_384 : decode b_Law_law 384 = .ok (.iload 6, 2) := by decide +kernel
theorem d_Law_law_386 : decode b_Law_law 386 = .ok (.i2l, 1) := by decide +kernel
theorem d_Law_law_387 : decode b_Law_law 387 = .ok (.lcmp, 1) := by decide +kernel
theorem d_Law_law_388 : decode b_Law_law 388 = .ok (.ifCond .eq 5, 3) := by decide +kernel
theorem d_Law_law_391 : decode b_Law_law 391 = .ok (.iconst 0, 1) := by decide +kernel
theorem d_Law_law_392 : decode b_Law_law 392 = .ok (.ireturn, 1) := by decide +kernel
theorem d_Law_law_393 : decode b_Law_law 393 = .ok (.goto 893, 3) := by decide +kernel
theorem d_Law_law_396 : decode b_Law_law 396 = .ok (.aload_n 1, 1) := by decide +kernel
theorem d_Law_law_397 : decode b_Law_law 397 = .ok (.invokevirtual 104, 3) := by decide +kernel
theorem d_Law_law_400 : decode b_Law_law 400 = .ok (.aload_n 2, 1) := by decide +kernel
theorem d_Law_law_401 : decode b_Law_law 401 = .ok (.invokevirtual 108, 3) := by decide +kernel
theorem d_Law_law_404 : decode b_Law_law 404 = .ok (.if_icmp .eq 882, 3) := by decide +kernel
theorem d_Law_law_407 : decode b_Law_law 407 = .ok (.iconst 0, 1) := by decide +kernel
theorem d_Law_law_408 : decode b_Law_law 408 = .ok (.ireturn, 1) := by decide +kernel
theorem d_Law_law_409 : decode b_Law_law 409 = .ok (.aload_n 1, 1) := by decide +kernel
theorem d_Law_law_410 : decode b_Law_law 410 = .ok (.aload_n 0, 1) := by decide +kernel
theorem d_Law_law_411 : decode b_Law_law 411 = .ok (.iload 4, 2) := by decide +kernel
theorem d_Law_law_413 : decode b_Law_law 413 = .ok (.iconst 1, 1) := by decide +kernel
theorem d_Law_law_414 : decode b_Law_law 414 = .ok (.iadd, 1) := by decide +kernel
theorem d_Law_law_415 : decode b_Law_law 415 = .ok (.iaload, 1) := by decide +kernel
theorem d_Law_law_416 : decode b_Law_law 416 = .ok (.aload_n 0, 1) := by decide +kernel
theorem d_Law_law_417 : decode b_Law_law 417 = .ok (.iload 4, 2) := by decide +kernel
theorem d_Law_law_419 : decode b_Law_law 419 = .ok (.iconst 2, 1) := by decide +kernel
theorem d_Law_law_420 : decode b_Law_law 420 = .ok (.iadd, 1) := by decide +kernel
theorem d_Law_law_421 : decode b_Law_law 421 = .ok (.iaload, 1) := by decide +kernel
theorem d_Law_law_422 : decode b_Law_law 422 = .ok (.aload_n 3, 1) := by decide +kernel
theorem d_Law_law_423 : decode b_Law_law 423 = .ok (.invokestatic 109, 3) := by decide +kernel
theorem d_Law_law_426 : decode b_Law_law 426 = .ok (.istore 5, 2) := by decide +kernel
theorem d_Law_law_428 : decode b_Law_law 428 = .ok (.aload_n 2, 1) := by decide +kernel
theorem d_Law_law_429 : decode b_Law_law 429 = .ok (.aload_n 0, 1) := by decide +kernel
theorem d_Law_law_430 : decode b_Law_law 430 = .ok (.iload 4, 2) := by decide +kernel
theorem d_Law_law_432 : decode b_Law_law 432 = .ok (.iconst 1, 1) := by decide +kernel
theorem d_Law_law_433 : decode b_Law_law 433 = .ok (.iadd, 1) := by decide +kernel
theorem d_Law_law_434 : decode b_Law_law 434 = .ok (.iaload, 1) := by decide +kernel
theorem d_Law_law_435 : decode b_Law_law 435 = .ok (.aload_n 0, 1) := by decide +kernel
theorem d_Law_law_436 : decode b_Law_law 436 = .ok (.iload 4, 2) := by decide +kernel
theorem d_Law_law_438 : decode b_Law_law 438 = .ok (.iconst 2, 1) := by decide +kernel
theorem d_Law_law_439 : decode b_Law_law 439 = .ok (.iadd, 1) := by decide +kernel
theorem d_Law_law_440 : decode b_Law_law 440 = .ok (.iaload, 1) := by decide +kernel
theorem d_Law_law_441 : decode b_Law_law 441 = .ok (.invokevirtual 112, 3) := by decide +kernel
theorem d_Law_law_444 : decode b_Law_law 444 = .ok (.istore 6, 2) := by decide +kernel
theorem d_Law_law_446 : decode b_Law_law 446 = .ok (.aload_n 2, 1) := by decide +kernel
theorem d_Law_law_447 : decode b_Law_law 447 = .ok (.invokevirtual 86, 3) := by decide +kernel
theorem d_Law_law_450 : decode b_Law_law 450 = .ok (.iload 5, 2) := by decide +kernel
theorem d_Law_law_452 : decode b_Law_law 452 = .ok (.if_icmp .eq 5, 3) := by decide +kernel
theorem d_Law_law_455 : decode b_Law_law 455 = .ok (.iconst 0, 1) := by decide +kernel
theorem d_Law_law_456 : decode b_Law_law 456 = .ok (.ireturn, 1) := by decide +kernel
theorem d_Law_law_457 : decode b_Law_law 457 = .ok (.iload 5, 2) := by decide +kernel
theorem d_Law_law_459 : decode b_Law_law 459 = .ok (.ifCond .ne 15, 3) := by decide +kernel
theorem d_Law_law_462 : decode b_Law_law 462 = .ok (.aload_n 3, 1) := by decide +kernel
theorem d_Law_law_463 : decode b_Law_law 463 = .ok (.iconst 0, 1) := by decide +kernel
theorem d_Law_law_464 : decode b_Law_law 464 = .ok (.laload, 1) := by decide +kernel
theorem d_Law_law_465 : decode b_Law_law 465 = .ok (.iload 6, 2) := by decide +kernel
theorem d_Law_law_467 : decode b_Law_law 467 = .ok (.i2l, 1) := by decide +kernel
theorem d_Law_law_468 : decode b_Law_law 468 = .ok (.lcmp, 1) := by decide +kernel
theorem d_Law_law_469 : decode b_Law_law 469 = .ok (.ifCond .eq 5, 3) := by decide +kernel
theorem d_Law_law_472 : decode b_Law_law 472 = .ok (.iconst 0, 1) := by decide +kernel
theorem d_Law_law_473 : decode b_Law_law 473 = .ok (.ireturn, 1) := by decide +kernel
theorem d_Law_law_474 : decode b_Law_law 474 = .ok (.goto 812, 3) := by decide +kernel
theorem d_Law_law_477 : decode b_Law_law 477 = .ok (.aload_n 1, 1) := by decide +kernel
theorem d_Law_law_478 : decode b_Law_law 478 = .ok (.aload_n 0, 1) := by decide +kernel
theorem d_Law_law_479 : decode b_Law_law 479 = .ok (.iload 4, 2) := by decide +kernel
theorem d_Law_law_481 : decode b_Law_law 481 = .ok (.iconst 1, 1) := by decide +kernel
theorem d_Law_law_482 : decode b_Law_law 482 = .ok (.iadd, 1) := by decide +kernel
theorem d_Law_law_483 : decode b_Law_law 483 = .ok (.iaload, 1) := by decide +kernel
theorem d_Law_law_484 : decode b_Law_law 484 = .ok (.aload_n 0, 1) := by decide +kernel
theorem d_Law_law_485 : decode b_Law_law 485 = .ok (.iload 4, 2) := by decide +kernel
theorem d_Law_law_487 : decode b_Law_law 487 = .ok (.iconst 2, 1) := by decide +kernel
theorem d_Law_law_488 : decode b_Law_law 488 = .ok (.iadd, 1) := by decide +kernel
theorem d_Law_law_489 : decode b_Law_law 489 = .ok (.iaload, 1) := by decide +kernel
theorem d_Law_law_490 : decode b_Law_law 490 = .ok (.aload_n 3, 1) := by decide +kernel
theorem d_Law_law_491 : decode b_Law_law 491 = .ok (.invokestatic 113, 3) := by decide +kernel
theorem d_Law_law_494 : decode b_Law_law 494 = .ok (.istore 5, 2) := by decide +kernel
theorem d_Law_law_496 : decode b_Law_law 496 = .ok (.aload_n 2, 1) := by decide +kernel
theorem d_Law_law_497 : decode b_Law_law 497 = .ok (.aload_n 0, 1) := by decide +kernel
theorem d_Law_law_498 : decode b_Law_law 498 = .ok (.iload 4, 2) := by decide +kernel
theorem d_Law_law_500 : decode b_Law_law 500 = .ok (.iconst 1, 1) := by decide +kernel
theorem d_Law_law_501 : decode b_Law_law 501 = .ok (.iadd, 1) := by decide +kernel
theorem d_Law_law_502 : decode b_Law_law 502 = .ok (.iaload, 1) := by decide +kernel
theorem d_Law_law_503 : decode b_Law_law 503 = .ok (.aload_n 0, 1) := by decide +kernel
theorem d_Law_law_504 : decode b_Law_law 504 = .ok (.iload 4, 2) := by decide +kernel
theorem d_Law_law_506 : decode b_Law_law 506 = .ok (.iconst 2, 1) := by decide +kernel
theorem d_Law_law_507 : decode b_Law_law 507 = .ok (.iadd, 1) := by decide +kernel
theorem d_Law_law_508 : decode b_Law_law 508 = .ok (.iaload, 1) := by decide +kernel
theorem d_Law_law_509 : decode b_Law_law 509 = .ok (.invokevirtual 115, 3) := by decide +kernel
theorem d_Law_law_512 : decode b_Law_law 512 = .ok (.istore 6, 2) := by decide +kernel
theorem d_Law_law_514 : decode b_Law_law 514 = .ok (.aload_n 2, 1) := by decide +kernel
theorem d_Law_law_515 : decode b_Law_law 515 = .ok (.invokevirtual 86, 3) := by decide +kernel
theorem d_Law_law_518 : decode b_Law_law 518 = .ok (.iload 5, 2) := by decide +kernel
theorem d_Law_law_520 : decode b_Law_law 520 = .ok (.if_icmp .eq 5, 3) := by decide +kernel
theorem d_Law_law_523 : decode b_Law_law 523 = .ok (.iconst 0, 1) := by decide +kernel
theorem d_Law_law_524 : decode b_Law_law 524 = .ok (.ireturn, 1) := by decide +kernel
theorem d_Law_law_525 : decode b_Law_law 525 = .ok (.iload 5, 2) := by decide +kernel
theorem d_Law_law_527 : decode b_Law_law 527 = .ok (.ifCond .ne 15, 3) := by decide +kernel
theorem d_Law_law_530 : decode b_Law_law 530 = .ok (.aload_n 3, 1) := by decide +kernel
theorem d_Law_law_531 : decode b_Law_law 531 = .ok (.iconst 0, 1) := by decide +kernel
theorem d_Law_law_532 : decode b_Law_law 532 = .ok (.laload, 1) := by decide +kernel
theorem d_Law_law_533 : decode b_Law_law 533 = .ok (.iload 6, 2) := by decide +kernel
theorem d_Law_law_535 : decode b_Law_law 535 = .ok (.i2l, 1) := by decide +kernel
theorem d_Law_law_536 : decode b_Law_law 536 = .ok (.lcmp, 1) := by decide +kernel
theorem d_Law_law_537 : decode b_Law_law 537 = .ok (.ifCond .eq 5, 3) := by decide +kernel
theorem d_Law_law_540 : decode b_Law_law 540 = .ok (.iconst 0, 1) := by decide +kernel
theorem d_Law_law_541 : decode b_Law_law 541 = .ok (.ireturn, 1) := by decide +kernel
theorem d_Law_law_542 : decode b_Law_law 542 = .ok (.goto 744, 3) := by decide +kernel
theorem d_Law_law_545 : decode b_Law_law 545 = .ok (.aload_n 1, 1) := by decide +kernel
theorem d_Law_law_546 : decode b_Law_law 546 = .ok (.aload_n 0, 1) := by decide +kernel
theorem d_Law_law_547 : decode b_Law_law 547 = .ok (.iload 4, 2) := by decide +kernel
theorem d_Law_law_549 : decode b_Law_law 549 = .ok (.iconst 1, 1) := by decide +kernel
theorem d_Law_law_550 : decode b_Law_law 550 = .ok (.iadd, 1) := by decide +kernel
theorem d_Law_law_551 : decode b_Law_law 551 = .ok (.iaload, 1) := by decide +kernel
theorem d_Law_law_552 : decode b_Law_law 552 = .ok (.aload_n 0, 1) := by decide +kernel
theorem d_Law_law_553 : decode b_Law_law 553 = .ok (.iload 4, 2) := by decide +kernel
theorem d_Law_law_555 : decode b_Law_law 555 = .ok (.iconst 2, 1) := by decide +kernel
theorem d_Law_law_556 : decode b_Law_law 556 = .ok (.iadd, 1) := by decide +kernel
theorem d_Law_law_557 : decode b_Law_law 557 = .ok (.iaload, 1) := by decide +kernel
theorem d_Law_law_558 : decode b_Law_law 558 = .ok (.aload_n 3, 1) := by decide +kernel
theorem d_Law_law_559 : decode b_Law_law 559 = .ok (.invokestatic 116, 3) := by decide +kernel
theorem d_Law_law_562 : decode b_Law_law 562 = .ok (.istore 5, 2) := by decide +kernel
theorem d_Law_law_564 : decode b_Law_law 564 = .ok (.aload_n 2, 1) := by decide +kernel
theorem d_Law_law_565 : decode b_Law_law 565 = .ok (.aload_n 0, 1) := by decide +kernel
theorem d_Law_law_566 : decode b_Law_law 566 = .ok (.iload 4, 2) := by decide +kernel
theorem d_Law_law_568 : decode b_Law_law 568 = .ok (.iconst 1, 1) := by decide +kernel
theorem d_Law_law_569 : decode b_Law_law 569 = .ok (.iadd, 1) := by decide +kernel
theorem d_Law_law_570 : decode b_Law_law 570 = .ok (.iaload, 1) := by decide +kernel
theorem d_Law_law_571 : decode b_Law_law 571 = .ok (.aload_n 0, 1) := by decide +kernel
theorem d_Law_law_572 : decode b_Law_law 572 = .ok (.iload 4, 2) := by decide +kernel
theorem d_Law_law_574 : decode b_Law_law 574 = .ok (.iconst 2, 1) := by decide +kernel
theorem d_Law_law_575 : decode b_Law_law 575 = .ok (.iadd, 1) := by decide +kernel
theorem d_Law_law_576 : decode b_Law_law 576 = .ok (.iaload, 1) := by decide +kernel
theorem d_Law_law_577 : decode b_Law_law 577 = .ok (.invokevirtual 118, 3) := by decide +kernel
theorem d_Law_law_580 : decode b_Law_law 580 = .ok (.istore 6, 2) := by decide +kernel
theorem d_Law_law_582 : decode b_Law_law 582 = .ok (.aload_n 2, 1) := by decide +kernel
theorem d_Law_law_583 : decode b_Law_law 583 = .ok (.invokevirtual 86, 3) := by decide +kernel
theorem d_Law_law_586 : decode b_Law_law 586 = .ok (.iload 5, 2) := by decide +kernel
theorem d_Law_law_588 : decode b_Law_law 588 = .ok (.if_icmp .eq 5, 3) := by decide +kernel
theorem d_Law_law_591 : decode b_Law_law 591 = .ok (.iconst 0, 1) := by decide +kernel
theorem d_Law_law_592 : decode b_Law_law 592 = .ok (.ireturn, 1) := by decide +kernel
theorem d_Law_law_593 : decode b_Law_law 593 = .ok (.iload 5, 2) := by decide +kernel
theorem d_Law_law_595 : decode b_Law_law 595 = .ok (.ifCond .ne 15, 3) := by decide +kernel
theorem d_Law_law_598 : decode b_Law_law 598 = .ok (.aload_n 3, 1) := by decide +kernel
theorem d_Law_law_599 : decode b_Law_law 599 = .ok (.iconst 0, 1) := by decide +kernel
theorem d_Law_law_600 : decode b_Law_law 600 = .ok (.laload, 1) := by decide +kernel
theorem d_Law_law_601 : decode b_Law_law 601 = .ok (.iload 6, 2) := by decide +kernel
theorem d_Law_law_603 : decode b_Law_law 603 = .ok (.i2l, 1) := by decide +kernel
theorem d_Law_law_604 : decode b_Law_law 604 = .ok (.lcmp, 1) := by decide +kernel
theorem d_Law_law_605 : decode b_Law_law 605 = .ok (.ifCond .eq 5, 3) := by decide +kernel
theorem d_Law_law_608 : decode b_Law_law 608 = .ok (.iconst 0, 1) := by decide +kernel
theorem d_Law_law_609 : decode b_Law_law 609 = .ok (.ireturn, 1) := by decide +kernel
theorem d_Law_law_610 : decode b_Law_law 610 = .ok (.goto 676, 3) := by decide +kernel
theorem d_Law_law_613 : decode b_Law_law 613 = .ok (.aload_n 1, 1) := by decide +kernel
theorem d_Law_law_614 : decode b_Law_law 614 = .ok (.aload_n 0, 1) := by decide +kernel
theorem d_Law_law_615 : decode b_Law_law 615 = .ok (.iload 4, 2) := by decide +kernel
theorem d_Law_law_617 : decode b_Law_law 617 = .ok (.iconst 1, 1) := by decide +kernel
theorem d_Law_law_618 : decode b_Law_law 618 = .ok (.iadd, 1) := by decide +kernel
theorem d_Law_law_619 : decode b_Law_law 619 = .ok (.iaload, 1) := by decide +kernel
theorem d_Law_law_620 : decode b_Law_law 620 = .ok (.aload_n 0, 1) := by decide +kernel
theorem d_Law_law_621 : decode b_Law_law 621 = .ok (.iload 4, 2) := by decide +kernel
theorem d_Law_law_623 : decode b_Law_law 623 = .ok (.iconst 2, 1) := by decide +kernel
theorem d_Law_law_624 : decode b_Law_law 624 = .ok (.iadd, 1) := by decide +kernel
theorem d_Law_law_625 : decode b_Law_law 625 = .ok (.iaload, 1) := by decide +kernel
theorem d_Law_law_626 : decode b_Law_law 626 = .ok (.aload_n 3, 1) := by decide +kernel
theorem d_Law_law_627 : decode b_Law_law 627 = .ok (.invokestatic 119, 3) := by decide +kernel
theorem d_Law_law_630 : decode b_Law_law 630 = .ok (.istore 5, 2) := by decide +kernel
theorem d_Law_law_632 : decode b_Law_law 632 = .ok (.aload_n 2, 1) := by decide +kernel
theorem d_Law_law_633 : decode b_Law_law 633 = .ok (.aload_n 0, 1) := by decide +kernel
theorem d_Law_law_634 : decode b_Law_law 634 = .ok (.iload 4, 2) := by decide +kernel
theorem d_Law_law_636 : decode b_Law_law 636 = .ok (.iconst 1, 1) := by decide +kernel
theorem d_Law_law_637 : decode b_Law_law 637 = .ok (.iadd, 1) := by decide +kernel
theorem d_Law_law_638 : decode b_Law_law 638 = .ok (.iaload, 1) := by decide +kernel
theorem d_Law_law_639 : decode b_Law_law 639 = .ok (.aload_n 0, 1) := by decide +kernel
theorem d_Law_law_640 : decode b_Law_law 640 = .ok (.iload 4, 2) := by decide +kernel
theorem d_Law_law_642 : decode b_Law_law 642 = .ok (.iconst 2, 1) := by decide +kernel
theorem d_Law_law_643 : decode b_Law_law 643 = .ok (.iadd, 1) := by decide +kernel
theorem d_Law_law_644 : decode b_Law_law 644 = .ok (.iaload, 1) := by decide +kernel
theorem d_Law_law_645 : decode b_Law_law 645 = .ok (.invokevirtual 121, 3) := by decide +kernel
theorem d_Law_law_648 : decode b_Law_law 648 = .ok (.istore 6, 2) := by decide +kernel
theorem d_Law_law_650 : decode b_Law_law 650 = .ok (.aload_n 2, 1) := by decide +kernel
theorem d_Law_law_651 : decode b_Law_law 651 = .ok (.invokevirtual 86, 3) := by decide +kernel
theorem d_Law_law_654 : decode b_Law_law 654 = .ok (.iload 5, 2) := by decide +kernel
theorem d_Law_law_656 : decode b_Law_law 656 = .ok (.if_icmp .eq 5, 3) := by decide +kernel
theorem d_Law_law_659 : decode b_Law_law 659 = .ok (.iconst 0, 1) := by decide +kernel
theorem d_Law_law_660 : decode b_Law_law 660 = .ok (.ireturn, 1) := by decide +kernel
theorem d_Law_law_661 : decode b_Law_law 661 = .ok (.iload 5, 2) := by decide +kernel
theorem d_Law_law_663 : decode b_Law_law 663 = .ok (.ifCond .ne 15, 3) := by decide +kernel
theorem d_Law_law_666 : decode b_Law_law 666 = .ok (.aload_n 3, 1) := by decide +kernel
theorem d_Law_law_667 : decode b_Law_law 667 = .ok (.iconst 0, 1) := by decide +kernel
theorem d_Law_law_668 : decode b_Law_law 668 = .ok (.laload, 1) := by decide +kernel
theorem d_Law_law_669 : decode b_Law_law 669 = .ok (.iload 6, 2) := by decide +kernel
theorem d_Law_law_671 : decode b_Law_law 671 = .ok (.i2l, 1) := by decide +kernel
theorem d_Law_law_672 : decode b_Law_law 672 = .ok (.lcmp, 1) := by decide +kernel
theorem d_Law_law_673 : decode b_Law_law 673 = .ok (.ifCond .eq 5, 3) := by decide +kernel
theorem d_Law_law_676 : decode b_Law_law 676 = .ok (.iconst 0, 1) := by decide +kernel
theorem d_Law_law_677 : decode b_Law_law 677 = .ok (.ireturn, 1) := by decide +kernel
theorem d_Law_law_678 : decode b_Law_law 678 = .ok (.goto 608, 3) := by decide +kernel
theorem d_Law_law_681 : decode b_Law_law 681 = .ok (.aload_n 1, 1) := by decide +kernel
theorem d_Law_law_682 : decode b_Law_law 682 = .ok (.aload_n 0, 1) := by decide +kernel
theorem d_Law_law_683 : decode b_Law_law 683 = .ok (.iload 4, 2) := by decide +kernel
theorem d_Law_law_685 : decode b_Law_law 685 = .ok (.iconst 1, 1) := by decide +kernel
theorem d_Law_law_686 : decode b_Law_law 686 = .ok (.iadd, 1) := by decide +kernel
theorem d_Law_law_687 : decode b_Law_law 687 = .ok (.iaload, 1) := by decide +kernel
theorem d_Law_law_688 : decode b_Law_law 688 = .ok (.aload_n 0, 1) := by decide +kernel
theorem d_Law_law_689 : decode b_Law_law 689 = .ok (.iload 4, 2) := by decide +kernel
theorem d_Law_law_691 : decode b_Law_law 691 = .ok (.iconst 2, 1) := by decide +kernel
theorem d_Law_law_692 : decode b_Law_law 692 = .ok (.iadd, 1) := by decide +kernel
theorem d_Law_law_693 : decode b_Law_law 693 = .ok (.iaload, 1) := by decide +kernel
theorem d_Law_law_694 : decode b_Law_law 694 = .ok (.invokestatic 122, 3) := by decide +kernel
theorem d_Law_law_697 : decode b_Law_law 697 = .ok (.istore 5, 2) := by decide +kernel
theorem d_Law_law_699 : decode b_Law_law 699 = .ok (.aload_n 2, 1) := by decide +kernel
theorem d_Law_law_700 : decode b_Law_law 700 = .ok (.aload_n 0, 1) := by decide +kernel
theorem d_Law_law_701 : decode b_Law_law 701 = .ok (.iload 4, 2) := by decide +kernel
theorem d_Law_law_703 : decode b_Law_law 703 = .ok (.iconst 1, 1) := by decide +kernel
theorem d_Law_law_704 : decode b_Law_law 704 = .ok (.iadd, 1) := by decide +kernel
theorem d_Law_law_705 : decode b_Law_law 705 = .ok (.iaload, 1) := by decide +kernel
theorem d_Law_law_706 : decode b_Law_law 706 = .ok (.aload_n 0, 1) := by decide +kernel
theorem d_Law_law_707 : decode b_Law_law 707 = .ok (.iload 4, 2) := by decide +kernel
theorem d_Law_law_709 : decode b_Law_law 709 = .ok (.iconst 2, 1) := by decide +kernel
theorem d_Law_law_710 : decode b_Law_law 710 = .ok (.iadd, 1) := by decide +kernel
theorem d_Law_law_711 : decode b_Law_law 711 = .ok (.iaload, 1) := by decide +kernel
theorem d_Law_law_712 : decode b_Law_law 712 = .ok (.invokevirtual 124, 3) := by decide +kernel
theorem d_Law_law_715 : decode b_Law_law 715 = .ok (.aload_n 2, 1) := by decide +kernel
theorem d_Law_law_716 : decode b_Law_law 716 = .ok (.invokevirtual 86, 3) := by decide +kernel
theorem d_Law_law_719 : decode b_Law_law 719 = .ok (.iload 5, 2) := by decide +kernel
theorem d_Law_law_721 : decode b_Law_law 721 = .ok (.if_icmp .eq 5, 3) := by decide +kernel
theorem d_Law_law_724 : decode b_Law_law 724 = .ok (.iconst 0, 1) := by decide +kernel
theorem d_Law_law_725 : decode b_Law_law 725 = .ok (.ireturn, 1) := by decide +kernel
theorem d_Law_law_726 : decode b_Law_law 726 = .ok (.goto 560, 3) := by decide +kernel
theorem d_Law_law_729 : decode b_Law_law 729 = .ok (.aload_n 1, 1) := by decide +kernel
theorem d_Law_law_730 : decode b_Law_law 730 = .ok (.aload_n 0, 1) := by decide +kernel
theorem d_Law_law_731 : decode b_Law_law 731 = .ok (.iload 4, 2) := by decide +kernel
theorem d_Law_law_733 : decode b_Law_law 733 = .ok (.iconst 1, 1) := by decide +kernel
theorem d_Law_law_734 : decode b_Law_law 734 = .ok (.iadd, 1) := by decide +kernel
theorem d_Law_law_735 : decode b_Law_law 735 = .ok (.iaload, 1) := by decide +kernel
theorem d_Law_law_736 : decode b_Law_law 736 = .ok (.aload_n 0, 1) := by decide +kernel
theorem d_Law_law_737 : decode b_Law_law 737 = .ok (.iload 4, 2) := by decide +kernel
theorem d_Law_law_739 : decode b_Law_law 739 = .ok (.iconst 2, 1) := by decide +kernel
theorem d_Law_law_740 : decode b_Law_law 740 = .ok (.iadd, 1) := by decide +kernel
theorem d_Law_law_741 : decode b_Law_law 741 = .ok (.iaload, 1) := by decide +kernel
theorem d_Law_law_742 : decode b_Law_law 742 = .ok (.aload_n 0, 1) := by decide +kernel
theorem d_Law_law_743 : decode b_Law_law 743 = .ok (.iload 4, 2) := by decide +kernel
theorem d_Law_law_745 : decode b_Law_law 745 = .ok (.iconst 3, 1) := by decide +kernel
theorem d_Law_law_746 : decode b_Law_law 746 = .ok (.iadd, 1) := by decide +kernel
theorem d_Law_law_747 : decode b_Law_law 747 = .ok (.iaload, 1) := by decide +kernel
theorem d_Law_law_748 : decode b_Law_law 748 = .ok (.aload_n 3, 1) := by decide +kernel
theorem d_Law_law_749 : decode b_Law_law 749 = .ok (.invokestatic 125, 3) := by decide +kernel
theorem d_Law_law_752 : decode b_Law_law 752 = .ok (.istore 5, 2) := by decide +kernel
theorem d_Law_law_754 : decode b_Law_law 754 = .ok (.aload_n 2, 1) := by decide +kernel
theorem d_Law_law_755 : decode b_Law_law 755 = .ok (.aload_n 0, 1) := by decide +kernel
theorem d_Law_law_756 : decode b_Law_law 756 = .ok (.iload 4, 2) := by decide +kernel
theorem d_Law_law_758 : decode b_Law_law 758 = .ok (.iconst 1, 1) := by decide +kernel
theorem d_Law_law_759 : decode b_Law_law 759 = .ok (.iadd, 1) := by decide +kernel
theorem d_Law_law_760 : decode b_Law_law 760 = .ok (.iaload, 1) := by decide +kernel
theorem d_Law_law_761 : decode b_Law_law 761 = .ok (.aload_n 0, 1) := by decide +kernel
theorem d_Law_law_762 : decode b_Law_law 762 = .ok (.iload 4, 2) := by decide +kernel
theorem d_Law_law_764 : decode b_Law_law 764 = .ok (.iconst 2, 1) := by decide +kernel
theorem d_Law_law_765 : decode b_Law_law 765 = .ok (.iadd, 1) := by decide +kernel
theorem d_Law_law_766 : decode b_Law_law 766 = .ok (.iaload, 1) := by decide +kernel
theorem d_Law_law_767 : decode b_Law_law 767 = .ok (.aload_n 0, 1) := by decide +kernel
theorem d_Law_law_768 : decode b_Law_law 768 = .ok (.iload 4, 2) := by decide +kernel
theorem d_Law_law_770 : decode b_Law_law 770 = .ok (.iconst 3, 1) := by decide +kernel
theorem d_Law_law_771 : decode b_Law_law 771 = .ok (.iadd, 1) := by decide +kernel
theorem d_Law_law_772 : decode b_Law_law 772 = .ok (.iaload, 1) := by decide +kernel
theorem d_Law_law_773 : decode b_Law_law 773 = .ok (.invokevirtual 128, 3) := by decide +kernel
theorem d_Law_law_776 : decode b_Law_law 776 = .ok (.istore 6, 2) := by decide +kernel
theorem d_Law_law_778 : decode b_Law_law 778 = .ok (.aload_n 2, 1) := by decide +kernel
theorem d_Law_law_779 : decode b_Law_law 779 = .ok (.invokevirtual 86, 3) := by decide +kernel
theorem d_Law_law_782 : decode b_Law_law 782 = .ok (.iload 5, 2) := by decide +kernel
theorem d_Law_law_784 : decode b_Law_law 784 = .ok (.if_icmp .eq 5, 3) := by decide +kernel
theorem d_Law_law_787 : decode b_Law_law 787 = .ok (.iconst 0, 1) := by decide +kernel
theorem d_Law_law_788 : decode b_Law_law 788 = .ok (.ireturn, 1) := by decide +kernel
theorem d_Law_law_789 : decode b_Law_law 789 = .ok (.iload 5, 2) := by decide +kernel
theorem d_Law_law_791 : decode b_Law_law 791 = .ok (.ifCond .ne 15, 3) := by decide +kernel
theorem d_Law_law_794 : decode b_Law_law 794 = .ok (.aload_n 3, 1) := by decide +kernel
theorem d_Law_law_795 : decode b_Law_law 795 = .ok (.iconst 0, 1) := by decide +kernel
theorem d_Law_law_796 : decode b_Law_law 796 = .ok (.laload, 1) := by decide +kernel
theorem d_Law_law_797 : decode b_Law_law 797 = .ok (.iload 6, 2) := by decide +kernel
theorem d_Law_law_799 : decode b_Law_law 799 = .ok (.i2l, 1) := by decide +kernel
theorem d_Law_law_800 : decode b_Law_law 800 = .ok (.lcmp, 1) := by decide +kernel
theorem d_Law_law_801 : decode b_Law_law 801 = .ok (.ifCond .eq 5, 3) := by decide +kernel
theorem d_Law_law_804 : decode b_Law_law 804 = .ok (.iconst 0, 1) := by decide +kernel
theorem d_Law_law_805 : decode b_Law_law 805 = .ok (.ireturn, 1) := by decide +kernel
theorem d_Law_law_806 : decode b_Law_law 806 = .ok (.goto 480, 3) := by decide +kernel
theorem d_Law_law_809 : decode b_Law_law 809 = .ok (.aload_n 1, 1) := by decide +kernel
theorem d_Law_law_810 : decode b_Law_law 810 = .ok (.aload_n 0, 1) := by decide +kernel
theorem d_Law_law_811 : decode b_Law_law 811 = .ok (.iload 4, 2) := by decide +kernel
theorem d_Law_law_813 : decode b_Law_law 813 = .ok (.iconst 1, 1) := by decide +kernel
theorem d_Law_law_814 : decode b_Law_law 814 = .ok (.iadd, 1) := by decide +kernel
theorem d_Law_law_815 : decode b_Law_law 815 = .ok (.iaload, 1) := by decide +kernel
theorem d_Law_law_816 : decode b_Law_law 816 = .ok (.invokestatic 129, 3) := by decide +kernel
theorem d_Law_law_819 : decode b_Law_law 819 = .ok (.istore 5, 2) := by decide +kernel
theorem d_Law_law_821 : decode b_Law_law 821 = .ok (.aload_n 2, 1) := by decide +kernel
theorem d_Law_law_822 : decode b_Law_law 822 = .ok (.aload_n 0, 1) := by decide +kernel
theorem d_Law_law_823 : decode b_Law_law 823 = .ok (.iload 4, 2) := by decide +kernel
theorem d_Law_law_825 : decode b_Law_law 825 = .ok (.iconst 1, 1) := by decide +kernel
theorem d_Law_law_826 : decode b_Law_law 826 = .ok (.iadd, 1) := by decide +kernel
theorem d_Law_law_827 : decode b_Law_law 827 = .ok (.iaload, 1) := by decide +kernel
theorem d_Law_law_828 : decode b_Law_law 828 = .ok (.invokevirtual 132, 3) := by decide +kernel
theorem d_Law_law_831 : decode b_Law_law 831 = .ok (.aload_n 2, 1) := by decide +kernel
theorem d_Law_law_832 : decode b_Law_law 832 = .ok (.invokevirtual 86, 3) := by decide +kernel
theorem d_Law_law_835 : decode b_Law_law 835 = .ok (.iload 5, 2) := by decide +kernel
theorem d_Law_law_837 : decode b_Law_law 837 = .ok (.if_icmp .eq 5, 3) := by decide +kernel
theorem d_Law_law_840 : decode b_Law_law 840 = .ok (.iconst 0, 1) := by decide +kernel
theorem d_Law_law_841 : decode b_Law_law 841 = .ok (.ireturn, 1) := by decide +kernel
theorem d_Law_law_842 : decode b_Law_law 842 = .ok (.goto 444, 3) := by decide +kernel
theorem d_Law_law_845 : decode b_Law_law 845 = .ok (.aload_n 1, 1) := by decide +kernel
theorem d_Law_law_846 : decode b_Law_law 846 = .ok (.aload_n 0, 1) := by decide +kernel
theorem d_Law_law_847 : decode b_Law_law 847 = .ok (.iload 4, 2) := by decide +kernel
theorem d_Law_law_849 : decode b_Law_law 849 = .ok (.iconst 1, 1) := by decide +kernel
theorem d_Law_law_850 : decode b_Law_law 850 = .ok (.iadd, 1) := by decide +kernel
theorem d_Law_law_851 : decode b_Law_law 851 = .ok (.iaload, 1) := by decide +kernel
theorem d_Law_law_852 : decode b_Law_law 852 = .ok (.aload_n 3, 1) := by decide +kernel
theorem d_Law_law_853 : decode b_Law_law 853 = .ok (.invokestatic 133, 3) := by decide +kernel
theorem d_Law_law_856 : decode b_Law_law 856 = .ok (.istore 5, 2) := by decide +kernel
theorem d_Law_law_858 : decode b_Law_law 858 = .ok (.aload_n 2, 1) := by decide +kernel
theorem d_Law_law_859 : decode b_Law_law 859 = .ok (.aload_n 0, 1) := by decide +kernel
theorem d_Law_law_860 : decode b_Law_law 860 = .ok (.iload 4, 2) := by decide +kernel
theorem d_Law_law_862 : decode b_Law_law 862 = .ok (.iconst 1, 1) := by decide +kernel
theorem d_Law_law_863 : decode b_Law_law 863 = .ok (.iadd, 1) := by decide +kernel
theorem d_Law_law_864 : decode b_Law_law 864 = .ok (.iaload, 1) := by decide +kernel
theorem d_Law_law_865 : decode b_Law_law 865 = .ok (.invokevirtual 135, 3) := by decide +kernel
theorem d_Law_law_868 : decode b_Law_law 868 = .ok (.istore 6, 2) := by decide +kernel
theorem d_Law_law_870 : decode b_Law_law 870 = .ok (.aload_n 2, 1) := by decide +kernel
theorem d_Law_law_871 : decode b_Law_law 871 = .ok (.invokevirtual 86, 3) := by decide +kernel
theorem d_Law_law_874 : decode b_Law_law 874 = .ok (.iload 5, 2) := by decide +kernel
theorem d_Law_law_876 : decode b_Law_law 876 = .ok (.if_icmp .eq 5, 3) := by decide +kernel
theorem d_Law_law_879 : decode b_Law_law 879 = .ok (.iconst 0, 1) := by decide +kernel
theorem d_Law_law_880 : decode b_Law_law 880 = .ok (.ireturn, 1) := by decide +kernel
theorem d_Law_law_881 : decode b_Law_law 881 = .ok (.iload 5, 2) := by decide +kernel
theorem d_Law_law_883 : decode b_Law_law 883 = .ok (.ifCond .ne 15, 3) := by decide +kernel
theorem d_Law_law_886 : decode b_Law_law 886 = .ok (.aload_n 3, 1) := by decide +kernel
theorem d_Law_law_887 : decode b_Law_law 887 = .ok (.iconst 0, 1) := by decide +kernel
theorem d_Law_law_888 : decode b_Law_law 888 = .ok (.laload, 1) := by decide +kernel
theorem d_Law_law_889 : decode b_Law_law 889 = .ok (.iload 6, 2) := by decide +kernel
theorem d_Law_law_891 : decode b_Law_law 891 = .ok (.i2l, 1) := by decide +kernel
theorem d_Law_law_892 : decode b_Law_law 892 = .ok (.lcmp, 1) := by decide +kernel
theorem d_Law_law_893 : decode b_Law_law 893 = .ok (.ifCond .eq 5, 3) := by decide +kernel
theorem d_Law_law_896 : decode b_Law_law 896 = .ok (.iconst 0, 1) := by decide +kernel
theorem d_Law_law_897 : decode b_Law_law 897 = .ok (.ireturn, 1) := by decide +kernel
theorem d_Law_law_898 : decode b_Law_law 898 = .ok (.goto 388, 3) := by decide +kernel
theorem d_Law_law_901 : decode b_Law_law 901 = .ok (.aload_n 1, 1) := by decide +kernel
theorem d_Law_law_902 : decode b_Law_law 902 = .ok (.aload_n 0, 1) := by decide +kernel
theorem d_Law_law_903 : decode b_Law_law 903 = .ok (.iload 4, 2) := by decide +kernel
theorem d_Law_law_905 : decode b_Law_law 905 = .ok (.iconst 1, 1) := by decide +kernel
theorem d_Law_law_906 : decode b_Law_law 906 = .ok (.iadd, 1) := by decide +kernel
theorem d_Law_law_907 : decode b_Law_law 907 = .ok (.iaload, 1) := by decide +kernel
theorem d_Law_law_908 : decode b_Law_law 908 = .ok (.aload_n 3, 1) := by decide +kernel
theorem d_Law_law_909 : decode b_Law_law 909 = .ok (.invokestatic 136, 3) := by decide +kernel
theorem d_Law_law_912 : decode b_Law_law 912 = .ok (.istore 5, 2) := by decide +kernel
theorem d_Law_law_914 : decode b_Law_law 914 = .ok (.aload_n 2, 1) := by decide +kernel
