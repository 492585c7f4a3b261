/-! Decode rows by program. -/
theorem d_Edges_init_0 : decode b_Edges_init 0 = .ok (.aload_n 0, 1) := by decide +kernel
theorem d_Edges_init_1 : decode b_Edges_init 1 = .ok (.invokespecial 3, 3) := by decide +kernel
theorem d_Edges_init_4 : decode b_Edges_init 4 = .ok (.aload_n 0, 1) := by decide +kernel
theorem d_Edges_init_5 : decode b_Edges_init 5 = .ok (.bipush 12, 2) := by decide +kernel
theorem d_Edges_init_7 : decode b_Edges_init 7 = .ok (.newarray .int, 2) := by decide +kernel
theorem d_Edges_init_9 : decode b_Edges_init 9 = .ok (.putfield 9, 3) := by decide +kernel
theorem d_Edges_init_12 : decode b_Edges_init 12 = .ok (.return_, 1) := by decide +kernel
theorem d_Edges_isEdge_0 : decode b_Edges_isEdge 0 = .ok (.aload_n 0, 1) := by decide +kernel
theorem d_Edges_isEdge_1 : decode b_Edges_isEdge 1 = .ok (.getfield 9, 3) := by decide +kernel
theorem d_Edges_isEdge_4 : decode b_Edges_isEdge 4 = .ok (.iload_n 1, 1) := by decide +kernel
theorem d_Edges_isEdge_5 : decode b_Edges_isEdge 5 = .ok (.iaload, 1) := by decide +kernel
theorem d_Edges_isEdge_6 : decode b_Edges_isEdge 6 = .ok (.ifCond .eq 7, 3) := by decide +kernel
theorem d_Edges_isEdge_9 : decode b_Edges_isEdge 9 = .ok (.iconst 1, 1) := by decide +kernel
theorem d_Edges_isEdge_10 : decode b_Edges_isEdge 10 = .ok (.goto 4, 3) := by decide +kernel
theorem d_Edges_isEdge_13 : decode b_Edges_isEdge 13 = .ok (.iconst 0, 1) := by decide +kernel
theorem d_Edges_isEdge_14 : decode b_Edges_isEdge 14 = .ok (.ireturn, 1) := by decide +kernel
theorem d_Edges_isTaken_0 : decode b_Edges_isTaken 0 = .ok (.aload_n 0, 1) := by decide +kernel
theorem d_Edges_isTaken_1 : decode b_Edges_isTaken 1 = .ok (.getfield 15, 3) := by decide +kernel
theorem d_Edges_isTaken_4 : decode b_Edges_isTaken 4 = .ok (.iload_n 1, 1) := by decide +kernel
theorem d_Edges_isTaken_5 : decode b_Edges_isTaken 5 = .ok (.iand, 1) := by decide +kernel
theorem d_Edges_isTaken_6 : decode b_Edges_isTaken 6 = .ok (.ifCond .eq 7, 3) := by decide +kernel
theorem d_Edges_isTaken_9 : decode b_Edges_isTaken 9 = .ok (.iconst 1, 1) := by decide +kernel
theorem d_Edges_isTaken_10 : decode b_Edges_isTaken 10 = .ok (.goto 4, 3) := by decide +kernel
theorem d_Edges_isTaken_13 : decode b_Edges_isTaken 13 = .ok (.iconst 0, 1) := by decide +kernel
theorem d_Edges_isTaken_14 : decode b_Edges_isTaken 14 = .ok (.ireturn, 1) := by decide +kernel
theorem d_Edges_make_0 : decode b_Edges_make 0 = .ok (.aload_n 0, 1) := by decide +kernel
theorem d_Edges_make_1 : decode b_Edges_make 1 = .ok (.getfield 9, 3) := by decide +kernel
theorem d_Edges_make_4 : decode b_Edges_make 4 = .ok (.iload_n 1, 1) := by decide +kernel
theorem d_Edges_make_5 : decode b_Edges_make 5 = .ok (.iload_n 2, 1) := by decide +kernel
theorem d_Edges_make_6 : decode b_Edges_make 6 = .ok (.iastore, 1) := by decide +kernel
theorem d_Edges_make_7 : decode b_Edges_make 7 = .ok (.aload_n 0, 1) := by decide +kernel
theorem d_Edges_make_8 : decode b_Edges_make 8 = .ok (.dup, 1) := by decide +kernel
theorem d_Edges_make_9 : decode b_Edges_make 9 = .ok (.getfield 15, 3) := by decide +kernel
theorem d_Edges_make_12 : decode b_Edges_make 12 = .ok (.iload_n 2, 1) := by decide +kernel
theorem d_Edges_make_13 : decode b_Edges_make 13 = .ok (.ior, 1) := by decide +kernel
theorem d_Edges_make_14 : decode b_Edges_make 14 = .ok (.putfield 15, 3) := by decide +kernel
theorem d_Edges_make_17 : decode b_Edges_make 17 = .ok (.aload_n 0, 1) := by decide +kernel
theorem d_Edges_make_18 : decode b_Edges_make 18 = .ok (.dup, 1) := by decide +kernel
theorem d_Edges_make_19 : decode b_Edges_make 19 = .ok (.getfield 19, 3) := by decide +kernel
theorem d_Edges_make_22 : decode b_Edges_make 22 = .ok (.iconst 1, 1) := by decide +kernel
theorem d_Edges_make_23 : decode b_Edges_make 23 = .ok (.iadd, 1) := by decide +kernel
theorem d_Edges_make_24 : decode b_Edges_make 24 = .ok (.putfield 19, 3) := by decide +kernel
theorem d_Edges_make_27 : decode b_Edges_make 27 = .ok (.return_, 1) := by decide +kernel
theorem d_Edges_bitOf_0 : decode b_Edges_bitOf 0 = .ok (.aload_n 0, 1) := by decide +kernel
theorem d_Edges_bitOf_1 : decode b_Edges_bitOf 1 = .ok (.getfield 9, 3) := by decide +kernel
theorem d_Edges_bitOf_4 : decode b_Edges_bitOf 4 = .ok (.iload_n 1, 1) := by decide +kernel
theorem d_Edges_bitOf_5 : decode b_Edges_bitOf 5 = .ok (.iaload, 1) := by decide +kernel
theorem d_Edges_bitOf_6 : decode b_Edges_bitOf 6 = .ok (.ireturn, 1) := by decide +kernel
theorem d_Edges_edgesSoFar_0 : decode b_Edges_edgesSoFar 0 = .ok (.aload_n 0, 1) := by decide +kernel
theorem d_Edges_edgesSoFar_1 : decode b_Edges_edgesSoFar 1 = .ok (.getfield 19, 3) := by decide +kernel
theorem d_Edges_edgesSoFar_4 : decode b_Edges_edgesSoFar 4 = .ok (.ireturn, 1) := by decide +kernel
