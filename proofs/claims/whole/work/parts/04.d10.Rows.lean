/-! Decode rows by program. -/
theorem d_Rows_init_0 : decode b_Rows_init 0 = .ok (.aload_n 0, 1) := by decide +kernel
theorem d_Rows_init_1 : decode b_Rows_init 1 = .ok (.invokespecial 1, 3) := by decide +kernel
theorem d_Rows_init_4 : decode b_Rows_init 4 = .ok (.aload_n 0, 1) := by decide +kernel
theorem d_Rows_init_5 : decode b_Rows_init 5 = .ok (.iload_n 1, 1) := by decide +kernel
theorem d_Rows_init_6 : decode b_Rows_init 6 = .ok (.putfield 7, 3) := by decide +kernel
theorem d_Rows_init_9 : decode b_Rows_init 9 = .ok (.aload_n 0, 1) := by decide +kernel
theorem d_Rows_init_10 : decode b_Rows_init 10 = .ok (.iload_n 1, 1) := by decide +kernel
theorem d_Rows_init_11 : decode b_Rows_init 11 = .ok (.bipush 16, 2) := by decide +kernel
theorem d_Rows_init_13 : decode b_Rows_init 13 = .ok (.imul, 1) := by decide +kernel
theorem d_Rows_init_14 : decode b_Rows_init 14 = .ok (.newarray .int, 2) := by decide +kernel
theorem d_Rows_init_16 : decode b_Rows_init 16 = .ok (.putfield 13, 3) := by decide +kernel
theorem d_Rows_init_19 : decode b_Rows_init 19 = .ok (.return_, 1) := by decide +kernel
theorem d_Rows_size_0 : decode b_Rows_size 0 = .ok (.aload_n 0, 1) := by decide +kernel
theorem d_Rows_size_1 : decode b_Rows_size 1 = .ok (.getfield 17, 3) := by decide +kernel
theorem d_Rows_size_4 : decode b_Rows_size 4 = .ok (.ireturn, 1) := by decide +kernel
theorem d_Rows_get_0 : decode b_Rows_get 0 = .ok (.aload_n 0, 1) := by decide +kernel
theorem d_Rows_get_1 : decode b_Rows_get 1 = .ok (.getfield 13, 3) := by decide +kernel
theorem d_Rows_get_4 : decode b_Rows_get 4 = .ok (.aload_n 0, 1) := by decide +kernel
theorem d_Rows_get_5 : decode b_Rows_get 5 = .ok (.iload_n 1, 1) := by decide +kernel
theorem d_Rows_get_6 : decode b_Rows_get 6 = .ok (.iload_n 2, 1) := by decide +kernel
theorem d_Rows_get_7 : decode b_Rows_get 7 = .ok (.invokevirtual 20, 3) := by decide +kernel
theorem d_Rows_get_10 : decode b_Rows_get 10 = .ok (.iaload, 1) := by decide +kernel
theorem d_Rows_get_11 : decode b_Rows_get 11 = .ok (.ireturn, 1) := by decide +kernel
theorem d_Rows_set_0 : decode b_Rows_set 0 = .ok (.aload_n 0, 1) := by decide +kernel
theorem d_Rows_set_1 : decode b_Rows_set 1 = .ok (.getfield 13, 3) := by decide +kernel
theorem d_Rows_set_4 : decode b_Rows_set 4 = .ok (.aload_n 0, 1) := by decide +kernel
theorem d_Rows_set_5 : decode b_Rows_set 5 = .ok (.iload_n 1, 1) := by decide +kernel
theorem d_Rows_set_6 : decode b_Rows_set 6 = .ok (.iload_n 2, 1) := by decide +kernel
theorem d_Rows_set_7 : decode b_Rows_set 7 = .ok (.invokevirtual 20, 3) := by decide +kernel
theorem d_Rows_set_10 : decode b_Rows_set 10 = .ok (.iload_n 3, 1) := by decide +kernel
theorem d_Rows_set_11 : decode b_Rows_set 11 = .ok (.iastore, 1) := by decide +kernel
theorem d_Rows_set_12 : decode b_Rows_set 12 = .ok (.return_, 1) := by decide +kernel
theorem d_Rows_add_0 : decode b_Rows_add 0 = .ok (.aload_n 0, 1) := by decide +kernel
theorem d_Rows_add_1 : decode b_Rows_add 1 = .ok (.getfield 17, 3) := by decide +kernel
theorem d_Rows_add_4 : decode b_Rows_add 4 = .ok (.aload_n 0, 1) := by decide +kernel
theorem d_Rows_add_5 : decode b_Rows_add 5 = .ok (.getfield 7, 3) := by decide +kernel
theorem d_Rows_add_8 : decode b_Rows_add 8 = .ok (.imul, 1) := by decide +kernel
theorem d_Rows_add_9 : decode b_Rows_add 9 = .ok (.aload_n 0, 1) := by decide +kernel
theorem d_Rows_add_10 : decode b_Rows_add 10 = .ok (.getfield 13, 3) := by decide +kernel
theorem d_Rows_add_13 : decode b_Rows_add 13 = .ok (.arraylength, 1) := by decide +kernel
theorem d_Rows_add_14 : decode b_Rows_add 14 = .ok (.if_icmp .ne 7, 3) := by decide +kernel
theorem d_Rows_add_17 : decode b_Rows_add 17 = .ok (.aload_n 0, 1) := by decide +kernel
theorem d_Rows_add_18 : decode b_Rows_add 18 = .ok (.invokevirtual 24, 3) := by decide +kernel
theorem d_Rows_add_21 : decode b_Rows_add 21 = .ok (.iconst 0, 1) := by decide +kernel
theorem d_Rows_add_22 : decode b_Rows_add 22 = .ok (.istore_n 1, 1) := by decide +kernel
theorem d_Rows_add_23 : decode b_Rows_add 23 = .ok (.iload_n 1, 1) := by decide +kernel
theorem d_Rows_add_24 : decode b_Rows_add 24 = .ok (.aload_n 0, 1) := by decide +kernel
theorem d_Rows_add_25 : decode b_Rows_add 25 = .ok (.getfield 7, 3) := by decide +kernel
theorem d_Rows_add_28 : decode b_Rows_add 28 = .ok (.if_icmp .ge 19, 3) := by decide +kernel
theorem d_Rows_add_31 : decode b_Rows_add 31 = .ok (.aload_n 0, 1) := by decide +kernel
theorem d_Rows_add_32 : decode b_Rows_add 32 = .ok (.aload_n 0, 1) := by decide +kernel
theorem d_Rows_add_33 : decode b_Rows_add 33 = .ok (.getfield 17, 3) := by decide +kernel
theorem d_Rows_add_36 : decode b_Rows_add 36 = .ok (.iload_n 1, 1) := by decide +kernel
theorem d_Rows_add_37 : decode b_Rows_add 37 = .ok (.iconst 0, 1) := by decide +kernel
theorem d_Rows_add_38 : decode b_Rows_add 38 = .ok (.invokevirtual 27, 3) := by decide +kernel
theorem d_Rows_add_41 : decode b_Rows_add 41 = .ok (.iinc 1 1, 3) := by decide +kernel
theorem d_Rows_add_44 : decode b_Rows_add 44 = .ok (.goto (-21), 3) := by decide +kernel
theorem d_Rows_add_47 : decode b_Rows_add 47 = .ok (.aload_n 0, 1) := by decide +kernel
theorem d_Rows_add_48 : decode b_Rows_add 48 = .ok (.dup, 1) := by decide +kernel
theorem d_Rows_add_49 : decode b_Rows_add 49 = .ok (.getfield 17, 3) := by decide +kernel
theorem d_Rows_add_52 : decode b_Rows_add 52 = .ok (.iconst 1, 1) := by decide +kernel
theorem d_Rows_add_53 : decode b_Rows_add 53 = .ok (.iadd, 1) := by decide +kernel
theorem d_Rows_add_54 : decode b_Rows_add 54 = .ok (.putfield 17, 3) := by decide +kernel
theorem d_Rows_add_57 : decode b_Rows_add 57 = .ok (.aload_n 0, 1) := by decide +kernel
theorem d_Rows_add_58 : decode b_Rows_add 58 = .ok (.getfield 17, 3) := by decide +kernel
theorem d_Rows_add_61 : decode b_Rows_add 61 = .ok (.iconst 1, 1) := by decide +kernel
theorem d_Rows_add_62 : decode b_Rows_add 62 = .ok (.isub, 1) := by decide +kernel
theorem d_Rows_add_63 : decode b_Rows_add 63 = .ok (.ireturn, 1) := by decide +kernel
theorem d_Rows_dropOldest_0 : decode b_Rows_dropOldest 0 = .ok (.aload_n 0, 1) := by decide +kernel
theorem d_Rows_dropOldest_1 : decode b_Rows_dropOldest 1 = .ok (.dup, 1) := by decide +kernel
theorem d_Rows_dropOldest_2 : decode b_Rows_dropOldest 2 = .ok (.getfield 31, 3) := by decide +kernel
theorem d_Rows_dropOldest_5 : decode b_Rows_dropOldest 5 = .ok (.aload_n 0, 1) := by decide +kernel
theorem d_Rows_dropOldest_6 : decode b_Rows_dropOldest 6 = .ok (.getfield 7, 3) := by decide +kernel
theorem d_Rows_dropOldest_9 : decode b_Rows_dropOldest 9 = .ok (.iadd, 1) := by decide +kernel
theorem d_Rows_dropOldest_10 : decode b_Rows_dropOldest 10 = .ok (.putfield 31, 3) := by decide +kernel
theorem d_Rows_dropOldest_13 : decode b_Rows_dropOldest 13 = .ok (.aload_n 0, 1) := by decide +kernel
theorem d_Rows_dropOldest_14 : decode b_Rows_dropOldest 14 = .ok (.getfield 31, 3) := by decide +kernel
theorem d_Rows_dropOldest_17 : decode b_Rows_dropOldest 17 = .ok (.aload_n 0, 1) := by decide +kernel
theorem d_Rows_dropOldest_18 : decode b_Rows_dropOldest 18 = .ok (.getfield 13, 3) := by decide +kernel
theorem d_Rows_dropOldest_21 : decode b_Rows_dropOldest 21 = .ok (.arraylength, 1) := by decide +kernel
theorem d_Rows_dropOldest_22 : decode b_Rows_dropOldest 22 = .ok (.if_icmp .ne 8, 3) := by decide +kernel
theorem d_Rows_dropOldest_25 : decode b_Rows_dropOldest 25 = .ok (.aload_n 0, 1) := by decide +kernel
theorem d_Rows_dropOldest_26 : decode b_Rows_dropOldest 26 = .ok (.iconst 0, 1) := by decide +kernel
theorem d_Rows_dropOldest_27 : decode b_Rows_dropOldest 27 = .ok (.putfield 31, 3) := by decide +kernel
theorem d_Rows_dropOldest_30 : decode b_Rows_dropOldest 30 = .ok (.aload_n 0, 1) := by decide +kernel
theorem d_Rows_dropOldest_31 : decode b_Rows_dropOldest 31 = .ok (.dup, 1) := by decide +kernel
theorem d_Rows_dropOldest_32 : decode b_Rows_dropOldest 32 = .ok (.getfield 17, 3) := by decide +kernel
theorem d_Rows_dropOldest_35 : decode b_Rows_dropOldest 35 = .ok (.iconst 1, 1) := by decide +kernel
theorem d_Rows_dropOldest_36 : decode b_Rows_dropOldest 36 = .ok (.isub, 1) := by decide +kernel
theorem d_Rows_dropOldest_37 : decode b_Rows_dropOldest 37 = .ok (.putfield 17, 3) := by decide +kernel
theorem d_Rows_dropOldest_40 : decode b_Rows_dropOldest 40 = .ok (.return_, 1) := by decide +kernel
theorem d_Rows_cellOf_0 : decode b_Rows_cellOf 0 = .ok (.aload_n 0, 1) := by decide +kernel
theorem d_Rows_cellOf_1 : decode b_Rows_cellOf 1 = .ok (.getfield 31, 3) := by decide +kernel
theorem d_Rows_cellOf_4 : decode b_Rows_cellOf 4 = .ok (.iload_n 1, 1) := by decide +kernel
theorem d_Rows_cellOf_5 : decode b_Rows_cellOf 5 = .ok (.aload_n 0, 1) := by decide +kernel
theorem d_Rows_cellOf_6 : decode b_Rows_cellOf 6 = .ok (.getfield 7, 3) := by decide +kernel
theorem d_Rows_cellOf_9 : decode b_Rows_cellOf 9 = .ok (.imul, 1) := by decide +kernel
theorem d_Rows_cellOf_10 : decode b_Rows_cellOf 10 = .ok (.iadd, 1) := by decide +kernel
theorem d_Rows_cellOf_11 : decode b_Rows_cellOf 11 = .ok (.iload_n 2, 1) := by decide +kernel
theorem d_Rows_cellOf_12 : decode b_Rows_cellOf 12 = .ok (.iadd, 1) := by decide +kernel
theorem d_Rows_cellOf_13 : decode b_Rows_cellOf 13 = .ok (.istore_n 3, 1) := by decide +kernel
theorem d_Rows_cellOf_14 : decode b_Rows_cellOf 14 = .ok (.iload_n 3, 1) := by decide +kernel
theorem d_Rows_cellOf_15 : decode b_Rows_cellOf 15 = .ok (.aload_n 0, 1) := by decide +kernel
theorem d_Rows_cellOf_16 : decode b_Rows_cellOf 16 = .ok (.getfield 13, 3) := by decide +kernel
theorem d_Rows_cellOf_19 : decode b_Rows_cellOf 19 = .ok (.arraylength, 1) := by decide +kernel
theorem d_Rows_cellOf_20 : decode b_Rows_cellOf 20 = .ok (.if_icmp .ge 7, 3) := by decide +kernel
theorem d_Rows_cellOf_23 : decode b_Rows_cellOf 23 = .ok (.iload_n 3, 1) := by decide +kernel
theorem d_Rows_cellOf_24 : decode b_Rows_cellOf 24 = .ok (.goto 10, 3) := by decide +kernel
theorem d_Rows_cellOf_27 : decode b_Rows_cellOf 27 = .ok (.iload_n 3, 1) := by decide +kernel
theorem d_Rows_cellOf_28 : decode b_Rows_cellOf 28 = .ok (.aload_n 0, 1) := by decide +kernel
theorem d_Rows_cellOf_29 : decode b_Rows_cellOf 29 = .ok (.getfield 13, 3) := by decide +kernel
theorem d_Rows_cellOf_32 : decode b_Rows_cellOf 32 = .ok (.arraylength, 1) := by decide +kernel
theorem d_Rows_cellOf_33 : decode b_Rows_cellOf 33 = .ok (.isub, 1) := by decide +kernel
theorem d_Rows_cellOf_34 : decode b_Rows_cellOf 34 = .ok (.ireturn, 1) := by decide +kernel
theorem d_Rows_grow_0 : decode b_Rows_grow 0 = .ok (.aload_n 0, 1) := by decide +kernel
theorem d_Rows_grow_1 : decode b_Rows_grow 1 = .ok (.getfield 13, 3) := by decide +kernel
theorem d_Rows_grow_4 : decode b_Rows_grow 4 = .ok (.arraylength, 1) := by decide +kernel
theorem d_Rows_grow_5 : decode b_Rows_grow 5 = .ok (.iconst 2, 1) := by decide +kernel
theorem d_Rows_grow_6 : decode b_Rows_grow 6 = .ok (.imul, 1) := by decide +kernel
theorem d_Rows_grow_7 : decode b_Rows_grow 7 = .ok (.newarray .int, 2) := by decide +kernel
theorem d_Rows_grow_9 : decode b_Rows_grow 9 = .ok (.astore_n 1, 1) := by decide +kernel
theorem d_Rows_grow_10 : decode b_Rows_grow 10 = .ok (.aload_n 0, 1) := by decide +kernel
theorem d_Rows_grow_11 : decode b_Rows_grow 11 = .ok (.getfield 13, 3) := by decide +kernel
theorem d_Rows_grow_14 : decode b_Rows_grow 14 = .ok (.arraylength, 1) := by decide +kernel
theorem d_Rows_grow_15 : decode b_Rows_grow 15 = .ok (.aload_n 0, 1) := by decide +kernel
theorem d_Rows_grow_16 : decode b_Rows_grow 16 = .ok (.getfield 31, 3) := by decide +kernel
theorem d_Rows_grow_19 : decode b_Rows_grow 19 = .ok (.isub, 1) := by decide +kernel
theorem d_Rows_grow_20 : decode b_Rows_grow 20 = .ok (.istore_n 2, 1) := by decide +kernel
theorem d_Rows_grow_21 : decode b_Rows_grow 21 = .ok (.aload_n 0, 1) := by decide +kernel
theorem d_Rows_grow_22 : decode b_Rows_grow 22 = .ok (.getfield 13, 3) := by decide +kernel
theorem d_Rows_grow_25 : decode b_Rows_grow 25 = .ok (.aload_n 0, 1) := by decide +kernel
theorem d_Rows_grow_26 : decode b_Rows_grow 26 = .ok (.getfield 31, 3) := by decide +kernel
theorem d_Rows_grow_29 : decode b_Rows_grow 29 = .ok (.aload_n 1, 1) := by decide +kernel
theorem d_Rows_grow_30 : decode b_Rows_grow 30 = .ok (.iconst 0, 1) := by decide +kernel
theorem d_Rows_grow_31 : decode b_Rows_grow 31 = .ok (.iload_n 2, 1) := by decide +kernel
theorem d_Rows_grow_32 : decode b_Rows_grow 32 = .ok (.invokestatic 34, 3) := by decide +kernel
theorem d_Rows_grow_35 : decode b_Rows_grow 35 = .ok (.aload_n 0, 1) := by decide +kernel
theorem d_Rows_grow_36 : decode b_Rows_grow 36 = .ok (.getfield 13, 3) := by decide +kernel
theorem d_Rows_grow_39 : decode b_Rows_grow 39 = .ok (.iconst 0, 1) := by decide +kernel
theorem d_Rows_grow_40 : decode b_Rows_grow 40 = .ok (.aload_n 1, 1) := by decide +kernel
theorem d_Rows_grow_41 : decode b_Rows_grow 41 = .ok (.iload_n 2, 1) := by decide +kernel
theorem d_Rows_grow_42 : decode b_Rows_grow 42 = .ok (.aload_n 0, 1) := by decide +kernel
theorem d_Rows_grow_43 : decode b_Rows_grow 43 = .ok (.getfield 31, 3) := by decide +kernel
theorem d_Rows_grow_46 : decode b_Rows_grow 46 = .ok (.invokestatic 34, 3) := by decide +kernel
theorem d_Rows_grow_49 : decode b_Rows_grow 49 = .ok (.aload_n 0, 1) := by decide +kernel
theorem d_Rows_grow_50 : decode b_Rows_grow 50 = .ok (.aload_n 1, 1) := by decide +kernel
theorem d_Rows_grow_51 : decode b_Rows_grow 51 = .ok (.putfield 13, 3) := by decide +kernel
theorem d_Rows_grow_54 : decode b_Rows_grow 54 = .ok (.aload_n 0, 1) := by decide +kernel
theorem d_Rows_grow_55 : decode b_Rows_grow 55 = .ok (.iconst 0, 1) := by decide +kernel
theorem d_Rows_grow_56 : decode b_Rows_grow 56 = .ok (.putfield 31, 3) := by decide +kernel
theorem d_Rows_grow_59 : decode b_Rows_grow 59 = .ok (.return_, 1) := by decide +kernel
