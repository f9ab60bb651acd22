theorem dX9_init_0 : decode cX9_init 0 = .ok (.aload_n 0, 1) := by decide +kernel
theorem dX9_init_1 : decode cX9_init 1 = .ok (.invokespecial 3, 3) := by decide +kernel
theorem dX9_init_4 : decode cX9_init 4 = .ok (.aload_n 0, 1) := by decide +kernel
theorem dX9_init_5 : decode cX9_init 5 = .ok (.iload_n 1, 1) := by decide +kernel
theorem dX9_init_6 : decode cX9_init 6 = .ok (.newarray .int, 2) := by decide +kernel
theorem dX9_init_8 : decode cX9_init 8 = .ok (.putfield 9, 3) := by decide +kernel
theorem dX9_init_11 : decode cX9_init 11 = .ok (.aload_n 0, 1) := by decide +kernel
theorem dX9_init_12 : decode cX9_init 12 = .ok (.iload_n 1, 1) := by decide +kernel
theorem dX9_init_13 : decode cX9_init 13 = .ok (.putfield 15, 3) := by decide +kernel
theorem dX9_init_16 : decode cX9_init 16 = .ok (.aload_n 0, 1) := by decide +kernel
theorem dX9_init_17 : decode cX9_init 17 = .ok (.iconst 0, 1) := by decide +kernel
theorem dX9_init_18 : decode cX9_init 18 = .ok (.putfield 19, 3) := by decide +kernel
theorem dX9_init_21 : decode cX9_init 21 = .ok (.aload_n 0, 1) := by decide +kernel
theorem dX9_init_22 : decode cX9_init 22 = .ok (.iconst 0, 1) := by decide +kernel
theorem dX9_init_23 : decode cX9_init 23 = .ok (.putfield 22, 3) := by decide +kernel
theorem dX9_init_26 : decode cX9_init 26 = .ok (.return_, 1) := by decide +kernel
theorem dX9_size_0 : decode cX9_size 0 = .ok (.aload_n 0, 1) := by decide +kernel
theorem dX9_size_1 : decode cX9_size 1 = .ok (.getfield 19, 3) := by decide +kernel
theorem dX9_size_4 : decode cX9_size 4 = .ok (.ireturn, 1) := by decide +kernel
theorem dX9_isOver_0 : decode cX9_isOver 0 = .ok (.aload_n 0, 1) := by decide +kernel
theorem dX9_isOver_1 : decode cX9_isOver 1 = .ok (.getfield 22, 3) := by decide +kernel
theorem dX9_isOver_4 : decode cX9_isOver 4 = .ok (.ireturn, 1) := by decide +kernel
theorem dX9_clear_0 : decode cX9_clear 0 = .ok (.aload_n 0, 1) := by decide +kernel
theorem dX9_clear_1 : decode cX9_clear 1 = .ok (.iconst 0, 1) := by decide +kernel
theorem dX9_clear_2 : decode cX9_clear 2 = .ok (.putfield 19, 3) := by decide +kernel
theorem dX9_clear_5 : decode cX9_clear 5 = .ok (.aload_n 0, 1) := by decide +kernel
theorem dX9_clear_6 : decode cX9_clear 6 = .ok (.iconst 0, 1) := by decide +kernel
theorem dX9_clear_7 : decode cX9_clear 7 = .ok (.putfield 22, 3) := by decide +kernel
theorem dX9_clear_10 : decode cX9_clear 10 = .ok (.return_, 1) := by decide +kernel
theorem dX9_limitTo_0 : decode cX9_limitTo 0 = .ok (.aload_n 0, 1) := by decide +kernel
theorem dX9_limitTo_1 : decode cX9_limitTo 1 = .ok (.iconst 0, 1) := by decide +kernel
theorem dX9_limitTo_2 : decode cX9_limitTo 2 = .ok (.iload_n 1, 1) := by decide +kernel
theorem dX9_limitTo_3 : decode cX9_limitTo 3 = .ok (.aload_n 0, 1) := by decide +kernel
theorem dX9_limitTo_4 : decode cX9_limitTo 4 = .ok (.getfield 9, 3) := by decide +kernel
theorem dX9_limitTo_7 : decode cX9_limitTo 7 = .ok (.arraylength, 1) := by decide +kernel
theorem dX9_limitTo_8 : decode cX9_limitTo 8 = .ok (.invokestatic 26, 3) := by decide +kernel
theorem dX9_limitTo_11 : decode cX9_limitTo 11 = .ok (.invokestatic 32, 3) := by decide +kernel
theorem dX9_limitTo_14 : decode cX9_limitTo 14 = .ok (.putfield 15, 3) := by decide +kernel
theorem dX9_limitTo_17 : decode cX9_limitTo 17 = .ok (.return_, 1) := by decide +kernel
theorem dX9_add_0 : decode cX9_add 0 = .ok (.aload_n 0, 1) := by decide +kernel
theorem dX9_add_1 : decode cX9_add 1 = .ok (.getfield 19, 3) := by decide +kernel
theorem dX9_add_4 : decode cX9_add 4 = .ok (.aload_n 0, 1) := by decide +kernel
theorem dX9_add_5 : decode cX9_add 5 = .ok (.getfield 15, 3) := by decide +kernel
theorem dX9_add_8 : decode cX9_add 8 = .ok (.if_icmp .ge 30, 3) := by decide +kernel
theorem dX9_add_11 : decode cX9_add 11 = .ok (.aload_n 0, 1) := by decide +kernel
theorem dX9_add_12 : decode cX9_add 12 = .ok (.getfield 9, 3) := by decide +kernel
theorem dX9_add_15 : decode cX9_add 15 = .ok (.aload_n 0, 1) := by decide +kernel
theorem dX9_add_16 : decode cX9_add 16 = .ok (.getfield 19, 3) := by decide +kernel
theorem dX9_add_19 : decode cX9_add 19 = .ok (.iload_n 1, 1) := by decide +kernel
theorem dX9_add_20 : decode cX9_add 20 = .ok (.sipush 255, 3) := by decide +kernel
theorem dX9_add_23 : decode cX9_add 23 = .ok (.iand, 1) := by decide +kernel
theorem dX9_add_24 : decode cX9_add 24 = .ok (.iastore, 1) := by decide +kernel
theorem dX9_add_25 : decode cX9_add 25 = .ok (.aload_n 0, 1) := by decide +kernel
theorem dX9_add_26 : decode cX9_add 26 = .ok (.dup, 1) := by decide +kernel
theorem dX9_add_27 : decode cX9_add 27 = .ok (.getfield 19, 3) := by decide +kernel
theorem dX9_add_30 : decode cX9_add 30 = .ok (.iconst 1, 1) := by decide +kernel
theorem dX9_add_31 : decode cX9_add 31 = .ok (.iadd, 1) := by decide +kernel
theorem dX9_add_32 : decode cX9_add 32 = .ok (.putfield 19, 3) := by decide +kernel
theorem dX9_add_35 : decode cX9_add 35 = .ok (.goto 8, 3) := by decide +kernel
theorem dX9_add_38 : decode cX9_add 38 = .ok (.aload_n 0, 1) := by decide +kernel
theorem dX9_add_39 : decode cX9_add 39 = .ok (.iconst 1, 1) := by decide +kernel
theorem dX9_add_40 : decode cX9_add 40 = .ok (.putfield 22, 3) := by decide +kernel
theorem dX9_add_43 : decode cX9_add 43 = .ok (.return_, 1) := by decide +kernel
theorem dX9_addMany_0 : decode cX9_addMany 0 = .ok (.iconst 0, 1) := by decide +kernel
theorem dX9_addMany_1 : decode cX9_addMany 1 = .ok (.istore_n 3, 1) := by decide +kernel
theorem dX9_addMany_2 : decode cX9_addMany 2 = .ok (.iload_n 3, 1) := by decide +kernel
theorem dX9_addMany_3 : decode cX9_addMany 3 = .ok (.iload_n 2, 1) := by decide +kernel
theorem dX9_addMany_4 : decode cX9_addMany 4 = .ok (.if_icmp .ge 14, 3) := by decide +kernel
theorem dX9_addMany_7 : decode cX9_addMany 7 = .ok (.aload_n 0, 1) := by decide +kernel
theorem dX9_addMany_8 : decode cX9_addMany 8 = .ok (.iload_n 1, 1) := by decide +kernel
theorem dX9_addMany_9 : decode cX9_addMany 9 = .ok (.invokevirtual 35, 3) := by decide +kernel
theorem dX9_addMany_12 : decode cX9_addMany 12 = .ok (.iinc 3 1, 3) := by decide +kernel
theorem dX9_addMany_15 : decode cX9_addMany 15 = .ok (.goto (-13), 3) := by decide +kernel
theorem dX9_addMany_18 : decode cX9_addMany 18 = .ok (.return_, 1) := by decide +kernel
theorem dX9_at_0 : decode cX9_at 0 = .ok (.iload_n 1, 1) := by decide +kernel
theorem dX9_at_1 : decode cX9_at 1 = .ok (.ifCond .lt 20, 3) := by decide +kernel
theorem dX9_at_4 : decode cX9_at 4 = .ok (.iload_n 1, 1) := by decide +kernel
theorem dX9_at_5 : decode cX9_at 5 = .ok (.aload_n 0, 1) := by decide +kernel
theorem dX9_at_6 : decode cX9_at 6 = .ok (.getfield 19, 3) := by decide +kernel
theorem dX9_at_9 : decode cX9_at 9 = .ok (.if_icmp .ge 12, 3) := by decide +kernel
theorem dX9_at_12 : decode cX9_at 12 = .ok (.aload_n 0, 1) := by decide +kernel
theorem dX9_at_13 : decode cX9_at 13 = .ok (.getfield 9, 3) := by decide +kernel
theorem dX9_at_16 : decode cX9_at 16 = .ok (.iload_n 1, 1) := by decide +kernel
theorem dX9_at_17 : decode cX9_at 17 = .ok (.iaload, 1) := by decide +kernel
theorem dX9_at_18 : decode cX9_at 18 = .ok (.goto 4, 3) := by decide +kernel
theorem dX9_at_21 : decode cX9_at 21 = .ok (.iconst (-1), 1) := by decide +kernel
theorem dX9_at_22 : decode cX9_at 22 = .ok (.ireturn, 1) := by decide +kernel
theorem dX9_change_0 : decode cX9_change 0 = .ok (.iload_n 1, 1) := by decide +kernel
theorem dX9_change_1 : decode cX9_change 1 = .ok (.ifCond .lt 22, 3) := by decide +kernel
theorem dX9_change_4 : decode cX9_change 4 = .ok (.iload_n 1, 1) := by decide +kernel
theorem dX9_change_5 : decode cX9_change 5 = .ok (.aload_n 0, 1) := by decide +kernel
theorem dX9_change_6 : decode cX9_change 6 = .ok (.getfield 19, 3) := by decide +kernel
theorem dX9_change_9 : decode cX9_change 9 = .ok (.if_icmp .ge 14, 3) := by decide +kernel
theorem dX9_change_12 : decode cX9_change 12 = .ok (.aload_n 0, 1) := by decide +kernel
theorem dX9_change_13 : decode cX9_change 13 = .ok (.getfield 9, 3) := by decide +kernel
theorem dX9_change_16 : decode cX9_change 16 = .ok (.iload_n 1, 1) := by decide +kernel
theorem dX9_change_17 : decode cX9_change 17 = .ok (.iload_n 2, 1) := by decide +kernel
theorem dX9_change_18 : decode cX9_change 18 = .ok (.sipush 255, 3) := by decide +kernel
theorem dX9_change_21 : decode cX9_change 21 = .ok (.iand, 1) := by decide +kernel
theorem dX9_change_22 : decode cX9_change 22 = .ok (.iastore, 1) := by decide +kernel
theorem dX9_change_23 : decode cX9_change 23 = .ok (.return_, 1) := by decide +kernel
theorem dX9_keepFirst_0 : decode cX9_keepFirst 0 = .ok (.iconst 0, 1) := by decide +kernel
theorem dX9_keepFirst_1 : decode cX9_keepFirst 1 = .ok (.iload_n 1, 1) := by decide +kernel
theorem dX9_keepFirst_2 : decode cX9_keepFirst 2 = .ok (.aload_n 0, 1) := by decide +kernel
theorem dX9_keepFirst_3 : decode cX9_keepFirst 3 = .ok (.getfield 19, 3) := by decide +kernel
theorem dX9_keepFirst_6 : decode cX9_keepFirst 6 = .ok (.invokestatic 26, 3) := by decide +kernel
theorem dX9_keepFirst_9 : decode cX9_keepFirst 9 = .ok (.invokestatic 32, 3) := by decide +kernel
theorem dX9_keepFirst_12 : decode cX9_keepFirst 12 = .ok (.istore_n 2, 1) := by decide +kernel
theorem dX9_keepFirst_13 : decode cX9_keepFirst 13 = .ok (.aload_n 0, 1) := by decide +kernel
theorem dX9_keepFirst_14 : decode cX9_keepFirst 14 = .ok (.getfield 19, 3) := by decide +kernel
theorem dX9_keepFirst_17 : decode cX9_keepFirst 17 = .ok (.iload_n 2, 1) := by decide +kernel
theorem dX9_keepFirst_18 : decode cX9_keepFirst 18 = .ok (.isub, 1) := by decide +kernel
theorem dX9_keepFirst_19 : decode cX9_keepFirst 19 = .ok (.istore_n 3, 1) := by decide +kernel
theorem dX9_keepFirst_20 : decode cX9_keepFirst 20 = .ok (.aload_n 0, 1) := by decide +kernel
theorem dX9_keepFirst_21 : decode cX9_keepFirst 21 = .ok (.iload_n 2, 1) := by decide +kernel
theorem dX9_keepFirst_22 : decode cX9_keepFirst 22 = .ok (.putfield 19, 3) := by decide +kernel
theorem dX9_keepFirst_25 : decode cX9_keepFirst 25 = .ok (.iload_n 3, 1) := by decide +kernel
theorem dX9_keepFirst_26 : decode cX9_keepFirst 26 = .ok (.ireturn, 1) := by decide +kernel
theorem dX9_copyOf_0 : decode cX9_copyOf 0 = .ok (.aload_n 0, 1) := by decide +kernel
theorem dX9_copyOf_1 : decode cX9_copyOf 1 = .ok (.invokevirtual 39, 3) := by decide +kernel
theorem dX9_copyOf_4 : decode cX9_copyOf 4 = .ok (.iconst 0, 1) := by decide +kernel
theorem dX9_copyOf_5 : decode cX9_copyOf 5 = .ok (.istore_n 2, 1) := by decide +kernel
theorem dX9_copyOf_6 : decode cX9_copyOf 6 = .ok (.iload_n 2, 1) := by decide +kernel
theorem dX9_copyOf_7 : decode cX9_copyOf 7 = .ok (.aload_n 1, 1) := by decide +kernel
theorem dX9_copyOf_8 : decode cX9_copyOf 8 = .ok (.invokevirtual 42, 3) := by decide +kernel
theorem dX9_copyOf_11 : decode cX9_copyOf 11 = .ok (.if_icmp .ge 18, 3) := by decide +kernel
theorem dX9_copyOf_14 : decode cX9_copyOf 14 = .ok (.aload_n 0, 1) := by decide +kernel
theorem dX9_copyOf_15 : decode cX9_copyOf 15 = .ok (.aload_n 1, 1) := by decide +kernel
theorem dX9_copyOf_16 : decode cX9_copyOf 16 = .ok (.iload_n 2, 1) := by decide +kernel
theorem dX9_copyOf_17 : decode cX9_copyOf 17 = .ok (.invokevirtual 45, 3) := by decide +kernel
theorem dX9_copyOf_20 : decode cX9_copyOf 20 = .ok (.invokevirtual 35, 3) := by decide +kernel
theorem dX9_copyOf_23 : decode cX9_copyOf 23 = .ok (.iinc 2 1, 3) := by decide +kernel
theorem dX9_copyOf_26 : decode cX9_copyOf 26 = .ok (.goto (-20), 3) := by decide +kernel
theorem dX9_copyOf_29 : decode cX9_copyOf 29 = .ok (.return_, 1) := by decide +kernel
