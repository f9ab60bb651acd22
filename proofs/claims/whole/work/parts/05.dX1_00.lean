theorem dX1_init_0 : decode cX1_init 0 = .ok (.aload_n 0, 1) := by decide +kernel
theorem dX1_init_1 : decode cX1_init 1 = .ok (.invokespecial 3, 3) := by decide +kernel
theorem dX1_init_4 : decode cX1_init 4 = .ok (.aload_n 0, 1) := by decide +kernel
theorem dX1_init_5 : decode cX1_init 5 = .ok (.bipush 8, 2) := by decide +kernel
theorem dX1_init_7 : decode cX1_init 7 = .ok (.anewarray 9, 3) := by decide +kernel
theorem dX1_init_10 : decode cX1_init 10 = .ok (.putfield 11, 3) := by decide +kernel
theorem dX1_init_13 : decode cX1_init 13 = .ok (.iconst 0, 1) := by decide +kernel
theorem dX1_init_14 : decode cX1_init 14 = .ok (.istore_n 1, 1) := by decide +kernel
theorem dX1_init_15 : decode cX1_init 15 = .ok (.iload_n 1, 1) := by decide +kernel
theorem dX1_init_16 : decode cX1_init 16 = .ok (.bipush 8, 2) := by decide +kernel
theorem dX1_init_18 : decode cX1_init 18 = .ok (.if_icmp .ge 22, 3) := by decide +kernel
theorem dX1_init_21 : decode cX1_init 21 = .ok (.aload_n 0, 1) := by decide +kernel
theorem dX1_init_22 : decode cX1_init 22 = .ok (.getfield 11, 3) := by decide +kernel
theorem dX1_init_25 : decode cX1_init 25 = .ok (.iload_n 1, 1) := by decide +kernel
theorem dX1_init_26 : decode cX1_init 26 = .ok (.new 9, 3) := by decide +kernel
theorem dX1_init_29 : decode cX1_init 29 = .ok (.dup, 1) := by decide +kernel
theorem dX1_init_30 : decode cX1_init 30 = .ok (.invokespecial 17, 3) := by decide +kernel
theorem dX1_init_33 : decode cX1_init 33 = .ok (.aastore, 1) := by decide +kernel
theorem dX1_init_34 : decode cX1_init 34 = .ok (.iinc 1 1, 3) := by decide +kernel
theorem dX1_init_37 : decode cX1_init 37 = .ok (.goto (-22), 3) := by decide +kernel
theorem dX1_init_40 : decode cX1_init 40 = .ok (.aload_n 0, 1) := by decide +kernel
theorem dX1_init_41 : decode cX1_init 41 = .ok (.new 18, 3) := by decide +kernel
theorem dX1_init_44 : decode cX1_init 44 = .ok (.dup, 1) := by decide +kernel
theorem dX1_init_45 : decode cX1_init 45 = .ok (.invokespecial 20, 3) := by decide +kernel
theorem dX1_init_48 : decode cX1_init 48 = .ok (.putfield 21, 3) := by decide +kernel
theorem dX1_init_51 : decode cX1_init 51 = .ok (.aload_n 0, 1) := by decide +kernel
theorem dX1_init_52 : decode cX1_init 52 = .ok (.iconst 0, 1) := by decide +kernel
theorem dX1_init_53 : decode cX1_init 53 = .ok (.putfield 25, 3) := by decide +kernel
theorem dX1_init_56 : decode cX1_init 56 = .ok (.aload_n 0, 1) := by decide +kernel
theorem dX1_init_57 : decode cX1_init 57 = .ok (.iconst 0, 1) := by decide +kernel
theorem dX1_init_58 : decode cX1_init 58 = .ok (.putfield 29, 3) := by decide +kernel
theorem dX1_init_61 : decode cX1_init 61 = .ok (.aload_n 0, 1) := by decide +kernel
theorem dX1_init_62 : decode cX1_init 62 = .ok (.iconst 0, 1) := by decide +kernel
theorem dX1_init_63 : decode cX1_init 63 = .ok (.putfield 32, 3) := by decide +kernel
theorem dX1_init_66 : decode cX1_init 66 = .ok (.return_, 1) := by decide +kernel
theorem dX1_count_0 : decode cX1_count 0 = .ok (.aload_n 0, 1) := by decide +kernel
theorem dX1_count_1 : decode cX1_count 1 = .ok (.getfield 25, 3) := by decide +kernel
theorem dX1_count_4 : decode cX1_count 4 = .ok (.ireturn, 1) := by decide +kernel
theorem dX1_taken_0 : decode cX1_taken 0 = .ok (.aload_n 0, 1) := by decide +kernel
theorem dX1_taken_1 : decode cX1_taken 1 = .ok (.getfield 29, 3) := by decide +kernel
theorem dX1_taken_4 : decode cX1_taken 4 = .ok (.ireturn, 1) := by decide +kernel
theorem dX1_oddTexts_0 : decode cX1_oddTexts 0 = .ok (.aload_n 0, 1) := by decide +kernel
theorem dX1_oddTexts_1 : decode cX1_oddTexts 1 = .ok (.getfield 32, 3) := by decide +kernel
theorem dX1_oddTexts_4 : decode cX1_oddTexts 4 = .ok (.ireturn, 1) := by decide +kernel
theorem dX1_clear_0 : decode cX1_clear 0 = .ok (.aload_n 0, 1) := by decide +kernel
theorem dX1_clear_1 : decode cX1_clear 1 = .ok (.iconst 0, 1) := by decide +kernel
theorem dX1_clear_2 : decode cX1_clear 2 = .ok (.putfield 25, 3) := by decide +kernel
theorem dX1_clear_5 : decode cX1_clear 5 = .ok (.return_, 1) := by decide +kernel
theorem dX1_addNumber_0 : decode cX1_addNumber 0 = .ok (.aload_n 0, 1) := by decide +kernel
theorem dX1_addNumber_1 : decode cX1_addNumber 1 = .ok (.getfield 25, 3) := by decide +kernel
theorem dX1_addNumber_4 : decode cX1_addNumber 4 = .ok (.bipush 8, 2) := by decide +kernel
theorem dX1_addNumber_6 : decode cX1_addNumber 6 = .ok (.if_icmp .ge 39, 3) := by decide +kernel
theorem dX1_addNumber_9 : decode cX1_addNumber 9 = .ok (.aload_n 0, 1) := by decide +kernel
theorem dX1_addNumber_10 : decode cX1_addNumber 10 = .ok (.getfield 11, 3) := by decide +kernel
theorem dX1_addNumber_13 : decode cX1_addNumber 13 = .ok (.aload_n 0, 1) := by decide +kernel
theorem dX1_addNumber_14 : decode cX1_addNumber 14 = .ok (.getfield 25, 3) := by decide +kernel
theorem dX1_addNumber_17 : decode cX1_addNumber 17 = .ok (.aaload, 1) := by decide +kernel
theorem dX1_addNumber_18 : decode cX1_addNumber 18 = .ok (.iconst 0, 1) := by decide +kernel
theorem dX1_addNumber_19 : decode cX1_addNumber 19 = .ok (.putfield 35, 3) := by decide +kernel
theorem dX1_addNumber_22 : decode cX1_addNumber 22 = .ok (.aload_n 0, 1) := by decide +kernel
theorem dX1_addNumber_23 : decode cX1_addNumber 23 = .ok (.getfield 11, 3) := by decide +kernel
theorem dX1_addNumber_26 : decode cX1_addNumber 26 = .ok (.aload_n 0, 1) := by decide +kernel
theorem dX1_addNumber_27 : decode cX1_addNumber 27 = .ok (.getfield 25, 3) := by decide +kernel
theorem dX1_addNumber_30 : decode cX1_addNumber 30 = .ok (.aaload, 1) := by decide +kernel
theorem dX1_addNumber_31 : decode cX1_addNumber 31 = .ok (.lload_n 1, 1) := by decide +kernel
theorem dX1_addNumber_32 : decode cX1_addNumber 32 = .ok (.putfield 39, 3) := by decide +kernel
theorem dX1_addNumber_35 : decode cX1_addNumber 35 = .ok (.aload_n 0, 1) := by decide +kernel
theorem dX1_addNumber_36 : decode cX1_addNumber 36 = .ok (.dup, 1) := by decide +kernel
theorem dX1_addNumber_37 : decode cX1_addNumber 37 = .ok (.getfield 25, 3) := by decide +kernel
theorem dX1_addNumber_40 : decode cX1_addNumber 40 = .ok (.iconst 1, 1) := by decide +kernel
theorem dX1_addNumber_41 : decode cX1_addNumber 41 = .ok (.iadd, 1) := by decide +kernel
theorem dX1_addNumber_42 : decode cX1_addNumber 42 = .ok (.putfield 25, 3) := by decide +kernel
theorem dX1_addNumber_45 : decode cX1_addNumber 45 = .ok (.return_, 1) := by decide +kernel
theorem dX1_addText_0 : decode cX1_addText 0 = .ok (.aload_n 0, 1) := by decide +kernel
theorem dX1_addText_1 : decode cX1_addText 1 = .ok (.getfield 25, 3) := by decide +kernel
theorem dX1_addText_4 : decode cX1_addText 4 = .ok (.bipush 8, 2) := by decide +kernel
theorem dX1_addText_6 : decode cX1_addText 6 = .ok (.if_icmp .ge 42, 3) := by decide +kernel
theorem dX1_addText_9 : decode cX1_addText 9 = .ok (.aload_n 0, 1) := by decide +kernel
theorem dX1_addText_10 : decode cX1_addText 10 = .ok (.getfield 11, 3) := by decide +kernel
theorem dX1_addText_13 : decode cX1_addText 13 = .ok (.aload_n 0, 1) := by decide +kernel
theorem dX1_addText_14 : decode cX1_addText 14 = .ok (.getfield 25, 3) := by decide +kernel
theorem dX1_addText_17 : decode cX1_addText 17 = .ok (.aaload, 1) := by decide +kernel
theorem dX1_addText_18 : decode cX1_addText 18 = .ok (.iconst 1, 1) := by decide +kernel
theorem dX1_addText_19 : decode cX1_addText 19 = .ok (.putfield 35, 3) := by decide +kernel
theorem dX1_addText_22 : decode cX1_addText 22 = .ok (.aload_n 0, 1) := by decide +kernel
theorem dX1_addText_23 : decode cX1_addText 23 = .ok (.getfield 11, 3) := by decide +kernel
theorem dX1_addText_26 : decode cX1_addText 26 = .ok (.aload_n 0, 1) := by decide +kernel
theorem dX1_addText_27 : decode cX1_addText 27 = .ok (.getfield 25, 3) := by decide +kernel
theorem dX1_addText_30 : decode cX1_addText 30 = .ok (.aaload, 1) := by decide +kernel
theorem dX1_addText_31 : decode cX1_addText 31 = .ok (.getfield 43, 3) := by decide +kernel
theorem dX1_addText_34 : decode cX1_addText 34 = .ok (.aload_n 1, 1) := by decide +kernel
theorem dX1_addText_35 : decode cX1_addText 35 = .ok (.invokevirtual 47, 3) := by decide +kernel
theorem dX1_addText_38 : decode cX1_addText 38 = .ok (.aload_n 0, 1) := by decide +kernel
theorem dX1_addText_39 : decode cX1_addText 39 = .ok (.dup, 1) := by decide +kernel
theorem dX1_addText_40 : decode cX1_addText 40 = .ok (.getfield 25, 3) := by decide +kernel
theorem dX1_addText_43 : decode cX1_addText 43 = .ok (.iconst 1, 1) := by decide +kernel
theorem dX1_addText_44 : decode cX1_addText 44 = .ok (.iadd, 1) := by decide +kernel
theorem dX1_addText_45 : decode cX1_addText 45 = .ok (.putfield 25, 3) := by decide +kernel
theorem dX1_addText_48 : decode cX1_addText 48 = .ok (.return_, 1) := by decide +kernel
theorem dX1_takeFromFront_0 : decode cX1_takeFromFront 0 = .ok (.aload_n 0, 1) := by decide +kernel
theorem dX1_takeFromFront_1 : decode cX1_takeFromFront 1 = .ok (.iconst 0, 1) := by decide +kernel
theorem dX1_takeFromFront_2 : decode cX1_takeFromFront 2 = .ok (.putfield 29, 3) := by decide +kernel
theorem dX1_takeFromFront_5 : decode cX1_takeFromFront 5 = .ok (.aload_n 0, 1) := by decide +kernel
theorem dX1_takeFromFront_6 : decode cX1_takeFromFront 6 = .ok (.iconst 0, 1) := by decide +kernel
theorem dX1_takeFromFront_7 : decode cX1_takeFromFront 7 = .ok (.putfield 32, 3) := by decide +kernel
theorem dX1_takeFromFront_10 : decode cX1_takeFromFront 10 = .ok (.return_, 1) := by decide +kernel
theorem dX1_takeNext_0 : decode cX1_takeNext 0 = .ok (.aload_n 0, 1) := by decide +kernel
theorem dX1_takeNext_1 : decode cX1_takeNext 1 = .ok (.getfield 29, 3) := by decide +kernel
theorem dX1_takeNext_4 : decode cX1_takeNext 4 = .ok (.aload_n 0, 1) := by decide +kernel
theorem dX1_takeNext_5 : decode cX1_takeNext 5 = .ok (.getfield 25, 3) := by decide +kernel
theorem dX1_takeNext_8 : decode cX1_takeNext 8 = .ok (.if_icmp .lt 5, 3) := by decide +kernel
theorem dX1_takeNext_11 : decode cX1_takeNext 11 = .ok (.aconst_null, 1) := by decide +kernel
theorem dX1_takeNext_12 : decode cX1_takeNext 12 = .ok (.areturn, 1) := by decide +kernel
theorem dX1_takeNext_13 : decode cX1_takeNext 13 = .ok (.aload_n 0, 1) := by decide +kernel
theorem dX1_takeNext_14 : decode cX1_takeNext 14 = .ok (.dup, 1) := by decide +kernel
theorem dX1_takeNext_15 : decode cX1_takeNext 15 = .ok (.getfield 29, 3) := by decide +kernel
theorem dX1_takeNext_18 : decode cX1_takeNext 18 = .ok (.iconst 1, 1) := by decide +kernel
theorem dX1_takeNext_19 : decode cX1_takeNext 19 = .ok (.iadd, 1) := by decide +kernel
theorem dX1_takeNext_20 : decode cX1_takeNext 20 = .ok (.putfield 29, 3) := by decide +kernel
theorem dX1_takeNext_23 : decode cX1_takeNext 23 = .ok (.aload_n 0, 1) := by decide +kernel
theorem dX1_takeNext_24 : decode cX1_takeNext 24 = .ok (.getfield 11, 3) := by decide +kernel
theorem dX1_takeNext_27 : decode cX1_takeNext 27 = .ok (.aload_n 0, 1) := by decide +kernel
theorem dX1_takeNext_28 : decode cX1_takeNext 28 = .ok (.getfield 29, 3) := by decide +kernel
theorem dX1_takeNext_31 : decode cX1_takeNext 31 = .ok (.iconst 1, 1) := by decide +kernel
theorem dX1_takeNext_32 : decode cX1_takeNext 32 = .ok (.isub, 1) := by decide +kernel
theorem dX1_takeNext_33 : decode cX1_takeNext 33 = .ok (.aaload, 1) := by decide +kernel
theorem dX1_takeNext_34 : decode cX1_takeNext 34 = .ok (.areturn, 1) := by decide +kernel
theorem dX1_takeNumber_0 : decode cX1_takeNumber 0 = .ok (.aload_n 0, 1) := by decide +kernel
theorem dX1_takeNumber_1 : decode cX1_takeNumber 1 = .ok (.invokevirtual 53, 3) := by decide +kernel
theorem dX1_takeNumber_4 : decode cX1_takeNumber 4 = .ok (.astore_n 1, 1) := by decide +kernel
theorem dX1_takeNumber_5 : decode cX1_takeNumber 5 = .ok (.aload_n 1, 1) := by decide +kernel
theorem dX1_takeNumber_6 : decode cX1_takeNumber 6 = .ok (.ifnonnull 5, 3) := by decide +kernel
theorem dX1_takeNumber_9 : decode cX1_takeNumber 9 = .ok (.lconst 0, 1) := by decide +kernel
theorem dX1_takeNumber_10 : decode cX1_takeNumber 10 = .ok (.lreturn, 1) := by decide +kernel
theorem dX1_takeNumber_11 : decode cX1_takeNumber 11 = .ok (.aload_n 1, 1) := by decide +kernel
theorem dX1_takeNumber_12 : decode cX1_takeNumber 12 = .ok (.getfield 35, 3) := by decide +kernel
theorem dX1_takeNumber_15 : decode cX1_takeNumber 15 = .ok (.ifCond .ne 8, 3) := by decide +kernel
theorem dX1_takeNumber_18 : decode cX1_takeNumber 18 = .ok (.aload_n 1, 1) := by decide +kernel
theorem dX1_takeNumber_19 : decode cX1_takeNumber 19 = .ok (.getfield 39, 3) := by decide +kernel
theorem dX1_takeNumber_22 : decode cX1_takeNumber 22 = .ok (.lreturn, 1) := by decide +kernel
theorem dX1_takeNumber_23 : decode cX1_takeNumber 23 = .ok (.aload_n 0, 1) := by decide +kernel
theorem dX1_takeNumber_24 : decode cX1_takeNumber 24 = .ok (.getfield 21, 3) := by decide +kernel
theorem dX1_takeNumber_27 : decode cX1_takeNumber 27 = .ok (.aload_n 1, 1) := by decide +kernel
theorem dX1_takeNumber_28 : decode cX1_takeNumber 28 = .ok (.getfield 43, 3) := by decide +kernel
theorem dX1_takeNumber_31 : decode cX1_takeNumber 31 = .ok (.invokevirtual 57, 3) := by decide +kernel
theorem dX1_takeNumber_34 : decode cX1_takeNumber 34 = .ok (.aload_n 0, 1) := by decide +kernel
theorem dX1_takeNumber_35 : decode cX1_takeNumber 35 = .ok (.getfield 21, 3) := by decide +kernel
theorem dX1_takeNumber_38 : decode cX1_takeNumber 38 = .ok (.invokevirtual 60, 3) := by decide +kernel
theorem dX1_takeNumber_41 : decode cX1_takeNumber 41 = .ok (.ifCond .eq 13, 3) := by decide +kernel
theorem dX1_takeNumber_44 : decode cX1_takeNumber 44 = .ok (.aload_n 0, 1) := by decide +kernel
theorem dX1_takeNumber_45 : decode cX1_takeNumber 45 = .ok (.dup, 1) := by decide +kernel
theorem dX1_takeNumber_46 : decode cX1_takeNumber 46 = .ok (.getfield 32, 3) := by decide +kernel
theorem dX1_takeNumber_49 : decode cX1_takeNumber 49 = .ok (.iconst 1, 1) := by decide +kernel
theorem dX1_takeNumber_50 : decode cX1_takeNumber 50 = .ok (.iadd, 1) := by decide +kernel
theorem dX1_takeNumber_51 : decode cX1_takeNumber 51 = .ok (.putfield 32, 3) := by decide +kernel
theorem dX1_takeNumber_54 : decode cX1_takeNumber 54 = .ok (.aload_n 0, 1) := by decide +kernel
theorem dX1_takeNumber_55 : decode cX1_takeNumber 55 = .ok (.getfield 21, 3) := by decide +kernel
theorem dX1_takeNumber_58 : decode cX1_takeNumber 58 = .ok (.invokevirtual 64, 3) := by decide +kernel
theorem dX1_takeNumber_61 : decode cX1_takeNumber 61 = .ok (.lreturn, 1) := by decide +kernel
