theorem dX10_fieldWidth_1 : decode cX10_fieldWidth 1 = .ok (.getfield 34, 3) := by decide +kernel
theorem dX10_fieldWidth_4 : decode cX10_fieldWidth 4 = .ok (.lookupswitch 64 #[(99, 62), (100, 41), (117, 36)], 36) := by decide +kernel
theorem dX10_fieldWidth_40 : decode cX10_fieldWidth 40 = .ok (.aload_n 0, 1) := by decide +kernel
theorem dX10_fieldWidth_41 : decode cX10_fieldWidth 41 = .ok (.invokevirtual 117, 3) := by decide +kernel
theorem dX10_fieldWidth_44 : decode cX10_fieldWidth 44 = .ok (.ireturn, 1) := by decide +kernel
theorem dX10_fieldWidth_45 : decode cX10_fieldWidth 45 = .ok (.aload_n 0, 1) := by decide +kernel
theorem dX10_fieldWidth_46 : decode cX10_fieldWidth 46 = .ok (.getfield 38, 3) := by decide +kernel
theorem dX10_fieldWidth_49 : decode cX10_fieldWidth 49 = .ok (.bipush 8, 2) := by decide +kernel
theorem dX10_fieldWidth_51 : decode cX10_fieldWidth 51 = .ok (.if_icmp .ne 8, 3) := by decide +kernel
theorem dX10_fieldWidth_54 : decode cX10_fieldWidth 54 = .ok (.bipush 20, 2) := by decide +kernel
theorem dX10_fieldWidth_56 : decode cX10_fieldWidth 56 = .ok (.goto 9, 3) := by decide +kernel
theorem dX10_fieldWidth_59 : decode cX10_fieldWidth 59 = .ok (.aload_n 0, 1) := by decide +kernel
theorem dX10_fieldWidth_60 : decode cX10_fieldWidth 60 = .ok (.invokevirtual 117, 3) := by decide +kernel
theorem dX10_fieldWidth_63 : decode cX10_fieldWidth 63 = .ok (.iconst 1, 1) := by decide +kernel
theorem dX10_fieldWidth_64 : decode cX10_fieldWidth 64 = .ok (.iadd, 1) := by decide +kernel
theorem dX10_fieldWidth_65 : decode cX10_fieldWidth 65 = .ok (.ireturn, 1) := by decide +kernel
theorem dX10_fieldWidth_66 : decode cX10_fieldWidth 66 = .ok (.iconst 3, 1) := by decide +kernel
theorem dX10_fieldWidth_67 : decode cX10_fieldWidth 67 = .ok (.ireturn, 1) := by decide +kernel
theorem dX10_fieldWidth_68 : decode cX10_fieldWidth 68 = .ok (.iconst 0, 1) := by decide +kernel
theorem dX10_fieldWidth_69 : decode cX10_fieldWidth 69 = .ok (.ireturn, 1) := by decide +kernel
theorem dX10_decimalWidth_0 : decode cX10_decimalWidth 0 = .ok (.aload_n 0, 1) := by decide +kernel
theorem dX10_decimalWidth_1 : decode cX10_decimalWidth 1 = .ok (.getfield 38, 3) := by decide +kernel
theorem dX10_decimalWidth_4 : decode cX10_decimalWidth 4 = .ok (.tableswitch 39 1 4 #[32, 34, 39, 36], 32) := by decide +kernel
theorem dX10_decimalWidth_36 : decode cX10_decimalWidth 36 = .ok (.iconst 3, 1) := by decide +kernel
theorem dX10_decimalWidth_37 : decode cX10_decimalWidth 37 = .ok (.ireturn, 1) := by decide +kernel
theorem dX10_decimalWidth_38 : decode cX10_decimalWidth 38 = .ok (.iconst 5, 1) := by decide +kernel
theorem dX10_decimalWidth_39 : decode cX10_decimalWidth 39 = .ok (.ireturn, 1) := by decide +kernel
theorem dX10_decimalWidth_40 : decode cX10_decimalWidth 40 = .ok (.bipush 10, 2) := by decide +kernel
theorem dX10_decimalWidth_42 : decode cX10_decimalWidth 42 = .ok (.ireturn, 1) := by decide +kernel
theorem dX10_decimalWidth_43 : decode cX10_decimalWidth 43 = .ok (.bipush 20, 2) := by decide +kernel
theorem dX10_decimalWidth_45 : decode cX10_decimalWidth 45 = .ok (.ireturn, 1) := by decide +kernel
