theorem dX12_data_11 : decode cX12_data 11 = .ok (.iconst 1, 1) := by decide +kernel
theorem dX12_data_12 : decode cX12_data 12 = .ok (.isub, 1) := by decide +kernel
theorem dX12_data_13 : decode cX12_data 13 = .ok (.invokestatic 67, 3) := by decide +kernel
theorem dX12_data_16 : decode cX12_data 16 = .ok (.ifCond .eq 12, 3) := by decide +kernel
theorem dX12_data_19 : decode cX12_data 19 = .ok (.aload_n 0, 1) := by decide +kernel
theorem dX12_data_20 : decode cX12_data 20 = .ok (.getfield 28, 3) := by decide +kernel
theorem dX12_data_23 : decode cX12_data 23 = .ok (.iload_n 1, 1) := by decide +kernel
theorem dX12_data_24 : decode cX12_data 24 = .ok (.iaload, 1) := by decide +kernel
theorem dX12_data_25 : decode cX12_data 25 = .ok (.goto 4, 3) := by decide +kernel
theorem dX12_data_28 : decode cX12_data 28 = .ok (.iconst (-1), 1) := by decide +kernel
theorem dX12_data_29 : decode cX12_data 29 = .ok (.ireturn, 1) := by decide +kernel
