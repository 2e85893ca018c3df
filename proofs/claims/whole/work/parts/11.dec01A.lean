theorem dA_init_0 : decode cA_init 0 = .ok (.aload_n 0, 1) := by decide +kernel
theorem dA_init_1 : decode cA_init 1 = .ok (.invokespecial 1, 3) := by decide +kernel
theorem dA_init_4 : decode cA_init 4 = .ok (.return_, 1) := by decide +kernel
theorem dA_forget_0 : decode cA_forget 0 = .ok (.aload_n 0, 1) := by decide +kernel
theorem dA_forget_1 : decode cA_forget 1 = .ok (.iconst 0, 1) := by decide +kernel
theorem dA_forget_2 : decode cA_forget 2 = .ok (.putfield 7, 3) := by decide +kernel
theorem dA_forget_5 : decode cA_forget 5 = .ok (.aload_n 0, 1) := by decide +kernel
theorem dA_forget_6 : decode cA_forget 6 = .ok (.iconst 0, 1) := by decide +kernel
theorem dA_forget_7 : decode cA_forget 7 = .ok (.putfield 13, 3) := by decide +kernel
theorem dA_forget_10 : decode cA_forget 10 = .ok (.aload_n 0, 1) := by decide +kernel
theorem dA_forget_11 : decode cA_forget 11 = .ok (.iconst 0, 1) := by decide +kernel
theorem dA_forget_12 : decode cA_forget 12 = .ok (.putfield 16, 3) := by decide +kernel
theorem dA_forget_15 : decode cA_forget 15 = .ok (.return_, 1) := by decide +kernel
