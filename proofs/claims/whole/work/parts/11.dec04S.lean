theorem dS_mayAdd_1 : decode cS_mayAdd 1 = .ok (.getfield 18, 3) := by decide +kernel
theorem dS_mayAdd_4 : decode cS_mayAdd 4 = .ok (.iload_n 1, 1) := by decide +kernel
theorem dS_mayAdd_5 : decode cS_mayAdd 5 = .ok (.iaload, 1) := by decide +kernel
theorem dS_mayAdd_6 : decode cS_mayAdd 6 = .ok (.ifCond .lt 17, 3) := by decide +kernel
theorem dS_mayAdd_9 : decode cS_mayAdd 9 = .ok (.iload_n 2, 1) := by decide +kernel
theorem dS_mayAdd_10 : decode cS_mayAdd 10 = .ok (.aload_n 0, 1) := by decide +kernel
theorem dS_mayAdd_11 : decode cS_mayAdd 11 = .ok (.getfield 18, 3) := by decide +kernel
theorem dS_mayAdd_14 : decode cS_mayAdd 14 = .ok (.iload_n 1, 1) := by decide +kernel
theorem dS_mayAdd_15 : decode cS_mayAdd 15 = .ok (.iaload, 1) := by decide +kernel
theorem dS_mayAdd_16 : decode cS_mayAdd 16 = .ok (.ishr, 1) := by decide +kernel
theorem dS_mayAdd_17 : decode cS_mayAdd 17 = .ok (.iconst 1, 1) := by decide +kernel
theorem dS_mayAdd_18 : decode cS_mayAdd 18 = .ok (.iand, 1) := by decide +kernel
theorem dS_mayAdd_19 : decode cS_mayAdd 19 = .ok (.iconst 1, 1) := by decide +kernel
theorem dS_mayAdd_20 : decode cS_mayAdd 20 = .ok (.if_icmp .ne 7, 3) := by decide +kernel
theorem dS_mayAdd_23 : decode cS_mayAdd 23 = .ok (.iconst 1, 1) := by decide +kernel
theorem dS_mayAdd_24 : decode cS_mayAdd 24 = .ok (.goto 4, 3) := by decide +kernel
theorem dS_mayAdd_27 : decode cS_mayAdd 27 = .ok (.iconst 0, 1) := by decide +kernel
theorem dS_mayAdd_28 : decode cS_mayAdd 28 = .ok (.istore_n 3, 1) := by decide +kernel
theorem dS_mayAdd_29 : decode cS_mayAdd 29 = .ok (.iload_n 3, 1) := by decide +kernel
theorem dS_mayAdd_30 : decode cS_mayAdd 30 = .ok (.ifCond .eq 35, 3) := by decide +kernel
theorem dS_mayAdd_33 : decode cS_mayAdd 33 = .ok (.aload_n 0, 1) := by decide +kernel
theorem dS_mayAdd_34 : decode cS_mayAdd 34 = .ok (.getfield 21, 3) := by decide +kernel
theorem dS_mayAdd_37 : decode cS_mayAdd 37 = .ok (.aload_n 0, 1) := by decide +kernel
theorem dS_mayAdd_38 : decode cS_mayAdd 38 = .ok (.getfield 9, 3) := by decide +kernel
theorem dS_mayAdd_41 : decode cS_mayAdd 41 = .ok (.iload_n 1, 1) := by decide +kernel
theorem dS_mayAdd_42 : decode cS_mayAdd 42 = .ok (.iaload, 1) := by decide +kernel
theorem dS_mayAdd_43 : decode cS_mayAdd 43 = .ok (.iaload, 1) := by decide +kernel
theorem dS_mayAdd_44 : decode cS_mayAdd 44 = .ok (.ifCond .le 21, 3) := by decide +kernel
theorem dS_mayAdd_47 : decode cS_mayAdd 47 = .ok (.aload_n 0, 1) := by decide +kernel
theorem dS_mayAdd_48 : decode cS_mayAdd 48 = .ok (.getfield 21, 3) := by decide +kernel
theorem dS_mayAdd_51 : decode cS_mayAdd 51 = .ok (.aload_n 0, 1) := by decide +kernel
theorem dS_mayAdd_52 : decode cS_mayAdd 52 = .ok (.getfield 15, 3) := by decide +kernel
theorem dS_mayAdd_55 : decode cS_mayAdd 55 = .ok (.iload_n 1, 1) := by decide +kernel
theorem dS_mayAdd_56 : decode cS_mayAdd 56 = .ok (.iaload, 1) := by decide +kernel
theorem dS_mayAdd_57 : decode cS_mayAdd 57 = .ok (.iaload, 1) := by decide +kernel
theorem dS_mayAdd_58 : decode cS_mayAdd 58 = .ok (.ifCond .le 7, 3) := by decide +kernel
theorem dS_mayAdd_61 : decode cS_mayAdd 61 = .ok (.iconst 1, 1) := by decide +kernel
theorem dS_mayAdd_62 : decode cS_mayAdd 62 = .ok (.goto 4, 3) := by decide +kernel
theorem dS_mayAdd_65 : decode cS_mayAdd 65 = .ok (.iconst 0, 1) := by decide +kernel
theorem dS_mayAdd_66 : decode cS_mayAdd 66 = .ok (.ireturn, 1) := by decide +kernel
theorem dS_hope_0 : decode cS_hope 0 = .ok (.iconst 0, 1) := by decide +kernel
theorem dS_hope_1 : decode cS_hope 1 = .ok (.istore_n 1, 1) := by decide +kernel
theorem dS_hope_2 : decode cS_hope 2 = .ok (.iconst 0, 1) := by decide +kernel
theorem dS_hope_3 : decode cS_hope 3 = .ok (.istore_n 2, 1) := by decide +kernel
theorem dS_hope_4 : decode cS_hope 4 = .ok (.iload_n 2, 1) := by decide +kernel
theorem dS_hope_5 : decode cS_hope 5 = .ok (.bipush 9, 2) := by decide +kernel
theorem dS_hope_7 : decode cS_hope 7 = .ok (.if_icmp .ge 27, 3) := by decide +kernel
theorem dS_hope_10 : decode cS_hope 10 = .ok (.iload_n 1, 1) := by decide +kernel
theorem dS_hope_11 : decode cS_hope 11 = .ok (.aload_n 0, 1) := by decide +kernel
theorem dS_hope_12 : decode cS_hope 12 = .ok (.getfield 21, 3) := by decide +kernel
theorem dS_hope_15 : decode cS_hope 15 = .ok (.iload_n 2, 1) := by decide +kernel
theorem dS_hope_16 : decode cS_hope 16 = .ok (.iaload, 1) := by decide +kernel
theorem dS_hope_17 : decode cS_hope 17 = .ok (.aload_n 0, 1) := by decide +kernel
theorem dS_hope_18 : decode cS_hope 18 = .ok (.getfield 24, 3) := by decide +kernel
theorem dS_hope_21 : decode cS_hope 21 = .ok (.iload_n 2, 1) := by decide +kernel
theorem dS_hope_22 : decode cS_hope 22 = .ok (.iaload, 1) := by decide +kernel
theorem dS_hope_23 : decode cS_hope 23 = .ok (.invokestatic 45, 3) := by decide +kernel
theorem dS_hope_26 : decode cS_hope 26 = .ok (.iadd, 1) := by decide +kernel
theorem dS_hope_27 : decode cS_hope 27 = .ok (.istore_n 1, 1) := by decide +kernel
theorem dS_hope_28 : decode cS_hope 28 = .ok (.iinc 2 1, 3) := by decide +kernel
theorem dS_hope_31 : decode cS_hope 31 = .ok (.goto (-27), 3) := by decide +kernel
theorem dS_hope_34 : decode cS_hope 34 = .ok (.iload_n 1, 1) := by decide +kernel
theorem dS_hope_35 : decode cS_hope 35 = .ok (.iconst 2, 1) := by decide +kernel
theorem dS_hope_36 : decode cS_hope 36 = .ok (.idiv, 1) := by decide +kernel
theorem dS_hope_37 : decode cS_hope 37 = .ok (.ireturn, 1) := by decide +kernel
