/-! decode rows -/
theorem dX3_count_48 : decode cX3_count 48 = .ok (.iload_n 1, 1) := by decide +kernel
theorem dX3_count_49 : decode cX3_count 49 = .ok (.ifCond .ne 10, 3) := by decide +kernel
theorem dX3_count_52 : decode cX3_count 52 = .ok (.aload_n 0, 1) := by decide +kernel
theorem dX3_count_53 : decode cX3_count 53 = .ok (.getfield 145, 3) := by decide +kernel
theorem dX3_count_56 : decode cX3_count 56 = .ok (.goto 36, 3) := by decide +kernel
theorem dX3_count_59 : decode cX3_count 59 = .ok (.iload_n 1, 1) := by decide +kernel
theorem dX3_count_60 : decode cX3_count 60 = .ok (.iconst 1, 1) := by decide +kernel
theorem dX3_count_61 : decode cX3_count 61 = .ok (.if_icmp .ne 18, 3) := by decide +kernel
theorem dX3_count_64 : decode cX3_count 64 = .ok (.aload_n 0, 1) := by decide +kernel
theorem dX3_count_65 : decode cX3_count 65 = .ok (.getfield 130, 3) := by decide +kernel
theorem dX3_count_68 : decode cX3_count 68 = .ok (.ifCond .eq 7, 3) := by decide +kernel
theorem dX3_count_71 : decode cX3_count 71 = .ok (.iconst 1, 1) := by decide +kernel
theorem dX3_count_72 : decode cX3_count 72 = .ok (.goto 20, 3) := by decide +kernel
theorem dX3_count_75 : decode cX3_count 75 = .ok (.iconst 0, 1) := by decide +kernel
theorem dX3_count_76 : decode cX3_count 76 = .ok (.goto 16, 3) := by decide +kernel
theorem dX3_count_79 : decode cX3_count 79 = .ok (.iload_n 1, 1) := by decide +kernel
theorem dX3_count_80 : decode cX3_count 80 = .ok (.iconst 2, 1) := by decide +kernel
theorem dX3_count_81 : decode cX3_count 81 = .ok (.if_icmp .ne 7, 3) := by decide +kernel
theorem dX3_count_84 : decode cX3_count 84 = .ok (.iload_n 2, 1) := by decide +kernel
theorem dX3_count_85 : decode cX3_count 85 = .ok (.goto 7, 3) := by decide +kernel
theorem dX3_count_88 : decode cX3_count 88 = .ok (.aload_n 0, 1) := by decide +kernel
theorem dX3_count_89 : decode cX3_count 89 = .ok (.getfield 127, 3) := by decide +kernel
theorem dX3_count_92 : decode cX3_count 92 = .ok (.ireturn, 1) := by decide +kernel
