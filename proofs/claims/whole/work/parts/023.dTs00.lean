theorem d_T_isWay_0 : decode cd_T_isWay 0 = .ok (.iload_n 0, 1) := by decide +kernel
theorem d_T_isWay_1 : decode cd_T_isWay 1 = .ok (.ifCond .lt 12, 3) := by decide +kernel
theorem d_T_isWay_4 : decode cd_T_isWay 4 = .ok (.iload_n 0, 1) := by decide +kernel
theorem d_T_isWay_5 : decode cd_T_isWay 5 = .ok (.iconst 3, 1) := by decide +kernel
theorem d_T_isWay_6 : decode cd_T_isWay 6 = .ok (.if_icmp .gt 7, 3) := by decide +kernel
theorem d_T_isWay_9 : decode cd_T_isWay 9 = .ok (.iconst 1, 1) := by decide +kernel
theorem d_T_isWay_10 : decode cd_T_isWay 10 = .ok (.goto 4, 3) := by decide +kernel
theorem d_T_isWay_13 : decode cd_T_isWay 13 = .ok (.iconst 0, 1) := by decide +kernel
theorem d_T_isWay_14 : decode cd_T_isWay 14 = .ok (.ireturn, 1) := by decide +kernel
theorem d_T_isMost_0 : decode cd_T_isMost 0 = .ok (.iload_n 0, 1) := by decide +kernel
theorem d_T_isMost_1 : decode cd_T_isMost 1 = .ok (.ifCond .lt 14, 3) := by decide +kernel
theorem d_T_isMost_4 : decode cd_T_isMost 4 = .ok (.iload_n 0, 1) := by decide +kernel
theorem d_T_isMost_5 : decode cd_T_isMost 5 = .ok (.sipush 8000, 3) := by decide +kernel
theorem d_T_isMost_8 : decode cd_T_isMost 8 = .ok (.if_icmp .gt 7, 3) := by decide +kernel
theorem d_T_isMost_11 : decode cd_T_isMost 11 = .ok (.iconst 1, 1) := by decide +kernel
theorem d_T_isMost_12 : decode cd_T_isMost 12 = .ok (.goto 4, 3) := by decide +kernel
theorem d_T_isMost_15 : decode cd_T_isMost 15 = .ok (.iconst 0, 1) := by decide +kernel
theorem d_T_isMost_16 : decode cd_T_isMost 16 = .ok (.ireturn, 1) := by decide +kernel
theorem d_T_areFlags_0 : decode cd_T_areFlags 0 = .ok (.iload_n 0, 1) := by decide +kernel
theorem d_T_areFlags_1 : decode cd_T_areFlags 1 = .ok (.bipush (-62), 2) := by decide +kernel
theorem d_T_areFlags_3 : decode cd_T_areFlags 3 = .ok (.iand, 1) := by decide +kernel
theorem d_T_areFlags_4 : decode cd_T_areFlags 4 = .ok (.bipush 64, 2) := by decide +kernel
theorem d_T_areFlags_6 : decode cd_T_areFlags 6 = .ok (.if_icmp .ne 7, 3) := by decide +kernel
theorem d_T_areFlags_9 : decode cd_T_areFlags 9 = .ok (.iconst 1, 1) := by decide +kernel
theorem d_T_areFlags_10 : decode cd_T_areFlags 10 = .ok (.goto 4, 3) := by decide +kernel
theorem d_T_areFlags_13 : decode cd_T_areFlags 13 = .ok (.iconst 0, 1) := by decide +kernel
theorem d_T_areFlags_14 : decode cd_T_areFlags 14 = .ok (.ireturn, 1) := by decide +kernel
theorem d_T_isK_0 : decode cd_T_isK 0 = .ok (.iload_n 0, 1) := by decide +kernel
theorem d_T_isK_1 : decode cd_T_isK 1 = .ok (.iconst 4, 1) := by decide +kernel
theorem d_T_isK_2 : decode cd_T_isK 2 = .ok (.if_icmp .lt 13, 3) := by decide +kernel
theorem d_T_isK_5 : decode cd_T_isK 5 = .ok (.iload_n 0, 1) := by decide +kernel
theorem d_T_isK_6 : decode cd_T_isK 6 = .ok (.bipush 7, 2) := by decide +kernel
theorem d_T_isK_8 : decode cd_T_isK 8 = .ok (.if_icmp .gt 7, 3) := by decide +kernel
theorem d_T_isK_11 : decode cd_T_isK 11 = .ok (.iconst 1, 1) := by decide +kernel
theorem d_T_isK_12 : decode cd_T_isK 12 = .ok (.goto 4, 3) := by decide +kernel
theorem d_T_isK_15 : decode cd_T_isK 15 = .ok (.iconst 0, 1) := by decide +kernel
theorem d_T_isK_16 : decode cd_T_isK 16 = .ok (.ireturn, 1) := by decide +kernel
