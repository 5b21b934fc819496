theorem dJ_floorModI_0 : decode cJ_floorModI 0 = .ok (.iload_n 0, 1) := by decide +kernel
theorem dJ_floorModI_1 : decode cJ_floorModI 1 = .ok (.iload_n 1, 1) := by decide +kernel
theorem dJ_floorModI_2 : decode cJ_floorModI 2 = .ok (.irem, 1) := by decide +kernel
theorem dJ_floorModI_3 : decode cJ_floorModI 3 = .ok (.istore_n 2, 1) := by decide +kernel
theorem dJ_floorModI_4 : decode cJ_floorModI 4 = .ok (.iload_n 0, 1) := by decide +kernel
theorem dJ_floorModI_5 : decode cJ_floorModI 5 = .ok (.iload_n 1, 1) := by decide +kernel
theorem dJ_floorModI_6 : decode cJ_floorModI 6 = .ok (.ixor, 1) := by decide +kernel
theorem dJ_floorModI_7 : decode cJ_floorModI 7 = .ok (.ifCond .ge 11, 3) := by decide +kernel
theorem dJ_floorModI_10 : decode cJ_floorModI 10 = .ok (.iload_n 2, 1) := by decide +kernel
theorem dJ_floorModI_11 : decode cJ_floorModI 11 = .ok (.ifCond .eq 7, 3) := by decide +kernel
theorem dJ_floorModI_14 : decode cJ_floorModI 14 = .ok (.iload_n 2, 1) := by decide +kernel
theorem dJ_floorModI_15 : decode cJ_floorModI 15 = .ok (.iload_n 1, 1) := by decide +kernel
theorem dJ_floorModI_16 : decode cJ_floorModI 16 = .ok (.iadd, 1) := by decide +kernel
theorem dJ_floorModI_17 : decode cJ_floorModI 17 = .ok (.ireturn, 1) := by decide +kernel
theorem dJ_floorModI_18 : decode cJ_floorModI 18 = .ok (.iload_n 2, 1) := by decide +kernel
theorem dJ_floorModI_19 : decode cJ_floorModI 19 = .ok (.ireturn, 1) := by decide +kernel
theorem dJ_floorModL_0 : decode cJ_floorModL 0 = .ok (.lload_n 0, 1) := by decide +kernel
theorem dJ_floorModL_1 : decode cJ_floorModL 1 = .ok (.lload_n 2, 1) := by decide +kernel
theorem dJ_floorModL_2 : decode cJ_floorModL 2 = .ok (.lrem, 1) := by decide +kernel
theorem dJ_floorModL_3 : decode cJ_floorModL 3 = .ok (.lstore 4, 2) := by decide +kernel
theorem dJ_floorModL_5 : decode cJ_floorModL 5 = .ok (.lload_n 0, 1) := by decide +kernel
theorem dJ_floorModL_6 : decode cJ_floorModL 6 = .ok (.lload_n 2, 1) := by decide +kernel
theorem dJ_floorModL_7 : decode cJ_floorModL 7 = .ok (.lxor, 1) := by decide +kernel
theorem dJ_floorModL_8 : decode cJ_floorModL 8 = .ok (.lconst 0, 1) := by decide +kernel
theorem dJ_floorModL_9 : decode cJ_floorModL 9 = .ok (.lcmp, 1) := by decide +kernel
theorem dJ_floorModL_10 : decode cJ_floorModL 10 = .ok (.ifCond .ge 15, 3) := by decide +kernel
theorem dJ_floorModL_13 : decode cJ_floorModL 13 = .ok (.lload 4, 2) := by decide +kernel
theorem dJ_floorModL_15 : decode cJ_floorModL 15 = .ok (.lconst 0, 1) := by decide +kernel
theorem dJ_floorModL_16 : decode cJ_floorModL 16 = .ok (.lcmp, 1) := by decide +kernel
theorem dJ_floorModL_17 : decode cJ_floorModL 17 = .ok (.ifCond .eq 8, 3) := by decide +kernel
theorem dJ_floorModL_20 : decode cJ_floorModL 20 = .ok (.lload 4, 2) := by decide +kernel
theorem dJ_floorModL_22 : decode cJ_floorModL 22 = .ok (.lload_n 2, 1) := by decide +kernel
theorem dJ_floorModL_23 : decode cJ_floorModL 23 = .ok (.ladd, 1) := by decide +kernel
theorem dJ_floorModL_24 : decode cJ_floorModL 24 = .ok (.lreturn, 1) := by decide +kernel
theorem dJ_floorModL_25 : decode cJ_floorModL 25 = .ok (.lload 4, 2) := by decide +kernel
theorem dJ_floorModL_27 : decode cJ_floorModL 27 = .ok (.lreturn, 1) := by decide +kernel
theorem dJ_max_0 : decode cJ_max 0 = .ok (.iload_n 0, 1) := by decide +kernel
theorem dJ_max_1 : decode cJ_max 1 = .ok (.iload_n 1, 1) := by decide +kernel
theorem dJ_max_2 : decode cJ_max 2 = .ok (.if_icmp .lt 7, 3) := by decide +kernel
theorem dJ_max_5 : decode cJ_max 5 = .ok (.iload_n 0, 1) := by decide +kernel
theorem dJ_max_6 : decode cJ_max 6 = .ok (.goto 4, 3) := by decide +kernel
theorem dJ_max_9 : decode cJ_max 9 = .ok (.iload_n 1, 1) := by decide +kernel
theorem dJ_max_10 : decode cJ_max 10 = .ok (.ireturn, 1) := by decide +kernel
theorem dJ_min_0 : decode cJ_min 0 = .ok (.iload_n 0, 1) := by decide +kernel
theorem dJ_min_1 : decode cJ_min 1 = .ok (.iload_n 1, 1) := by decide +kernel
theorem dJ_min_2 : decode cJ_min 2 = .ok (.if_icmp .gt 7, 3) := by decide +kernel
theorem dJ_min_5 : decode cJ_min 5 = .ok (.iload_n 0, 1) := by decide +kernel
theorem dJ_min_6 : decode cJ_min 6 = .ok (.goto 4, 3) := by decide +kernel
theorem dJ_min_9 : decode cJ_min 9 = .ok (.iload_n 1, 1) := by decide +kernel
theorem dJ_min_10 : decode cJ_min 10 = .ok (.ireturn, 1) := by decide +kernel
