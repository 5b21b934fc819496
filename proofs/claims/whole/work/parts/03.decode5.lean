theorem dL_noise_0 : decode cL_noise 0 = .ok (.aload 7, 2) := by decide +kernel
theorem dL_noise_2 : decode cL_noise 2 = .ok (.iconst 0, 1) := by decide +kernel
theorem dL_noise_3 : decode cL_noise 3 = .ok (.aload_n 0, 1) := by decide +kernel
theorem dL_noise_4 : decode cL_noise 4 = .ok (.iload_n 1, 1) := by decide +kernel
theorem dL_noise_5 : decode cL_noise 5 = .ok (.iload_n 2, 1) := by decide +kernel
theorem dL_noise_6 : decode cL_noise 6 = .ok (.lload_n 3, 1) := by decide +kernel
theorem dL_noise_7 : decode cL_noise 7 = .ok (.lload 5, 2) := by decide +kernel
theorem dL_noise_9 : decode cL_noise 9 = .ok (.invokevirtual 48, 3) := by decide +kernel
theorem dL_noise_12 : decode cL_noise 12 = .ok (.i2l, 1) := by decide +kernel
theorem dL_noise_13 : decode cL_noise 13 = .ok (.lastore, 1) := by decide +kernel
theorem dL_noise_14 : decode cL_noise 14 = .ok (.goto 11, 3) := by decide +kernel
theorem dL_noise_17 : decode cL_noise 17 = .ok (.astore 8, 2) := by decide +kernel
theorem dL_noise_19 : decode cL_noise 19 = .ok (.iconst 1, 1) := by decide +kernel
theorem dL_noise_20 : decode cL_noise 20 = .ok (.ireturn, 1) := by decide +kernel
theorem dL_noise_21 : decode cL_noise 21 = .ok (.astore 8, 2) := by decide +kernel
theorem dL_noise_23 : decode cL_noise 23 = .ok (.iconst 2, 1) := by decide +kernel
theorem dL_noise_24 : decode cL_noise 24 = .ok (.ireturn, 1) := by decide +kernel
theorem dL_noise_25 : decode cL_noise 25 = .ok (.iconst 0, 1) := by decide +kernel
theorem dL_noise_26 : decode cL_noise 26 = .ok (.ireturn, 1) := by decide +kernel
theorem dL_value_0 : decode cL_value 0 = .ok (.aload_n 3, 1) := by decide +kernel
theorem dL_value_1 : decode cL_value 1 = .ok (.iconst 0, 1) := by decide +kernel
theorem dL_value_2 : decode cL_value 2 = .ok (.aload_n 0, 1) := by decide +kernel
theorem dL_value_3 : decode cL_value 3 = .ok (.iload_n 1, 1) := by decide +kernel
theorem dL_value_4 : decode cL_value 4 = .ok (.iload_n 2, 1) := by decide +kernel
theorem dL_value_5 : decode cL_value 5 = .ok (.invokevirtual 52, 3) := by decide +kernel
theorem dL_value_8 : decode cL_value 8 = .ok (.i2l, 1) := by decide +kernel
theorem dL_value_9 : decode cL_value 9 = .ok (.lastore, 1) := by decide +kernel
theorem dL_value_10 : decode cL_value 10 = .ok (.goto 7, 3) := by decide +kernel
theorem dL_value_13 : decode cL_value 13 = .ok (.astore 4, 2) := by decide +kernel
theorem dL_value_15 : decode cL_value 15 = .ok (.iconst 1, 1) := by decide +kernel
theorem dL_value_16 : decode cL_value 16 = .ok (.ireturn, 1) := by decide +kernel
theorem dL_value_17 : decode cL_value 17 = .ok (.iconst 0, 1) := by decide +kernel
theorem dL_value_18 : decode cL_value 18 = .ok (.ireturn, 1) := by decide +kernel
theorem dL_unit_0 : decode cL_unit 0 = .ok (.aload_n 2, 1) := by decide +kernel
theorem dL_unit_1 : decode cL_unit 1 = .ok (.iconst 0, 1) := by decide +kernel
theorem dL_unit_2 : decode cL_unit 2 = .ok (.aload_n 0, 1) := by decide +kernel
theorem dL_unit_3 : decode cL_unit 3 = .ok (.iload_n 1, 1) := by decide +kernel
theorem dL_unit_4 : decode cL_unit 4 = .ok (.invokevirtual 55, 3) := by decide +kernel
theorem dL_unit_7 : decode cL_unit 7 = .ok (.ifCond .eq 7, 3) := by decide +kernel
theorem dL_unit_10 : decode cL_unit 10 = .ok (.lconst 1, 1) := by decide +kernel
theorem dL_unit_11 : decode cL_unit 11 = .ok (.goto 4, 3) := by decide +kernel
theorem dL_unit_14 : decode cL_unit 14 = .ok (.lconst 0, 1) := by decide +kernel
theorem dL_unit_15 : decode cL_unit 15 = .ok (.lastore, 1) := by decide +kernel
theorem dL_unit_16 : decode cL_unit 16 = .ok (.goto 6, 3) := by decide +kernel
theorem dL_unit_19 : decode cL_unit 19 = .ok (.astore_n 3, 1) := by decide +kernel
theorem dL_unit_20 : decode cL_unit 20 = .ok (.iconst 1, 1) := by decide +kernel
theorem dL_unit_21 : decode cL_unit 21 = .ok (.ireturn, 1) := by decide +kernel
theorem dL_unit_22 : decode cL_unit 22 = .ok (.iconst 0, 1) := by decide +kernel
theorem dL_unit_23 : decode cL_unit 23 = .ok (.ireturn, 1) := by decide +kernel
