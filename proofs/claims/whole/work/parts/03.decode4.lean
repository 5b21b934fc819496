theorem dX1_noise_0 : decode cX1_noise 0 = .ok (.aload_n 0, 1) := by decide +kernel
theorem dX1_noise_1 : decode cX1_noise 1 = .ok (.iload_n 1, 1) := by decide +kernel
theorem dX1_noise_2 : decode cX1_noise 2 = .ok (.invokestatic 41, 3) := by decide +kernel
theorem dX1_noise_5 : decode cX1_noise 5 = .ok (.ifCond .eq 7, 3) := by decide +kernel
theorem dX1_noise_8 : decode cX1_noise 8 = .ok (.iconst 1, 1) := by decide +kernel
theorem dX1_noise_9 : decode cX1_noise 9 = .ok (.goto 18, 3) := by decide +kernel
theorem dX1_noise_12 : decode cX1_noise 12 = .ok (.iload_n 2, 1) := by decide +kernel
theorem dX1_noise_13 : decode cX1_noise 13 = .ok (.iconst 1, 1) := by decide +kernel
theorem dX1_noise_14 : decode cX1_noise 14 = .ok (.if_icmp .lt 8, 3) := by decide +kernel
theorem dX1_noise_17 : decode cX1_noise 17 = .ok (.iload_n 2, 1) := by decide +kernel
theorem dX1_noise_18 : decode cX1_noise 18 = .ok (.iconst 3, 1) := by decide +kernel
theorem dX1_noise_19 : decode cX1_noise 19 = .ok (.if_icmp .le 7, 3) := by decide +kernel
theorem dX1_noise_22 : decode cX1_noise 22 = .ok (.iconst 2, 1) := by decide +kernel
theorem dX1_noise_23 : decode cX1_noise 23 = .ok (.goto 4, 3) := by decide +kernel
theorem dX1_noise_26 : decode cX1_noise 26 = .ok (.iconst 0, 1) := by decide +kernel
theorem dX1_noise_27 : decode cX1_noise 27 = .ok (.putfield 20, 3) := by decide +kernel
theorem dX1_noise_30 : decode cX1_noise 30 = .ok (.aload_n 0, 1) := by decide +kernel
theorem dX1_noise_31 : decode cX1_noise 31 = .ok (.getfield 20, 3) := by decide +kernel
theorem dX1_noise_34 : decode cX1_noise 34 = .ok (.ifCond .le 5, 3) := by decide +kernel
theorem dX1_noise_37 : decode cX1_noise 37 = .ok (.iconst 0, 1) := by decide +kernel
theorem dX1_noise_38 : decode cX1_noise 38 = .ok (.ireturn, 1) := by decide +kernel
theorem dX1_noise_39 : decode cX1_noise 39 = .ok (.iconst 0, 1) := by decide +kernel
theorem dX1_noise_40 : decode cX1_noise 40 = .ok (.istore 7, 2) := by decide +kernel
theorem dX1_noise_42 : decode cX1_noise 42 = .ok (.iload 7, 2) := by decide +kernel
theorem dX1_noise_44 : decode cX1_noise 44 = .ok (.bipush 16, 2) := by decide +kernel
theorem dX1_noise_46 : decode cX1_noise 46 = .ok (.if_icmp .ge 79, 3) := by decide +kernel
theorem dX1_noise_49 : decode cX1_noise 49 = .ok (.iconst 0, 1) := by decide +kernel
theorem dX1_noise_50 : decode cX1_noise 50 = .ok (.istore 8, 2) := by decide +kernel
theorem dX1_noise_52 : decode cX1_noise 52 = .ok (.iconst 0, 1) := by decide +kernel
theorem dX1_noise_53 : decode cX1_noise 53 = .ok (.istore 9, 2) := by decide +kernel
theorem dX1_noise_55 : decode cX1_noise 55 = .ok (.iload 9, 2) := by decide +kernel
theorem dX1_noise_57 : decode cX1_noise 57 = .ok (.iload_n 2, 1) := by decide +kernel
theorem dX1_noise_58 : decode cX1_noise 58 = .ok (.if_icmp .ge 47, 3) := by decide +kernel
theorem dX1_noise_61 : decode cX1_noise 61 = .ok (.iload 8, 2) := by decide +kernel
theorem dX1_noise_63 : decode cX1_noise 63 = .ok (.lload_n 3, 1) := by decide +kernel
theorem dX1_noise_64 : decode cX1_noise 64 = .ok (.lload 5, 2) := by decide +kernel
theorem dX1_noise_66 : decode cX1_noise 66 = .ok (.iconst 2, 1) := by decide +kernel
theorem dX1_noise_67 : decode cX1_noise 67 = .ok (.iload_n 2, 1) := by decide +kernel
theorem dX1_noise_68 : decode cX1_noise 68 = .ok (.imul, 1) := by decide +kernel
theorem dX1_noise_69 : decode cX1_noise 69 = .ok (.iload 7, 2) := by decide +kernel
theorem dX1_noise_71 : decode cX1_noise 71 = .ok (.imul, 1) := by decide +kernel
theorem dX1_noise_72 : decode cX1_noise 72 = .ok (.iload 9, 2) := by decide +kernel
theorem dX1_noise_74 : decode cX1_noise 74 = .ok (.iadd, 1) := by decide +kernel
theorem dX1_noise_75 : decode cX1_noise 75 = .ok (.invokestatic 75, 3) := by decide +kernel
theorem dX1_noise_78 : decode cX1_noise 78 = .ok (.lload_n 3, 1) := by decide +kernel
theorem dX1_noise_79 : decode cX1_noise 79 = .ok (.lload 5, 2) := by decide +kernel
theorem dX1_noise_81 : decode cX1_noise 81 = .ok (.iconst 2, 1) := by decide +kernel
theorem dX1_noise_82 : decode cX1_noise 82 = .ok (.iload_n 2, 1) := by decide +kernel
theorem dX1_noise_83 : decode cX1_noise 83 = .ok (.imul, 1) := by decide +kernel
theorem dX1_noise_84 : decode cX1_noise 84 = .ok (.iload 7, 2) := by decide +kernel
theorem dX1_noise_86 : decode cX1_noise 86 = .ok (.imul, 1) := by decide +kernel
theorem dX1_noise_87 : decode cX1_noise 87 = .ok (.iload_n 2, 1) := by decide +kernel
theorem dX1_noise_88 : decode cX1_noise 88 = .ok (.iadd, 1) := by decide +kernel
theorem dX1_noise_89 : decode cX1_noise 89 = .ok (.iload 9, 2) := by decide +kernel
theorem dX1_noise_91 : decode cX1_noise 91 = .ok (.iadd, 1) := by decide +kernel
theorem dX1_noise_92 : decode cX1_noise 92 = .ok (.invokestatic 75, 3) := by decide +kernel
theorem dX1_noise_95 : decode cX1_noise 95 = .ok (.isub, 1) := by decide +kernel
theorem dX1_noise_96 : decode cX1_noise 96 = .ok (.iadd, 1) := by decide +kernel
theorem dX1_noise_97 : decode cX1_noise 97 = .ok (.istore 8, 2) := by decide +kernel
theorem dX1_noise_99 : decode cX1_noise 99 = .ok (.iinc 9 1, 3) := by decide +kernel
theorem dX1_noise_102 : decode cX1_noise 102 = .ok (.goto (-47), 3) := by decide +kernel
theorem dX1_noise_105 : decode cX1_noise 105 = .ok (.aload_n 0, 1) := by decide +kernel
theorem dX1_noise_106 : decode cX1_noise 106 = .ok (.getfield 17, 3) := by decide +kernel
theorem dX1_noise_109 : decode cX1_noise 109 = .ok (.iload 7, 2) := by decide +kernel
theorem dX1_noise_111 : decode cX1_noise 111 = .ok (.aload_n 0, 1) := by decide +kernel
theorem dX1_noise_112 : decode cX1_noise 112 = .ok (.iload 8, 2) := by decide +kernel
theorem dX1_noise_114 : decode cX1_noise 114 = .ok (.i2l, 1) := by decide +kernel
theorem dX1_noise_115 : decode cX1_noise 115 = .ok (.invokevirtual 48, 3) := by decide +kernel
theorem dX1_noise_118 : decode cX1_noise 118 = .ok (.iastore, 1) := by decide +kernel
theorem dX1_noise_119 : decode cX1_noise 119 = .ok (.iinc 7 1, 3) := by decide +kernel
theorem dX1_noise_122 : decode cX1_noise 122 = .ok (.goto (-80), 3) := by decide +kernel
theorem dX1_noise_125 : decode cX1_noise 125 = .ok (.aload_n 0, 1) := by decide +kernel
theorem dX1_noise_126 : decode cX1_noise 126 = .ok (.iload_n 1, 1) := by decide +kernel
theorem dX1_noise_127 : decode cX1_noise 127 = .ok (.invokevirtual 52, 3) := by decide +kernel
theorem dX1_noise_130 : decode cX1_noise 130 = .ok (.ireturn, 1) := by decide +kernel
theorem dX1_power_0 : decode cX1_power 0 = .ok (.lconst 1, 1) := by decide +kernel
theorem dX1_power_1 : decode cX1_power 1 = .ok (.lstore_n 3, 1) := by decide +kernel
theorem dX1_power_2 : decode cX1_power 2 = .ok (.iconst 0, 1) := by decide +kernel
theorem dX1_power_3 : decode cX1_power 3 = .ok (.istore 5, 2) := by decide +kernel
theorem dX1_power_5 : decode cX1_power 5 = .ok (.iload 5, 2) := by decide +kernel
theorem dX1_power_7 : decode cX1_power 7 = .ok (.iload_n 2, 1) := by decide +kernel
theorem dX1_power_8 : decode cX1_power 8 = .ok (.if_icmp .ge 20, 3) := by decide +kernel
theorem dX1_power_11 : decode cX1_power 11 = .ok (.lload_n 3, 1) := by decide +kernel
theorem dX1_power_12 : decode cX1_power 12 = .ok (.iload_n 1, 1) := by decide +kernel
theorem dX1_power_13 : decode cX1_power 13 = .ok (.i2l, 1) := by decide +kernel
theorem dX1_power_14 : decode cX1_power 14 = .ok (.lmul, 1) := by decide +kernel
theorem dX1_power_15 : decode cX1_power 15 = .ok (.aload_n 0, 1) := by decide +kernel
theorem dX1_power_16 : decode cX1_power 16 = .ok (.getfield 7, 3) := by decide +kernel
theorem dX1_power_19 : decode cX1_power 19 = .ok (.i2l, 1) := by decide +kernel
theorem dX1_power_20 : decode cX1_power 20 = .ok (.lrem, 1) := by decide +kernel
theorem dX1_power_21 : decode cX1_power 21 = .ok (.lstore_n 3, 1) := by decide +kernel
theorem dX1_power_22 : decode cX1_power 22 = .ok (.iinc 5 1, 3) := by decide +kernel
theorem dX1_power_25 : decode cX1_power 25 = .ok (.goto (-20), 3) := by decide +kernel
theorem dX1_power_28 : decode cX1_power 28 = .ok (.lload_n 3, 1) := by decide +kernel
theorem dX1_power_29 : decode cX1_power 29 = .ok (.l2i, 1) := by decide +kernel
theorem dX1_power_30 : decode cX1_power 30 = .ok (.ireturn, 1) := by decide +kernel
theorem dX1_root_0 : decode cX1_root 0 = .ok (.aload_n 0, 1) := by decide +kernel
theorem dX1_root_1 : decode cX1_root 1 = .ok (.aload_n 0, 1) := by decide +kernel
theorem dX1_root_2 : decode cX1_root 2 = .ok (.getfield 37, 3) := by decide +kernel
theorem dX1_root_5 : decode cX1_root 5 = .ok (.ifCond .ne 8, 3) := by decide +kernel
theorem dX1_root_8 : decode cX1_root 8 = .ok (.bipush 17, 2) := by decide +kernel
theorem dX1_root_10 : decode cX1_root 10 = .ok (.goto 6, 3) := by decide +kernel
theorem dX1_root_13 : decode cX1_root 13 = .ok (.sipush 1753, 3) := by decide +kernel
theorem dX1_root_16 : decode cX1_root 16 = .ok (.bipush 16, 2) := by decide +kernel
theorem dX1_root_18 : decode cX1_root 18 = .ok (.invokevirtual 79, 3) := by decide +kernel
theorem dX1_root_21 : decode cX1_root 21 = .ok (.ireturn, 1) := by decide +kernel
theorem dX1_along_0 : decode cX1_along 0 = .ok (.lconst 0, 1) := by decide +kernel
theorem dX1_along_1 : decode cX1_along 1 = .ok (.lstore 6, 2) := by decide +kernel
theorem dX1_along_3 : decode cX1_along 3 = .ok (.bipush 16, 2) := by decide +kernel
theorem dX1_along_5 : decode cX1_along 5 = .ok (.iload_n 3, 1) := by decide +kernel
theorem dX1_along_6 : decode cX1_along 6 = .ok (.isub, 1) := by decide +kernel
theorem dX1_along_7 : decode cX1_along 7 = .ok (.iload_n 2, 1) := by decide +kernel
theorem dX1_along_8 : decode cX1_along 8 = .ok (.iadd, 1) := by decide +kernel
theorem dX1_along_9 : decode cX1_along 9 = .ok (.istore 8, 2) := by decide +kernel
theorem dX1_along_11 : decode cX1_along 11 = .ok (.iload 8, 2) := by decide +kernel
theorem dX1_along_13 : decode cX1_along 13 = .ok (.ifCond .lt 34, 3) := by decide +kernel
theorem dX1_along_16 : decode cX1_along 16 = .ok (.lload 6, 2) := by decide +kernel
theorem dX1_along_18 : decode cX1_along 18 = .ok (.lload 4, 2) := by decide +kernel
theorem dX1_along_20 : decode cX1_along 20 = .ok (.lmul, 1) := by decide +kernel
theorem dX1_along_21 : decode cX1_along 21 = .ok (.aload_n 0, 1) := by decide +kernel
theorem dX1_along_22 : decode cX1_along 22 = .ok (.iload_n 1, 1) := by decide +kernel
theorem dX1_along_23 : decode cX1_along 23 = .ok (.iload 8, 2) := by decide +kernel
theorem dX1_along_25 : decode cX1_along 25 = .ok (.invokevirtual 45, 3) := by decide +kernel
theorem dX1_along_28 : decode cX1_along 28 = .ok (.i2l, 1) := by decide +kernel
theorem dX1_along_29 : decode cX1_along 29 = .ok (.ladd, 1) := by decide +kernel
theorem dX1_along_30 : decode cX1_along 30 = .ok (.aload_n 0, 1) := by decide +kernel
theorem dX1_along_31 : decode cX1_along 31 = .ok (.getfield 7, 3) := by decide +kernel
theorem dX1_along_34 : decode cX1_along 34 = .ok (.i2l, 1) := by decide +kernel
theorem dX1_along_35 : decode cX1_along 35 = .ok (.lrem, 1) := by decide +kernel
theorem dX1_along_36 : decode cX1_along 36 = .ok (.lstore 6, 2) := by decide +kernel
theorem dX1_along_38 : decode cX1_along 38 = .ok (.iload 8, 2) := by decide +kernel
theorem dX1_along_40 : decode cX1_along 40 = .ok (.iload_n 3, 1) := by decide +kernel
theorem dX1_along_41 : decode cX1_along 41 = .ok (.isub, 1) := by decide +kernel
theorem dX1_along_42 : decode cX1_along 42 = .ok (.istore 8, 2) := by decide +kernel
theorem dX1_along_44 : decode cX1_along 44 = .ok (.goto (-33), 3) := by decide +kernel
theorem dX1_along_47 : decode cX1_along 47 = .ok (.lload 6, 2) := by decide +kernel
theorem dX1_along_49 : decode cX1_along 49 = .ok (.l2i, 1) := by decide +kernel
theorem dX1_along_50 : decode cX1_along 50 = .ok (.ireturn, 1) := by decide +kernel
theorem dX1_valueOf_0 : decode cX1_valueOf 0 = .ok (.aload_n 0, 1) := by decide +kernel
theorem dX1_valueOf_1 : decode cX1_valueOf 1 = .ok (.invokevirtual 82, 3) := by decide +kernel
theorem dX1_valueOf_4 : decode cX1_valueOf 4 = .ok (.istore_n 3, 1) := by decide +kernel
theorem dX1_valueOf_5 : decode cX1_valueOf 5 = .ok (.aload_n 0, 1) := by decide +kernel
theorem dX1_valueOf_6 : decode cX1_valueOf 6 = .ok (.getfield 37, 3) := by decide +kernel
theorem dX1_valueOf_9 : decode cX1_valueOf 9 = .ok (.iconst 1, 1) := by decide +kernel
theorem dX1_valueOf_10 : decode cX1_valueOf 10 = .ok (.if_icmp .ne 24, 3) := by decide +kernel
theorem dX1_valueOf_13 : decode cX1_valueOf 13 = .ok (.aload_n 0, 1) := by decide +kernel
theorem dX1_valueOf_14 : decode cX1_valueOf 14 = .ok (.iload_n 1, 1) := by decide +kernel
theorem dX1_valueOf_15 : decode cX1_valueOf 15 = .ok (.iconst 0, 1) := by decide +kernel
theorem dX1_valueOf_16 : decode cX1_valueOf 16 = .ok (.iconst 1, 1) := by decide +kernel
theorem dX1_valueOf_17 : decode cX1_valueOf 17 = .ok (.aload_n 0, 1) := by decide +kernel
theorem dX1_valueOf_18 : decode cX1_valueOf 18 = .ok (.iload_n 3, 1) := by decide +kernel
theorem dX1_valueOf_19 : decode cX1_valueOf 19 = .ok (.iconst 2, 1) := by decide +kernel
theorem dX1_valueOf_20 : decode cX1_valueOf 20 = .ok (.iload_n 2, 1) := by decide +kernel
theorem dX1_valueOf_21 : decode cX1_valueOf 21 = .ok (.imul, 1) := by decide +kernel
theorem dX1_valueOf_22 : decode cX1_valueOf 22 = .ok (.iconst 1, 1) := by decide +kernel
theorem dX1_valueOf_23 : decode cX1_valueOf 23 = .ok (.iadd, 1) := by decide +kernel
theorem dX1_valueOf_24 : decode cX1_valueOf 24 = .ok (.invokevirtual 79, 3) := by decide +kernel
theorem dX1_valueOf_27 : decode cX1_valueOf 27 = .ok (.i2l, 1) := by decide +kernel
theorem dX1_valueOf_28 : decode cX1_valueOf 28 = .ok (.invokevirtual 86, 3) := by decide +kernel
theorem dX1_valueOf_31 : decode cX1_valueOf 31 = .ok (.goto 25, 3) := by decide +kernel
theorem dX1_valueOf_34 : decode cX1_valueOf 34 = .ok (.aload_n 0, 1) := by decide +kernel
theorem dX1_valueOf_35 : decode cX1_valueOf 35 = .ok (.iload_n 1, 1) := by decide +kernel
theorem dX1_valueOf_36 : decode cX1_valueOf 36 = .ok (.iload_n 2, 1) := by decide +kernel
theorem dX1_valueOf_37 : decode cX1_valueOf 37 = .ok (.iconst 2, 1) := by decide +kernel
theorem dX1_valueOf_38 : decode cX1_valueOf 38 = .ok (.irem, 1) := by decide +kernel
theorem dX1_valueOf_39 : decode cX1_valueOf 39 = .ok (.iconst 2, 1) := by decide +kernel
theorem dX1_valueOf_40 : decode cX1_valueOf 40 = .ok (.aload_n 0, 1) := by decide +kernel
theorem dX1_valueOf_41 : decode cX1_valueOf 41 = .ok (.iload_n 3, 1) := by decide +kernel
theorem dX1_valueOf_42 : decode cX1_valueOf 42 = .ok (.iconst 2, 1) := by decide +kernel
theorem dX1_valueOf_43 : decode cX1_valueOf 43 = .ok (.iload_n 2, 1) := by decide +kernel
theorem dX1_valueOf_44 : decode cX1_valueOf 44 = .ok (.iconst 2, 1) := by decide +kernel
theorem dX1_valueOf_45 : decode cX1_valueOf 45 = .ok (.idiv, 1) := by decide +kernel
theorem dX1_valueOf_46 : decode cX1_valueOf 46 = .ok (.imul, 1) := by decide +kernel
theorem dX1_valueOf_47 : decode cX1_valueOf 47 = .ok (.iconst 1, 1) := by decide +kernel
theorem dX1_valueOf_48 : decode cX1_valueOf 48 = .ok (.iadd, 1) := by decide +kernel
theorem dX1_valueOf_49 : decode cX1_valueOf 49 = .ok (.invokevirtual 79, 3) := by decide +kernel
theorem dX1_valueOf_52 : decode cX1_valueOf 52 = .ok (.i2l, 1) := by decide +kernel
theorem dX1_valueOf_53 : decode cX1_valueOf 53 = .ok (.invokevirtual 86, 3) := by decide +kernel
theorem dX1_valueOf_56 : decode cX1_valueOf 56 = .ok (.ireturn, 1) := by decide +kernel
theorem dX1_value_0 : decode cX1_value 0 = .ok (.aload_n 0, 1) := by decide +kernel
theorem dX1_value_1 : decode cX1_value 1 = .ok (.iload_n 1, 1) := by decide +kernel
theorem dX1_value_2 : decode cX1_value 2 = .ok (.invokestatic 41, 3) := by decide +kernel
theorem dX1_value_5 : decode cX1_value 5 = .ok (.ifCond .ne 13, 3) := by decide +kernel
theorem dX1_value_8 : decode cX1_value 8 = .ok (.iload_n 2, 1) := by decide +kernel
theorem dX1_value_9 : decode cX1_value 9 = .ok (.ifCond .lt 9, 3) := by decide +kernel
theorem dX1_value_12 : decode cX1_value 12 = .ok (.iload_n 2, 1) := by decide +kernel
theorem dX1_value_13 : decode cX1_value 13 = .ok (.bipush 16, 2) := by decide +kernel
theorem dX1_value_15 : decode cX1_value 15 = .ok (.if_icmp .lt 7, 3) := by decide +kernel
theorem dX1_value_18 : decode cX1_value 18 = .ok (.iconst 1, 1) := by decide +kernel
theorem dX1_value_19 : decode cX1_value 19 = .ok (.goto 4, 3) := by decide +kernel
theorem dX1_value_22 : decode cX1_value 22 = .ok (.iconst 0, 1) := by decide +kernel
theorem dX1_value_23 : decode cX1_value 23 = .ok (.putfield 20, 3) := by decide +kernel
theorem dX1_value_26 : decode cX1_value 26 = .ok (.aload_n 0, 1) := by decide +kernel
theorem dX1_value_27 : decode cX1_value 27 = .ok (.getfield 20, 3) := by decide +kernel
theorem dX1_value_30 : decode cX1_value 30 = .ok (.ifCond .le 7, 3) := by decide +kernel
theorem dX1_value_33 : decode cX1_value 33 = .ok (.iconst 0, 1) := by decide +kernel
theorem dX1_value_34 : decode cX1_value 34 = .ok (.goto 9, 3) := by decide +kernel
theorem dX1_value_37 : decode cX1_value 37 = .ok (.aload_n 0, 1) := by decide +kernel
theorem dX1_value_38 : decode cX1_value 38 = .ok (.iload_n 1, 1) := by decide +kernel
theorem dX1_value_39 : decode cX1_value 39 = .ok (.iload_n 2, 1) := by decide +kernel
theorem dX1_value_40 : decode cX1_value 40 = .ok (.invokevirtual 90, 3) := by decide +kernel
theorem dX1_value_43 : decode cX1_value 43 = .ok (.ireturn, 1) := by decide +kernel
theorem dX1_unit_0 : decode cX1_unit 0 = .ok (.aload_n 0, 1) := by decide +kernel
theorem dX1_unit_1 : decode cX1_unit 1 = .ok (.iload_n 1, 1) := by decide +kernel
theorem dX1_unit_2 : decode cX1_unit 2 = .ok (.invokestatic 41, 3) := by decide +kernel
theorem dX1_unit_5 : decode cX1_unit 5 = .ok (.ifCond .eq 7, 3) := by decide +kernel
theorem dX1_unit_8 : decode cX1_unit 8 = .ok (.iconst 1, 1) := by decide +kernel
theorem dX1_unit_9 : decode cX1_unit 9 = .ok (.goto 4, 3) := by decide +kernel
theorem dX1_unit_12 : decode cX1_unit 12 = .ok (.iconst 0, 1) := by decide +kernel
theorem dX1_unit_13 : decode cX1_unit 13 = .ok (.putfield 20, 3) := by decide +kernel
theorem dX1_unit_16 : decode cX1_unit 16 = .ok (.aload_n 0, 1) := by decide +kernel
theorem dX1_unit_17 : decode cX1_unit 17 = .ok (.getfield 20, 3) := by decide +kernel
theorem dX1_unit_20 : decode cX1_unit 20 = .ok (.ifCond .le 5, 3) := by decide +kernel
theorem dX1_unit_23 : decode cX1_unit 23 = .ok (.iconst 0, 1) := by decide +kernel
theorem dX1_unit_24 : decode cX1_unit 24 = .ok (.ireturn, 1) := by decide +kernel
theorem dX1_unit_25 : decode cX1_unit 25 = .ok (.iconst 0, 1) := by decide +kernel
theorem dX1_unit_26 : decode cX1_unit 26 = .ok (.istore_n 2, 1) := by decide +kernel
theorem dX1_unit_27 : decode cX1_unit 27 = .ok (.iload_n 2, 1) := by decide +kernel
theorem dX1_unit_28 : decode cX1_unit 28 = .ok (.bipush 16, 2) := by decide +kernel
theorem dX1_unit_30 : decode cX1_unit 30 = .ok (.if_icmp .ge 94, 3) := by decide +kernel
theorem dX1_unit_33 : decode cX1_unit 33 = .ok (.aload_n 0, 1) := by decide +kernel
theorem dX1_unit_34 : decode cX1_unit 34 = .ok (.getfield 37, 3) := by decide +kernel
theorem dX1_unit_37 : decode cX1_unit 37 = .ok (.iconst 1, 1) := by decide +kernel
theorem dX1_unit_38 : decode cX1_unit 38 = .ok (.if_icmp .ne 14, 3) := by decide +kernel
theorem dX1_unit_41 : decode cX1_unit 41 = .ok (.aload_n 0, 1) := by decide +kernel
theorem dX1_unit_42 : decode cX1_unit 42 = .ok (.iload_n 1, 1) := by decide +kernel
theorem dX1_unit_43 : decode cX1_unit 43 = .ok (.iload_n 2, 1) := by decide +kernel
theorem dX1_unit_44 : decode cX1_unit 44 = .ok (.invokevirtual 90, 3) := by decide +kernel
theorem dX1_unit_47 : decode cX1_unit 47 = .ok (.ifCond .ne 71, 3) := by decide +kernel
theorem dX1_unit_50 : decode cX1_unit 50 = .ok (.iconst 0, 1) := by decide +kernel
theorem dX1_unit_51 : decode cX1_unit 51 = .ok (.ireturn, 1) := by decide +kernel
theorem dX1_unit_52 : decode cX1_unit 52 = .ok (.iload_n 2, 1) := by decide +kernel
theorem dX1_unit_53 : decode cX1_unit 53 = .ok (.iconst 2, 1) := by decide +kernel
theorem dX1_unit_54 : decode cX1_unit 54 = .ok (.irem, 1) := by decide +kernel
theorem dX1_unit_55 : decode cX1_unit 55 = .ok (.ifCond .ne 63, 3) := by decide +kernel
theorem dX1_unit_58 : decode cX1_unit 58 = .ok (.aload_n 0, 1) := by decide +kernel
theorem dX1_unit_59 : decode cX1_unit 59 = .ok (.iload_n 1, 1) := by decide +kernel
theorem dX1_unit_60 : decode cX1_unit 60 = .ok (.iload_n 2, 1) := by decide +kernel
theorem dX1_unit_61 : decode cX1_unit 61 = .ok (.invokevirtual 90, 3) := by decide +kernel
theorem dX1_unit_64 : decode cX1_unit 64 = .ok (.i2l, 1) := by decide +kernel
theorem dX1_unit_65 : decode cX1_unit 65 = .ok (.lstore_n 3, 1) := by decide +kernel
theorem dX1_unit_66 : decode cX1_unit 66 = .ok (.aload_n 0, 1) := by decide +kernel
theorem dX1_unit_67 : decode cX1_unit 67 = .ok (.iload_n 1, 1) := by decide +kernel
theorem dX1_unit_68 : decode cX1_unit 68 = .ok (.iload_n 2, 1) := by decide +kernel
theorem dX1_unit_69 : decode cX1_unit 69 = .ok (.iconst 1, 1) := by decide +kernel
theorem dX1_unit_70 : decode cX1_unit 70 = .ok (.iadd, 1) := by decide +kernel
theorem dX1_unit_71 : decode cX1_unit 71 = .ok (.invokevirtual 90, 3) := by decide +kernel
theorem dX1_unit_74 : decode cX1_unit 74 = .ok (.i2l, 1) := by decide +kernel
theorem dX1_unit_75 : decode cX1_unit 75 = .ok (.lstore 5, 2) := by decide +kernel
theorem dX1_unit_77 : decode cX1_unit 77 = .ok (.lload_n 3, 1) := by decide +kernel
theorem dX1_unit_78 : decode cX1_unit 78 = .ok (.lload_n 3, 1) := by decide +kernel
theorem dX1_unit_79 : decode cX1_unit 79 = .ok (.lmul, 1) := by decide +kernel
theorem dX1_unit_80 : decode cX1_unit 80 = .ok (.lload 5, 2) := by decide +kernel
theorem dX1_unit_82 : decode cX1_unit 82 = .ok (.lload 5, 2) := by decide +kernel
theorem dX1_unit_84 : decode cX1_unit 84 = .ok (.lmul, 1) := by decide +kernel
theorem dX1_unit_85 : decode cX1_unit 85 = .ok (.aload_n 0, 1) := by decide +kernel
theorem dX1_unit_86 : decode cX1_unit 86 = .ok (.getfield 7, 3) := by decide +kernel
theorem dX1_unit_89 : decode cX1_unit 89 = .ok (.i2l, 1) := by decide +kernel
theorem dX1_unit_90 : decode cX1_unit 90 = .ok (.lrem, 1) := by decide +kernel
theorem dX1_unit_91 : decode cX1_unit 91 = .ok (.aload_n 0, 1) := by decide +kernel
theorem dX1_unit_92 : decode cX1_unit 92 = .ok (.aload_n 0, 1) := by decide +kernel
theorem dX1_unit_93 : decode cX1_unit 93 = .ok (.invokevirtual 82, 3) := by decide +kernel
theorem dX1_unit_96 : decode cX1_unit 96 = .ok (.iload_n 2, 1) := by decide +kernel
theorem dX1_unit_97 : decode cX1_unit 97 = .ok (.iconst 1, 1) := by decide +kernel
theorem dX1_unit_98 : decode cX1_unit 98 = .ok (.iadd, 1) := by decide +kernel
theorem dX1_unit_99 : decode cX1_unit 99 = .ok (.invokevirtual 79, 3) := by decide +kernel
theorem dX1_unit_102 : decode cX1_unit 102 = .ok (.i2l, 1) := by decide +kernel
theorem dX1_unit_103 : decode cX1_unit 103 = .ok (.lmul, 1) := by decide +kernel
theorem dX1_unit_104 : decode cX1_unit 104 = .ok (.lsub, 1) := by decide +kernel
theorem dX1_unit_105 : decode cX1_unit 105 = .ok (.aload_n 0, 1) := by decide +kernel
theorem dX1_unit_106 : decode cX1_unit 106 = .ok (.getfield 7, 3) := by decide +kernel
theorem dX1_unit_109 : decode cX1_unit 109 = .ok (.i2l, 1) := by decide +kernel
theorem dX1_unit_110 : decode cX1_unit 110 = .ok (.lrem, 1) := by decide +kernel
theorem dX1_unit_111 : decode cX1_unit 111 = .ok (.lconst 0, 1) := by decide +kernel
theorem dX1_unit_112 : decode cX1_unit 112 = .ok (.lcmp, 1) := by decide +kernel
theorem dX1_unit_113 : decode cX1_unit 113 = .ok (.ifCond .ne 5, 3) := by decide +kernel
theorem dX1_unit_116 : decode cX1_unit 116 = .ok (.iconst 0, 1) := by decide +kernel
theorem dX1_unit_117 : decode cX1_unit 117 = .ok (.ireturn, 1) := by decide +kernel
theorem dX1_unit_118 : decode cX1_unit 118 = .ok (.iinc 2 1, 3) := by decide +kernel
theorem dX1_unit_121 : decode cX1_unit 121 = .ok (.goto (-94), 3) := by decide +kernel
theorem dX1_unit_124 : decode cX1_unit 124 = .ok (.iconst 1, 1) := by decide +kernel
theorem dX1_unit_125 : decode cX1_unit 125 = .ok (.ireturn, 1) := by decide +kernel
theorem dX1_count_0 : decode cX1_count 0 = .ok (.aload_n 0, 1) := by decide +kernel
theorem dX1_count_1 : decode cX1_count 1 = .ok (.iconst 0, 1) := by decide +kernel
theorem dX1_count_2 : decode cX1_count 2 = .ok (.putfield 20, 3) := by decide +kernel
theorem dX1_count_5 : decode cX1_count 5 = .ok (.iload_n 1, 1) := by decide +kernel
theorem dX1_count_6 : decode cX1_count 6 = .ok (.tableswitch 110 0 3 #[30, 35, 40, 45], 30) := by decide +kernel
theorem dX1_count_36 : decode cX1_count 36 = .ok (.aload_n 0, 1) := by decide +kernel
theorem dX1_count_37 : decode cX1_count 37 = .ok (.getfield 37, 3) := by decide +kernel
theorem dX1_count_40 : decode cX1_count 40 = .ok (.ireturn, 1) := by decide +kernel
theorem dX1_count_41 : decode cX1_count 41 = .ok (.aload_n 0, 1) := by decide +kernel
theorem dX1_count_42 : decode cX1_count 42 = .ok (.getfield 7, 3) := by decide +kernel
theorem dX1_count_45 : decode cX1_count 45 = .ok (.ireturn, 1) := by decide +kernel
theorem dX1_count_46 : decode cX1_count 46 = .ok (.aload_n 0, 1) := by decide +kernel
theorem dX1_count_47 : decode cX1_count 47 = .ok (.invokevirtual 82, 3) := by decide +kernel
theorem dX1_count_50 : decode cX1_count 50 = .ok (.ireturn, 1) := by decide +kernel
theorem dX1_count_51 : decode cX1_count 51 = .ok (.iconst 0, 1) := by decide +kernel
theorem dX1_count_52 : decode cX1_count 52 = .ok (.istore_n 2, 1) := by decide +kernel
theorem dX1_count_53 : decode cX1_count 53 = .ok (.iconst 0, 1) := by decide +kernel
theorem dX1_count_54 : decode cX1_count 54 = .ok (.istore_n 3, 1) := by decide +kernel
theorem dX1_count_55 : decode cX1_count 55 = .ok (.iload_n 3, 1) := by decide +kernel
theorem dX1_count_56 : decode cX1_count 56 = .ok (.bipush 12, 2) := by decide +kernel
theorem dX1_count_58 : decode cX1_count 58 = .ok (.if_icmp .ge 56, 3) := by decide +kernel
theorem dX1_count_61 : decode cX1_count 61 = .ok (.iconst 1, 1) := by decide +kernel
theorem dX1_count_62 : decode cX1_count 62 = .ok (.istore 4, 2) := by decide +kernel
theorem dX1_count_64 : decode cX1_count 64 = .ok (.iconst 0, 1) := by decide +kernel
theorem dX1_count_65 : decode cX1_count 65 = .ok (.istore 5, 2) := by decide +kernel
theorem dX1_count_67 : decode cX1_count 67 = .ok (.iload 5, 2) := by decide +kernel
theorem dX1_count_69 : decode cX1_count 69 = .ok (.bipush 16, 2) := by decide +kernel
theorem dX1_count_71 : decode cX1_count 71 = .ok (.if_icmp .ge 29, 3) := by decide +kernel
theorem dX1_count_74 : decode cX1_count 74 = .ok (.iload 4, 2) := by decide +kernel
theorem dX1_count_76 : decode cX1_count 76 = .ok (.aload_n 0, 1) := by decide +kernel
theorem dX1_count_77 : decode cX1_count 77 = .ok (.iload_n 3, 1) := by decide +kernel
theorem dX1_count_78 : decode cX1_count 78 = .ok (.iload 5, 2) := by decide +kernel
theorem dX1_count_80 : decode cX1_count 80 = .ok (.invokevirtual 45, 3) := by decide +kernel
theorem dX1_count_83 : decode cX1_count 83 = .ok (.ifCond .ne 7, 3) := by decide +kernel
theorem dX1_count_86 : decode cX1_count 86 = .ok (.iconst 1, 1) := by decide +kernel
theorem dX1_count_87 : decode cX1_count 87 = .ok (.goto 4, 3) := by decide +kernel
theorem dX1_count_90 : decode cX1_count 90 = .ok (.iconst 0, 1) := by decide +kernel
theorem dX1_count_91 : decode cX1_count 91 = .ok (.iand, 1) := by decide +kernel
theorem dX1_count_92 : decode cX1_count 92 = .ok (.istore 4, 2) := by decide +kernel
theorem dX1_count_94 : decode cX1_count 94 = .ok (.iinc 5 1, 3) := by decide +kernel
theorem dX1_count_97 : decode cX1_count 97 = .ok (.goto (-30), 3) := by decide +kernel
theorem dX1_count_100 : decode cX1_count 100 = .ok (.iload 4, 2) := by decide +kernel
theorem dX1_count_102 : decode cX1_count 102 = .ok (.ifCond .eq 6, 3) := by decide +kernel
theorem dX1_count_105 : decode cX1_count 105 = .ok (.iinc 2 1, 3) := by decide +kernel
theorem dX1_count_108 : decode cX1_count 108 = .ok (.iinc 3 1, 3) := by decide +kernel
theorem dX1_count_111 : decode cX1_count 111 = .ok (.goto (-56), 3) := by decide +kernel
theorem dX1_count_114 : decode cX1_count 114 = .ok (.iload_n 2, 1) := by decide +kernel
theorem dX1_count_115 : decode cX1_count 115 = .ok (.ireturn, 1) := by decide +kernel
theorem dX1_count_116 : decode cX1_count 116 = .ok (.iconst (-1), 1) := by decide +kernel
theorem dX1_count_117 : decode cX1_count 117 = .ok (.ireturn, 1) := by decide +kernel
theorem dL_begin_0 : decode cL_begin 0 = .ok (.aload_n 2, 1) := by decide +kernel
theorem dL_begin_1 : decode cL_begin 1 = .ok (.iconst 0, 1) := by decide +kernel
theorem dL_begin_2 : decode cL_begin 2 = .ok (.aload_n 0, 1) := by decide +kernel
theorem dL_begin_3 : decode cL_begin 3 = .ok (.iload_n 1, 1) := by decide +kernel
theorem dL_begin_4 : decode cL_begin 4 = .ok (.invokevirtual 7, 3) := by decide +kernel
theorem dL_begin_7 : decode cL_begin 7 = .ok (.i2l, 1) := by decide +kernel
theorem dL_begin_8 : decode cL_begin 8 = .ok (.lastore, 1) := by decide +kernel
theorem dL_begin_9 : decode cL_begin 9 = .ok (.goto 6, 3) := by decide +kernel
theorem dL_begin_12 : decode cL_begin 12 = .ok (.astore_n 3, 1) := by decide +kernel
theorem dL_begin_13 : decode cL_begin 13 = .ok (.iconst 1, 1) := by decide +kernel
theorem dL_begin_14 : decode cL_begin 14 = .ok (.ireturn, 1) := by decide +kernel
theorem dL_begin_15 : decode cL_begin 15 = .ok (.iconst 0, 1) := by decide +kernel
theorem dL_begin_16 : decode cL_begin 16 = .ok (.ireturn, 1) := by decide +kernel
theorem dL_set_0 : decode cL_set 0 = .ok (.aload 4, 2) := by decide +kernel
theorem dL_set_2 : decode cL_set 2 = .ok (.iconst 0, 1) := by decide +kernel
theorem dL_set_3 : decode cL_set 3 = .ok (.aload_n 0, 1) := by decide +kernel
theorem dL_set_4 : decode cL_set 4 = .ok (.iload_n 1, 1) := by decide +kernel
theorem dL_set_5 : decode cL_set 5 = .ok (.iload_n 2, 1) := by decide +kernel
theorem dL_set_6 : decode cL_set 6 = .ok (.iload_n 3, 1) := by decide +kernel
theorem dL_set_7 : decode cL_set 7 = .ok (.invokevirtual 15, 3) := by decide +kernel
theorem dL_set_10 : decode cL_set 10 = .ok (.i2l, 1) := by decide +kernel
theorem dL_set_11 : decode cL_set 11 = .ok (.lastore, 1) := by decide +kernel
theorem dL_set_12 : decode cL_set 12 = .ok (.goto 7, 3) := by decide +kernel
theorem dL_set_15 : decode cL_set 15 = .ok (.astore 5, 2) := by decide +kernel
theorem dL_set_17 : decode cL_set 17 = .ok (.iconst 1, 1) := by decide +kernel
theorem dL_set_18 : decode cL_set 18 = .ok (.ireturn, 1) := by decide +kernel
theorem dL_set_19 : decode cL_set 19 = .ok (.iconst 0, 1) := by decide +kernel
theorem dL_set_20 : decode cL_set 20 = .ok (.ireturn, 1) := by decide +kernel
theorem dL_get_0 : decode cL_get 0 = .ok (.aload_n 3, 1) := by decide +kernel
theorem dL_get_1 : decode cL_get 1 = .ok (.iconst 0, 1) := by decide +kernel
theorem dL_get_2 : decode cL_get 2 = .ok (.aload_n 0, 1) := by decide +kernel
theorem dL_get_3 : decode cL_get 3 = .ok (.iload_n 1, 1) := by decide +kernel
theorem dL_get_4 : decode cL_get 4 = .ok (.iload_n 2, 1) := by decide +kernel
theorem dL_get_5 : decode cL_get 5 = .ok (.invokevirtual 21, 3) := by decide +kernel
theorem dL_get_8 : decode cL_get 8 = .ok (.i2l, 1) := by decide +kernel
theorem dL_get_9 : decode cL_get 9 = .ok (.lastore, 1) := by decide +kernel
theorem dL_get_10 : decode cL_get 10 = .ok (.goto 7, 3) := by decide +kernel
theorem dL_get_13 : decode cL_get 13 = .ok (.astore 4, 2) := by decide +kernel
theorem dL_get_15 : decode cL_get 15 = .ok (.iconst 1, 1) := by decide +kernel
theorem dL_get_16 : decode cL_get 16 = .ok (.ireturn, 1) := by decide +kernel
theorem dL_get_17 : decode cL_get 17 = .ok (.iconst 0, 1) := by decide +kernel
theorem dL_get_18 : decode cL_get 18 = .ok (.ireturn, 1) := by decide +kernel
theorem dL_join_0 : decode cL_join 0 = .ok (.aload 5, 2) := by decide +kernel
theorem dL_join_2 : decode cL_join 2 = .ok (.iconst 0, 1) := by decide +kernel
theorem dL_join_3 : decode cL_join 3 = .ok (.aload_n 0, 1) := by decide +kernel
theorem dL_join_4 : decode cL_join 4 = .ok (.iload_n 1, 1) := by decide +kernel
theorem dL_join_5 : decode cL_join 5 = .ok (.iload_n 2, 1) := by decide +kernel
theorem dL_join_6 : decode cL_join 6 = .ok (.iload_n 3, 1) := by decide +kernel
theorem dL_join_7 : decode cL_join 7 = .ok (.iload 4, 2) := by decide +kernel
theorem dL_join_9 : decode cL_join 9 = .ok (.invokevirtual 25, 3) := by decide +kernel
theorem dL_join_12 : decode cL_join 12 = .ok (.i2l, 1) := by decide +kernel
theorem dL_join_13 : decode cL_join 13 = .ok (.lastore, 1) := by decide +kernel
theorem dL_join_14 : decode cL_join 14 = .ok (.goto 11, 3) := by decide +kernel
theorem dL_join_17 : decode cL_join 17 = .ok (.astore 6, 2) := by decide +kernel
theorem dL_join_19 : decode cL_join 19 = .ok (.iconst 1, 1) := by decide +kernel
theorem dL_join_20 : decode cL_join 20 = .ok (.ireturn, 1) := by decide +kernel
theorem dL_join_21 : decode cL_join 21 = .ok (.astore 6, 2) := by decide +kernel
theorem dL_join_23 : decode cL_join 23 = .ok (.iconst 2, 1) := by decide +kernel
theorem dL_join_24 : decode cL_join 24 = .ok (.ireturn, 1) := by decide +kernel
theorem dL_join_25 : decode cL_join 25 = .ok (.iconst 0, 1) := by decide +kernel
theorem dL_join_26 : decode cL_join 26 = .ok (.ireturn, 1) := by decide +kernel
theorem dL_round_0 : decode cL_round 0 = .ok (.aload 5, 2) := by decide +kernel
theorem dL_round_2 : decode cL_round 2 = .ok (.iconst 0, 1) := by decide +kernel
theorem dL_round_3 : decode cL_round 3 = .ok (.aload_n 0, 1) := by decide +kernel
theorem dL_round_4 : decode cL_round 4 = .ok (.iload_n 1, 1) := by decide +kernel
theorem dL_round_5 : decode cL_round 5 = .ok (.iload_n 2, 1) := by decide +kernel
theorem dL_round_6 : decode cL_round 6 = .ok (.iload_n 3, 1) := by decide +kernel
theorem dL_round_7 : decode cL_round 7 = .ok (.iload 4, 2) := by decide +kernel
theorem dL_round_9 : decode cL_round 9 = .ok (.invokevirtual 29, 3) := by decide +kernel
theorem dL_round_12 : decode cL_round 12 = .ok (.i2l, 1) := by decide +kernel
theorem dL_round_13 : decode cL_round 13 = .ok (.lastore, 1) := by decide +kernel
theorem dL_round_14 : decode cL_round 14 = .ok (.goto 11, 3) := by decide +kernel
theorem dL_round_17 : decode cL_round 17 = .ok (.astore 6, 2) := by decide +kernel
theorem dL_round_19 : decode cL_round 19 = .ok (.iconst 1, 1) := by decide +kernel
theorem dL_round_20 : decode cL_round 20 = .ok (.ireturn, 1) := by decide +kernel
theorem dL_round_21 : decode cL_round 21 = .ok (.astore 6, 2) := by decide +kernel
theorem dL_round_23 : decode cL_round 23 = .ok (.iconst 2, 1) := by decide +kernel
theorem dL_round_24 : decode cL_round 24 = .ok (.ireturn, 1) := by decide +kernel
theorem dL_round_25 : decode cL_round 25 = .ok (.iconst 0, 1) := by decide +kernel
theorem dL_round_26 : decode cL_round 26 = .ok (.ireturn, 1) := by decide +kernel
theorem dL_part_0 : decode cL_part 0 = .ok (.aload 5, 2) := by decide +kernel
theorem dL_part_2 : decode cL_part 2 = .ok (.iconst 0, 1) := by decide +kernel
theorem dL_part_3 : decode cL_part 3 = .ok (.aload_n 0, 1) := by decide +kernel
theorem dL_part_4 : decode cL_part 4 = .ok (.iload_n 1, 1) := by decide +kernel
theorem dL_part_5 : decode cL_part 5 = .ok (.iload_n 2, 1) := by decide +kernel
theorem dL_part_6 : decode cL_part 6 = .ok (.iload_n 3, 1) := by decide +kernel
theorem dL_part_7 : decode cL_part 7 = .ok (.iload 4, 2) := by decide +kernel
theorem dL_part_9 : decode cL_part 9 = .ok (.invokevirtual 32, 3) := by decide +kernel
theorem dL_part_12 : decode cL_part 12 = .ok (.i2l, 1) := by decide +kernel
theorem dL_part_13 : decode cL_part 13 = .ok (.lastore, 1) := by decide +kernel
theorem dL_part_14 : decode cL_part 14 = .ok (.goto 11, 3) := by decide +kernel
theorem dL_part_17 : decode cL_part 17 = .ok (.astore 6, 2) := by decide +kernel
theorem dL_part_19 : decode cL_part 19 = .ok (.iconst 1, 1) := by decide +kernel
theorem dL_part_20 : decode cL_part 20 = .ok (.ireturn, 1) := by decide +kernel
theorem dL_part_21 : decode cL_part 21 = .ok (.astore 6, 2) := by decide +kernel
theorem dL_part_23 : decode cL_part 23 = .ok (.iconst 2, 1) := by decide +kernel
theorem dL_part_24 : decode cL_part 24 = .ok (.ireturn, 1) := by decide +kernel
theorem dL_part_25 : decode cL_part 25 = .ok (.iconst 0, 1) := by decide +kernel
theorem dL_part_26 : decode cL_part 26 = .ok (.ireturn, 1) := by decide +kernel
theorem dL_hint_0 : decode cL_hint 0 = .ok (.aload 5, 2) := by decide +kernel
theorem dL_hint_2 : decode cL_hint 2 = .ok (.iconst 0, 1) := by decide +kernel
theorem dL_hint_3 : decode cL_hint 3 = .ok (.aload_n 0, 1) := by decide +kernel
theorem dL_hint_4 : decode cL_hint 4 = .ok (.iload_n 1, 1) := by decide +kernel
theorem dL_hint_5 : decode cL_hint 5 = .ok (.iload_n 2, 1) := by decide +kernel
theorem dL_hint_6 : decode cL_hint 6 = .ok (.iload_n 3, 1) := by decide +kernel
theorem dL_hint_7 : decode cL_hint 7 = .ok (.iload 4, 2) := by decide +kernel
theorem dL_hint_9 : decode cL_hint 9 = .ok (.invokevirtual 36, 3) := by decide +kernel
theorem dL_hint_12 : decode cL_hint 12 = .ok (.i2l, 1) := by decide +kernel
theorem dL_hint_13 : decode cL_hint 13 = .ok (.lastore, 1) := by decide +kernel
theorem dL_hint_14 : decode cL_hint 14 = .ok (.goto 11, 3) := by decide +kernel
theorem dL_hint_17 : decode cL_hint 17 = .ok (.astore 6, 2) := by decide +kernel
theorem dL_hint_19 : decode cL_hint 19 = .ok (.iconst 1, 1) := by decide +kernel
theorem dL_hint_20 : decode cL_hint 20 = .ok (.ireturn, 1) := by decide +kernel
theorem dL_hint_21 : decode cL_hint 21 = .ok (.astore 6, 2) := by decide +kernel
theorem dL_hint_23 : decode cL_hint 23 = .ok (.iconst 2, 1) := by decide +kernel
theorem dL_hint_24 : decode cL_hint 24 = .ok (.ireturn, 1) := by decide +kernel
theorem dL_hint_25 : decode cL_hint 25 = .ok (.iconst 0, 1) := by decide +kernel
theorem dL_hint_26 : decode cL_hint 26 = .ok (.ireturn, 1) := by decide +kernel
theorem dL_use_0 : decode cL_use 0 = .ok (.aload 5, 2) := by decide +kernel
theorem dL_use_2 : decode cL_use 2 = .ok (.iconst 0, 1) := by decide +kernel
theorem dL_use_3 : decode cL_use 3 = .ok (.aload_n 0, 1) := by decide +kernel
theorem dL_use_4 : decode cL_use 4 = .ok (.iload_n 1, 1) := by decide +kernel
theorem dL_use_5 : decode cL_use 5 = .ok (.iload_n 2, 1) := by decide +kernel
theorem dL_use_6 : decode cL_use 6 = .ok (.iload_n 3, 1) := by decide +kernel
theorem dL_use_7 : decode cL_use 7 = .ok (.iload 4, 2) := by decide +kernel
theorem dL_use_9 : decode cL_use 9 = .ok (.invokevirtual 39, 3) := by decide +kernel
theorem dL_use_12 : decode cL_use 12 = .ok (.i2l, 1) := by decide +kernel
theorem dL_use_13 : decode cL_use 13 = .ok (.lastore, 1) := by decide +kernel
theorem dL_use_14 : decode cL_use 14 = .ok (.goto 11, 3) := by decide +kernel
theorem dL_use_17 : decode cL_use 17 = .ok (.astore 6, 2) := by decide +kernel
theorem dL_use_19 : decode cL_use 19 = .ok (.iconst 1, 1) := by decide +kernel
theorem dL_use_20 : decode cL_use 20 = .ok (.ireturn, 1) := by decide +kernel
theorem dL_use_21 : decode cL_use 21 = .ok (.astore 6, 2) := by decide +kernel
theorem dL_use_23 : decode cL_use 23 = .ok (.iconst 2, 1) := by decide +kernel
theorem dL_use_24 : decode cL_use 24 = .ok (.ireturn, 1) := by decide +kernel
theorem dL_use_25 : decode cL_use 25 = .ok (.iconst 0, 1) := by decide +kernel
theorem dL_use_26 : decode cL_use 26 = .ok (.ireturn, 1) := by decide +kernel
theorem dL_size_0 : decode cL_size 0 = .ok (.aload_n 2, 1) := by decide +kernel
theorem dL_size_1 : decode cL_size 1 = .ok (.iconst 0, 1) := by decide +kernel
theorem dL_size_2 : decode cL_size 2 = .ok (.aload_n 0, 1) := by decide +kernel
theorem dL_size_3 : decode cL_size 3 = .ok (.iload_n 1, 1) := by decide +kernel
theorem dL_size_4 : decode cL_size 4 = .ok (.invokevirtual 42, 3) := by decide +kernel
theorem dL_size_7 : decode cL_size 7 = .ok (.i2l, 1) := by decide +kernel
theorem dL_size_8 : decode cL_size 8 = .ok (.lastore, 1) := by decide +kernel
theorem dL_size_9 : decode cL_size 9 = .ok (.goto 6, 3) := by decide +kernel
theorem dL_size_12 : decode cL_size 12 = .ok (.astore_n 3, 1) := by decide +kernel
theorem dL_size_13 : decode cL_size 13 = .ok (.iconst 1, 1) := by decide +kernel
theorem dL_size_14 : decode cL_size 14 = .ok (.ireturn, 1) := by decide +kernel
theorem dL_size_15 : decode cL_size 15 = .ok (.iconst 0, 1) := by decide +kernel
theorem dL_size_16 : decode cL_size 16 = .ok (.ireturn, 1) := by decide +kernel
theorem dL_far_0 : decode cL_far 0 = .ok (.aload_n 3, 1) := by decide +kernel
theorem dL_far_1 : decode cL_far 1 = .ok (.iconst 0, 1) := by decide +kernel
theorem dL_far_2 : decode cL_far 2 = .ok (.aload_n 0, 1) := by decide +kernel
theorem dL_far_3 : decode cL_far 3 = .ok (.iload_n 1, 1) := by decide +kernel
theorem dL_far_4 : decode cL_far 4 = .ok (.iload_n 2, 1) := by decide +kernel
theorem dL_far_5 : decode cL_far 5 = .ok (.invokevirtual 45, 3) := by decide +kernel
theorem dL_far_8 : decode cL_far 8 = .ok (.i2l, 1) := by decide +kernel
theorem dL_far_9 : decode cL_far 9 = .ok (.lastore, 1) := by decide +kernel
theorem dL_far_10 : decode cL_far 10 = .ok (.goto 7, 3) := by decide +kernel
theorem dL_far_13 : decode cL_far 13 = .ok (.astore 4, 2) := by decide +kernel
theorem dL_far_15 : decode cL_far 15 = .ok (.iconst 1, 1) := by decide +kernel
theorem dL_far_16 : decode cL_far 16 = .ok (.ireturn, 1) := by decide +kernel
theorem dL_far_17 : decode cL_far 17 = .ok (.iconst 0, 1) := by decide +kernel
theorem dL_far_18 : decode cL_far 18 = .ok (.ireturn, 1) := by decide +kernel
