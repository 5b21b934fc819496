theorem dX0_value_0 : decode cX0_value 0 = .ok (.iload_n 1, 1) := by decide +kernel
theorem dX0_value_1 : decode cX0_value 1 = .ok (.invokestatic 33, 3) := by decide +kernel
theorem dX0_value_4 : decode cX0_value 4 = .ok (.iload_n 2, 1) := by decide +kernel
theorem dX0_value_5 : decode cX0_value 5 = .ok (.invokestatic 36, 3) := by decide +kernel
theorem dX0_value_8 : decode cX0_value 8 = .ok (.aload_n 0, 1) := by decide +kernel
theorem dX0_value_9 : decode cX0_value 9 = .ok (.getfield 62, 3) := by decide +kernel
theorem dX0_value_12 : decode cX0_value 12 = .ok (.ifCond .ne 33, 3) := by decide +kernel
theorem dX0_value_15 : decode cX0_value 15 = .ok (.aload_n 0, 1) := by decide +kernel
theorem dX0_value_16 : decode cX0_value 16 = .ok (.aload_n 0, 1) := by decide +kernel
theorem dX0_value_17 : decode cX0_value 17 = .ok (.getfield 11, 3) := by decide +kernel
theorem dX0_value_20 : decode cX0_value 20 = .ok (.iload_n 1, 1) := by decide +kernel
theorem dX0_value_21 : decode cX0_value 21 = .ok (.aaload, 1) := by decide +kernel
theorem dX0_value_22 : decode cX0_value 22 = .ok (.iload_n 2, 1) := by decide +kernel
theorem dX0_value_23 : decode cX0_value 23 = .ok (.iconst 2, 1) := by decide +kernel
theorem dX0_value_24 : decode cX0_value 24 = .ok (.irem, 1) := by decide +kernel
theorem dX0_value_25 : decode cX0_value 25 = .ok (.iconst 2, 1) := by decide +kernel
theorem dX0_value_26 : decode cX0_value 26 = .ok (.aload_n 0, 1) := by decide +kernel
theorem dX0_value_27 : decode cX0_value 27 = .ok (.aload_n 0, 1) := by decide +kernel
theorem dX0_value_28 : decode cX0_value 28 = .ok (.getfield 93, 3) := by decide +kernel
theorem dX0_value_31 : decode cX0_value 31 = .ok (.iconst 2, 1) := by decide +kernel
theorem dX0_value_32 : decode cX0_value 32 = .ok (.iload_n 2, 1) := by decide +kernel
theorem dX0_value_33 : decode cX0_value 33 = .ok (.iconst 2, 1) := by decide +kernel
theorem dX0_value_34 : decode cX0_value 34 = .ok (.idiv, 1) := by decide +kernel
theorem dX0_value_35 : decode cX0_value 35 = .ok (.imul, 1) := by decide +kernel
theorem dX0_value_36 : decode cX0_value 36 = .ok (.iconst 1, 1) := by decide +kernel
theorem dX0_value_37 : decode cX0_value 37 = .ok (.iadd, 1) := by decide +kernel
theorem dX0_value_38 : decode cX0_value 38 = .ok (.invokevirtual 96, 3) := by decide +kernel
theorem dX0_value_41 : decode cX0_value 41 = .ok (.invokevirtual 99, 3) := by decide +kernel
theorem dX0_value_44 : decode cX0_value 44 = .ok (.ireturn, 1) := by decide +kernel
theorem dX0_value_45 : decode cX0_value 45 = .ok (.aload_n 0, 1) := by decide +kernel
theorem dX0_value_46 : decode cX0_value 46 = .ok (.aload_n 0, 1) := by decide +kernel
theorem dX0_value_47 : decode cX0_value 47 = .ok (.getfield 11, 3) := by decide +kernel
theorem dX0_value_50 : decode cX0_value 50 = .ok (.iload_n 1, 1) := by decide +kernel
theorem dX0_value_51 : decode cX0_value 51 = .ok (.aaload, 1) := by decide +kernel
theorem dX0_value_52 : decode cX0_value 52 = .ok (.iconst 0, 1) := by decide +kernel
theorem dX0_value_53 : decode cX0_value 53 = .ok (.iconst 1, 1) := by decide +kernel
theorem dX0_value_54 : decode cX0_value 54 = .ok (.aload_n 0, 1) := by decide +kernel
theorem dX0_value_55 : decode cX0_value 55 = .ok (.aload_n 0, 1) := by decide +kernel
theorem dX0_value_56 : decode cX0_value 56 = .ok (.getfield 93, 3) := by decide +kernel
theorem dX0_value_59 : decode cX0_value 59 = .ok (.iconst 2, 1) := by decide +kernel
theorem dX0_value_60 : decode cX0_value 60 = .ok (.iload_n 2, 1) := by decide +kernel
theorem dX0_value_61 : decode cX0_value 61 = .ok (.imul, 1) := by decide +kernel
theorem dX0_value_62 : decode cX0_value 62 = .ok (.iconst 1, 1) := by decide +kernel
theorem dX0_value_63 : decode cX0_value 63 = .ok (.iadd, 1) := by decide +kernel
theorem dX0_value_64 : decode cX0_value 64 = .ok (.invokevirtual 96, 3) := by decide +kernel
theorem dX0_value_67 : decode cX0_value 67 = .ok (.invokevirtual 99, 3) := by decide +kernel
theorem dX0_value_70 : decode cX0_value 70 = .ok (.ireturn, 1) := by decide +kernel
theorem dX0_unit_0 : decode cX0_unit 0 = .ok (.iload_n 1, 1) := by decide +kernel
theorem dX0_unit_1 : decode cX0_unit 1 = .ok (.invokestatic 33, 3) := by decide +kernel
theorem dX0_unit_4 : decode cX0_unit 4 = .ok (.aload_n 0, 1) := by decide +kernel
theorem dX0_unit_5 : decode cX0_unit 5 = .ok (.getstatic 103, 3) := by decide +kernel
theorem dX0_unit_8 : decode cX0_unit 8 = .ok (.aload_n 0, 1) := by decide +kernel
theorem dX0_unit_9 : decode cX0_unit 9 = .ok (.getfield 62, 3) := by decide +kernel
theorem dX0_unit_12 : decode cX0_unit 12 = .ok (.iaload, 1) := by decide +kernel
theorem dX0_unit_13 : decode cX0_unit 13 = .ok (.getstatic 106, 3) := by decide +kernel
theorem dX0_unit_16 : decode cX0_unit 16 = .ok (.aload_n 0, 1) := by decide +kernel
theorem dX0_unit_17 : decode cX0_unit 17 = .ok (.getfield 62, 3) := by decide +kernel
theorem dX0_unit_20 : decode cX0_unit 20 = .ok (.iaload, 1) := by decide +kernel
theorem dX0_unit_21 : decode cX0_unit 21 = .ok (.invokevirtual 96, 3) := by decide +kernel
theorem dX0_unit_24 : decode cX0_unit 24 = .ok (.istore_n 2, 1) := by decide +kernel
theorem dX0_unit_25 : decode cX0_unit 25 = .ok (.iconst 0, 1) := by decide +kernel
theorem dX0_unit_26 : decode cX0_unit 26 = .ok (.istore_n 3, 1) := by decide +kernel
theorem dX0_unit_27 : decode cX0_unit 27 = .ok (.iload_n 3, 1) := by decide +kernel
theorem dX0_unit_28 : decode cX0_unit 28 = .ok (.bipush 16, 2) := by decide +kernel
theorem dX0_unit_30 : decode cX0_unit 30 = .ok (.if_icmp .ge 36, 3) := by decide +kernel
theorem dX0_unit_33 : decode cX0_unit 33 = .ok (.aload_n 0, 1) := by decide +kernel
theorem dX0_unit_34 : decode cX0_unit 34 = .ok (.aload_n 0, 1) := by decide +kernel
theorem dX0_unit_35 : decode cX0_unit 35 = .ok (.getfield 11, 3) := by decide +kernel
theorem dX0_unit_38 : decode cX0_unit 38 = .ok (.iload_n 1, 1) := by decide +kernel
theorem dX0_unit_39 : decode cX0_unit 39 = .ok (.aaload, 1) := by decide +kernel
theorem dX0_unit_40 : decode cX0_unit 40 = .ok (.iconst 0, 1) := by decide +kernel
theorem dX0_unit_41 : decode cX0_unit 41 = .ok (.iconst 1, 1) := by decide +kernel
theorem dX0_unit_42 : decode cX0_unit 42 = .ok (.aload_n 0, 1) := by decide +kernel
theorem dX0_unit_43 : decode cX0_unit 43 = .ok (.iload_n 2, 1) := by decide +kernel
theorem dX0_unit_44 : decode cX0_unit 44 = .ok (.iconst 2, 1) := by decide +kernel
theorem dX0_unit_45 : decode cX0_unit 45 = .ok (.iload_n 3, 1) := by decide +kernel
theorem dX0_unit_46 : decode cX0_unit 46 = .ok (.imul, 1) := by decide +kernel
theorem dX0_unit_47 : decode cX0_unit 47 = .ok (.iconst 1, 1) := by decide +kernel
theorem dX0_unit_48 : decode cX0_unit 48 = .ok (.iadd, 1) := by decide +kernel
theorem dX0_unit_49 : decode cX0_unit 49 = .ok (.invokevirtual 96, 3) := by decide +kernel
theorem dX0_unit_52 : decode cX0_unit 52 = .ok (.invokevirtual 99, 3) := by decide +kernel
theorem dX0_unit_55 : decode cX0_unit 55 = .ok (.ifCond .ne 5, 3) := by decide +kernel
theorem dX0_unit_58 : decode cX0_unit 58 = .ok (.iconst 0, 1) := by decide +kernel
theorem dX0_unit_59 : decode cX0_unit 59 = .ok (.ireturn, 1) := by decide +kernel
theorem dX0_unit_60 : decode cX0_unit 60 = .ok (.iinc 3 1, 3) := by decide +kernel
theorem dX0_unit_63 : decode cX0_unit 63 = .ok (.goto (-36), 3) := by decide +kernel
theorem dX0_unit_66 : decode cX0_unit 66 = .ok (.iconst 1, 1) := by decide +kernel
theorem dX0_unit_67 : decode cX0_unit 67 = .ok (.ireturn, 1) := by decide +kernel
theorem dX0_count_0 : decode cX0_count 0 = .ok (.iload_n 1, 1) := by decide +kernel
theorem dX0_count_1 : decode cX0_count 1 = .ok (.tableswitch 51 0 3 #[31, 36, 41, 46], 31) := by decide +kernel
theorem dX0_count_32 : decode cX0_count 32 = .ok (.aload_n 0, 1) := by decide +kernel
theorem dX0_count_33 : decode cX0_count 33 = .ok (.getfield 62, 3) := by decide +kernel
theorem dX0_count_36 : decode cX0_count 36 = .ok (.ireturn, 1) := by decide +kernel
theorem dX0_count_37 : decode cX0_count 37 = .ok (.aload_n 0, 1) := by decide +kernel
theorem dX0_count_38 : decode cX0_count 38 = .ok (.getfield 29, 3) := by decide +kernel
theorem dX0_count_41 : decode cX0_count 41 = .ok (.ireturn, 1) := by decide +kernel
theorem dX0_count_42 : decode cX0_count 42 = .ok (.aload_n 0, 1) := by decide +kernel
theorem dX0_count_43 : decode cX0_count 43 = .ok (.getfield 93, 3) := by decide +kernel
theorem dX0_count_46 : decode cX0_count 46 = .ok (.ireturn, 1) := by decide +kernel
theorem dX0_count_47 : decode cX0_count 47 = .ok (.aload_n 0, 1) := by decide +kernel
theorem dX0_count_48 : decode cX0_count 48 = .ok (.invokevirtual 109, 3) := by decide +kernel
theorem dX0_count_51 : decode cX0_count 51 = .ok (.ireturn, 1) := by decide +kernel
theorem dX0_count_52 : decode cX0_count 52 = .ok (.iconst (-1), 1) := by decide +kernel
theorem dX0_count_53 : decode cX0_count 53 = .ok (.ireturn, 1) := by decide +kernel
theorem dX0_needRegister_0 : decode cX0_needRegister 0 = .ok (.iload_n 0, 1) := by decide +kernel
theorem dX0_needRegister_1 : decode cX0_needRegister 1 = .ok (.ifCond .lt 9, 3) := by decide +kernel
theorem dX0_needRegister_4 : decode cX0_needRegister 4 = .ok (.iload_n 0, 1) := by decide +kernel
theorem dX0_needRegister_5 : decode cX0_needRegister 5 = .ok (.bipush 12, 2) := by decide +kernel
theorem dX0_needRegister_7 : decode cX0_needRegister 7 = .ok (.if_icmp .lt 13, 3) := by decide +kernel
theorem dX0_needRegister_10 : decode cX0_needRegister 10 = .ok (.new 113, 3) := by decide +kernel
theorem dX0_needRegister_13 : decode cX0_needRegister 13 = .ok (.dup, 1) := by decide +kernel
theorem dX0_needRegister_14 : decode cX0_needRegister 14 = .ok (.ldc 115, 2) := by decide +kernel
theorem dX0_needRegister_16 : decode cX0_needRegister 16 = .ok (.invokespecial 117, 3) := by decide +kernel
theorem dX0_needRegister_19 : decode cX0_needRegister 19 = .ok (.athrow, 1) := by decide +kernel
theorem dX0_needRegister_20 : decode cX0_needRegister 20 = .ok (.return_, 1) := by decide +kernel
theorem dX0_needPlace_0 : decode cX0_needPlace 0 = .ok (.iload_n 0, 1) := by decide +kernel
theorem dX0_needPlace_1 : decode cX0_needPlace 1 = .ok (.ifCond .lt 9, 3) := by decide +kernel
theorem dX0_needPlace_4 : decode cX0_needPlace 4 = .ok (.iload_n 0, 1) := by decide +kernel
theorem dX0_needPlace_5 : decode cX0_needPlace 5 = .ok (.bipush 16, 2) := by decide +kernel
theorem dX0_needPlace_7 : decode cX0_needPlace 7 = .ok (.if_icmp .lt 13, 3) := by decide +kernel
theorem dX0_needPlace_10 : decode cX0_needPlace 10 = .ok (.new 113, 3) := by decide +kernel
theorem dX0_needPlace_13 : decode cX0_needPlace 13 = .ok (.dup, 1) := by decide +kernel
theorem dX0_needPlace_14 : decode cX0_needPlace 14 = .ok (.ldc 120, 2) := by decide +kernel
theorem dX0_needPlace_16 : decode cX0_needPlace 16 = .ok (.invokespecial 117, 3) := by decide +kernel
theorem dX0_needPlace_19 : decode cX0_needPlace 19 = .ok (.athrow, 1) := by decide +kernel
theorem dX0_needPlace_20 : decode cX0_needPlace 20 = .ok (.return_, 1) := by decide +kernel
theorem dX0_needArgument_0 : decode cX0_needArgument 0 = .ok (.iload_n 0, 1) := by decide +kernel
theorem dX0_needArgument_1 : decode cX0_needArgument 1 = .ok (.ifCond .ne 13, 3) := by decide +kernel
theorem dX0_needArgument_4 : decode cX0_needArgument 4 = .ok (.new 122, 3) := by decide +kernel
theorem dX0_needArgument_7 : decode cX0_needArgument 7 = .ok (.dup, 1) := by decide +kernel
theorem dX0_needArgument_8 : decode cX0_needArgument 8 = .ok (.ldc 124, 2) := by decide +kernel
theorem dX0_needArgument_10 : decode cX0_needArgument 10 = .ok (.invokespecial 126, 3) := by decide +kernel
theorem dX0_needArgument_13 : decode cX0_needArgument 13 = .ok (.athrow, 1) := by decide +kernel
theorem dX0_needArgument_14 : decode cX0_needArgument 14 = .ok (.return_, 1) := by decide +kernel
theorem dX0_takeKind_0 : decode cX0_takeKind 0 = .ok (.aload_n 0, 1) := by decide +kernel
theorem dX0_takeKind_1 : decode cX0_takeKind 1 = .ok (.iload_n 1, 1) := by decide +kernel
theorem dX0_takeKind_2 : decode cX0_takeKind 2 = .ok (.putfield 62, 3) := by decide +kernel
theorem dX0_takeKind_5 : decode cX0_takeKind 5 = .ok (.aload_n 0, 1) := by decide +kernel
theorem dX0_takeKind_6 : decode cX0_takeKind 6 = .ok (.getstatic 22, 3) := by decide +kernel
theorem dX0_takeKind_9 : decode cX0_takeKind 9 = .ok (.iload_n 1, 1) := by decide +kernel
theorem dX0_takeKind_10 : decode cX0_takeKind 10 = .ok (.iaload, 1) := by decide +kernel
theorem dX0_takeKind_11 : decode cX0_takeKind 11 = .ok (.putfield 29, 3) := by decide +kernel
theorem dX0_takeKind_14 : decode cX0_takeKind 14 = .ok (.aload_n 0, 1) := by decide +kernel
theorem dX0_takeKind_15 : decode cX0_takeKind 15 = .ok (.aload_n 0, 1) := by decide +kernel
theorem dX0_takeKind_16 : decode cX0_takeKind 16 = .ok (.getstatic 103, 3) := by decide +kernel
theorem dX0_takeKind_19 : decode cX0_takeKind 19 = .ok (.iload_n 1, 1) := by decide +kernel
theorem dX0_takeKind_20 : decode cX0_takeKind 20 = .ok (.iaload, 1) := by decide +kernel
theorem dX0_takeKind_21 : decode cX0_takeKind 21 = .ok (.bipush 16, 2) := by decide +kernel
theorem dX0_takeKind_23 : decode cX0_takeKind 23 = .ok (.invokevirtual 96, 3) := by decide +kernel
theorem dX0_takeKind_26 : decode cX0_takeKind 26 = .ok (.putfield 93, 3) := by decide +kernel
theorem dX0_takeKind_29 : decode cX0_takeKind 29 = .ok (.return_, 1) := by decide +kernel
theorem dX0_power_0 : decode cX0_power 0 = .ok (.lconst 1, 1) := by decide +kernel
theorem dX0_power_1 : decode cX0_power 1 = .ok (.lstore_n 3, 1) := by decide +kernel
theorem dX0_power_2 : decode cX0_power 2 = .ok (.iconst 0, 1) := by decide +kernel
theorem dX0_power_3 : decode cX0_power 3 = .ok (.istore 5, 2) := by decide +kernel
theorem dX0_power_5 : decode cX0_power 5 = .ok (.iload 5, 2) := by decide +kernel
theorem dX0_power_7 : decode cX0_power 7 = .ok (.iload_n 2, 1) := by decide +kernel
theorem dX0_power_8 : decode cX0_power 8 = .ok (.if_icmp .ge 20, 3) := by decide +kernel
theorem dX0_power_11 : decode cX0_power 11 = .ok (.lload_n 3, 1) := by decide +kernel
theorem dX0_power_12 : decode cX0_power 12 = .ok (.iload_n 1, 1) := by decide +kernel
theorem dX0_power_13 : decode cX0_power 13 = .ok (.i2l, 1) := by decide +kernel
theorem dX0_power_14 : decode cX0_power 14 = .ok (.lmul, 1) := by decide +kernel
theorem dX0_power_15 : decode cX0_power 15 = .ok (.aload_n 0, 1) := by decide +kernel
theorem dX0_power_16 : decode cX0_power 16 = .ok (.getfield 29, 3) := by decide +kernel
theorem dX0_power_19 : decode cX0_power 19 = .ok (.i2l, 1) := by decide +kernel
theorem dX0_power_20 : decode cX0_power 20 = .ok (.lrem, 1) := by decide +kernel
theorem dX0_power_21 : decode cX0_power 21 = .ok (.lstore_n 3, 1) := by decide +kernel
theorem dX0_power_22 : decode cX0_power 22 = .ok (.iinc 5 1, 3) := by decide +kernel
theorem dX0_power_25 : decode cX0_power 25 = .ok (.goto (-20), 3) := by decide +kernel
theorem dX0_power_28 : decode cX0_power 28 = .ok (.lload_n 3, 1) := by decide +kernel
theorem dX0_power_29 : decode cX0_power 29 = .ok (.l2i, 1) := by decide +kernel
theorem dX0_power_30 : decode cX0_power 30 = .ok (.ireturn, 1) := by decide +kernel
theorem dX0_joined_0 : decode cX0_joined 0 = .ok (.iload_n 1, 1) := by decide +kernel
theorem dX0_joined_1 : decode cX0_joined 1 = .ok (.lookupswitch 59 #[(0, 27), (1, 42)], 27) := by decide +kernel
theorem dX0_joined_28 : decode cX0_joined 28 = .ok (.aload_n 2, 1) := by decide +kernel
theorem dX0_joined_29 : decode cX0_joined 29 = .ok (.iload 4, 2) := by decide +kernel
theorem dX0_joined_31 : decode cX0_joined 31 = .ok (.iaload, 1) := by decide +kernel
theorem dX0_joined_32 : decode cX0_joined 32 = .ok (.aload_n 3, 1) := by decide +kernel
theorem dX0_joined_33 : decode cX0_joined 33 = .ok (.iload 4, 2) := by decide +kernel
theorem dX0_joined_35 : decode cX0_joined 35 = .ok (.iaload, 1) := by decide +kernel
theorem dX0_joined_36 : decode cX0_joined 36 = .ok (.iadd, 1) := by decide +kernel
theorem dX0_joined_37 : decode cX0_joined 37 = .ok (.aload_n 0, 1) := by decide +kernel
theorem dX0_joined_38 : decode cX0_joined 38 = .ok (.getfield 29, 3) := by decide +kernel
theorem dX0_joined_41 : decode cX0_joined 41 = .ok (.irem, 1) := by decide +kernel
theorem dX0_joined_42 : decode cX0_joined 42 = .ok (.ireturn, 1) := by decide +kernel
theorem dX0_joined_43 : decode cX0_joined 43 = .ok (.aload_n 2, 1) := by decide +kernel
theorem dX0_joined_44 : decode cX0_joined 44 = .ok (.iload 4, 2) := by decide +kernel
theorem dX0_joined_46 : decode cX0_joined 46 = .ok (.iaload, 1) := by decide +kernel
theorem dX0_joined_47 : decode cX0_joined 47 = .ok (.aload_n 3, 1) := by decide +kernel
theorem dX0_joined_48 : decode cX0_joined 48 = .ok (.iload 4, 2) := by decide +kernel
theorem dX0_joined_50 : decode cX0_joined 50 = .ok (.iaload, 1) := by decide +kernel
theorem dX0_joined_51 : decode cX0_joined 51 = .ok (.isub, 1) := by decide +kernel
theorem dX0_joined_52 : decode cX0_joined 52 = .ok (.aload_n 0, 1) := by decide +kernel
theorem dX0_joined_53 : decode cX0_joined 53 = .ok (.getfield 29, 3) := by decide +kernel
theorem dX0_joined_56 : decode cX0_joined 56 = .ok (.invokestatic 39, 3) := by decide +kernel
theorem dX0_joined_59 : decode cX0_joined 59 = .ok (.ireturn, 1) := by decide +kernel
theorem dX0_joined_60 : decode cX0_joined 60 = .ok (.aload_n 0, 1) := by decide +kernel
theorem dX0_joined_61 : decode cX0_joined 61 = .ok (.aload_n 2, 1) := by decide +kernel
theorem dX0_joined_62 : decode cX0_joined 62 = .ok (.aload_n 3, 1) := by decide +kernel
theorem dX0_joined_63 : decode cX0_joined 63 = .ok (.iload 4, 2) := by decide +kernel
theorem dX0_joined_65 : decode cX0_joined 65 = .ok (.invokevirtual 127, 3) := by decide +kernel
theorem dX0_joined_68 : decode cX0_joined 68 = .ok (.ireturn, 1) := by decide +kernel
theorem dX0_productAt_0 : decode cX0_productAt 0 = .ok (.lconst 0, 1) := by decide +kernel
theorem dX0_productAt_1 : decode cX0_productAt 1 = .ok (.lstore 4, 2) := by decide +kernel
theorem dX0_productAt_3 : decode cX0_productAt 3 = .ok (.iconst 0, 1) := by decide +kernel
theorem dX0_productAt_4 : decode cX0_productAt 4 = .ok (.istore 6, 2) := by decide +kernel
theorem dX0_productAt_6 : decode cX0_productAt 6 = .ok (.iload 6, 2) := by decide +kernel
theorem dX0_productAt_8 : decode cX0_productAt 8 = .ok (.iload_n 3, 1) := by decide +kernel
theorem dX0_productAt_9 : decode cX0_productAt 9 = .ok (.if_icmp .gt 27, 3) := by decide +kernel
theorem dX0_productAt_12 : decode cX0_productAt 12 = .ok (.lload 4, 2) := by decide +kernel
theorem dX0_productAt_14 : decode cX0_productAt 14 = .ok (.aload_n 1, 1) := by decide +kernel
theorem dX0_productAt_15 : decode cX0_productAt 15 = .ok (.iload 6, 2) := by decide +kernel
theorem dX0_productAt_17 : decode cX0_productAt 17 = .ok (.iaload, 1) := by decide +kernel
theorem dX0_productAt_18 : decode cX0_productAt 18 = .ok (.i2l, 1) := by decide +kernel
theorem dX0_productAt_19 : decode cX0_productAt 19 = .ok (.aload_n 2, 1) := by decide +kernel
theorem dX0_productAt_20 : decode cX0_productAt 20 = .ok (.iload_n 3, 1) := by decide +kernel
theorem dX0_productAt_21 : decode cX0_productAt 21 = .ok (.iload 6, 2) := by decide +kernel
theorem dX0_productAt_23 : decode cX0_productAt 23 = .ok (.isub, 1) := by decide +kernel
theorem dX0_productAt_24 : decode cX0_productAt 24 = .ok (.iaload, 1) := by decide +kernel
theorem dX0_productAt_25 : decode cX0_productAt 25 = .ok (.i2l, 1) := by decide +kernel
theorem dX0_productAt_26 : decode cX0_productAt 26 = .ok (.lmul, 1) := by decide +kernel
theorem dX0_productAt_27 : decode cX0_productAt 27 = .ok (.ladd, 1) := by decide +kernel
theorem dX0_productAt_28 : decode cX0_productAt 28 = .ok (.lstore 4, 2) := by decide +kernel
theorem dX0_productAt_30 : decode cX0_productAt 30 = .ok (.iinc 6 1, 3) := by decide +kernel
theorem dX0_productAt_33 : decode cX0_productAt 33 = .ok (.goto (-27), 3) := by decide +kernel
theorem dX0_productAt_36 : decode cX0_productAt 36 = .ok (.iload_n 3, 1) := by decide +kernel
theorem dX0_productAt_37 : decode cX0_productAt 37 = .ok (.iconst 1, 1) := by decide +kernel
theorem dX0_productAt_38 : decode cX0_productAt 38 = .ok (.iadd, 1) := by decide +kernel
theorem dX0_productAt_39 : decode cX0_productAt 39 = .ok (.istore 6, 2) := by decide +kernel
theorem dX0_productAt_41 : decode cX0_productAt 41 = .ok (.iload 6, 2) := by decide +kernel
theorem dX0_productAt_43 : decode cX0_productAt 43 = .ok (.bipush 16, 2) := by decide +kernel
theorem dX0_productAt_45 : decode cX0_productAt 45 = .ok (.if_icmp .ge 30, 3) := by decide +kernel
theorem dX0_productAt_48 : decode cX0_productAt 48 = .ok (.lload 4, 2) := by decide +kernel
theorem dX0_productAt_50 : decode cX0_productAt 50 = .ok (.aload_n 1, 1) := by decide +kernel
theorem dX0_productAt_51 : decode cX0_productAt 51 = .ok (.iload 6, 2) := by decide +kernel
theorem dX0_productAt_53 : decode cX0_productAt 53 = .ok (.iaload, 1) := by decide +kernel
theorem dX0_productAt_54 : decode cX0_productAt 54 = .ok (.i2l, 1) := by decide +kernel
theorem dX0_productAt_55 : decode cX0_productAt 55 = .ok (.aload_n 2, 1) := by decide +kernel
theorem dX0_productAt_56 : decode cX0_productAt 56 = .ok (.bipush 16, 2) := by decide +kernel
theorem dX0_productAt_58 : decode cX0_productAt 58 = .ok (.iload_n 3, 1) := by decide +kernel
theorem dX0_productAt_59 : decode cX0_productAt 59 = .ok (.iadd, 1) := by decide +kernel
theorem dX0_productAt_60 : decode cX0_productAt 60 = .ok (.iload 6, 2) := by decide +kernel
theorem dX0_productAt_62 : decode cX0_productAt 62 = .ok (.isub, 1) := by decide +kernel
theorem dX0_productAt_63 : decode cX0_productAt 63 = .ok (.iaload, 1) := by decide +kernel
theorem dX0_productAt_64 : decode cX0_productAt 64 = .ok (.i2l, 1) := by decide +kernel
theorem dX0_productAt_65 : decode cX0_productAt 65 = .ok (.lmul, 1) := by decide +kernel
theorem dX0_productAt_66 : decode cX0_productAt 66 = .ok (.lsub, 1) := by decide +kernel
theorem dX0_productAt_67 : decode cX0_productAt 67 = .ok (.lstore 4, 2) := by decide +kernel
theorem dX0_productAt_69 : decode cX0_productAt 69 = .ok (.iinc 6 1, 3) := by decide +kernel
theorem dX0_productAt_72 : decode cX0_productAt 72 = .ok (.goto (-31), 3) := by decide +kernel
theorem dX0_productAt_75 : decode cX0_productAt 75 = .ok (.lload 4, 2) := by decide +kernel
theorem dX0_productAt_77 : decode cX0_productAt 77 = .ok (.aload_n 0, 1) := by decide +kernel
theorem dX0_productAt_78 : decode cX0_productAt 78 = .ok (.getfield 29, 3) := by decide +kernel
theorem dX0_productAt_81 : decode cX0_productAt 81 = .ok (.i2l, 1) := by decide +kernel
theorem dX0_productAt_82 : decode cX0_productAt 82 = .ok (.invokestatic 131, 3) := by decide +kernel
theorem dX0_productAt_85 : decode cX0_productAt 85 = .ok (.l2i, 1) := by decide +kernel
theorem dX0_productAt_86 : decode cX0_productAt 86 = .ok (.ireturn, 1) := by decide +kernel
theorem dX0_centredSize_0 : decode cX0_centredSize 0 = .ok (.iload_n 1, 1) := by decide +kernel
theorem dX0_centredSize_1 : decode cX0_centredSize 1 = .ok (.aload_n 0, 1) := by decide +kernel
theorem dX0_centredSize_2 : decode cX0_centredSize 2 = .ok (.getfield 29, 3) := by decide +kernel
theorem dX0_centredSize_5 : decode cX0_centredSize 5 = .ok (.iload_n 1, 1) := by decide +kernel
theorem dX0_centredSize_6 : decode cX0_centredSize 6 = .ok (.isub, 1) := by decide +kernel
theorem dX0_centredSize_7 : decode cX0_centredSize 7 = .ok (.invokestatic 134, 3) := by decide +kernel
theorem dX0_centredSize_10 : decode cX0_centredSize 10 = .ok (.ireturn, 1) := by decide +kernel
theorem dX0_greatestSize_0 : decode cX0_greatestSize 0 = .ok (.iconst 0, 1) := by decide +kernel
theorem dX0_greatestSize_1 : decode cX0_greatestSize 1 = .ok (.istore_n 2, 1) := by decide +kernel
theorem dX0_greatestSize_2 : decode cX0_greatestSize 2 = .ok (.iconst 0, 1) := by decide +kernel
theorem dX0_greatestSize_3 : decode cX0_greatestSize 3 = .ok (.istore_n 3, 1) := by decide +kernel
theorem dX0_greatestSize_4 : decode cX0_greatestSize 4 = .ok (.iload_n 3, 1) := by decide +kernel
theorem dX0_greatestSize_5 : decode cX0_greatestSize 5 = .ok (.bipush 16, 2) := by decide +kernel
theorem dX0_greatestSize_7 : decode cX0_greatestSize 7 = .ok (.if_icmp .ge 21, 3) := by decide +kernel
theorem dX0_greatestSize_10 : decode cX0_greatestSize 10 = .ok (.iload_n 2, 1) := by decide +kernel
theorem dX0_greatestSize_11 : decode cX0_greatestSize 11 = .ok (.aload_n 0, 1) := by decide +kernel
theorem dX0_greatestSize_12 : decode cX0_greatestSize 12 = .ok (.aload_n 1, 1) := by decide +kernel
theorem dX0_greatestSize_13 : decode cX0_greatestSize 13 = .ok (.iload_n 3, 1) := by decide +kernel
theorem dX0_greatestSize_14 : decode cX0_greatestSize 14 = .ok (.iaload, 1) := by decide +kernel
theorem dX0_greatestSize_15 : decode cX0_greatestSize 15 = .ok (.invokevirtual 85, 3) := by decide +kernel
theorem dX0_greatestSize_18 : decode cX0_greatestSize 18 = .ok (.invokestatic 137, 3) := by decide +kernel
theorem dX0_greatestSize_21 : decode cX0_greatestSize 21 = .ok (.istore_n 2, 1) := by decide +kernel
theorem dX0_greatestSize_22 : decode cX0_greatestSize 22 = .ok (.iinc 3 1, 3) := by decide +kernel
theorem dX0_greatestSize_25 : decode cX0_greatestSize 25 = .ok (.goto (-21), 3) := by decide +kernel
theorem dX0_greatestSize_28 : decode cX0_greatestSize 28 = .ok (.iload_n 2, 1) := by decide +kernel
theorem dX0_greatestSize_29 : decode cX0_greatestSize 29 = .ok (.ireturn, 1) := by decide +kernel
theorem dX0_notZero_0 : decode cX0_notZero 0 = .ok (.iconst 0, 1) := by decide +kernel
theorem dX0_notZero_1 : decode cX0_notZero 1 = .ok (.istore_n 1, 1) := by decide +kernel
theorem dX0_notZero_2 : decode cX0_notZero 2 = .ok (.iconst 0, 1) := by decide +kernel
theorem dX0_notZero_3 : decode cX0_notZero 3 = .ok (.istore_n 2, 1) := by decide +kernel
theorem dX0_notZero_4 : decode cX0_notZero 4 = .ok (.iload_n 2, 1) := by decide +kernel
theorem dX0_notZero_5 : decode cX0_notZero 5 = .ok (.bipush 16, 2) := by decide +kernel
theorem dX0_notZero_7 : decode cX0_notZero 7 = .ok (.if_icmp .ge 18, 3) := by decide +kernel
theorem dX0_notZero_10 : decode cX0_notZero 10 = .ok (.aload_n 0, 1) := by decide +kernel
theorem dX0_notZero_11 : decode cX0_notZero 11 = .ok (.iload_n 2, 1) := by decide +kernel
theorem dX0_notZero_12 : decode cX0_notZero 12 = .ok (.iaload, 1) := by decide +kernel
theorem dX0_notZero_13 : decode cX0_notZero 13 = .ok (.ifCond .eq 6, 3) := by decide +kernel
theorem dX0_notZero_16 : decode cX0_notZero 16 = .ok (.iinc 1 1, 3) := by decide +kernel
theorem dX0_notZero_19 : decode cX0_notZero 19 = .ok (.iinc 2 1, 3) := by decide +kernel
theorem dX0_notZero_22 : decode cX0_notZero 22 = .ok (.goto (-18), 3) := by decide +kernel
theorem dX0_notZero_25 : decode cX0_notZero 25 = .ok (.iload_n 1, 1) := by decide +kernel
theorem dX0_notZero_26 : decode cX0_notZero 26 = .ok (.ireturn, 1) := by decide +kernel
theorem dX0_emptyRegisters_0 : decode cX0_emptyRegisters 0 = .ok (.iconst 0, 1) := by decide +kernel
theorem dX0_emptyRegisters_1 : decode cX0_emptyRegisters 1 = .ok (.istore_n 1, 1) := by decide +kernel
theorem dX0_emptyRegisters_2 : decode cX0_emptyRegisters 2 = .ok (.iconst 0, 1) := by decide +kernel
theorem dX0_emptyRegisters_3 : decode cX0_emptyRegisters 3 = .ok (.istore_n 2, 1) := by decide +kernel
theorem dX0_emptyRegisters_4 : decode cX0_emptyRegisters 4 = .ok (.iload_n 2, 1) := by decide +kernel
theorem dX0_emptyRegisters_5 : decode cX0_emptyRegisters 5 = .ok (.bipush 12, 2) := by decide +kernel
theorem dX0_emptyRegisters_7 : decode cX0_emptyRegisters 7 = .ok (.if_icmp .ge 24, 3) := by decide +kernel
theorem dX0_emptyRegisters_10 : decode cX0_emptyRegisters 10 = .ok (.aload_n 0, 1) := by decide +kernel
theorem dX0_emptyRegisters_11 : decode cX0_emptyRegisters 11 = .ok (.getfield 11, 3) := by decide +kernel
theorem dX0_emptyRegisters_14 : decode cX0_emptyRegisters 14 = .ok (.iload_n 2, 1) := by decide +kernel
theorem dX0_emptyRegisters_15 : decode cX0_emptyRegisters 15 = .ok (.aaload, 1) := by decide +kernel
theorem dX0_emptyRegisters_16 : decode cX0_emptyRegisters 16 = .ok (.invokestatic 69, 3) := by decide +kernel
theorem dX0_emptyRegisters_19 : decode cX0_emptyRegisters 19 = .ok (.ifCond .ne 6, 3) := by decide +kernel
theorem dX0_emptyRegisters_22 : decode cX0_emptyRegisters 22 = .ok (.iinc 1 1, 3) := by decide +kernel
theorem dX0_emptyRegisters_25 : decode cX0_emptyRegisters 25 = .ok (.iinc 2 1, 3) := by decide +kernel
theorem dX0_emptyRegisters_28 : decode cX0_emptyRegisters 28 = .ok (.goto (-24), 3) := by decide +kernel
theorem dX0_emptyRegisters_31 : decode cX0_emptyRegisters 31 = .ok (.iload_n 1, 1) := by decide +kernel
theorem dX0_emptyRegisters_32 : decode cX0_emptyRegisters 32 = .ok (.ireturn, 1) := by decide +kernel
theorem dX0_rounded_0 : decode cX0_rounded 0 = .ok (.iload_n 1, 1) := by decide +kernel
theorem dX0_rounded_1 : decode cX0_rounded 1 = .ok (.tableswitch 59 0 2 #[27, 34, 46], 27) := by decide +kernel
theorem dX0_rounded_28 : decode cX0_rounded 28 = .ok (.aload_n 0, 1) := by decide +kernel
theorem dX0_rounded_29 : decode cX0_rounded 29 = .ok (.iload_n 2, 1) := by decide +kernel
theorem dX0_rounded_30 : decode cX0_rounded 30 = .ok (.iload_n 3, 1) := by decide +kernel
theorem dX0_rounded_31 : decode cX0_rounded 31 = .ok (.invokevirtual 140, 3) := by decide +kernel
theorem dX0_rounded_34 : decode cX0_rounded 34 = .ok (.ireturn, 1) := by decide +kernel
theorem dX0_rounded_35 : decode cX0_rounded 35 = .ok (.aload_n 0, 1) := by decide +kernel
theorem dX0_rounded_36 : decode cX0_rounded 36 = .ok (.iload_n 2, 1) := by decide +kernel
theorem dX0_rounded_37 : decode cX0_rounded 37 = .ok (.iload_n 3, 1) := by decide +kernel
theorem dX0_rounded_38 : decode cX0_rounded 38 = .ok (.invokestatic 143, 3) := by decide +kernel
theorem dX0_rounded_41 : decode cX0_rounded 41 = .ok (.iand, 1) := by decide +kernel
theorem dX0_rounded_42 : decode cX0_rounded 42 = .ok (.iload_n 3, 1) := by decide +kernel
theorem dX0_rounded_43 : decode cX0_rounded 43 = .ok (.invokevirtual 146, 3) := by decide +kernel
theorem dX0_rounded_46 : decode cX0_rounded 46 = .ok (.ireturn, 1) := by decide +kernel
theorem dX0_rounded_47 : decode cX0_rounded 47 = .ok (.iload_n 2, 1) := by decide +kernel
theorem dX0_rounded_48 : decode cX0_rounded 48 = .ok (.iload_n 3, 1) := by decide +kernel
theorem dX0_rounded_49 : decode cX0_rounded 49 = .ok (.invokestatic 149, 3) := by decide +kernel
theorem dX0_rounded_52 : decode cX0_rounded 52 = .ok (.aload_n 0, 1) := by decide +kernel
theorem dX0_rounded_53 : decode cX0_rounded 53 = .ok (.getfield 29, 3) := by decide +kernel
theorem dX0_rounded_56 : decode cX0_rounded 56 = .ok (.invokestatic 39, 3) := by decide +kernel
theorem dX0_rounded_59 : decode cX0_rounded 59 = .ok (.ireturn, 1) := by decide +kernel
theorem dX0_rounded_60 : decode cX0_rounded 60 = .ok (.iload_n 2, 1) := by decide +kernel
theorem dX0_rounded_61 : decode cX0_rounded 61 = .ok (.iload_n 2, 1) := by decide +kernel
theorem dX0_rounded_62 : decode cX0_rounded 62 = .ok (.iload_n 3, 1) := by decide +kernel
theorem dX0_rounded_63 : decode cX0_rounded 63 = .ok (.invokestatic 149, 3) := by decide +kernel
theorem dX0_rounded_66 : decode cX0_rounded 66 = .ok (.isub, 1) := by decide +kernel
theorem dX0_rounded_67 : decode cX0_rounded 67 = .ok (.iload_n 3, 1) := by decide +kernel
theorem dX0_rounded_68 : decode cX0_rounded 68 = .ok (.ishr, 1) := by decide +kernel
theorem dX0_rounded_69 : decode cX0_rounded 69 = .ok (.ireturn, 1) := by decide +kernel
theorem dX0_lowMask_0 : decode cX0_lowMask 0 = .ok (.iconst 1, 1) := by decide +kernel
theorem dX0_lowMask_1 : decode cX0_lowMask 1 = .ok (.iload_n 0, 1) := by decide +kernel
theorem dX0_lowMask_2 : decode cX0_lowMask 2 = .ok (.ishl, 1) := by decide +kernel
theorem dX0_lowMask_3 : decode cX0_lowMask 3 = .ok (.iconst 1, 1) := by decide +kernel
theorem dX0_lowMask_4 : decode cX0_lowMask 4 = .ok (.isub, 1) := by decide +kernel
theorem dX0_lowMask_5 : decode cX0_lowMask 5 = .ok (.ireturn, 1) := by decide +kernel
theorem dX0_fewerBits_0 : decode cX0_fewerBits 0 = .ok (.iload_n 1, 1) := by decide +kernel
theorem dX0_fewerBits_1 : decode cX0_fewerBits 1 = .ok (.i2l, 1) := by decide +kernel
theorem dX0_fewerBits_2 : decode cX0_fewerBits 2 = .ok (.iload_n 2, 1) := by decide +kernel
theorem dX0_fewerBits_3 : decode cX0_fewerBits 3 = .ok (.iconst 1, 1) := by decide +kernel
theorem dX0_fewerBits_4 : decode cX0_fewerBits 4 = .ok (.iadd, 1) := by decide +kernel
theorem dX0_fewerBits_5 : decode cX0_fewerBits 5 = .ok (.lshl, 1) := by decide +kernel
theorem dX0_fewerBits_6 : decode cX0_fewerBits 6 = .ok (.aload_n 0, 1) := by decide +kernel
theorem dX0_fewerBits_7 : decode cX0_fewerBits 7 = .ok (.getfield 29, 3) := by decide +kernel
theorem dX0_fewerBits_10 : decode cX0_fewerBits 10 = .ok (.i2l, 1) := by decide +kernel
theorem dX0_fewerBits_11 : decode cX0_fewerBits 11 = .ok (.ladd, 1) := by decide +kernel
theorem dX0_fewerBits_12 : decode cX0_fewerBits 12 = .ok (.ldc2_w 152, 3) := by decide +kernel
theorem dX0_fewerBits_15 : decode cX0_fewerBits 15 = .ok (.aload_n 0, 1) := by decide +kernel
theorem dX0_fewerBits_16 : decode cX0_fewerBits 16 = .ok (.getfield 29, 3) := by decide +kernel
theorem dX0_fewerBits_19 : decode cX0_fewerBits 19 = .ok (.i2l, 1) := by decide +kernel
theorem dX0_fewerBits_20 : decode cX0_fewerBits 20 = .ok (.lmul, 1) := by decide +kernel
theorem dX0_fewerBits_21 : decode cX0_fewerBits 21 = .ok (.ldiv, 1) := by decide +kernel
theorem dX0_fewerBits_22 : decode cX0_fewerBits 22 = .ok (.lstore_n 3, 1) := by decide +kernel
theorem dX0_fewerBits_23 : decode cX0_fewerBits 23 = .ok (.lload_n 3, 1) := by decide +kernel
theorem dX0_fewerBits_24 : decode cX0_fewerBits 24 = .ok (.l2i, 1) := by decide +kernel
theorem dX0_fewerBits_25 : decode cX0_fewerBits 25 = .ok (.iload_n 2, 1) := by decide +kernel
theorem dX0_fewerBits_26 : decode cX0_fewerBits 26 = .ok (.invokestatic 143, 3) := by decide +kernel
theorem dX0_fewerBits_29 : decode cX0_fewerBits 29 = .ok (.iand, 1) := by decide +kernel
theorem dX0_fewerBits_30 : decode cX0_fewerBits 30 = .ok (.ireturn, 1) := by decide +kernel
theorem dX0_moreBits_0 : decode cX0_moreBits 0 = .ok (.aload_n 0, 1) := by decide +kernel
theorem dX0_moreBits_1 : decode cX0_moreBits 1 = .ok (.getfield 29, 3) := by decide +kernel
theorem dX0_moreBits_4 : decode cX0_moreBits 4 = .ok (.i2l, 1) := by decide +kernel
theorem dX0_moreBits_5 : decode cX0_moreBits 5 = .ok (.iload_n 1, 1) := by decide +kernel
theorem dX0_moreBits_6 : decode cX0_moreBits 6 = .ok (.i2l, 1) := by decide +kernel
theorem dX0_moreBits_7 : decode cX0_moreBits 7 = .ok (.lmul, 1) := by decide +kernel
theorem dX0_moreBits_8 : decode cX0_moreBits 8 = .ok (.lconst 1, 1) := by decide +kernel
theorem dX0_moreBits_9 : decode cX0_moreBits 9 = .ok (.iload_n 2, 1) := by decide +kernel
theorem dX0_moreBits_10 : decode cX0_moreBits 10 = .ok (.iconst 1, 1) := by decide +kernel
theorem dX0_moreBits_11 : decode cX0_moreBits 11 = .ok (.isub, 1) := by decide +kernel
theorem dX0_moreBits_12 : decode cX0_moreBits 12 = .ok (.lshl, 1) := by decide +kernel
theorem dX0_moreBits_13 : decode cX0_moreBits 13 = .ok (.ladd, 1) := by decide +kernel
theorem dX0_moreBits_14 : decode cX0_moreBits 14 = .ok (.iload_n 2, 1) := by decide +kernel
theorem dX0_moreBits_15 : decode cX0_moreBits 15 = .ok (.lshr, 1) := by decide +kernel
theorem dX0_moreBits_16 : decode cX0_moreBits 16 = .ok (.l2i, 1) := by decide +kernel
theorem dX0_moreBits_17 : decode cX0_moreBits 17 = .ok (.ireturn, 1) := by decide +kernel
theorem dX0_lowBits_0 : decode cX0_lowBits 0 = .ok (.iload_n 0, 1) := by decide +kernel
theorem dX0_lowBits_1 : decode cX0_lowBits 1 = .ok (.iload_n 1, 1) := by decide +kernel
theorem dX0_lowBits_2 : decode cX0_lowBits 2 = .ok (.invokestatic 143, 3) := by decide +kernel
theorem dX0_lowBits_5 : decode cX0_lowBits 5 = .ok (.iand, 1) := by decide +kernel
theorem dX0_lowBits_6 : decode cX0_lowBits 6 = .ok (.istore_n 2, 1) := by decide +kernel
theorem dX0_lowBits_7 : decode cX0_lowBits 7 = .ok (.iload_n 2, 1) := by decide +kernel
theorem dX0_lowBits_8 : decode cX0_lowBits 8 = .ok (.iconst 1, 1) := by decide +kernel
theorem dX0_lowBits_9 : decode cX0_lowBits 9 = .ok (.iload_n 1, 1) := by decide +kernel
theorem dX0_lowBits_10 : decode cX0_lowBits 10 = .ok (.iconst 1, 1) := by decide +kernel
theorem dX0_lowBits_11 : decode cX0_lowBits 11 = .ok (.isub, 1) := by decide +kernel
theorem dX0_lowBits_12 : decode cX0_lowBits 12 = .ok (.ishl, 1) := by decide +kernel
theorem dX0_lowBits_13 : decode cX0_lowBits 13 = .ok (.if_icmp .le 11, 3) := by decide +kernel
theorem dX0_lowBits_16 : decode cX0_lowBits 16 = .ok (.iload_n 2, 1) := by decide +kernel
theorem dX0_lowBits_17 : decode cX0_lowBits 17 = .ok (.iconst 1, 1) := by decide +kernel
theorem dX0_lowBits_18 : decode cX0_lowBits 18 = .ok (.iload_n 1, 1) := by decide +kernel
theorem dX0_lowBits_19 : decode cX0_lowBits 19 = .ok (.ishl, 1) := by decide +kernel
theorem dX0_lowBits_20 : decode cX0_lowBits 20 = .ok (.isub, 1) := by decide +kernel
theorem dX0_lowBits_21 : decode cX0_lowBits 21 = .ok (.goto 4, 3) := by decide +kernel
theorem dX0_lowBits_24 : decode cX0_lowBits 24 = .ok (.iload_n 2, 1) := by decide +kernel
theorem dX0_lowBits_25 : decode cX0_lowBits 25 = .ok (.ireturn, 1) := by decide +kernel
theorem dX0_isAlpha_0 : decode cX0_isAlpha 0 = .ok (.iload_n 1, 1) := by decide +kernel
theorem dX0_isAlpha_1 : decode cX0_isAlpha 1 = .ok (.ifCond .le 24, 3) := by decide +kernel
theorem dX0_isAlpha_4 : decode cX0_isAlpha 4 = .ok (.iload_n 1, 1) := by decide +kernel
theorem dX0_isAlpha_5 : decode cX0_isAlpha 5 = .ok (.iconst 2, 1) := by decide +kernel
theorem dX0_isAlpha_6 : decode cX0_isAlpha 6 = .ok (.irem, 1) := by decide +kernel
theorem dX0_isAlpha_7 : decode cX0_isAlpha 7 = .ok (.ifCond .ne 18, 3) := by decide +kernel
theorem dX0_isAlpha_10 : decode cX0_isAlpha 10 = .ok (.aload_n 0, 1) := by decide +kernel
theorem dX0_isAlpha_11 : decode cX0_isAlpha 11 = .ok (.getfield 29, 3) := by decide +kernel
theorem dX0_isAlpha_14 : decode cX0_isAlpha 14 = .ok (.iconst 1, 1) := by decide +kernel
theorem dX0_isAlpha_15 : decode cX0_isAlpha 15 = .ok (.isub, 1) := by decide +kernel
theorem dX0_isAlpha_16 : decode cX0_isAlpha 16 = .ok (.iload_n 1, 1) := by decide +kernel
theorem dX0_isAlpha_17 : decode cX0_isAlpha 17 = .ok (.irem, 1) := by decide +kernel
theorem dX0_isAlpha_18 : decode cX0_isAlpha 18 = .ok (.ifCond .ne 7, 3) := by decide +kernel
theorem dX0_isAlpha_21 : decode cX0_isAlpha 21 = .ok (.iconst 1, 1) := by decide +kernel
theorem dX0_isAlpha_22 : decode cX0_isAlpha 22 = .ok (.goto 4, 3) := by decide +kernel
theorem dX0_isAlpha_25 : decode cX0_isAlpha 25 = .ok (.iconst 0, 1) := by decide +kernel
theorem dX0_isAlpha_26 : decode cX0_isAlpha 26 = .ok (.ireturn, 1) := by decide +kernel
theorem dX0_nearRest_0 : decode cX0_nearRest 0 = .ok (.iload_n 0, 1) := by decide +kernel
theorem dX0_nearRest_1 : decode cX0_nearRest 1 = .ok (.iload_n 1, 1) := by decide +kernel
theorem dX0_nearRest_2 : decode cX0_nearRest 2 = .ok (.irem, 1) := by decide +kernel
theorem dX0_nearRest_3 : decode cX0_nearRest 3 = .ok (.istore_n 2, 1) := by decide +kernel
theorem dX0_nearRest_4 : decode cX0_nearRest 4 = .ok (.iload_n 2, 1) := by decide +kernel
theorem dX0_nearRest_5 : decode cX0_nearRest 5 = .ok (.iload_n 1, 1) := by decide +kernel
theorem dX0_nearRest_6 : decode cX0_nearRest 6 = .ok (.iconst 2, 1) := by decide +kernel
theorem dX0_nearRest_7 : decode cX0_nearRest 7 = .ok (.idiv, 1) := by decide +kernel
theorem dX0_nearRest_8 : decode cX0_nearRest 8 = .ok (.if_icmp .le 9, 3) := by decide +kernel
theorem dX0_nearRest_11 : decode cX0_nearRest 11 = .ok (.iload_n 2, 1) := by decide +kernel
theorem dX0_nearRest_12 : decode cX0_nearRest 12 = .ok (.iload_n 1, 1) := by decide +kernel
theorem dX0_nearRest_13 : decode cX0_nearRest 13 = .ok (.isub, 1) := by decide +kernel
theorem dX0_nearRest_14 : decode cX0_nearRest 14 = .ok (.goto 4, 3) := by decide +kernel
theorem dX0_nearRest_17 : decode cX0_nearRest 17 = .ok (.iload_n 2, 1) := by decide +kernel
theorem dX0_nearRest_18 : decode cX0_nearRest 18 = .ok (.ireturn, 1) := by decide +kernel
theorem dX0_restOf_0 : decode cX0_restOf 0 = .ok (.iload_n 1, 1) := by decide +kernel
theorem dX0_restOf_1 : decode cX0_restOf 1 = .ok (.iload_n 2, 1) := by decide +kernel
theorem dX0_restOf_2 : decode cX0_restOf 2 = .ok (.invokestatic 154, 3) := by decide +kernel
theorem dX0_restOf_5 : decode cX0_restOf 5 = .ok (.istore_n 3, 1) := by decide +kernel
theorem dX0_restOf_6 : decode cX0_restOf 6 = .ok (.iload_n 1, 1) := by decide +kernel
theorem dX0_restOf_7 : decode cX0_restOf 7 = .ok (.iload_n 3, 1) := by decide +kernel
theorem dX0_restOf_8 : decode cX0_restOf 8 = .ok (.isub, 1) := by decide +kernel
theorem dX0_restOf_9 : decode cX0_restOf 9 = .ok (.aload_n 0, 1) := by decide +kernel
theorem dX0_restOf_10 : decode cX0_restOf 10 = .ok (.getfield 29, 3) := by decide +kernel
theorem dX0_restOf_13 : decode cX0_restOf 13 = .ok (.iconst 1, 1) := by decide +kernel
theorem dX0_restOf_14 : decode cX0_restOf 14 = .ok (.isub, 1) := by decide +kernel
theorem dX0_restOf_15 : decode cX0_restOf 15 = .ok (.if_icmp .ne 9, 3) := by decide +kernel
theorem dX0_restOf_18 : decode cX0_restOf 18 = .ok (.iload_n 3, 1) := by decide +kernel
theorem dX0_restOf_19 : decode cX0_restOf 19 = .ok (.iconst 1, 1) := by decide +kernel
theorem dX0_restOf_20 : decode cX0_restOf 20 = .ok (.isub, 1) := by decide +kernel
theorem dX0_restOf_21 : decode cX0_restOf 21 = .ok (.goto 4, 3) := by decide +kernel
theorem dX0_restOf_24 : decode cX0_restOf 24 = .ok (.iload_n 3, 1) := by decide +kernel
theorem dX0_restOf_25 : decode cX0_restOf 25 = .ok (.ireturn, 1) := by decide +kernel
theorem dX0_partOf_0 : decode cX0_partOf 0 = .ok (.iload_n 1, 1) := by decide +kernel
theorem dX0_partOf_1 : decode cX0_partOf 1 = .ok (.iload_n 1, 1) := by decide +kernel
theorem dX0_partOf_2 : decode cX0_partOf 2 = .ok (.iload_n 2, 1) := by decide +kernel
theorem dX0_partOf_3 : decode cX0_partOf 3 = .ok (.invokestatic 154, 3) := by decide +kernel
theorem dX0_partOf_6 : decode cX0_partOf 6 = .ok (.isub, 1) := by decide +kernel
theorem dX0_partOf_7 : decode cX0_partOf 7 = .ok (.istore_n 3, 1) := by decide +kernel
theorem dX0_partOf_8 : decode cX0_partOf 8 = .ok (.iload_n 3, 1) := by decide +kernel
theorem dX0_partOf_9 : decode cX0_partOf 9 = .ok (.aload_n 0, 1) := by decide +kernel
theorem dX0_partOf_10 : decode cX0_partOf 10 = .ok (.getfield 29, 3) := by decide +kernel
theorem dX0_partOf_13 : decode cX0_partOf 13 = .ok (.iconst 1, 1) := by decide +kernel
theorem dX0_partOf_14 : decode cX0_partOf 14 = .ok (.isub, 1) := by decide +kernel
theorem dX0_partOf_15 : decode cX0_partOf 15 = .ok (.if_icmp .ne 7, 3) := by decide +kernel
theorem dX0_partOf_18 : decode cX0_partOf 18 = .ok (.iconst 0, 1) := by decide +kernel
theorem dX0_partOf_19 : decode cX0_partOf 19 = .ok (.goto 6, 3) := by decide +kernel
theorem dX0_partOf_22 : decode cX0_partOf 22 = .ok (.iload_n 3, 1) := by decide +kernel
theorem dX0_partOf_23 : decode cX0_partOf 23 = .ok (.iload_n 2, 1) := by decide +kernel
theorem dX0_partOf_24 : decode cX0_partOf 24 = .ok (.idiv, 1) := by decide +kernel
theorem dX0_partOf_25 : decode cX0_partOf 25 = .ok (.ireturn, 1) := by decide +kernel
