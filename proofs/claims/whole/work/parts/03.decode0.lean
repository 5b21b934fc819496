theorem dX0_init_0 : decode cX0_init 0 = .ok (.aload_n 0, 1) := by decide +kernel
theorem dX0_init_1 : decode cX0_init 1 = .ok (.invokespecial 1, 3) := by decide +kernel
theorem dX0_init_4 : decode cX0_init 4 = .ok (.aload_n 0, 1) := by decide +kernel
theorem dX0_init_5 : decode cX0_init 5 = .ok (.bipush 12, 2) := by decide +kernel
theorem dX0_init_7 : decode cX0_init 7 = .ok (.bipush 16, 2) := by decide +kernel
theorem dX0_init_9 : decode cX0_init 9 = .ok (.multianewarray 9 2, 4) := by decide +kernel
theorem dX0_init_13 : decode cX0_init 13 = .ok (.putfield 11, 3) := by decide +kernel
theorem dX0_init_16 : decode cX0_init 16 = .ok (.aload_n 0, 1) := by decide +kernel
theorem dX0_init_17 : decode cX0_init 17 = .ok (.bipush 16, 2) := by decide +kernel
theorem dX0_init_19 : decode cX0_init 19 = .ok (.newarray .int, 2) := by decide +kernel
theorem dX0_init_21 : decode cX0_init 21 = .ok (.putfield 14, 3) := by decide +kernel
theorem dX0_init_24 : decode cX0_init 24 = .ok (.aload_n 0, 1) := by decide +kernel
theorem dX0_init_25 : decode cX0_init 25 = .ok (.iconst 0, 1) := by decide +kernel
theorem dX0_init_26 : decode cX0_init 26 = .ok (.invokevirtual 18, 3) := by decide +kernel
theorem dX0_init_29 : decode cX0_init 29 = .ok (.return_, 1) := by decide +kernel
theorem dX0_begin_0 : decode cX0_begin 0 = .ok (.iload_n 1, 1) := by decide +kernel
theorem dX0_begin_1 : decode cX0_begin 1 = .ok (.ifCond .lt 15, 3) := by decide +kernel
theorem dX0_begin_4 : decode cX0_begin 4 = .ok (.iload_n 1, 1) := by decide +kernel
theorem dX0_begin_5 : decode cX0_begin 5 = .ok (.getstatic 22, 3) := by decide +kernel
theorem dX0_begin_8 : decode cX0_begin 8 = .ok (.arraylength, 1) := by decide +kernel
theorem dX0_begin_9 : decode cX0_begin 9 = .ok (.if_icmp .ge 7, 3) := by decide +kernel
theorem dX0_begin_12 : decode cX0_begin 12 = .ok (.iconst 1, 1) := by decide +kernel
theorem dX0_begin_13 : decode cX0_begin 13 = .ok (.goto 4, 3) := by decide +kernel
theorem dX0_begin_16 : decode cX0_begin 16 = .ok (.iconst 0, 1) := by decide +kernel
theorem dX0_begin_17 : decode cX0_begin 17 = .ok (.invokestatic 25, 3) := by decide +kernel
theorem dX0_begin_20 : decode cX0_begin 20 = .ok (.aload_n 0, 1) := by decide +kernel
theorem dX0_begin_21 : decode cX0_begin 21 = .ok (.iload_n 1, 1) := by decide +kernel
theorem dX0_begin_22 : decode cX0_begin 22 = .ok (.invokevirtual 18, 3) := by decide +kernel
theorem dX0_begin_25 : decode cX0_begin 25 = .ok (.iconst 0, 1) := by decide +kernel
theorem dX0_begin_26 : decode cX0_begin 26 = .ok (.istore_n 2, 1) := by decide +kernel
theorem dX0_begin_27 : decode cX0_begin 27 = .ok (.iload_n 2, 1) := by decide +kernel
theorem dX0_begin_28 : decode cX0_begin 28 = .ok (.bipush 12, 2) := by decide +kernel
theorem dX0_begin_30 : decode cX0_begin 30 = .ok (.if_icmp .ge 32, 3) := by decide +kernel
theorem dX0_begin_33 : decode cX0_begin 33 = .ok (.iconst 0, 1) := by decide +kernel
theorem dX0_begin_34 : decode cX0_begin 34 = .ok (.istore_n 3, 1) := by decide +kernel
theorem dX0_begin_35 : decode cX0_begin 35 = .ok (.iload_n 3, 1) := by decide +kernel
theorem dX0_begin_36 : decode cX0_begin 36 = .ok (.bipush 16, 2) := by decide +kernel
theorem dX0_begin_38 : decode cX0_begin 38 = .ok (.if_icmp .ge 18, 3) := by decide +kernel
theorem dX0_begin_41 : decode cX0_begin 41 = .ok (.aload_n 0, 1) := by decide +kernel
theorem dX0_begin_42 : decode cX0_begin 42 = .ok (.getfield 11, 3) := by decide +kernel
theorem dX0_begin_45 : decode cX0_begin 45 = .ok (.iload_n 2, 1) := by decide +kernel
theorem dX0_begin_46 : decode cX0_begin 46 = .ok (.aaload, 1) := by decide +kernel
theorem dX0_begin_47 : decode cX0_begin 47 = .ok (.iload_n 3, 1) := by decide +kernel
theorem dX0_begin_48 : decode cX0_begin 48 = .ok (.iconst 0, 1) := by decide +kernel
theorem dX0_begin_49 : decode cX0_begin 49 = .ok (.iastore, 1) := by decide +kernel
theorem dX0_begin_50 : decode cX0_begin 50 = .ok (.iinc 3 1, 3) := by decide +kernel
theorem dX0_begin_53 : decode cX0_begin 53 = .ok (.goto (-18), 3) := by decide +kernel
theorem dX0_begin_56 : decode cX0_begin 56 = .ok (.iinc 2 1, 3) := by decide +kernel
theorem dX0_begin_59 : decode cX0_begin 59 = .ok (.goto (-32), 3) := by decide +kernel
theorem dX0_begin_62 : decode cX0_begin 62 = .ok (.aload_n 0, 1) := by decide +kernel
theorem dX0_begin_63 : decode cX0_begin 63 = .ok (.getfield 29, 3) := by decide +kernel
theorem dX0_begin_66 : decode cX0_begin 66 = .ok (.ireturn, 1) := by decide +kernel
theorem dX0_set_0 : decode cX0_set 0 = .ok (.iload_n 1, 1) := by decide +kernel
theorem dX0_set_1 : decode cX0_set 1 = .ok (.invokestatic 33, 3) := by decide +kernel
theorem dX0_set_4 : decode cX0_set 4 = .ok (.iload_n 2, 1) := by decide +kernel
theorem dX0_set_5 : decode cX0_set 5 = .ok (.invokestatic 36, 3) := by decide +kernel
theorem dX0_set_8 : decode cX0_set 8 = .ok (.aload_n 0, 1) := by decide +kernel
theorem dX0_set_9 : decode cX0_set 9 = .ok (.getfield 11, 3) := by decide +kernel
theorem dX0_set_12 : decode cX0_set 12 = .ok (.iload_n 1, 1) := by decide +kernel
theorem dX0_set_13 : decode cX0_set 13 = .ok (.aaload, 1) := by decide +kernel
theorem dX0_set_14 : decode cX0_set 14 = .ok (.iload_n 2, 1) := by decide +kernel
theorem dX0_set_15 : decode cX0_set 15 = .ok (.iaload, 1) := by decide +kernel
theorem dX0_set_16 : decode cX0_set 16 = .ok (.istore 4, 2) := by decide +kernel
theorem dX0_set_18 : decode cX0_set 18 = .ok (.aload_n 0, 1) := by decide +kernel
theorem dX0_set_19 : decode cX0_set 19 = .ok (.getfield 11, 3) := by decide +kernel
theorem dX0_set_22 : decode cX0_set 22 = .ok (.iload_n 1, 1) := by decide +kernel
theorem dX0_set_23 : decode cX0_set 23 = .ok (.aaload, 1) := by decide +kernel
theorem dX0_set_24 : decode cX0_set 24 = .ok (.iload_n 2, 1) := by decide +kernel
theorem dX0_set_25 : decode cX0_set 25 = .ok (.iload_n 3, 1) := by decide +kernel
theorem dX0_set_26 : decode cX0_set 26 = .ok (.aload_n 0, 1) := by decide +kernel
theorem dX0_set_27 : decode cX0_set 27 = .ok (.getfield 29, 3) := by decide +kernel
theorem dX0_set_30 : decode cX0_set 30 = .ok (.invokestatic 39, 3) := by decide +kernel
theorem dX0_set_33 : decode cX0_set 33 = .ok (.iastore, 1) := by decide +kernel
theorem dX0_set_34 : decode cX0_set 34 = .ok (.iload 4, 2) := by decide +kernel
theorem dX0_set_36 : decode cX0_set 36 = .ok (.ireturn, 1) := by decide +kernel
theorem dX0_get_0 : decode cX0_get 0 = .ok (.iload_n 1, 1) := by decide +kernel
theorem dX0_get_1 : decode cX0_get 1 = .ok (.invokestatic 33, 3) := by decide +kernel
theorem dX0_get_4 : decode cX0_get 4 = .ok (.iload_n 2, 1) := by decide +kernel
theorem dX0_get_5 : decode cX0_get 5 = .ok (.invokestatic 36, 3) := by decide +kernel
theorem dX0_get_8 : decode cX0_get 8 = .ok (.aload_n 0, 1) := by decide +kernel
theorem dX0_get_9 : decode cX0_get 9 = .ok (.getfield 11, 3) := by decide +kernel
theorem dX0_get_12 : decode cX0_get 12 = .ok (.iload_n 1, 1) := by decide +kernel
theorem dX0_get_13 : decode cX0_get 13 = .ok (.aaload, 1) := by decide +kernel
theorem dX0_get_14 : decode cX0_get 14 = .ok (.iload_n 2, 1) := by decide +kernel
theorem dX0_get_15 : decode cX0_get 15 = .ok (.iaload, 1) := by decide +kernel
theorem dX0_get_16 : decode cX0_get 16 = .ok (.ireturn, 1) := by decide +kernel
theorem dX0_join_0 : decode cX0_join 0 = .ok (.iload_n 1, 1) := by decide +kernel
theorem dX0_join_1 : decode cX0_join 1 = .ok (.invokestatic 33, 3) := by decide +kernel
theorem dX0_join_4 : decode cX0_join 4 = .ok (.iload_n 3, 1) := by decide +kernel
theorem dX0_join_5 : decode cX0_join 5 = .ok (.invokestatic 33, 3) := by decide +kernel
theorem dX0_join_8 : decode cX0_join 8 = .ok (.iload 4, 2) := by decide +kernel
theorem dX0_join_10 : decode cX0_join 10 = .ok (.invokestatic 33, 3) := by decide +kernel
theorem dX0_join_13 : decode cX0_join 13 = .ok (.iload_n 2, 1) := by decide +kernel
theorem dX0_join_14 : decode cX0_join 14 = .ok (.ifCond .lt 12, 3) := by decide +kernel
theorem dX0_join_17 : decode cX0_join 17 = .ok (.iload_n 2, 1) := by decide +kernel
theorem dX0_join_18 : decode cX0_join 18 = .ok (.iconst 2, 1) := by decide +kernel
theorem dX0_join_19 : decode cX0_join 19 = .ok (.if_icmp .gt 7, 3) := by decide +kernel
theorem dX0_join_22 : decode cX0_join 22 = .ok (.iconst 1, 1) := by decide +kernel
theorem dX0_join_23 : decode cX0_join 23 = .ok (.goto 4, 3) := by decide +kernel
theorem dX0_join_26 : decode cX0_join 26 = .ok (.iconst 0, 1) := by decide +kernel
theorem dX0_join_27 : decode cX0_join 27 = .ok (.invokestatic 25, 3) := by decide +kernel
theorem dX0_join_30 : decode cX0_join 30 = .ok (.iconst 0, 1) := by decide +kernel
theorem dX0_join_31 : decode cX0_join 31 = .ok (.istore 5, 2) := by decide +kernel
theorem dX0_join_33 : decode cX0_join 33 = .ok (.iload 5, 2) := by decide +kernel
theorem dX0_join_35 : decode cX0_join 35 = .ok (.bipush 16, 2) := by decide +kernel
theorem dX0_join_37 : decode cX0_join 37 = .ok (.if_icmp .ge 36, 3) := by decide +kernel
theorem dX0_join_40 : decode cX0_join 40 = .ok (.aload_n 0, 1) := by decide +kernel
theorem dX0_join_41 : decode cX0_join 41 = .ok (.getfield 14, 3) := by decide +kernel
theorem dX0_join_44 : decode cX0_join 44 = .ok (.iload 5, 2) := by decide +kernel
theorem dX0_join_46 : decode cX0_join 46 = .ok (.aload_n 0, 1) := by decide +kernel
theorem dX0_join_47 : decode cX0_join 47 = .ok (.iload_n 2, 1) := by decide +kernel
theorem dX0_join_48 : decode cX0_join 48 = .ok (.aload_n 0, 1) := by decide +kernel
theorem dX0_join_49 : decode cX0_join 49 = .ok (.getfield 11, 3) := by decide +kernel
theorem dX0_join_52 : decode cX0_join 52 = .ok (.iload_n 3, 1) := by decide +kernel
theorem dX0_join_53 : decode cX0_join 53 = .ok (.aaload, 1) := by decide +kernel
theorem dX0_join_54 : decode cX0_join 54 = .ok (.aload_n 0, 1) := by decide +kernel
theorem dX0_join_55 : decode cX0_join 55 = .ok (.getfield 11, 3) := by decide +kernel
theorem dX0_join_58 : decode cX0_join 58 = .ok (.iload 4, 2) := by decide +kernel
theorem dX0_join_60 : decode cX0_join 60 = .ok (.aaload, 1) := by decide +kernel
theorem dX0_join_61 : decode cX0_join 61 = .ok (.iload 5, 2) := by decide +kernel
theorem dX0_join_63 : decode cX0_join 63 = .ok (.invokevirtual 45, 3) := by decide +kernel
theorem dX0_join_66 : decode cX0_join 66 = .ok (.iastore, 1) := by decide +kernel
theorem dX0_join_67 : decode cX0_join 67 = .ok (.iinc 5 1, 3) := by decide +kernel
theorem dX0_join_70 : decode cX0_join 70 = .ok (.goto (-37), 3) := by decide +kernel
theorem dX0_join_73 : decode cX0_join 73 = .ok (.aload_n 0, 1) := by decide +kernel
theorem dX0_join_74 : decode cX0_join 74 = .ok (.getfield 14, 3) := by decide +kernel
theorem dX0_join_77 : decode cX0_join 77 = .ok (.iconst 0, 1) := by decide +kernel
theorem dX0_join_78 : decode cX0_join 78 = .ok (.aload_n 0, 1) := by decide +kernel
theorem dX0_join_79 : decode cX0_join 79 = .ok (.getfield 11, 3) := by decide +kernel
theorem dX0_join_82 : decode cX0_join 82 = .ok (.iload_n 1, 1) := by decide +kernel
theorem dX0_join_83 : decode cX0_join 83 = .ok (.aaload, 1) := by decide +kernel
theorem dX0_join_84 : decode cX0_join 84 = .ok (.iconst 0, 1) := by decide +kernel
theorem dX0_join_85 : decode cX0_join 85 = .ok (.bipush 16, 2) := by decide +kernel
theorem dX0_join_87 : decode cX0_join 87 = .ok (.invokestatic 49, 3) := by decide +kernel
theorem dX0_join_90 : decode cX0_join 90 = .ok (.aload_n 0, 1) := by decide +kernel
theorem dX0_join_91 : decode cX0_join 91 = .ok (.aload_n 0, 1) := by decide +kernel
theorem dX0_join_92 : decode cX0_join 92 = .ok (.getfield 11, 3) := by decide +kernel
theorem dX0_join_95 : decode cX0_join 95 = .ok (.iload_n 1, 1) := by decide +kernel
theorem dX0_join_96 : decode cX0_join 96 = .ok (.aaload, 1) := by decide +kernel
theorem dX0_join_97 : decode cX0_join 97 = .ok (.invokevirtual 55, 3) := by decide +kernel
theorem dX0_join_100 : decode cX0_join 100 = .ok (.ireturn, 1) := by decide +kernel
theorem dX0_round_0 : decode cX0_round 0 = .ok (.iload_n 1, 1) := by decide +kernel
theorem dX0_round_1 : decode cX0_round 1 = .ok (.invokestatic 33, 3) := by decide +kernel
theorem dX0_round_4 : decode cX0_round 4 = .ok (.iload_n 3, 1) := by decide +kernel
theorem dX0_round_5 : decode cX0_round 5 = .ok (.invokestatic 33, 3) := by decide +kernel
theorem dX0_round_8 : decode cX0_round 8 = .ok (.iload_n 2, 1) := by decide +kernel
theorem dX0_round_9 : decode cX0_round 9 = .ok (.ifCond .lt 12, 3) := by decide +kernel
theorem dX0_round_12 : decode cX0_round 12 = .ok (.iload_n 2, 1) := by decide +kernel
theorem dX0_round_13 : decode cX0_round 13 = .ok (.iconst 3, 1) := by decide +kernel
theorem dX0_round_14 : decode cX0_round 14 = .ok (.if_icmp .gt 7, 3) := by decide +kernel
theorem dX0_round_17 : decode cX0_round 17 = .ok (.iconst 1, 1) := by decide +kernel
theorem dX0_round_18 : decode cX0_round 18 = .ok (.goto 4, 3) := by decide +kernel
theorem dX0_round_21 : decode cX0_round 21 = .ok (.iconst 0, 1) := by decide +kernel
theorem dX0_round_22 : decode cX0_round 22 = .ok (.invokestatic 25, 3) := by decide +kernel
theorem dX0_round_25 : decode cX0_round 25 = .ok (.iload 4, 2) := by decide +kernel
theorem dX0_round_27 : decode cX0_round 27 = .ok (.iconst 1, 1) := by decide +kernel
theorem dX0_round_28 : decode cX0_round 28 = .ok (.if_icmp .lt 20, 3) := by decide +kernel
theorem dX0_round_31 : decode cX0_round 31 = .ok (.iload 4, 2) := by decide +kernel
theorem dX0_round_33 : decode cX0_round 33 = .ok (.getstatic 59, 3) := by decide +kernel
theorem dX0_round_36 : decode cX0_round 36 = .ok (.aload_n 0, 1) := by decide +kernel
theorem dX0_round_37 : decode cX0_round 37 = .ok (.getfield 62, 3) := by decide +kernel
theorem dX0_round_40 : decode cX0_round 40 = .ok (.iaload, 1) := by decide +kernel
theorem dX0_round_41 : decode cX0_round 41 = .ok (.if_icmp .gt 7, 3) := by decide +kernel
theorem dX0_round_44 : decode cX0_round 44 = .ok (.iconst 1, 1) := by decide +kernel
theorem dX0_round_45 : decode cX0_round 45 = .ok (.goto 4, 3) := by decide +kernel
theorem dX0_round_48 : decode cX0_round 48 = .ok (.iconst 0, 1) := by decide +kernel
theorem dX0_round_49 : decode cX0_round 49 = .ok (.invokestatic 25, 3) := by decide +kernel
theorem dX0_round_52 : decode cX0_round 52 = .ok (.iconst 0, 1) := by decide +kernel
theorem dX0_round_53 : decode cX0_round 53 = .ok (.istore 5, 2) := by decide +kernel
theorem dX0_round_55 : decode cX0_round 55 = .ok (.iload 5, 2) := by decide +kernel
theorem dX0_round_57 : decode cX0_round 57 = .ok (.bipush 16, 2) := by decide +kernel
theorem dX0_round_59 : decode cX0_round 59 = .ok (.if_icmp .ge 34, 3) := by decide +kernel
theorem dX0_round_62 : decode cX0_round 62 = .ok (.aload_n 0, 1) := by decide +kernel
theorem dX0_round_63 : decode cX0_round 63 = .ok (.getfield 11, 3) := by decide +kernel
theorem dX0_round_66 : decode cX0_round 66 = .ok (.iload_n 1, 1) := by decide +kernel
theorem dX0_round_67 : decode cX0_round 67 = .ok (.aaload, 1) := by decide +kernel
theorem dX0_round_68 : decode cX0_round 68 = .ok (.iload 5, 2) := by decide +kernel
theorem dX0_round_70 : decode cX0_round 70 = .ok (.aload_n 0, 1) := by decide +kernel
theorem dX0_round_71 : decode cX0_round 71 = .ok (.iload_n 2, 1) := by decide +kernel
theorem dX0_round_72 : decode cX0_round 72 = .ok (.aload_n 0, 1) := by decide +kernel
theorem dX0_round_73 : decode cX0_round 73 = .ok (.getfield 11, 3) := by decide +kernel
theorem dX0_round_76 : decode cX0_round 76 = .ok (.iload_n 3, 1) := by decide +kernel
theorem dX0_round_77 : decode cX0_round 77 = .ok (.aaload, 1) := by decide +kernel
theorem dX0_round_78 : decode cX0_round 78 = .ok (.iload 5, 2) := by decide +kernel
theorem dX0_round_80 : decode cX0_round 80 = .ok (.iaload, 1) := by decide +kernel
theorem dX0_round_81 : decode cX0_round 81 = .ok (.iload 4, 2) := by decide +kernel
theorem dX0_round_83 : decode cX0_round 83 = .ok (.invokevirtual 65, 3) := by decide +kernel
theorem dX0_round_86 : decode cX0_round 86 = .ok (.iastore, 1) := by decide +kernel
theorem dX0_round_87 : decode cX0_round 87 = .ok (.iinc 5 1, 3) := by decide +kernel
theorem dX0_round_90 : decode cX0_round 90 = .ok (.goto (-35), 3) := by decide +kernel
theorem dX0_round_93 : decode cX0_round 93 = .ok (.aload_n 0, 1) := by decide +kernel
theorem dX0_round_94 : decode cX0_round 94 = .ok (.getfield 11, 3) := by decide +kernel
theorem dX0_round_97 : decode cX0_round 97 = .ok (.iload_n 1, 1) := by decide +kernel
theorem dX0_round_98 : decode cX0_round 98 = .ok (.aaload, 1) := by decide +kernel
theorem dX0_round_99 : decode cX0_round 99 = .ok (.invokestatic 69, 3) := by decide +kernel
theorem dX0_round_102 : decode cX0_round 102 = .ok (.ireturn, 1) := by decide +kernel
theorem dX0_part_0 : decode cX0_part 0 = .ok (.iload_n 1, 1) := by decide +kernel
theorem dX0_part_1 : decode cX0_part 1 = .ok (.invokestatic 33, 3) := by decide +kernel
theorem dX0_part_4 : decode cX0_part 4 = .ok (.iload_n 2, 1) := by decide +kernel
theorem dX0_part_5 : decode cX0_part 5 = .ok (.invokestatic 33, 3) := by decide +kernel
theorem dX0_part_8 : decode cX0_part 8 = .ok (.aload_n 0, 1) := by decide +kernel
theorem dX0_part_9 : decode cX0_part 9 = .ok (.iload_n 3, 1) := by decide +kernel
theorem dX0_part_10 : decode cX0_part 10 = .ok (.invokevirtual 72, 3) := by decide +kernel
theorem dX0_part_13 : decode cX0_part 13 = .ok (.invokestatic 25, 3) := by decide +kernel
theorem dX0_part_16 : decode cX0_part 16 = .ok (.iconst 0, 1) := by decide +kernel
theorem dX0_part_17 : decode cX0_part 17 = .ok (.istore 5, 2) := by decide +kernel
theorem dX0_part_19 : decode cX0_part 19 = .ok (.iload 5, 2) := by decide +kernel
theorem dX0_part_21 : decode cX0_part 21 = .ok (.bipush 16, 2) := by decide +kernel
theorem dX0_part_23 : decode cX0_part 23 = .ok (.if_icmp .ge 58, 3) := by decide +kernel
theorem dX0_part_26 : decode cX0_part 26 = .ok (.aload_n 0, 1) := by decide +kernel
theorem dX0_part_27 : decode cX0_part 27 = .ok (.getfield 11, 3) := by decide +kernel
theorem dX0_part_30 : decode cX0_part 30 = .ok (.iload_n 2, 1) := by decide +kernel
theorem dX0_part_31 : decode cX0_part 31 = .ok (.aaload, 1) := by decide +kernel
theorem dX0_part_32 : decode cX0_part 32 = .ok (.iload 5, 2) := by decide +kernel
theorem dX0_part_34 : decode cX0_part 34 = .ok (.iaload, 1) := by decide +kernel
theorem dX0_part_35 : decode cX0_part 35 = .ok (.istore 6, 2) := by decide +kernel
theorem dX0_part_37 : decode cX0_part 37 = .ok (.aload_n 0, 1) := by decide +kernel
theorem dX0_part_38 : decode cX0_part 38 = .ok (.getfield 11, 3) := by decide +kernel
theorem dX0_part_41 : decode cX0_part 41 = .ok (.iload_n 1, 1) := by decide +kernel
theorem dX0_part_42 : decode cX0_part 42 = .ok (.aaload, 1) := by decide +kernel
theorem dX0_part_43 : decode cX0_part 43 = .ok (.iload 5, 2) := by decide +kernel
theorem dX0_part_45 : decode cX0_part 45 = .ok (.iload 4, 2) := by decide +kernel
theorem dX0_part_47 : decode cX0_part 47 = .ok (.ifCond .eq 13, 3) := by decide +kernel
theorem dX0_part_50 : decode cX0_part 50 = .ok (.aload_n 0, 1) := by decide +kernel
theorem dX0_part_51 : decode cX0_part 51 = .ok (.iload 6, 2) := by decide +kernel
theorem dX0_part_53 : decode cX0_part 53 = .ok (.iload_n 3, 1) := by decide +kernel
theorem dX0_part_54 : decode cX0_part 54 = .ok (.invokevirtual 76, 3) := by decide +kernel
theorem dX0_part_57 : decode cX0_part 57 = .ok (.goto 17, 3) := by decide +kernel
theorem dX0_part_60 : decode cX0_part 60 = .ok (.aload_n 0, 1) := by decide +kernel
theorem dX0_part_61 : decode cX0_part 61 = .ok (.iload 6, 2) := by decide +kernel
theorem dX0_part_63 : decode cX0_part 63 = .ok (.iload_n 3, 1) := by decide +kernel
theorem dX0_part_64 : decode cX0_part 64 = .ok (.invokevirtual 79, 3) := by decide +kernel
theorem dX0_part_67 : decode cX0_part 67 = .ok (.aload_n 0, 1) := by decide +kernel
theorem dX0_part_68 : decode cX0_part 68 = .ok (.getfield 29, 3) := by decide +kernel
theorem dX0_part_71 : decode cX0_part 71 = .ok (.invokestatic 39, 3) := by decide +kernel
theorem dX0_part_74 : decode cX0_part 74 = .ok (.iastore, 1) := by decide +kernel
theorem dX0_part_75 : decode cX0_part 75 = .ok (.iinc 5 1, 3) := by decide +kernel
theorem dX0_part_78 : decode cX0_part 78 = .ok (.goto (-59), 3) := by decide +kernel
theorem dX0_part_81 : decode cX0_part 81 = .ok (.aload_n 0, 1) := by decide +kernel
theorem dX0_part_82 : decode cX0_part 82 = .ok (.getfield 11, 3) := by decide +kernel
theorem dX0_part_85 : decode cX0_part 85 = .ok (.iload_n 1, 1) := by decide +kernel
theorem dX0_part_86 : decode cX0_part 86 = .ok (.aaload, 1) := by decide +kernel
theorem dX0_part_87 : decode cX0_part 87 = .ok (.invokestatic 69, 3) := by decide +kernel
theorem dX0_part_90 : decode cX0_part 90 = .ok (.ireturn, 1) := by decide +kernel
theorem dX0_hint_0 : decode cX0_hint 0 = .ok (.iload_n 1, 1) := by decide +kernel
theorem dX0_hint_1 : decode cX0_hint 1 = .ok (.invokestatic 33, 3) := by decide +kernel
theorem dX0_hint_4 : decode cX0_hint 4 = .ok (.iload_n 2, 1) := by decide +kernel
theorem dX0_hint_5 : decode cX0_hint 5 = .ok (.invokestatic 33, 3) := by decide +kernel
theorem dX0_hint_8 : decode cX0_hint 8 = .ok (.iload_n 3, 1) := by decide +kernel
theorem dX0_hint_9 : decode cX0_hint 9 = .ok (.invokestatic 33, 3) := by decide +kernel
theorem dX0_hint_12 : decode cX0_hint 12 = .ok (.aload_n 0, 1) := by decide +kernel
theorem dX0_hint_13 : decode cX0_hint 13 = .ok (.iload 4, 2) := by decide +kernel
theorem dX0_hint_15 : decode cX0_hint 15 = .ok (.invokevirtual 72, 3) := by decide +kernel
theorem dX0_hint_18 : decode cX0_hint 18 = .ok (.invokestatic 25, 3) := by decide +kernel
theorem dX0_hint_21 : decode cX0_hint 21 = .ok (.iconst 0, 1) := by decide +kernel
theorem dX0_hint_22 : decode cX0_hint 22 = .ok (.istore 5, 2) := by decide +kernel
theorem dX0_hint_24 : decode cX0_hint 24 = .ok (.iload 5, 2) := by decide +kernel
theorem dX0_hint_26 : decode cX0_hint 26 = .ok (.bipush 16, 2) := by decide +kernel
theorem dX0_hint_28 : decode cX0_hint 28 = .ok (.if_icmp .ge 72, 3) := by decide +kernel
theorem dX0_hint_31 : decode cX0_hint 31 = .ok (.aload_n 0, 1) := by decide +kernel
theorem dX0_hint_32 : decode cX0_hint 32 = .ok (.getfield 11, 3) := by decide +kernel
theorem dX0_hint_35 : decode cX0_hint 35 = .ok (.iload_n 2, 1) := by decide +kernel
theorem dX0_hint_36 : decode cX0_hint 36 = .ok (.aaload, 1) := by decide +kernel
theorem dX0_hint_37 : decode cX0_hint 37 = .ok (.iload 5, 2) := by decide +kernel
theorem dX0_hint_39 : decode cX0_hint 39 = .ok (.iaload, 1) := by decide +kernel
theorem dX0_hint_40 : decode cX0_hint 40 = .ok (.istore 6, 2) := by decide +kernel
theorem dX0_hint_42 : decode cX0_hint 42 = .ok (.iload 6, 2) := by decide +kernel
theorem dX0_hint_44 : decode cX0_hint 44 = .ok (.aload_n 0, 1) := by decide +kernel
theorem dX0_hint_45 : decode cX0_hint 45 = .ok (.getfield 11, 3) := by decide +kernel
theorem dX0_hint_48 : decode cX0_hint 48 = .ok (.iload_n 3, 1) := by decide +kernel
theorem dX0_hint_49 : decode cX0_hint 49 = .ok (.aaload, 1) := by decide +kernel
theorem dX0_hint_50 : decode cX0_hint 50 = .ok (.iload 5, 2) := by decide +kernel
theorem dX0_hint_52 : decode cX0_hint 52 = .ok (.iaload, 1) := by decide +kernel
theorem dX0_hint_53 : decode cX0_hint 53 = .ok (.iadd, 1) := by decide +kernel
theorem dX0_hint_54 : decode cX0_hint 54 = .ok (.aload_n 0, 1) := by decide +kernel
theorem dX0_hint_55 : decode cX0_hint 55 = .ok (.getfield 29, 3) := by decide +kernel
theorem dX0_hint_58 : decode cX0_hint 58 = .ok (.irem, 1) := by decide +kernel
theorem dX0_hint_59 : decode cX0_hint 59 = .ok (.istore 7, 2) := by decide +kernel
theorem dX0_hint_61 : decode cX0_hint 61 = .ok (.aload_n 0, 1) := by decide +kernel
theorem dX0_hint_62 : decode cX0_hint 62 = .ok (.getfield 11, 3) := by decide +kernel
theorem dX0_hint_65 : decode cX0_hint 65 = .ok (.iload_n 1, 1) := by decide +kernel
theorem dX0_hint_66 : decode cX0_hint 66 = .ok (.aaload, 1) := by decide +kernel
theorem dX0_hint_67 : decode cX0_hint 67 = .ok (.iload 5, 2) := by decide +kernel
theorem dX0_hint_69 : decode cX0_hint 69 = .ok (.aload_n 0, 1) := by decide +kernel
theorem dX0_hint_70 : decode cX0_hint 70 = .ok (.iload 6, 2) := by decide +kernel
theorem dX0_hint_72 : decode cX0_hint 72 = .ok (.iload 4, 2) := by decide +kernel
theorem dX0_hint_74 : decode cX0_hint 74 = .ok (.invokevirtual 76, 3) := by decide +kernel
theorem dX0_hint_77 : decode cX0_hint 77 = .ok (.aload_n 0, 1) := by decide +kernel
theorem dX0_hint_78 : decode cX0_hint 78 = .ok (.iload 7, 2) := by decide +kernel
theorem dX0_hint_80 : decode cX0_hint 80 = .ok (.iload 4, 2) := by decide +kernel
theorem dX0_hint_82 : decode cX0_hint 82 = .ok (.invokevirtual 76, 3) := by decide +kernel
theorem dX0_hint_85 : decode cX0_hint 85 = .ok (.if_icmp .eq 7, 3) := by decide +kernel
theorem dX0_hint_88 : decode cX0_hint 88 = .ok (.iconst 1, 1) := by decide +kernel
theorem dX0_hint_89 : decode cX0_hint 89 = .ok (.goto 4, 3) := by decide +kernel
theorem dX0_hint_92 : decode cX0_hint 92 = .ok (.iconst 0, 1) := by decide +kernel
theorem dX0_hint_93 : decode cX0_hint 93 = .ok (.iastore, 1) := by decide +kernel
theorem dX0_hint_94 : decode cX0_hint 94 = .ok (.iinc 5 1, 3) := by decide +kernel
theorem dX0_hint_97 : decode cX0_hint 97 = .ok (.goto (-73), 3) := by decide +kernel
theorem dX0_hint_100 : decode cX0_hint 100 = .ok (.aload_n 0, 1) := by decide +kernel
theorem dX0_hint_101 : decode cX0_hint 101 = .ok (.getfield 11, 3) := by decide +kernel
theorem dX0_hint_104 : decode cX0_hint 104 = .ok (.iload_n 1, 1) := by decide +kernel
theorem dX0_hint_105 : decode cX0_hint 105 = .ok (.aaload, 1) := by decide +kernel
theorem dX0_hint_106 : decode cX0_hint 106 = .ok (.invokestatic 69, 3) := by decide +kernel
theorem dX0_hint_109 : decode cX0_hint 109 = .ok (.ireturn, 1) := by decide +kernel
theorem dX0_use_0 : decode cX0_use 0 = .ok (.iload_n 1, 1) := by decide +kernel
theorem dX0_use_1 : decode cX0_use 1 = .ok (.invokestatic 33, 3) := by decide +kernel
theorem dX0_use_4 : decode cX0_use 4 = .ok (.iload_n 2, 1) := by decide +kernel
theorem dX0_use_5 : decode cX0_use 5 = .ok (.invokestatic 33, 3) := by decide +kernel
theorem dX0_use_8 : decode cX0_use 8 = .ok (.iload_n 3, 1) := by decide +kernel
theorem dX0_use_9 : decode cX0_use 9 = .ok (.invokestatic 33, 3) := by decide +kernel
theorem dX0_use_12 : decode cX0_use 12 = .ok (.aload_n 0, 1) := by decide +kernel
theorem dX0_use_13 : decode cX0_use 13 = .ok (.iload 4, 2) := by decide +kernel
theorem dX0_use_15 : decode cX0_use 15 = .ok (.invokevirtual 72, 3) := by decide +kernel
theorem dX0_use_18 : decode cX0_use 18 = .ok (.invokestatic 25, 3) := by decide +kernel
theorem dX0_use_21 : decode cX0_use 21 = .ok (.iconst 0, 1) := by decide +kernel
theorem dX0_use_22 : decode cX0_use 22 = .ok (.istore 5, 2) := by decide +kernel
theorem dX0_use_24 : decode cX0_use 24 = .ok (.iconst 0, 1) := by decide +kernel
theorem dX0_use_25 : decode cX0_use 25 = .ok (.istore 6, 2) := by decide +kernel
theorem dX0_use_27 : decode cX0_use 27 = .ok (.iload 6, 2) := by decide +kernel
theorem dX0_use_29 : decode cX0_use 29 = .ok (.bipush 16, 2) := by decide +kernel
theorem dX0_use_31 : decode cX0_use 31 = .ok (.if_icmp .ge 78, 3) := by decide +kernel
theorem dX0_use_34 : decode cX0_use 34 = .ok (.aload_n 0, 1) := by decide +kernel
theorem dX0_use_35 : decode cX0_use 35 = .ok (.getfield 11, 3) := by decide +kernel
theorem dX0_use_38 : decode cX0_use 38 = .ok (.iload_n 2, 1) := by decide +kernel
theorem dX0_use_39 : decode cX0_use 39 = .ok (.aaload, 1) := by decide +kernel
theorem dX0_use_40 : decode cX0_use 40 = .ok (.iload 6, 2) := by decide +kernel
theorem dX0_use_42 : decode cX0_use 42 = .ok (.iaload, 1) := by decide +kernel
theorem dX0_use_43 : decode cX0_use 43 = .ok (.istore 7, 2) := by decide +kernel
theorem dX0_use_45 : decode cX0_use 45 = .ok (.aload_n 0, 1) := by decide +kernel
theorem dX0_use_46 : decode cX0_use 46 = .ok (.iload 7, 2) := by decide +kernel
theorem dX0_use_48 : decode cX0_use 48 = .ok (.iload 4, 2) := by decide +kernel
theorem dX0_use_50 : decode cX0_use 50 = .ok (.invokevirtual 76, 3) := by decide +kernel
theorem dX0_use_53 : decode cX0_use 53 = .ok (.istore 8, 2) := by decide +kernel
theorem dX0_use_55 : decode cX0_use 55 = .ok (.aload_n 0, 1) := by decide +kernel
theorem dX0_use_56 : decode cX0_use 56 = .ok (.getfield 11, 3) := by decide +kernel
theorem dX0_use_59 : decode cX0_use 59 = .ok (.iload_n 3, 1) := by decide +kernel
theorem dX0_use_60 : decode cX0_use 60 = .ok (.aaload, 1) := by decide +kernel
theorem dX0_use_61 : decode cX0_use 61 = .ok (.iload 6, 2) := by decide +kernel
theorem dX0_use_63 : decode cX0_use 63 = .ok (.iaload, 1) := by decide +kernel
theorem dX0_use_64 : decode cX0_use 64 = .ok (.ifCond .eq 14, 3) := by decide +kernel
theorem dX0_use_67 : decode cX0_use 67 = .ok (.aload_n 0, 1) := by decide +kernel
theorem dX0_use_68 : decode cX0_use 68 = .ok (.iload 7, 2) := by decide +kernel
theorem dX0_use_70 : decode cX0_use 70 = .ok (.iload 4, 2) := by decide +kernel
theorem dX0_use_72 : decode cX0_use 72 = .ok (.invokevirtual 82, 3) := by decide +kernel
theorem dX0_use_75 : decode cX0_use 75 = .ok (.goto 5, 3) := by decide +kernel
theorem dX0_use_78 : decode cX0_use 78 = .ok (.iload 8, 2) := by decide +kernel
theorem dX0_use_80 : decode cX0_use 80 = .ok (.istore 9, 2) := by decide +kernel
theorem dX0_use_82 : decode cX0_use 82 = .ok (.iload 9, 2) := by decide +kernel
theorem dX0_use_84 : decode cX0_use 84 = .ok (.iload 8, 2) := by decide +kernel
theorem dX0_use_86 : decode cX0_use 86 = .ok (.if_icmp .eq 6, 3) := by decide +kernel
theorem dX0_use_89 : decode cX0_use 89 = .ok (.iinc 5 1, 3) := by decide +kernel
theorem dX0_use_92 : decode cX0_use 92 = .ok (.aload_n 0, 1) := by decide +kernel
theorem dX0_use_93 : decode cX0_use 93 = .ok (.getfield 11, 3) := by decide +kernel
theorem dX0_use_96 : decode cX0_use 96 = .ok (.iload_n 1, 1) := by decide +kernel
theorem dX0_use_97 : decode cX0_use 97 = .ok (.aaload, 1) := by decide +kernel
theorem dX0_use_98 : decode cX0_use 98 = .ok (.iload 6, 2) := by decide +kernel
theorem dX0_use_100 : decode cX0_use 100 = .ok (.iload 9, 2) := by decide +kernel
theorem dX0_use_102 : decode cX0_use 102 = .ok (.iastore, 1) := by decide +kernel
theorem dX0_use_103 : decode cX0_use 103 = .ok (.iinc 6 1, 3) := by decide +kernel
theorem dX0_use_106 : decode cX0_use 106 = .ok (.goto (-79), 3) := by decide +kernel
theorem dX0_use_109 : decode cX0_use 109 = .ok (.iload 5, 2) := by decide +kernel
theorem dX0_use_111 : decode cX0_use 111 = .ok (.ireturn, 1) := by decide +kernel
theorem dX0_size_0 : decode cX0_size 0 = .ok (.iload_n 1, 1) := by decide +kernel
theorem dX0_size_1 : decode cX0_size 1 = .ok (.invokestatic 33, 3) := by decide +kernel
theorem dX0_size_4 : decode cX0_size 4 = .ok (.aload_n 0, 1) := by decide +kernel
theorem dX0_size_5 : decode cX0_size 5 = .ok (.aload_n 0, 1) := by decide +kernel
theorem dX0_size_6 : decode cX0_size 6 = .ok (.getfield 11, 3) := by decide +kernel
theorem dX0_size_9 : decode cX0_size 9 = .ok (.iload_n 1, 1) := by decide +kernel
theorem dX0_size_10 : decode cX0_size 10 = .ok (.aaload, 1) := by decide +kernel
theorem dX0_size_11 : decode cX0_size 11 = .ok (.invokevirtual 55, 3) := by decide +kernel
theorem dX0_size_14 : decode cX0_size 14 = .ok (.ireturn, 1) := by decide +kernel
theorem dX0_far_0 : decode cX0_far 0 = .ok (.iload_n 1, 1) := by decide +kernel
theorem dX0_far_1 : decode cX0_far 1 = .ok (.invokestatic 33, 3) := by decide +kernel
theorem dX0_far_4 : decode cX0_far 4 = .ok (.iload_n 2, 1) := by decide +kernel
theorem dX0_far_5 : decode cX0_far 5 = .ok (.invokestatic 33, 3) := by decide +kernel
theorem dX0_far_8 : decode cX0_far 8 = .ok (.iconst 0, 1) := by decide +kernel
theorem dX0_far_9 : decode cX0_far 9 = .ok (.istore_n 3, 1) := by decide +kernel
theorem dX0_far_10 : decode cX0_far 10 = .ok (.iconst 0, 1) := by decide +kernel
theorem dX0_far_11 : decode cX0_far 11 = .ok (.istore 4, 2) := by decide +kernel
theorem dX0_far_13 : decode cX0_far 13 = .ok (.iload 4, 2) := by decide +kernel
theorem dX0_far_15 : decode cX0_far 15 = .ok (.bipush 16, 2) := by decide +kernel
theorem dX0_far_17 : decode cX0_far 17 = .ok (.if_icmp .ge 42, 3) := by decide +kernel
theorem dX0_far_20 : decode cX0_far 20 = .ok (.iload_n 3, 1) := by decide +kernel
theorem dX0_far_21 : decode cX0_far 21 = .ok (.aload_n 0, 1) := by decide +kernel
theorem dX0_far_22 : decode cX0_far 22 = .ok (.aload_n 0, 1) := by decide +kernel
theorem dX0_far_23 : decode cX0_far 23 = .ok (.getfield 11, 3) := by decide +kernel
theorem dX0_far_26 : decode cX0_far 26 = .ok (.iload_n 1, 1) := by decide +kernel
theorem dX0_far_27 : decode cX0_far 27 = .ok (.aaload, 1) := by decide +kernel
theorem dX0_far_28 : decode cX0_far 28 = .ok (.iload 4, 2) := by decide +kernel
theorem dX0_far_30 : decode cX0_far 30 = .ok (.iaload, 1) := by decide +kernel
theorem dX0_far_31 : decode cX0_far 31 = .ok (.aload_n 0, 1) := by decide +kernel
theorem dX0_far_32 : decode cX0_far 32 = .ok (.getfield 11, 3) := by decide +kernel
theorem dX0_far_35 : decode cX0_far 35 = .ok (.iload_n 2, 1) := by decide +kernel
theorem dX0_far_36 : decode cX0_far 36 = .ok (.aaload, 1) := by decide +kernel
theorem dX0_far_37 : decode cX0_far 37 = .ok (.iload 4, 2) := by decide +kernel
theorem dX0_far_39 : decode cX0_far 39 = .ok (.iaload, 1) := by decide +kernel
theorem dX0_far_40 : decode cX0_far 40 = .ok (.isub, 1) := by decide +kernel
theorem dX0_far_41 : decode cX0_far 41 = .ok (.aload_n 0, 1) := by decide +kernel
theorem dX0_far_42 : decode cX0_far 42 = .ok (.getfield 29, 3) := by decide +kernel
theorem dX0_far_45 : decode cX0_far 45 = .ok (.invokestatic 39, 3) := by decide +kernel
theorem dX0_far_48 : decode cX0_far 48 = .ok (.invokevirtual 85, 3) := by decide +kernel
theorem dX0_far_51 : decode cX0_far 51 = .ok (.iadd, 1) := by decide +kernel
theorem dX0_far_52 : decode cX0_far 52 = .ok (.istore_n 3, 1) := by decide +kernel
theorem dX0_far_53 : decode cX0_far 53 = .ok (.iinc 4 1, 3) := by decide +kernel
theorem dX0_far_56 : decode cX0_far 56 = .ok (.goto (-43), 3) := by decide +kernel
theorem dX0_far_59 : decode cX0_far 59 = .ok (.iload_n 3, 1) := by decide +kernel
theorem dX0_far_60 : decode cX0_far 60 = .ok (.ireturn, 1) := by decide +kernel
theorem dX0_noise_0 : decode cX0_noise 0 = .ok (.iload_n 1, 1) := by decide +kernel
theorem dX0_noise_1 : decode cX0_noise 1 = .ok (.invokestatic 33, 3) := by decide +kernel
theorem dX0_noise_4 : decode cX0_noise 4 = .ok (.iload_n 2, 1) := by decide +kernel
theorem dX0_noise_5 : decode cX0_noise 5 = .ok (.iconst 1, 1) := by decide +kernel
theorem dX0_noise_6 : decode cX0_noise 6 = .ok (.if_icmp .lt 12, 3) := by decide +kernel
theorem dX0_noise_9 : decode cX0_noise 9 = .ok (.iload_n 2, 1) := by decide +kernel
theorem dX0_noise_10 : decode cX0_noise 10 = .ok (.iconst 3, 1) := by decide +kernel
theorem dX0_noise_11 : decode cX0_noise 11 = .ok (.if_icmp .gt 7, 3) := by decide +kernel
theorem dX0_noise_14 : decode cX0_noise 14 = .ok (.iconst 1, 1) := by decide +kernel
theorem dX0_noise_15 : decode cX0_noise 15 = .ok (.goto 4, 3) := by decide +kernel
theorem dX0_noise_18 : decode cX0_noise 18 = .ok (.iconst 0, 1) := by decide +kernel
theorem dX0_noise_19 : decode cX0_noise 19 = .ok (.invokestatic 25, 3) := by decide +kernel
theorem dX0_noise_22 : decode cX0_noise 22 = .ok (.iconst 0, 1) := by decide +kernel
theorem dX0_noise_23 : decode cX0_noise 23 = .ok (.istore 7, 2) := by decide +kernel
theorem dX0_noise_25 : decode cX0_noise 25 = .ok (.iload 7, 2) := by decide +kernel
theorem dX0_noise_27 : decode cX0_noise 27 = .ok (.bipush 16, 2) := by decide +kernel
theorem dX0_noise_29 : decode cX0_noise 29 = .ok (.if_icmp .ge 62, 3) := by decide +kernel
theorem dX0_noise_32 : decode cX0_noise 32 = .ok (.iconst 2, 1) := by decide +kernel
theorem dX0_noise_33 : decode cX0_noise 33 = .ok (.iload_n 2, 1) := by decide +kernel
theorem dX0_noise_34 : decode cX0_noise 34 = .ok (.imul, 1) := by decide +kernel
theorem dX0_noise_35 : decode cX0_noise 35 = .ok (.iload 7, 2) := by decide +kernel
theorem dX0_noise_37 : decode cX0_noise 37 = .ok (.imul, 1) := by decide +kernel
theorem dX0_noise_38 : decode cX0_noise 38 = .ok (.istore 8, 2) := by decide +kernel
theorem dX0_noise_40 : decode cX0_noise 40 = .ok (.iload 8, 2) := by decide +kernel
theorem dX0_noise_42 : decode cX0_noise 42 = .ok (.iload_n 2, 1) := by decide +kernel
theorem dX0_noise_43 : decode cX0_noise 43 = .ok (.lload_n 3, 1) := by decide +kernel
theorem dX0_noise_44 : decode cX0_noise 44 = .ok (.lload 5, 2) := by decide +kernel
theorem dX0_noise_46 : decode cX0_noise 46 = .ok (.invokestatic 89, 3) := by decide +kernel
theorem dX0_noise_49 : decode cX0_noise 49 = .ok (.istore 9, 2) := by decide +kernel
theorem dX0_noise_51 : decode cX0_noise 51 = .ok (.iload 8, 2) := by decide +kernel
theorem dX0_noise_53 : decode cX0_noise 53 = .ok (.iload_n 2, 1) := by decide +kernel
theorem dX0_noise_54 : decode cX0_noise 54 = .ok (.iadd, 1) := by decide +kernel
theorem dX0_noise_55 : decode cX0_noise 55 = .ok (.iload_n 2, 1) := by decide +kernel
theorem dX0_noise_56 : decode cX0_noise 56 = .ok (.lload_n 3, 1) := by decide +kernel
theorem dX0_noise_57 : decode cX0_noise 57 = .ok (.lload 5, 2) := by decide +kernel
theorem dX0_noise_59 : decode cX0_noise 59 = .ok (.invokestatic 89, 3) := by decide +kernel
theorem dX0_noise_62 : decode cX0_noise 62 = .ok (.istore 10, 2) := by decide +kernel
theorem dX0_noise_64 : decode cX0_noise 64 = .ok (.aload_n 0, 1) := by decide +kernel
theorem dX0_noise_65 : decode cX0_noise 65 = .ok (.getfield 11, 3) := by decide +kernel
theorem dX0_noise_68 : decode cX0_noise 68 = .ok (.iload_n 1, 1) := by decide +kernel
theorem dX0_noise_69 : decode cX0_noise 69 = .ok (.aaload, 1) := by decide +kernel
theorem dX0_noise_70 : decode cX0_noise 70 = .ok (.iload 7, 2) := by decide +kernel
theorem dX0_noise_72 : decode cX0_noise 72 = .ok (.iload 9, 2) := by decide +kernel
theorem dX0_noise_74 : decode cX0_noise 74 = .ok (.iload 10, 2) := by decide +kernel
theorem dX0_noise_76 : decode cX0_noise 76 = .ok (.isub, 1) := by decide +kernel
theorem dX0_noise_77 : decode cX0_noise 77 = .ok (.aload_n 0, 1) := by decide +kernel
theorem dX0_noise_78 : decode cX0_noise 78 = .ok (.getfield 29, 3) := by decide +kernel
theorem dX0_noise_81 : decode cX0_noise 81 = .ok (.invokestatic 39, 3) := by decide +kernel
theorem dX0_noise_84 : decode cX0_noise 84 = .ok (.iastore, 1) := by decide +kernel
theorem dX0_noise_85 : decode cX0_noise 85 = .ok (.iinc 7 1, 3) := by decide +kernel
theorem dX0_noise_88 : decode cX0_noise 88 = .ok (.goto (-63), 3) := by decide +kernel
theorem dX0_noise_91 : decode cX0_noise 91 = .ok (.aload_n 0, 1) := by decide +kernel
theorem dX0_noise_92 : decode cX0_noise 92 = .ok (.getfield 11, 3) := by decide +kernel
theorem dX0_noise_95 : decode cX0_noise 95 = .ok (.iload_n 1, 1) := by decide +kernel
theorem dX0_noise_96 : decode cX0_noise 96 = .ok (.aaload, 1) := by decide +kernel
theorem dX0_noise_97 : decode cX0_noise 97 = .ok (.invokestatic 69, 3) := by decide +kernel
theorem dX0_noise_100 : decode cX0_noise 100 = .ok (.ireturn, 1) := by decide +kernel
