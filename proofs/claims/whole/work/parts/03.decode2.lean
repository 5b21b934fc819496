theorem dX0_movedPart_0 : decode cX0_movedPart 0 = .ok (.aload_n 0, 1) := by decide +kernel
theorem dX0_movedPart_1 : decode cX0_movedPart 1 = .ok (.iload_n 1, 1) := by decide +kernel
theorem dX0_movedPart_2 : decode cX0_movedPart 2 = .ok (.iload_n 2, 1) := by decide +kernel
theorem dX0_movedPart_3 : decode cX0_movedPart 3 = .ok (.invokevirtual 79, 3) := by decide +kernel
theorem dX0_movedPart_6 : decode cX0_movedPart 6 = .ok (.ifCond .le 7, 3) := by decide +kernel
theorem dX0_movedPart_9 : decode cX0_movedPart 9 = .ok (.iconst 1, 1) := by decide +kernel
theorem dX0_movedPart_10 : decode cX0_movedPart 10 = .ok (.goto 4, 3) := by decide +kernel
theorem dX0_movedPart_13 : decode cX0_movedPart 13 = .ok (.iconst (-1), 1) := by decide +kernel
theorem dX0_movedPart_14 : decode cX0_movedPart 14 = .ok (.istore_n 3, 1) := by decide +kernel
theorem dX0_movedPart_15 : decode cX0_movedPart 15 = .ok (.aload_n 0, 1) := by decide +kernel
theorem dX0_movedPart_16 : decode cX0_movedPart 16 = .ok (.iload_n 1, 1) := by decide +kernel
theorem dX0_movedPart_17 : decode cX0_movedPart 17 = .ok (.iload_n 2, 1) := by decide +kernel
theorem dX0_movedPart_18 : decode cX0_movedPart 18 = .ok (.invokevirtual 76, 3) := by decide +kernel
theorem dX0_movedPart_21 : decode cX0_movedPart 21 = .ok (.iload_n 3, 1) := by decide +kernel
theorem dX0_movedPart_22 : decode cX0_movedPart 22 = .ok (.iadd, 1) := by decide +kernel
theorem dX0_movedPart_23 : decode cX0_movedPart 23 = .ok (.aload_n 0, 1) := by decide +kernel
theorem dX0_movedPart_24 : decode cX0_movedPart 24 = .ok (.getfield 29, 3) := by decide +kernel
theorem dX0_movedPart_27 : decode cX0_movedPart 27 = .ok (.iconst 1, 1) := by decide +kernel
theorem dX0_movedPart_28 : decode cX0_movedPart 28 = .ok (.isub, 1) := by decide +kernel
theorem dX0_movedPart_29 : decode cX0_movedPart 29 = .ok (.iload_n 2, 1) := by decide +kernel
theorem dX0_movedPart_30 : decode cX0_movedPart 30 = .ok (.idiv, 1) := by decide +kernel
theorem dX0_movedPart_31 : decode cX0_movedPart 31 = .ok (.invokestatic 39, 3) := by decide +kernel
theorem dX0_movedPart_34 : decode cX0_movedPart 34 = .ok (.ireturn, 1) := by decide +kernel
theorem dX0_ones_0 : decode cX0_ones 0 = .ok (.iconst 0, 1) := by decide +kernel
theorem dX0_ones_1 : decode cX0_ones 1 = .ok (.istore 6, 2) := by decide +kernel
theorem dX0_ones_3 : decode cX0_ones 3 = .ok (.iload_n 0, 1) := by decide +kernel
theorem dX0_ones_4 : decode cX0_ones 4 = .ok (.istore 7, 2) := by decide +kernel
theorem dX0_ones_6 : decode cX0_ones 6 = .ok (.iload 7, 2) := by decide +kernel
theorem dX0_ones_8 : decode cX0_ones 8 = .ok (.iload_n 0, 1) := by decide +kernel
theorem dX0_ones_9 : decode cX0_ones 9 = .ok (.iload_n 1, 1) := by decide +kernel
theorem dX0_ones_10 : decode cX0_ones 10 = .ok (.iadd, 1) := by decide +kernel
theorem dX0_ones_11 : decode cX0_ones 11 = .ok (.if_icmp .ge 37, 3) := by decide +kernel
theorem dX0_ones_14 : decode cX0_ones 14 = .ok (.iload 7, 2) := by decide +kernel
theorem dX0_ones_16 : decode cX0_ones 16 = .ok (.bipush 64, 2) := by decide +kernel
theorem dX0_ones_18 : decode cX0_ones 18 = .ok (.if_icmp .ge 7, 3) := by decide +kernel
theorem dX0_ones_21 : decode cX0_ones 21 = .ok (.lload_n 2, 1) := by decide +kernel
theorem dX0_ones_22 : decode cX0_ones 22 = .ok (.goto 5, 3) := by decide +kernel
theorem dX0_ones_25 : decode cX0_ones 25 = .ok (.lload 4, 2) := by decide +kernel
theorem dX0_ones_27 : decode cX0_ones 27 = .ok (.lstore 8, 2) := by decide +kernel
theorem dX0_ones_29 : decode cX0_ones 29 = .ok (.iload 6, 2) := by decide +kernel
theorem dX0_ones_31 : decode cX0_ones 31 = .ok (.lload 8, 2) := by decide +kernel
theorem dX0_ones_33 : decode cX0_ones 33 = .ok (.iload 7, 2) := by decide +kernel
theorem dX0_ones_35 : decode cX0_ones 35 = .ok (.lushr, 1) := by decide +kernel
theorem dX0_ones_36 : decode cX0_ones 36 = .ok (.lconst 1, 1) := by decide +kernel
theorem dX0_ones_37 : decode cX0_ones 37 = .ok (.land, 1) := by decide +kernel
theorem dX0_ones_38 : decode cX0_ones 38 = .ok (.l2i, 1) := by decide +kernel
theorem dX0_ones_39 : decode cX0_ones 39 = .ok (.iadd, 1) := by decide +kernel
theorem dX0_ones_40 : decode cX0_ones 40 = .ok (.istore 6, 2) := by decide +kernel
theorem dX0_ones_42 : decode cX0_ones 42 = .ok (.iinc 7 1, 3) := by decide +kernel
theorem dX0_ones_45 : decode cX0_ones 45 = .ok (.goto (-39), 3) := by decide +kernel
theorem dX0_ones_48 : decode cX0_ones 48 = .ok (.iload 6, 2) := by decide +kernel
theorem dX0_ones_50 : decode cX0_ones 50 = .ok (.ireturn, 1) := by decide +kernel
theorem dX0_valueAt_0 : decode cX0_valueAt 0 = .ok (.lconst 0, 1) := by decide +kernel
theorem dX0_valueAt_1 : decode cX0_valueAt 1 = .ok (.lstore 5, 2) := by decide +kernel
theorem dX0_valueAt_3 : decode cX0_valueAt 3 = .ok (.lconst 1, 1) := by decide +kernel
theorem dX0_valueAt_4 : decode cX0_valueAt 4 = .ok (.lstore 7, 2) := by decide +kernel
theorem dX0_valueAt_6 : decode cX0_valueAt 6 = .ok (.iload_n 2, 1) := by decide +kernel
theorem dX0_valueAt_7 : decode cX0_valueAt 7 = .ok (.istore 9, 2) := by decide +kernel
theorem dX0_valueAt_9 : decode cX0_valueAt 9 = .ok (.iload 9, 2) := by decide +kernel
theorem dX0_valueAt_11 : decode cX0_valueAt 11 = .ok (.bipush 16, 2) := by decide +kernel
theorem dX0_valueAt_13 : decode cX0_valueAt 13 = .ok (.if_icmp .ge 45, 3) := by decide +kernel
theorem dX0_valueAt_16 : decode cX0_valueAt 16 = .ok (.lload 5, 2) := by decide +kernel
theorem dX0_valueAt_18 : decode cX0_valueAt 18 = .ok (.aload_n 1, 1) := by decide +kernel
theorem dX0_valueAt_19 : decode cX0_valueAt 19 = .ok (.iload 9, 2) := by decide +kernel
theorem dX0_valueAt_21 : decode cX0_valueAt 21 = .ok (.iaload, 1) := by decide +kernel
theorem dX0_valueAt_22 : decode cX0_valueAt 22 = .ok (.i2l, 1) := by decide +kernel
theorem dX0_valueAt_23 : decode cX0_valueAt 23 = .ok (.lload 7, 2) := by decide +kernel
theorem dX0_valueAt_25 : decode cX0_valueAt 25 = .ok (.lmul, 1) := by decide +kernel
theorem dX0_valueAt_26 : decode cX0_valueAt 26 = .ok (.ladd, 1) := by decide +kernel
theorem dX0_valueAt_27 : decode cX0_valueAt 27 = .ok (.aload_n 0, 1) := by decide +kernel
theorem dX0_valueAt_28 : decode cX0_valueAt 28 = .ok (.getfield 29, 3) := by decide +kernel
theorem dX0_valueAt_31 : decode cX0_valueAt 31 = .ok (.i2l, 1) := by decide +kernel
theorem dX0_valueAt_32 : decode cX0_valueAt 32 = .ok (.lrem, 1) := by decide +kernel
theorem dX0_valueAt_33 : decode cX0_valueAt 33 = .ok (.lstore 5, 2) := by decide +kernel
theorem dX0_valueAt_35 : decode cX0_valueAt 35 = .ok (.lload 7, 2) := by decide +kernel
theorem dX0_valueAt_37 : decode cX0_valueAt 37 = .ok (.iload 4, 2) := by decide +kernel
theorem dX0_valueAt_39 : decode cX0_valueAt 39 = .ok (.i2l, 1) := by decide +kernel
theorem dX0_valueAt_40 : decode cX0_valueAt 40 = .ok (.lmul, 1) := by decide +kernel
theorem dX0_valueAt_41 : decode cX0_valueAt 41 = .ok (.aload_n 0, 1) := by decide +kernel
theorem dX0_valueAt_42 : decode cX0_valueAt 42 = .ok (.getfield 29, 3) := by decide +kernel
theorem dX0_valueAt_45 : decode cX0_valueAt 45 = .ok (.i2l, 1) := by decide +kernel
theorem dX0_valueAt_46 : decode cX0_valueAt 46 = .ok (.lrem, 1) := by decide +kernel
theorem dX0_valueAt_47 : decode cX0_valueAt 47 = .ok (.lstore 7, 2) := by decide +kernel
theorem dX0_valueAt_49 : decode cX0_valueAt 49 = .ok (.iload 9, 2) := by decide +kernel
theorem dX0_valueAt_51 : decode cX0_valueAt 51 = .ok (.iload_n 3, 1) := by decide +kernel
theorem dX0_valueAt_52 : decode cX0_valueAt 52 = .ok (.iadd, 1) := by decide +kernel
theorem dX0_valueAt_53 : decode cX0_valueAt 53 = .ok (.istore 9, 2) := by decide +kernel
theorem dX0_valueAt_55 : decode cX0_valueAt 55 = .ok (.goto (-46), 3) := by decide +kernel
theorem dX0_valueAt_58 : decode cX0_valueAt 58 = .ok (.lload 5, 2) := by decide +kernel
theorem dX0_valueAt_60 : decode cX0_valueAt 60 = .ok (.l2i, 1) := by decide +kernel
theorem dX0_valueAt_61 : decode cX0_valueAt 61 = .ok (.ireturn, 1) := by decide +kernel
theorem dX1_init_0 : decode cX1_init 0 = .ok (.aload_n 0, 1) := by decide +kernel
theorem dX1_init_1 : decode cX1_init 1 = .ok (.invokespecial 1, 3) := by decide +kernel
theorem dX1_init_4 : decode cX1_init 4 = .ok (.aload_n 0, 1) := by decide +kernel
theorem dX1_init_5 : decode cX1_init 5 = .ok (.sipush 3329, 3) := by decide +kernel
theorem dX1_init_8 : decode cX1_init 8 = .ok (.putfield 7, 3) := by decide +kernel
theorem dX1_init_11 : decode cX1_init 11 = .ok (.aload_n 0, 1) := by decide +kernel
theorem dX1_init_12 : decode cX1_init 12 = .ok (.sipush 192, 3) := by decide +kernel
theorem dX1_init_15 : decode cX1_init 15 = .ok (.newarray .int, 2) := by decide +kernel
theorem dX1_init_17 : decode cX1_init 17 = .ok (.putfield 13, 3) := by decide +kernel
theorem dX1_init_20 : decode cX1_init 20 = .ok (.aload_n 0, 1) := by decide +kernel
theorem dX1_init_21 : decode cX1_init 21 = .ok (.bipush 16, 2) := by decide +kernel
theorem dX1_init_23 : decode cX1_init 23 = .ok (.newarray .int, 2) := by decide +kernel
theorem dX1_init_25 : decode cX1_init 25 = .ok (.putfield 17, 3) := by decide +kernel
theorem dX1_init_28 : decode cX1_init 28 = .ok (.return_, 1) := by decide +kernel
theorem dX1_thrown_0 : decode cX1_thrown 0 = .ok (.aload_n 0, 1) := by decide +kernel
theorem dX1_thrown_1 : decode cX1_thrown 1 = .ok (.getfield 20, 3) := by decide +kernel
theorem dX1_thrown_4 : decode cX1_thrown 4 = .ok (.ireturn, 1) := by decide +kernel
theorem dX1_none_0 : decode cX1_none 0 = .ok (.iload_n 0, 1) := by decide +kernel
theorem dX1_none_1 : decode cX1_none 1 = .ok (.ifCond .lt 9, 3) := by decide +kernel
theorem dX1_none_4 : decode cX1_none 4 = .ok (.iload_n 0, 1) := by decide +kernel
theorem dX1_none_5 : decode cX1_none 5 = .ok (.bipush 12, 2) := by decide +kernel
theorem dX1_none_7 : decode cX1_none 7 = .ok (.if_icmp .lt 7, 3) := by decide +kernel
theorem dX1_none_10 : decode cX1_none 10 = .ok (.iconst 1, 1) := by decide +kernel
theorem dX1_none_11 : decode cX1_none 11 = .ok (.goto 4, 3) := by decide +kernel
theorem dX1_none_14 : decode cX1_none 14 = .ok (.iconst 0, 1) := by decide +kernel
theorem dX1_none_15 : decode cX1_none 15 = .ok (.ireturn, 1) := by decide +kernel
theorem dX1_at_0 : decode cX1_at 0 = .ok (.aload_n 0, 1) := by decide +kernel
theorem dX1_at_1 : decode cX1_at 1 = .ok (.getfield 13, 3) := by decide +kernel
theorem dX1_at_4 : decode cX1_at 4 = .ok (.bipush 16, 2) := by decide +kernel
theorem dX1_at_6 : decode cX1_at 6 = .ok (.iload_n 1, 1) := by decide +kernel
theorem dX1_at_7 : decode cX1_at 7 = .ok (.imul, 1) := by decide +kernel
theorem dX1_at_8 : decode cX1_at 8 = .ok (.iload_n 2, 1) := by decide +kernel
theorem dX1_at_9 : decode cX1_at 9 = .ok (.iadd, 1) := by decide +kernel
theorem dX1_at_10 : decode cX1_at 10 = .ok (.iaload, 1) := by decide +kernel
theorem dX1_at_11 : decode cX1_at 11 = .ok (.ireturn, 1) := by decide +kernel
theorem dX1_of_0 : decode cX1_of 0 = .ok (.lload_n 1, 1) := by decide +kernel
theorem dX1_of_1 : decode cX1_of 1 = .ok (.aload_n 0, 1) := by decide +kernel
theorem dX1_of_2 : decode cX1_of 2 = .ok (.getfield 7, 3) := by decide +kernel
theorem dX1_of_5 : decode cX1_of 5 = .ok (.i2l, 1) := by decide +kernel
theorem dX1_of_6 : decode cX1_of 6 = .ok (.invokestatic 23, 3) := by decide +kernel
theorem dX1_of_9 : decode cX1_of 9 = .ok (.l2i, 1) := by decide +kernel
theorem dX1_of_10 : decode cX1_of 10 = .ok (.ireturn, 1) := by decide +kernel
theorem dX1_size0_0 : decode cX1_size0 0 = .ok (.iload_n 1, 1) := by decide +kernel
theorem dX1_size0_1 : decode cX1_size0 1 = .ok (.aload_n 0, 1) := by decide +kernel
theorem dX1_size0_2 : decode cX1_size0 2 = .ok (.getfield 7, 3) := by decide +kernel
theorem dX1_size0_5 : decode cX1_size0 5 = .ok (.iconst 1, 1) := by decide +kernel
theorem dX1_size0_6 : decode cX1_size0 6 = .ok (.isub, 1) := by decide +kernel
theorem dX1_size0_7 : decode cX1_size0 7 = .ok (.iconst 2, 1) := by decide +kernel
theorem dX1_size0_8 : decode cX1_size0 8 = .ok (.idiv, 1) := by decide +kernel
theorem dX1_size0_9 : decode cX1_size0 9 = .ok (.if_icmp .le 12, 3) := by decide +kernel
theorem dX1_size0_12 : decode cX1_size0 12 = .ok (.aload_n 0, 1) := by decide +kernel
theorem dX1_size0_13 : decode cX1_size0 13 = .ok (.getfield 7, 3) := by decide +kernel
theorem dX1_size0_16 : decode cX1_size0 16 = .ok (.iload_n 1, 1) := by decide +kernel
theorem dX1_size0_17 : decode cX1_size0 17 = .ok (.isub, 1) := by decide +kernel
theorem dX1_size0_18 : decode cX1_size0 18 = .ok (.goto 4, 3) := by decide +kernel
theorem dX1_size0_21 : decode cX1_size0 21 = .ok (.iload_n 1, 1) := by decide +kernel
theorem dX1_size0_22 : decode cX1_size0 22 = .ok (.ireturn, 1) := by decide +kernel
theorem dX1_most_0 : decode cX1_most 0 = .ok (.iconst 0, 1) := by decide +kernel
theorem dX1_most_1 : decode cX1_most 1 = .ok (.istore_n 2, 1) := by decide +kernel
theorem dX1_most_2 : decode cX1_most 2 = .ok (.iconst 0, 1) := by decide +kernel
theorem dX1_most_3 : decode cX1_most 3 = .ok (.istore_n 3, 1) := by decide +kernel
theorem dX1_most_4 : decode cX1_most 4 = .ok (.iload_n 3, 1) := by decide +kernel
theorem dX1_most_5 : decode cX1_most 5 = .ok (.bipush 16, 2) := by decide +kernel
theorem dX1_most_7 : decode cX1_most 7 = .ok (.if_icmp .ge 21, 3) := by decide +kernel
theorem dX1_most_10 : decode cX1_most 10 = .ok (.iload_n 2, 1) := by decide +kernel
theorem dX1_most_11 : decode cX1_most 11 = .ok (.aload_n 0, 1) := by decide +kernel
theorem dX1_most_12 : decode cX1_most 12 = .ok (.aload_n 1, 1) := by decide +kernel
theorem dX1_most_13 : decode cX1_most 13 = .ok (.iload_n 3, 1) := by decide +kernel
theorem dX1_most_14 : decode cX1_most 14 = .ok (.iaload, 1) := by decide +kernel
theorem dX1_most_15 : decode cX1_most 15 = .ok (.invokevirtual 29, 3) := by decide +kernel
theorem dX1_most_18 : decode cX1_most 18 = .ok (.invokestatic 33, 3) := by decide +kernel
theorem dX1_most_21 : decode cX1_most 21 = .ok (.istore_n 2, 1) := by decide +kernel
theorem dX1_most_22 : decode cX1_most 22 = .ok (.iinc 3 1, 3) := by decide +kernel
theorem dX1_most_25 : decode cX1_most 25 = .ok (.goto (-21), 3) := by decide +kernel
theorem dX1_most_28 : decode cX1_most 28 = .ok (.iload_n 2, 1) := by decide +kernel
theorem dX1_most_29 : decode cX1_most 29 = .ok (.ireturn, 1) := by decide +kernel
theorem dX1_put_0 : decode cX1_put 0 = .ok (.iconst 0, 1) := by decide +kernel
theorem dX1_put_1 : decode cX1_put 1 = .ok (.istore_n 2, 1) := by decide +kernel
theorem dX1_put_2 : decode cX1_put 2 = .ok (.iconst 0, 1) := by decide +kernel
theorem dX1_put_3 : decode cX1_put 3 = .ok (.istore_n 3, 1) := by decide +kernel
theorem dX1_put_4 : decode cX1_put 4 = .ok (.iload_n 3, 1) := by decide +kernel
theorem dX1_put_5 : decode cX1_put 5 = .ok (.bipush 16, 2) := by decide +kernel
theorem dX1_put_7 : decode cX1_put 7 = .ok (.if_icmp .ge 38, 3) := by decide +kernel
theorem dX1_put_10 : decode cX1_put 10 = .ok (.aload_n 0, 1) := by decide +kernel
theorem dX1_put_11 : decode cX1_put 11 = .ok (.getfield 13, 3) := by decide +kernel
theorem dX1_put_14 : decode cX1_put 14 = .ok (.bipush 16, 2) := by decide +kernel
theorem dX1_put_16 : decode cX1_put 16 = .ok (.iload_n 1, 1) := by decide +kernel
theorem dX1_put_17 : decode cX1_put 17 = .ok (.imul, 1) := by decide +kernel
theorem dX1_put_18 : decode cX1_put 18 = .ok (.iload_n 3, 1) := by decide +kernel
theorem dX1_put_19 : decode cX1_put 19 = .ok (.iadd, 1) := by decide +kernel
theorem dX1_put_20 : decode cX1_put 20 = .ok (.aload_n 0, 1) := by decide +kernel
theorem dX1_put_21 : decode cX1_put 21 = .ok (.getfield 17, 3) := by decide +kernel
theorem dX1_put_24 : decode cX1_put 24 = .ok (.iload_n 3, 1) := by decide +kernel
theorem dX1_put_25 : decode cX1_put 25 = .ok (.iaload, 1) := by decide +kernel
theorem dX1_put_26 : decode cX1_put 26 = .ok (.iastore, 1) := by decide +kernel
theorem dX1_put_27 : decode cX1_put 27 = .ok (.aload_n 0, 1) := by decide +kernel
theorem dX1_put_28 : decode cX1_put 28 = .ok (.getfield 17, 3) := by decide +kernel
theorem dX1_put_31 : decode cX1_put 31 = .ok (.iload_n 3, 1) := by decide +kernel
theorem dX1_put_32 : decode cX1_put 32 = .ok (.iaload, 1) := by decide +kernel
theorem dX1_put_33 : decode cX1_put 33 = .ok (.ifCond .eq 6, 3) := by decide +kernel
theorem dX1_put_36 : decode cX1_put 36 = .ok (.iinc 2 1, 3) := by decide +kernel
theorem dX1_put_39 : decode cX1_put 39 = .ok (.iinc 3 1, 3) := by decide +kernel
theorem dX1_put_42 : decode cX1_put 42 = .ok (.goto (-38), 3) := by decide +kernel
theorem dX1_put_45 : decode cX1_put 45 = .ok (.iload_n 2, 1) := by decide +kernel
theorem dX1_put_46 : decode cX1_put 46 = .ok (.ireturn, 1) := by decide +kernel
theorem dX1_begin_0 : decode cX1_begin 0 = .ok (.aload_n 0, 1) := by decide +kernel
theorem dX1_begin_1 : decode cX1_begin 1 = .ok (.iload_n 1, 1) := by decide +kernel
theorem dX1_begin_2 : decode cX1_begin 2 = .ok (.ifCond .lt 8, 3) := by decide +kernel
theorem dX1_begin_5 : decode cX1_begin 5 = .ok (.iload_n 1, 1) := by decide +kernel
theorem dX1_begin_6 : decode cX1_begin 6 = .ok (.iconst 1, 1) := by decide +kernel
theorem dX1_begin_7 : decode cX1_begin 7 = .ok (.if_icmp .le 7, 3) := by decide +kernel
theorem dX1_begin_10 : decode cX1_begin 10 = .ok (.iconst 1, 1) := by decide +kernel
theorem dX1_begin_11 : decode cX1_begin 11 = .ok (.goto 4, 3) := by decide +kernel
theorem dX1_begin_14 : decode cX1_begin 14 = .ok (.iconst 0, 1) := by decide +kernel
theorem dX1_begin_15 : decode cX1_begin 15 = .ok (.putfield 20, 3) := by decide +kernel
theorem dX1_begin_18 : decode cX1_begin 18 = .ok (.aload_n 0, 1) := by decide +kernel
theorem dX1_begin_19 : decode cX1_begin 19 = .ok (.getfield 20, 3) := by decide +kernel
theorem dX1_begin_22 : decode cX1_begin 22 = .ok (.ifCond .le 5, 3) := by decide +kernel
theorem dX1_begin_25 : decode cX1_begin 25 = .ok (.iconst 0, 1) := by decide +kernel
theorem dX1_begin_26 : decode cX1_begin 26 = .ok (.ireturn, 1) := by decide +kernel
theorem dX1_begin_27 : decode cX1_begin 27 = .ok (.aload_n 0, 1) := by decide +kernel
theorem dX1_begin_28 : decode cX1_begin 28 = .ok (.iload_n 1, 1) := by decide +kernel
theorem dX1_begin_29 : decode cX1_begin 29 = .ok (.putfield 37, 3) := by decide +kernel
theorem dX1_begin_32 : decode cX1_begin 32 = .ok (.aload_n 0, 1) := by decide +kernel
theorem dX1_begin_33 : decode cX1_begin 33 = .ok (.iload_n 1, 1) := by decide +kernel
theorem dX1_begin_34 : decode cX1_begin 34 = .ok (.ifCond .ne 9, 3) := by decide +kernel
theorem dX1_begin_37 : decode cX1_begin 37 = .ok (.sipush 3329, 3) := by decide +kernel
theorem dX1_begin_40 : decode cX1_begin 40 = .ok (.goto 5, 3) := by decide +kernel
theorem dX1_begin_43 : decode cX1_begin 43 = .ok (.ldc 40, 2) := by decide +kernel
theorem dX1_begin_45 : decode cX1_begin 45 = .ok (.putfield 7, 3) := by decide +kernel
theorem dX1_begin_48 : decode cX1_begin 48 = .ok (.iconst 0, 1) := by decide +kernel
theorem dX1_begin_49 : decode cX1_begin 49 = .ok (.istore_n 2, 1) := by decide +kernel
theorem dX1_begin_50 : decode cX1_begin 50 = .ok (.iload_n 2, 1) := by decide +kernel
theorem dX1_begin_51 : decode cX1_begin 51 = .ok (.aload_n 0, 1) := by decide +kernel
theorem dX1_begin_52 : decode cX1_begin 52 = .ok (.getfield 13, 3) := by decide +kernel
theorem dX1_begin_55 : decode cX1_begin 55 = .ok (.arraylength, 1) := by decide +kernel
theorem dX1_begin_56 : decode cX1_begin 56 = .ok (.if_icmp .ge 16, 3) := by decide +kernel
theorem dX1_begin_59 : decode cX1_begin 59 = .ok (.aload_n 0, 1) := by decide +kernel
theorem dX1_begin_60 : decode cX1_begin 60 = .ok (.getfield 13, 3) := by decide +kernel
theorem dX1_begin_63 : decode cX1_begin 63 = .ok (.iload_n 2, 1) := by decide +kernel
theorem dX1_begin_64 : decode cX1_begin 64 = .ok (.iconst 0, 1) := by decide +kernel
theorem dX1_begin_65 : decode cX1_begin 65 = .ok (.iastore, 1) := by decide +kernel
theorem dX1_begin_66 : decode cX1_begin 66 = .ok (.iinc 2 1, 3) := by decide +kernel
theorem dX1_begin_69 : decode cX1_begin 69 = .ok (.goto (-19), 3) := by decide +kernel
theorem dX1_begin_72 : decode cX1_begin 72 = .ok (.aload_n 0, 1) := by decide +kernel
theorem dX1_begin_73 : decode cX1_begin 73 = .ok (.getfield 7, 3) := by decide +kernel
theorem dX1_begin_76 : decode cX1_begin 76 = .ok (.ireturn, 1) := by decide +kernel
theorem dX1_set_0 : decode cX1_set 0 = .ok (.aload_n 0, 1) := by decide +kernel
theorem dX1_set_1 : decode cX1_set 1 = .ok (.iload_n 1, 1) := by decide +kernel
theorem dX1_set_2 : decode cX1_set 2 = .ok (.invokestatic 41, 3) := by decide +kernel
theorem dX1_set_5 : decode cX1_set 5 = .ok (.ifCond .ne 13, 3) := by decide +kernel
theorem dX1_set_8 : decode cX1_set 8 = .ok (.iload_n 2, 1) := by decide +kernel
theorem dX1_set_9 : decode cX1_set 9 = .ok (.ifCond .lt 9, 3) := by decide +kernel
theorem dX1_set_12 : decode cX1_set 12 = .ok (.iload_n 2, 1) := by decide +kernel
theorem dX1_set_13 : decode cX1_set 13 = .ok (.bipush 16, 2) := by decide +kernel
theorem dX1_set_15 : decode cX1_set 15 = .ok (.if_icmp .lt 7, 3) := by decide +kernel
theorem dX1_set_18 : decode cX1_set 18 = .ok (.iconst 1, 1) := by decide +kernel
theorem dX1_set_19 : decode cX1_set 19 = .ok (.goto 4, 3) := by decide +kernel
theorem dX1_set_22 : decode cX1_set 22 = .ok (.iconst 0, 1) := by decide +kernel
theorem dX1_set_23 : decode cX1_set 23 = .ok (.putfield 20, 3) := by decide +kernel
theorem dX1_set_26 : decode cX1_set 26 = .ok (.aload_n 0, 1) := by decide +kernel
theorem dX1_set_27 : decode cX1_set 27 = .ok (.getfield 20, 3) := by decide +kernel
theorem dX1_set_30 : decode cX1_set 30 = .ok (.ifCond .le 5, 3) := by decide +kernel
theorem dX1_set_33 : decode cX1_set 33 = .ok (.iconst 0, 1) := by decide +kernel
theorem dX1_set_34 : decode cX1_set 34 = .ok (.ireturn, 1) := by decide +kernel
theorem dX1_set_35 : decode cX1_set 35 = .ok (.aload_n 0, 1) := by decide +kernel
theorem dX1_set_36 : decode cX1_set 36 = .ok (.iload_n 1, 1) := by decide +kernel
theorem dX1_set_37 : decode cX1_set 37 = .ok (.iload_n 2, 1) := by decide +kernel
theorem dX1_set_38 : decode cX1_set 38 = .ok (.invokevirtual 45, 3) := by decide +kernel
theorem dX1_set_41 : decode cX1_set 41 = .ok (.istore 4, 2) := by decide +kernel
theorem dX1_set_43 : decode cX1_set 43 = .ok (.aload_n 0, 1) := by decide +kernel
theorem dX1_set_44 : decode cX1_set 44 = .ok (.getfield 13, 3) := by decide +kernel
theorem dX1_set_47 : decode cX1_set 47 = .ok (.bipush 16, 2) := by decide +kernel
theorem dX1_set_49 : decode cX1_set 49 = .ok (.iload_n 1, 1) := by decide +kernel
theorem dX1_set_50 : decode cX1_set 50 = .ok (.imul, 1) := by decide +kernel
theorem dX1_set_51 : decode cX1_set 51 = .ok (.iload_n 2, 1) := by decide +kernel
theorem dX1_set_52 : decode cX1_set 52 = .ok (.iadd, 1) := by decide +kernel
theorem dX1_set_53 : decode cX1_set 53 = .ok (.aload_n 0, 1) := by decide +kernel
theorem dX1_set_54 : decode cX1_set 54 = .ok (.iload_n 3, 1) := by decide +kernel
theorem dX1_set_55 : decode cX1_set 55 = .ok (.i2l, 1) := by decide +kernel
theorem dX1_set_56 : decode cX1_set 56 = .ok (.invokevirtual 48, 3) := by decide +kernel
theorem dX1_set_59 : decode cX1_set 59 = .ok (.iastore, 1) := by decide +kernel
theorem dX1_set_60 : decode cX1_set 60 = .ok (.iload 4, 2) := by decide +kernel
theorem dX1_set_62 : decode cX1_set 62 = .ok (.ireturn, 1) := by decide +kernel
theorem dX1_get_0 : decode cX1_get 0 = .ok (.aload_n 0, 1) := by decide +kernel
theorem dX1_get_1 : decode cX1_get 1 = .ok (.iload_n 1, 1) := by decide +kernel
theorem dX1_get_2 : decode cX1_get 2 = .ok (.invokestatic 41, 3) := by decide +kernel
theorem dX1_get_5 : decode cX1_get 5 = .ok (.ifCond .ne 13, 3) := by decide +kernel
theorem dX1_get_8 : decode cX1_get 8 = .ok (.iload_n 2, 1) := by decide +kernel
theorem dX1_get_9 : decode cX1_get 9 = .ok (.ifCond .lt 9, 3) := by decide +kernel
theorem dX1_get_12 : decode cX1_get 12 = .ok (.iload_n 2, 1) := by decide +kernel
theorem dX1_get_13 : decode cX1_get 13 = .ok (.bipush 16, 2) := by decide +kernel
theorem dX1_get_15 : decode cX1_get 15 = .ok (.if_icmp .lt 7, 3) := by decide +kernel
theorem dX1_get_18 : decode cX1_get 18 = .ok (.iconst 1, 1) := by decide +kernel
theorem dX1_get_19 : decode cX1_get 19 = .ok (.goto 4, 3) := by decide +kernel
theorem dX1_get_22 : decode cX1_get 22 = .ok (.iconst 0, 1) := by decide +kernel
theorem dX1_get_23 : decode cX1_get 23 = .ok (.putfield 20, 3) := by decide +kernel
theorem dX1_get_26 : decode cX1_get 26 = .ok (.aload_n 0, 1) := by decide +kernel
theorem dX1_get_27 : decode cX1_get 27 = .ok (.getfield 20, 3) := by decide +kernel
theorem dX1_get_30 : decode cX1_get 30 = .ok (.ifCond .le 7, 3) := by decide +kernel
theorem dX1_get_33 : decode cX1_get 33 = .ok (.iconst 0, 1) := by decide +kernel
theorem dX1_get_34 : decode cX1_get 34 = .ok (.goto 9, 3) := by decide +kernel
theorem dX1_get_37 : decode cX1_get 37 = .ok (.aload_n 0, 1) := by decide +kernel
theorem dX1_get_38 : decode cX1_get 38 = .ok (.iload_n 1, 1) := by decide +kernel
theorem dX1_get_39 : decode cX1_get 39 = .ok (.iload_n 2, 1) := by decide +kernel
theorem dX1_get_40 : decode cX1_get 40 = .ok (.invokevirtual 45, 3) := by decide +kernel
theorem dX1_get_43 : decode cX1_get 43 = .ok (.ireturn, 1) := by decide +kernel
theorem dX1_join_0 : decode cX1_join 0 = .ok (.aload_n 0, 1) := by decide +kernel
theorem dX1_join_1 : decode cX1_join 1 = .ok (.iload_n 1, 1) := by decide +kernel
theorem dX1_join_2 : decode cX1_join 2 = .ok (.invokestatic 41, 3) := by decide +kernel
theorem dX1_join_5 : decode cX1_join 5 = .ok (.ifCond .ne 18, 3) := by decide +kernel
theorem dX1_join_8 : decode cX1_join 8 = .ok (.iload_n 3, 1) := by decide +kernel
theorem dX1_join_9 : decode cX1_join 9 = .ok (.invokestatic 41, 3) := by decide +kernel
theorem dX1_join_12 : decode cX1_join 12 = .ok (.ifCond .ne 11, 3) := by decide +kernel
theorem dX1_join_15 : decode cX1_join 15 = .ok (.iload 4, 2) := by decide +kernel
theorem dX1_join_17 : decode cX1_join 17 = .ok (.invokestatic 41, 3) := by decide +kernel
theorem dX1_join_20 : decode cX1_join 20 = .ok (.ifCond .eq 7, 3) := by decide +kernel
theorem dX1_join_23 : decode cX1_join 23 = .ok (.iconst 1, 1) := by decide +kernel
theorem dX1_join_24 : decode cX1_join 24 = .ok (.goto 17, 3) := by decide +kernel
theorem dX1_join_27 : decode cX1_join 27 = .ok (.iload_n 2, 1) := by decide +kernel
theorem dX1_join_28 : decode cX1_join 28 = .ok (.ifCond .lt 8, 3) := by decide +kernel
theorem dX1_join_31 : decode cX1_join 31 = .ok (.iload_n 2, 1) := by decide +kernel
theorem dX1_join_32 : decode cX1_join 32 = .ok (.iconst 2, 1) := by decide +kernel
theorem dX1_join_33 : decode cX1_join 33 = .ok (.if_icmp .le 7, 3) := by decide +kernel
theorem dX1_join_36 : decode cX1_join 36 = .ok (.iconst 2, 1) := by decide +kernel
theorem dX1_join_37 : decode cX1_join 37 = .ok (.goto 4, 3) := by decide +kernel
theorem dX1_join_40 : decode cX1_join 40 = .ok (.iconst 0, 1) := by decide +kernel
theorem dX1_join_41 : decode cX1_join 41 = .ok (.putfield 20, 3) := by decide +kernel
theorem dX1_join_44 : decode cX1_join 44 = .ok (.aload_n 0, 1) := by decide +kernel
theorem dX1_join_45 : decode cX1_join 45 = .ok (.getfield 20, 3) := by decide +kernel
theorem dX1_join_48 : decode cX1_join 48 = .ok (.ifCond .le 5, 3) := by decide +kernel
theorem dX1_join_51 : decode cX1_join 51 = .ok (.iconst 0, 1) := by decide +kernel
theorem dX1_join_52 : decode cX1_join 52 = .ok (.ireturn, 1) := by decide +kernel
theorem dX1_join_53 : decode cX1_join 53 = .ok (.iconst 0, 1) := by decide +kernel
theorem dX1_join_54 : decode cX1_join 54 = .ok (.istore 5, 2) := by decide +kernel
theorem dX1_join_56 : decode cX1_join 56 = .ok (.iload 5, 2) := by decide +kernel
theorem dX1_join_58 : decode cX1_join 58 = .ok (.bipush 16, 2) := by decide +kernel
theorem dX1_join_60 : decode cX1_join 60 = .ok (.if_icmp .ge 144, 3) := by decide +kernel
theorem dX1_join_63 : decode cX1_join 63 = .ok (.iload_n 2, 1) := by decide +kernel
theorem dX1_join_64 : decode cX1_join 64 = .ok (.ifCond .ne 23, 3) := by decide +kernel
theorem dX1_join_67 : decode cX1_join 67 = .ok (.aload_n 0, 1) := by decide +kernel
theorem dX1_join_68 : decode cX1_join 68 = .ok (.iload_n 3, 1) := by decide +kernel
theorem dX1_join_69 : decode cX1_join 69 = .ok (.iload 5, 2) := by decide +kernel
theorem dX1_join_71 : decode cX1_join 71 = .ok (.invokevirtual 45, 3) := by decide +kernel
theorem dX1_join_74 : decode cX1_join 74 = .ok (.aload_n 0, 1) := by decide +kernel
theorem dX1_join_75 : decode cX1_join 75 = .ok (.iload 4, 2) := by decide +kernel
theorem dX1_join_77 : decode cX1_join 77 = .ok (.iload 5, 2) := by decide +kernel
theorem dX1_join_79 : decode cX1_join 79 = .ok (.invokevirtual 45, 3) := by decide +kernel
theorem dX1_join_82 : decode cX1_join 82 = .ok (.iadd, 1) := by decide +kernel
theorem dX1_join_83 : decode cX1_join 83 = .ok (.i2l, 1) := by decide +kernel
theorem dX1_join_84 : decode cX1_join 84 = .ok (.goto 29, 3) := by decide +kernel
theorem dX1_join_87 : decode cX1_join 87 = .ok (.iload_n 2, 1) := by decide +kernel
theorem dX1_join_88 : decode cX1_join 88 = .ok (.iconst 1, 1) := by decide +kernel
theorem dX1_join_89 : decode cX1_join 89 = .ok (.if_icmp .ne 23, 3) := by decide +kernel
theorem dX1_join_92 : decode cX1_join 92 = .ok (.aload_n 0, 1) := by decide +kernel
theorem dX1_join_93 : decode cX1_join 93 = .ok (.iload_n 3, 1) := by decide +kernel
theorem dX1_join_94 : decode cX1_join 94 = .ok (.iload 5, 2) := by decide +kernel
theorem dX1_join_96 : decode cX1_join 96 = .ok (.invokevirtual 45, 3) := by decide +kernel
theorem dX1_join_99 : decode cX1_join 99 = .ok (.aload_n 0, 1) := by decide +kernel
theorem dX1_join_100 : decode cX1_join 100 = .ok (.iload 4, 2) := by decide +kernel
theorem dX1_join_102 : decode cX1_join 102 = .ok (.iload 5, 2) := by decide +kernel
theorem dX1_join_104 : decode cX1_join 104 = .ok (.invokevirtual 45, 3) := by decide +kernel
theorem dX1_join_107 : decode cX1_join 107 = .ok (.isub, 1) := by decide +kernel
theorem dX1_join_108 : decode cX1_join 108 = .ok (.i2l, 1) := by decide +kernel
theorem dX1_join_109 : decode cX1_join 109 = .ok (.goto 4, 3) := by decide +kernel
theorem dX1_join_112 : decode cX1_join 112 = .ok (.lconst 0, 1) := by decide +kernel
theorem dX1_join_113 : decode cX1_join 113 = .ok (.lstore 6, 2) := by decide +kernel
theorem dX1_join_115 : decode cX1_join 115 = .ok (.iconst 0, 1) := by decide +kernel
theorem dX1_join_116 : decode cX1_join 116 = .ok (.istore 8, 2) := by decide +kernel
theorem dX1_join_118 : decode cX1_join 118 = .ok (.iload 8, 2) := by decide +kernel
theorem dX1_join_120 : decode cX1_join 120 = .ok (.bipush 16, 2) := by decide +kernel
theorem dX1_join_122 : decode cX1_join 122 = .ok (.if_icmp .ge 63, 3) := by decide +kernel
theorem dX1_join_125 : decode cX1_join 125 = .ok (.iload_n 2, 1) := by decide +kernel
theorem dX1_join_126 : decode cX1_join 126 = .ok (.iconst 2, 1) := by decide +kernel
theorem dX1_join_127 : decode cX1_join 127 = .ok (.if_icmp .ne 58, 3) := by decide +kernel
theorem dX1_join_130 : decode cX1_join 130 = .ok (.aload_n 0, 1) := by decide +kernel
theorem dX1_join_131 : decode cX1_join 131 = .ok (.iload_n 3, 1) := by decide +kernel
theorem dX1_join_132 : decode cX1_join 132 = .ok (.iload 8, 2) := by decide +kernel
theorem dX1_join_134 : decode cX1_join 134 = .ok (.invokevirtual 45, 3) := by decide +kernel
theorem dX1_join_137 : decode cX1_join 137 = .ok (.i2l, 1) := by decide +kernel
theorem dX1_join_138 : decode cX1_join 138 = .ok (.aload_n 0, 1) := by decide +kernel
theorem dX1_join_139 : decode cX1_join 139 = .ok (.iload 4, 2) := by decide +kernel
theorem dX1_join_141 : decode cX1_join 141 = .ok (.iload 5, 2) := by decide +kernel
theorem dX1_join_143 : decode cX1_join 143 = .ok (.iload 8, 2) := by decide +kernel
theorem dX1_join_145 : decode cX1_join 145 = .ok (.isub, 1) := by decide +kernel
theorem dX1_join_146 : decode cX1_join 146 = .ok (.bipush 16, 2) := by decide +kernel
theorem dX1_join_148 : decode cX1_join 148 = .ok (.iadd, 1) := by decide +kernel
theorem dX1_join_149 : decode cX1_join 149 = .ok (.bipush 16, 2) := by decide +kernel
theorem dX1_join_151 : decode cX1_join 151 = .ok (.irem, 1) := by decide +kernel
theorem dX1_join_152 : decode cX1_join 152 = .ok (.invokevirtual 45, 3) := by decide +kernel
theorem dX1_join_155 : decode cX1_join 155 = .ok (.i2l, 1) := by decide +kernel
theorem dX1_join_156 : decode cX1_join 156 = .ok (.lmul, 1) := by decide +kernel
theorem dX1_join_157 : decode cX1_join 157 = .ok (.lstore 9, 2) := by decide +kernel
theorem dX1_join_159 : decode cX1_join 159 = .ok (.lload 6, 2) := by decide +kernel
theorem dX1_join_161 : decode cX1_join 161 = .ok (.iload 8, 2) := by decide +kernel
theorem dX1_join_163 : decode cX1_join 163 = .ok (.iload 5, 2) := by decide +kernel
theorem dX1_join_165 : decode cX1_join 165 = .ok (.if_icmp .le 9, 3) := by decide +kernel
theorem dX1_join_168 : decode cX1_join 168 = .ok (.lload 9, 2) := by decide +kernel
theorem dX1_join_170 : decode cX1_join 170 = .ok (.lneg, 1) := by decide +kernel
theorem dX1_join_171 : decode cX1_join 171 = .ok (.goto 5, 3) := by decide +kernel
theorem dX1_join_174 : decode cX1_join 174 = .ok (.lload 9, 2) := by decide +kernel
theorem dX1_join_176 : decode cX1_join 176 = .ok (.ladd, 1) := by decide +kernel
theorem dX1_join_177 : decode cX1_join 177 = .ok (.lstore 6, 2) := by decide +kernel
theorem dX1_join_179 : decode cX1_join 179 = .ok (.iinc 8 1, 3) := by decide +kernel
theorem dX1_join_182 : decode cX1_join 182 = .ok (.goto (-64), 3) := by decide +kernel
theorem dX1_join_185 : decode cX1_join 185 = .ok (.aload_n 0, 1) := by decide +kernel
theorem dX1_join_186 : decode cX1_join 186 = .ok (.getfield 17, 3) := by decide +kernel
theorem dX1_join_189 : decode cX1_join 189 = .ok (.iload 5, 2) := by decide +kernel
theorem dX1_join_191 : decode cX1_join 191 = .ok (.aload_n 0, 1) := by decide +kernel
theorem dX1_join_192 : decode cX1_join 192 = .ok (.lload 6, 2) := by decide +kernel
theorem dX1_join_194 : decode cX1_join 194 = .ok (.invokevirtual 48, 3) := by decide +kernel
theorem dX1_join_197 : decode cX1_join 197 = .ok (.iastore, 1) := by decide +kernel
theorem dX1_join_198 : decode cX1_join 198 = .ok (.iinc 5 1, 3) := by decide +kernel
theorem dX1_join_201 : decode cX1_join 201 = .ok (.goto (-145), 3) := by decide +kernel
theorem dX1_join_204 : decode cX1_join 204 = .ok (.aload_n 0, 1) := by decide +kernel
theorem dX1_join_205 : decode cX1_join 205 = .ok (.iload_n 1, 1) := by decide +kernel
theorem dX1_join_206 : decode cX1_join 206 = .ok (.invokevirtual 52, 3) := by decide +kernel
theorem dX1_join_209 : decode cX1_join 209 = .ok (.pop, 1) := by decide +kernel
theorem dX1_join_210 : decode cX1_join 210 = .ok (.aload_n 0, 1) := by decide +kernel
theorem dX1_join_211 : decode cX1_join 211 = .ok (.aload_n 0, 1) := by decide +kernel
theorem dX1_join_212 : decode cX1_join 212 = .ok (.getfield 17, 3) := by decide +kernel
theorem dX1_join_215 : decode cX1_join 215 = .ok (.invokevirtual 55, 3) := by decide +kernel
theorem dX1_join_218 : decode cX1_join 218 = .ok (.ireturn, 1) := by decide +kernel
theorem dX1_rest_0 : decode cX1_rest 0 = .ok (.iload_n 0, 1) := by decide +kernel
theorem dX1_rest_1 : decode cX1_rest 1 = .ok (.iload_n 1, 1) := by decide +kernel
theorem dX1_rest_2 : decode cX1_rest 2 = .ok (.irem, 1) := by decide +kernel
theorem dX1_rest_3 : decode cX1_rest 3 = .ok (.istore_n 2, 1) := by decide +kernel
theorem dX1_rest_4 : decode cX1_rest 4 = .ok (.iconst 2, 1) := by decide +kernel
theorem dX1_rest_5 : decode cX1_rest 5 = .ok (.iload_n 2, 1) := by decide +kernel
theorem dX1_rest_6 : decode cX1_rest 6 = .ok (.imul, 1) := by decide +kernel
theorem dX1_rest_7 : decode cX1_rest 7 = .ok (.iload_n 1, 1) := by decide +kernel
theorem dX1_rest_8 : decode cX1_rest 8 = .ok (.if_icmp .le 9, 3) := by decide +kernel
theorem dX1_rest_11 : decode cX1_rest 11 = .ok (.iload_n 2, 1) := by decide +kernel
theorem dX1_rest_12 : decode cX1_rest 12 = .ok (.iload_n 1, 1) := by decide +kernel
theorem dX1_rest_13 : decode cX1_rest 13 = .ok (.isub, 1) := by decide +kernel
theorem dX1_rest_14 : decode cX1_rest 14 = .ok (.goto 4, 3) := by decide +kernel
theorem dX1_rest_17 : decode cX1_rest 17 = .ok (.iload_n 2, 1) := by decide +kernel
theorem dX1_rest_18 : decode cX1_rest 18 = .ok (.ireturn, 1) := by decide +kernel
