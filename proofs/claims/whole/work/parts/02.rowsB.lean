/-! decode rows of class PropertyDocuments$Bytes: laid by wip/gen/names.py -/
theorem dB_longAt_0 : decode bB_longAt 0 = .ok (.aload_n 0, 1) := by decide +kernel
theorem dB_longAt_1 : decode bB_longAt 1 = .ok (.iload_n 1, 1) := by decide +kernel
theorem dB_longAt_2 : decode bB_longAt 2 = .ok (.invokevirtual 35, 3) := by decide +kernel
theorem dB_longAt_5 : decode bB_longAt 5 = .ok (.i2l, 1) := by decide +kernel
theorem dB_longAt_6 : decode bB_longAt 6 = .ok (.ldc2_w 38, 3) := by decide +kernel
theorem dB_longAt_9 : decode bB_longAt 9 = .ok (.land, 1) := by decide +kernel
theorem dB_longAt_10 : decode bB_longAt 10 = .ok (.lstore_n 2, 1) := by decide +kernel
theorem dB_longAt_11 : decode bB_longAt 11 = .ok (.aload_n 0, 1) := by decide +kernel
theorem dB_longAt_12 : decode bB_longAt 12 = .ok (.iload_n 1, 1) := by decide +kernel
theorem dB_longAt_13 : decode bB_longAt 13 = .ok (.iconst 4, 1) := by decide +kernel
theorem dB_longAt_14 : decode bB_longAt 14 = .ok (.iadd, 1) := by decide +kernel
theorem dB_longAt_15 : decode bB_longAt 15 = .ok (.invokevirtual 35, 3) := by decide +kernel
theorem dB_longAt_18 : decode bB_longAt 18 = .ok (.i2l, 1) := by decide +kernel
theorem dB_longAt_19 : decode bB_longAt 19 = .ok (.lstore 4, 2) := by decide +kernel
theorem dB_longAt_21 : decode bB_longAt 21 = .ok (.lload 4, 2) := by decide +kernel
theorem dB_longAt_23 : decode bB_longAt 23 = .ok (.bipush 32, 2) := by decide +kernel
theorem dB_longAt_25 : decode bB_longAt 25 = .ok (.lshl, 1) := by decide +kernel
theorem dB_longAt_26 : decode bB_longAt 26 = .ok (.lload_n 2, 1) := by decide +kernel
theorem dB_longAt_27 : decode bB_longAt 27 = .ok (.lor, 1) := by decide +kernel
theorem dB_longAt_28 : decode bB_longAt 28 = .ok (.lreturn, 1) := by decide +kernel
theorem dB_copyFrom_0 : decode bB_copyFrom 0 = .ok (.aload_n 1, 1) := by decide +kernel
theorem dB_copyFrom_1 : decode bB_copyFrom 1 = .ok (.getfield 9, 3) := by decide +kernel
theorem dB_copyFrom_4 : decode bB_copyFrom 4 = .ok (.iconst 0, 1) := by decide +kernel
theorem dB_copyFrom_5 : decode bB_copyFrom 5 = .ok (.aload_n 0, 1) := by decide +kernel
theorem dB_copyFrom_6 : decode bB_copyFrom 6 = .ok (.getfield 9, 3) := by decide +kernel
theorem dB_copyFrom_9 : decode bB_copyFrom 9 = .ok (.iconst 0, 1) := by decide +kernel
theorem dB_copyFrom_10 : decode bB_copyFrom 10 = .ok (.aload_n 1, 1) := by decide +kernel
theorem dB_copyFrom_11 : decode bB_copyFrom 11 = .ok (.getfield 15, 3) := by decide +kernel
theorem dB_copyFrom_14 : decode bB_copyFrom 14 = .ok (.invokestatic 40, 3) := by decide +kernel
theorem dB_copyFrom_17 : decode bB_copyFrom 17 = .ok (.aload_n 0, 1) := by decide +kernel
theorem dB_copyFrom_18 : decode bB_copyFrom 18 = .ok (.aload_n 1, 1) := by decide +kernel
theorem dB_copyFrom_19 : decode bB_copyFrom 19 = .ok (.getfield 15, 3) := by decide +kernel
theorem dB_copyFrom_22 : decode bB_copyFrom 22 = .ok (.putfield 15, 3) := by decide +kernel
theorem dB_copyFrom_25 : decode bB_copyFrom 25 = .ok (.return_, 1) := by decide +kernel
theorem dB_init_0 : decode bB_init 0 = .ok (.aload_n 0, 1) := by decide +kernel
theorem dB_init_1 : decode bB_init 1 = .ok (.invokespecial 3, 3) := by decide +kernel
theorem dB_init_4 : decode bB_init 4 = .ok (.aload_n 0, 1) := by decide +kernel
theorem dB_init_5 : decode bB_init 5 = .ok (.bipush 120, 2) := by decide +kernel
theorem dB_init_7 : decode bB_init 7 = .ok (.newarray .int, 2) := by decide +kernel
theorem dB_init_9 : decode bB_init 9 = .ok (.putfield 9, 3) := by decide +kernel
theorem dB_init_12 : decode bB_init 12 = .ok (.aload_n 0, 1) := by decide +kernel
theorem dB_init_13 : decode bB_init 13 = .ok (.iconst 0, 1) := by decide +kernel
theorem dB_init_14 : decode bB_init 14 = .ok (.putfield 15, 3) := by decide +kernel
theorem dB_init_17 : decode bB_init 17 = .ok (.return_, 1) := by decide +kernel
theorem dB_at_0 : decode bB_at 0 = .ok (.iload_n 1, 1) := by decide +kernel
theorem dB_at_1 : decode bB_at 1 = .ok (.ifCond .lt 20, 3) := by decide +kernel
theorem dB_at_4 : decode bB_at 4 = .ok (.iload_n 1, 1) := by decide +kernel
theorem dB_at_5 : decode bB_at 5 = .ok (.aload_n 0, 1) := by decide +kernel
theorem dB_at_6 : decode bB_at 6 = .ok (.getfield 15, 3) := by decide +kernel
theorem dB_at_9 : decode bB_at 9 = .ok (.if_icmp .ge 12, 3) := by decide +kernel
theorem dB_at_12 : decode bB_at 12 = .ok (.aload_n 0, 1) := by decide +kernel
theorem dB_at_13 : decode bB_at 13 = .ok (.getfield 9, 3) := by decide +kernel
theorem dB_at_16 : decode bB_at 16 = .ok (.iload_n 1, 1) := by decide +kernel
theorem dB_at_17 : decode bB_at 17 = .ok (.iaload, 1) := by decide +kernel
theorem dB_at_18 : decode bB_at 18 = .ok (.goto 4, 3) := by decide +kernel
theorem dB_at_21 : decode bB_at 21 = .ok (.iconst (-1), 1) := by decide +kernel
theorem dB_at_22 : decode bB_at 22 = .ok (.ireturn, 1) := by decide +kernel
theorem dB_add_0 : decode bB_add 0 = .ok (.aload_n 0, 1) := by decide +kernel
theorem dB_add_1 : decode bB_add 1 = .ok (.getfield 15, 3) := by decide +kernel
theorem dB_add_4 : decode bB_add 4 = .ok (.bipush 120, 2) := by decide +kernel
theorem dB_add_6 : decode bB_add 6 = .ok (.if_icmp .lt 5, 3) := by decide +kernel
theorem dB_add_9 : decode bB_add 9 = .ok (.iconst 0, 1) := by decide +kernel
theorem dB_add_10 : decode bB_add 10 = .ok (.ireturn, 1) := by decide +kernel
theorem dB_add_11 : decode bB_add 11 = .ok (.aload_n 0, 1) := by decide +kernel
theorem dB_add_12 : decode bB_add 12 = .ok (.getfield 9, 3) := by decide +kernel
theorem dB_add_15 : decode bB_add 15 = .ok (.aload_n 0, 1) := by decide +kernel
theorem dB_add_16 : decode bB_add 16 = .ok (.getfield 15, 3) := by decide +kernel
theorem dB_add_19 : decode bB_add 19 = .ok (.iload_n 1, 1) := by decide +kernel
theorem dB_add_20 : decode bB_add 20 = .ok (.iastore, 1) := by decide +kernel
theorem dB_add_21 : decode bB_add 21 = .ok (.aload_n 0, 1) := by decide +kernel
theorem dB_add_22 : decode bB_add 22 = .ok (.dup, 1) := by decide +kernel
theorem dB_add_23 : decode bB_add 23 = .ok (.getfield 15, 3) := by decide +kernel
theorem dB_add_26 : decode bB_add 26 = .ok (.iconst 1, 1) := by decide +kernel
theorem dB_add_27 : decode bB_add 27 = .ok (.iadd, 1) := by decide +kernel
theorem dB_add_28 : decode bB_add 28 = .ok (.putfield 15, 3) := by decide +kernel
theorem dB_add_31 : decode bB_add 31 = .ok (.iconst 1, 1) := by decide +kernel
theorem dB_add_32 : decode bB_add 32 = .ok (.ireturn, 1) := by decide +kernel
theorem dB_replace_0 : decode bB_replace 0 = .ok (.iload_n 1, 1) := by decide +kernel
theorem dB_replace_1 : decode bB_replace 1 = .ok (.ifCond .lt 11, 3) := by decide +kernel
theorem dB_replace_4 : decode bB_replace 4 = .ok (.iload_n 1, 1) := by decide +kernel
theorem dB_replace_5 : decode bB_replace 5 = .ok (.aload_n 0, 1) := by decide +kernel
theorem dB_replace_6 : decode bB_replace 6 = .ok (.getfield 15, 3) := by decide +kernel
theorem dB_replace_9 : decode bB_replace 9 = .ok (.if_icmp .lt 5, 3) := by decide +kernel
theorem dB_replace_12 : decode bB_replace 12 = .ok (.iconst 0, 1) := by decide +kernel
theorem dB_replace_13 : decode bB_replace 13 = .ok (.ireturn, 1) := by decide +kernel
theorem dB_replace_14 : decode bB_replace 14 = .ok (.aload_n 0, 1) := by decide +kernel
theorem dB_replace_15 : decode bB_replace 15 = .ok (.getfield 9, 3) := by decide +kernel
theorem dB_replace_18 : decode bB_replace 18 = .ok (.iload_n 1, 1) := by decide +kernel
theorem dB_replace_19 : decode bB_replace 19 = .ok (.iload_n 2, 1) := by decide +kernel
theorem dB_replace_20 : decode bB_replace 20 = .ok (.iastore, 1) := by decide +kernel
theorem dB_replace_21 : decode bB_replace 21 = .ok (.iconst 1, 1) := by decide +kernel
theorem dB_replace_22 : decode bB_replace 22 = .ok (.ireturn, 1) := by decide +kernel
theorem dB_addNumber_0 : decode bB_addNumber 0 = .ok (.iconst 1, 1) := by decide +kernel
theorem dB_addNumber_1 : decode bB_addNumber 1 = .ok (.istore 4, 2) := by decide +kernel
theorem dB_addNumber_3 : decode bB_addNumber 3 = .ok (.iconst 0, 1) := by decide +kernel
theorem dB_addNumber_4 : decode bB_addNumber 4 = .ok (.istore 5, 2) := by decide +kernel
theorem dB_addNumber_6 : decode bB_addNumber 6 = .ok (.iload 5, 2) := by decide +kernel
theorem dB_addNumber_8 : decode bB_addNumber 8 = .ok (.iload_n 3, 1) := by decide +kernel
theorem dB_addNumber_9 : decode bB_addNumber 9 = .ok (.if_icmp .ge 27, 3) := by decide +kernel
theorem dB_addNumber_12 : decode bB_addNumber 12 = .ok (.iload 4, 2) := by decide +kernel
theorem dB_addNumber_14 : decode bB_addNumber 14 = .ok (.ifCond .eq 22, 3) := by decide +kernel
theorem dB_addNumber_17 : decode bB_addNumber 17 = .ok (.aload_n 0, 1) := by decide +kernel
theorem dB_addNumber_18 : decode bB_addNumber 18 = .ok (.aload_n 0, 1) := by decide +kernel
theorem dB_addNumber_19 : decode bB_addNumber 19 = .ok (.lload_n 1, 1) := by decide +kernel
theorem dB_addNumber_20 : decode bB_addNumber 20 = .ok (.iload 5, 2) := by decide +kernel
theorem dB_addNumber_22 : decode bB_addNumber 22 = .ok (.invokevirtual 19, 3) := by decide +kernel
theorem dB_addNumber_25 : decode bB_addNumber 25 = .ok (.invokevirtual 23, 3) := by decide +kernel
theorem dB_addNumber_28 : decode bB_addNumber 28 = .ok (.istore 4, 2) := by decide +kernel
theorem dB_addNumber_30 : decode bB_addNumber 30 = .ok (.iinc 5 1, 3) := by decide +kernel
theorem dB_addNumber_33 : decode bB_addNumber 33 = .ok (.goto (-27), 3) := by decide +kernel
theorem dB_addNumber_36 : decode bB_addNumber 36 = .ok (.iload 4, 2) := by decide +kernel
theorem dB_addNumber_38 : decode bB_addNumber 38 = .ok (.ireturn, 1) := by decide +kernel
theorem dB_replaceNumber_0 : decode bB_replaceNumber 0 = .ok (.iconst 0, 1) := by decide +kernel
theorem dB_replaceNumber_1 : decode bB_replaceNumber 1 = .ok (.istore 5, 2) := by decide +kernel
theorem dB_replaceNumber_3 : decode bB_replaceNumber 3 = .ok (.iload 5, 2) := by decide +kernel
theorem dB_replaceNumber_5 : decode bB_replaceNumber 5 = .ok (.iload 4, 2) := by decide +kernel
theorem dB_replaceNumber_7 : decode bB_replaceNumber 7 = .ok (.if_icmp .ge 25, 3) := by decide +kernel
theorem dB_replaceNumber_10 : decode bB_replaceNumber 10 = .ok (.aload_n 0, 1) := by decide +kernel
theorem dB_replaceNumber_11 : decode bB_replaceNumber 11 = .ok (.iload_n 1, 1) := by decide +kernel
theorem dB_replaceNumber_12 : decode bB_replaceNumber 12 = .ok (.iload 5, 2) := by decide +kernel
theorem dB_replaceNumber_14 : decode bB_replaceNumber 14 = .ok (.iadd, 1) := by decide +kernel
theorem dB_replaceNumber_15 : decode bB_replaceNumber 15 = .ok (.aload_n 0, 1) := by decide +kernel
theorem dB_replaceNumber_16 : decode bB_replaceNumber 16 = .ok (.lload_n 2, 1) := by decide +kernel
theorem dB_replaceNumber_17 : decode bB_replaceNumber 17 = .ok (.iload 5, 2) := by decide +kernel
theorem dB_replaceNumber_19 : decode bB_replaceNumber 19 = .ok (.invokevirtual 19, 3) := by decide +kernel
theorem dB_replaceNumber_22 : decode bB_replaceNumber 22 = .ok (.invokevirtual 27, 3) := by decide +kernel
theorem dB_replaceNumber_25 : decode bB_replaceNumber 25 = .ok (.pop, 1) := by decide +kernel
theorem dB_replaceNumber_26 : decode bB_replaceNumber 26 = .ok (.iinc 5 1, 3) := by decide +kernel
theorem dB_replaceNumber_29 : decode bB_replaceNumber 29 = .ok (.goto (-26), 3) := by decide +kernel
theorem dB_replaceNumber_32 : decode bB_replaceNumber 32 = .ok (.return_, 1) := by decide +kernel
theorem dB_lowByte_0 : decode bB_lowByte 0 = .ok (.lload_n 1, 1) := by decide +kernel
theorem dB_lowByte_1 : decode bB_lowByte 1 = .ok (.bipush 8, 2) := by decide +kernel
theorem dB_lowByte_3 : decode bB_lowByte 3 = .ok (.iload_n 3, 1) := by decide +kernel
theorem dB_lowByte_4 : decode bB_lowByte 4 = .ok (.imul, 1) := by decide +kernel
theorem dB_lowByte_5 : decode bB_lowByte 5 = .ok (.lshr, 1) := by decide +kernel
theorem dB_lowByte_6 : decode bB_lowByte 6 = .ok (.l2i, 1) := by decide +kernel
theorem dB_lowByte_7 : decode bB_lowByte 7 = .ok (.sipush 255, 3) := by decide +kernel
theorem dB_lowByte_10 : decode bB_lowByte 10 = .ok (.iand, 1) := by decide +kernel
theorem dB_lowByte_11 : decode bB_lowByte 11 = .ok (.ireturn, 1) := by decide +kernel
theorem dB_holds_0 : decode bB_holds 0 = .ok (.iload_n 1, 1) := by decide +kernel
theorem dB_holds_1 : decode bB_holds 1 = .ok (.ifCond .lt 17, 3) := by decide +kernel
theorem dB_holds_4 : decode bB_holds 4 = .ok (.iload_n 1, 1) := by decide +kernel
theorem dB_holds_5 : decode bB_holds 5 = .ok (.aload_n 0, 1) := by decide +kernel
theorem dB_holds_6 : decode bB_holds 6 = .ok (.getfield 15, 3) := by decide +kernel
theorem dB_holds_9 : decode bB_holds 9 = .ok (.iload_n 2, 1) := by decide +kernel
theorem dB_holds_10 : decode bB_holds 10 = .ok (.isub, 1) := by decide +kernel
theorem dB_holds_11 : decode bB_holds 11 = .ok (.if_icmp .gt 7, 3) := by decide +kernel
theorem dB_holds_14 : decode bB_holds 14 = .ok (.iconst 1, 1) := by decide +kernel
theorem dB_holds_15 : decode bB_holds 15 = .ok (.goto 4, 3) := by decide +kernel
theorem dB_holds_18 : decode bB_holds 18 = .ok (.iconst 0, 1) := by decide +kernel
theorem dB_holds_19 : decode bB_holds 19 = .ok (.ireturn, 1) := by decide +kernel
theorem dB_intAt_0 : decode bB_intAt 0 = .ok (.iconst 0, 1) := by decide +kernel
theorem dB_intAt_1 : decode bB_intAt 1 = .ok (.istore_n 2, 1) := by decide +kernel
theorem dB_intAt_2 : decode bB_intAt 2 = .ok (.iconst 3, 1) := by decide +kernel
theorem dB_intAt_3 : decode bB_intAt 3 = .ok (.istore_n 3, 1) := by decide +kernel
theorem dB_intAt_4 : decode bB_intAt 4 = .ok (.iload_n 3, 1) := by decide +kernel
theorem dB_intAt_5 : decode bB_intAt 5 = .ok (.ifCond .lt 26, 3) := by decide +kernel
theorem dB_intAt_8 : decode bB_intAt 8 = .ok (.iload_n 2, 1) := by decide +kernel
theorem dB_intAt_9 : decode bB_intAt 9 = .ok (.bipush 8, 2) := by decide +kernel
theorem dB_intAt_11 : decode bB_intAt 11 = .ok (.ishl, 1) := by decide +kernel
theorem dB_intAt_12 : decode bB_intAt 12 = .ok (.aload_n 0, 1) := by decide +kernel
theorem dB_intAt_13 : decode bB_intAt 13 = .ok (.iload_n 1, 1) := by decide +kernel
theorem dB_intAt_14 : decode bB_intAt 14 = .ok (.iload_n 3, 1) := by decide +kernel
theorem dB_intAt_15 : decode bB_intAt 15 = .ok (.iadd, 1) := by decide +kernel
theorem dB_intAt_16 : decode bB_intAt 16 = .ok (.invokevirtual 31, 3) := by decide +kernel
theorem dB_intAt_19 : decode bB_intAt 19 = .ok (.sipush 255, 3) := by decide +kernel
theorem dB_intAt_22 : decode bB_intAt 22 = .ok (.iand, 1) := by decide +kernel
theorem dB_intAt_23 : decode bB_intAt 23 = .ok (.ior, 1) := by decide +kernel
theorem dB_intAt_24 : decode bB_intAt 24 = .ok (.istore_n 2, 1) := by decide +kernel
theorem dB_intAt_25 : decode bB_intAt 25 = .ok (.iinc 3 (-1), 3) := by decide +kernel
theorem dB_intAt_28 : decode bB_intAt 28 = .ok (.goto (-24), 3) := by decide +kernel
theorem dB_intAt_31 : decode bB_intAt 31 = .ok (.iload_n 2, 1) := by decide +kernel
theorem dB_intAt_32 : decode bB_intAt 32 = .ok (.ireturn, 1) := by decide +kernel
