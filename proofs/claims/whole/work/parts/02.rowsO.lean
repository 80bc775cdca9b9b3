/-! decode rows of class PropertyDocuments$Outline: laid by wip/gen/names.py -/
theorem dO_content_0 : decode bO_content 0 = .ok (.aload_n 0, 1) := by decide +kernel
theorem dO_content_1 : decode bO_content 1 = .ok (.iload_n 1, 1) := by decide +kernel
theorem dO_content_2 : decode bO_content 2 = .ok (.invokevirtual 79, 3) := by decide +kernel
theorem dO_content_5 : decode bO_content 5 = .ok (.ifCond .eq 12, 3) := by decide +kernel
theorem dO_content_8 : decode bO_content 8 = .ok (.aload_n 0, 1) := by decide +kernel
theorem dO_content_9 : decode bO_content 9 = .ok (.getfield 18, 3) := by decide +kernel
theorem dO_content_12 : decode bO_content 12 = .ok (.iload_n 1, 1) := by decide +kernel
theorem dO_content_13 : decode bO_content 13 = .ok (.iaload, 1) := by decide +kernel
theorem dO_content_14 : decode bO_content 14 = .ok (.goto 4, 3) := by decide +kernel
theorem dO_content_17 : decode bO_content 17 = .ok (.iconst (-1), 1) := by decide +kernel
theorem dO_content_18 : decode bO_content 18 = .ok (.ireturn, 1) := by decide +kernel
theorem dO_holder_0 : decode bO_holder 0 = .ok (.aload_n 0, 1) := by decide +kernel
theorem dO_holder_1 : decode bO_holder 1 = .ok (.iload_n 1, 1) := by decide +kernel
theorem dO_holder_2 : decode bO_holder 2 = .ok (.invokevirtual 79, 3) := by decide +kernel
theorem dO_holder_5 : decode bO_holder 5 = .ok (.ifCond .eq 12, 3) := by decide +kernel
theorem dO_holder_8 : decode bO_holder 8 = .ok (.aload_n 0, 1) := by decide +kernel
theorem dO_holder_9 : decode bO_holder 9 = .ok (.getfield 21, 3) := by decide +kernel
theorem dO_holder_12 : decode bO_holder 12 = .ok (.iload_n 1, 1) := by decide +kernel
theorem dO_holder_13 : decode bO_holder 13 = .ok (.iaload, 1) := by decide +kernel
theorem dO_holder_14 : decode bO_holder 14 = .ok (.goto 4, 3) := by decide +kernel
theorem dO_holder_17 : decode bO_holder 17 = .ok (.iconst (-1), 1) := by decide +kernel
theorem dO_holder_18 : decode bO_holder 18 = .ok (.ireturn, 1) := by decide +kernel
theorem dO_inner_0 : decode bO_inner 0 = .ok (.aload_n 0, 1) := by decide +kernel
theorem dO_inner_1 : decode bO_inner 1 = .ok (.iload_n 1, 1) := by decide +kernel
theorem dO_inner_2 : decode bO_inner 2 = .ok (.invokevirtual 79, 3) := by decide +kernel
theorem dO_inner_5 : decode bO_inner 5 = .ok (.ifCond .eq 12, 3) := by decide +kernel
theorem dO_inner_8 : decode bO_inner 8 = .ok (.aload_n 0, 1) := by decide +kernel
theorem dO_inner_9 : decode bO_inner 9 = .ok (.getfield 24, 3) := by decide +kernel
theorem dO_inner_12 : decode bO_inner 12 = .ok (.iload_n 1, 1) := by decide +kernel
theorem dO_inner_13 : decode bO_inner 13 = .ok (.iaload, 1) := by decide +kernel
theorem dO_inner_14 : decode bO_inner 14 = .ok (.goto 4, 3) := by decide +kernel
theorem dO_inner_17 : decode bO_inner 17 = .ok (.iconst (-1), 1) := by decide +kernel
theorem dO_inner_18 : decode bO_inner 18 = .ok (.ireturn, 1) := by decide +kernel
theorem dO_isMark_0 : decode bO_isMark 0 = .ok (.aload_n 0, 1) := by decide +kernel
theorem dO_isMark_1 : decode bO_isMark 1 = .ok (.iload_n 1, 1) := by decide +kernel
theorem dO_isMark_2 : decode bO_isMark 2 = .ok (.iconst 0, 1) := by decide +kernel
theorem dO_isMark_3 : decode bO_isMark 3 = .ok (.invokevirtual 83, 3) := by decide +kernel
theorem dO_isMark_6 : decode bO_isMark 6 = .ok (.bipush 95, 2) := by decide +kernel
theorem dO_isMark_8 : decode bO_isMark 8 = .ok (.if_icmp .ne 27, 3) := by decide +kernel
theorem dO_isMark_11 : decode bO_isMark 11 = .ok (.aload_n 0, 1) := by decide +kernel
theorem dO_isMark_12 : decode bO_isMark 12 = .ok (.iload_n 1, 1) := by decide +kernel
theorem dO_isMark_13 : decode bO_isMark 13 = .ok (.iconst 1, 1) := by decide +kernel
theorem dO_isMark_14 : decode bO_isMark 14 = .ok (.invokevirtual 83, 3) := by decide +kernel
theorem dO_isMark_17 : decode bO_isMark 17 = .ok (.bipush 116, 2) := by decide +kernel
theorem dO_isMark_19 : decode bO_isMark 19 = .ok (.if_icmp .ne 16, 3) := by decide +kernel
theorem dO_isMark_22 : decode bO_isMark 22 = .ok (.aload_n 0, 1) := by decide +kernel
theorem dO_isMark_23 : decode bO_isMark 23 = .ok (.iload_n 1, 1) := by decide +kernel
theorem dO_isMark_24 : decode bO_isMark 24 = .ok (.iconst 2, 1) := by decide +kernel
theorem dO_isMark_25 : decode bO_isMark 25 = .ok (.invokevirtual 83, 3) := by decide +kernel
theorem dO_isMark_28 : decode bO_isMark 28 = .ok (.ifCond .ne 7, 3) := by decide +kernel
theorem dO_isMark_31 : decode bO_isMark 31 = .ok (.iconst 1, 1) := by decide +kernel
theorem dO_isMark_32 : decode bO_isMark 32 = .ok (.goto 4, 3) := by decide +kernel
theorem dO_isMark_35 : decode bO_isMark 35 = .ok (.iconst 0, 1) := by decide +kernel
theorem dO_isMark_36 : decode bO_isMark 36 = .ok (.ireturn, 1) := by decide +kernel
theorem dO_letter_0 : decode bO_letter 0 = .ok (.aload_n 0, 1) := by decide +kernel
theorem dO_letter_1 : decode bO_letter 1 = .ok (.iload_n 1, 1) := by decide +kernel
theorem dO_letter_2 : decode bO_letter 2 = .ok (.iconst 0, 1) := by decide +kernel
theorem dO_letter_3 : decode bO_letter 3 = .ok (.invokevirtual 83, 3) := by decide +kernel
theorem dO_letter_6 : decode bO_letter 6 = .ok (.ifCond .le 16, 3) := by decide +kernel
theorem dO_letter_9 : decode bO_letter 9 = .ok (.aload_n 0, 1) := by decide +kernel
theorem dO_letter_10 : decode bO_letter 10 = .ok (.iload_n 1, 1) := by decide +kernel
theorem dO_letter_11 : decode bO_letter 11 = .ok (.iconst 1, 1) := by decide +kernel
theorem dO_letter_12 : decode bO_letter 12 = .ok (.invokevirtual 83, 3) := by decide +kernel
theorem dO_letter_15 : decode bO_letter 15 = .ok (.ifCond .ne 7, 3) := by decide +kernel
theorem dO_letter_18 : decode bO_letter 18 = .ok (.iconst 1, 1) := by decide +kernel
theorem dO_letter_19 : decode bO_letter 19 = .ok (.goto 4, 3) := by decide +kernel
theorem dO_letter_22 : decode bO_letter 22 = .ok (.iconst 0, 1) := by decide +kernel
theorem dO_letter_23 : decode bO_letter 23 = .ok (.istore_n 2, 1) := by decide +kernel
theorem dO_letter_24 : decode bO_letter 24 = .ok (.iload_n 2, 1) := by decide +kernel
theorem dO_letter_25 : decode bO_letter 25 = .ok (.ifCond .eq 15, 3) := by decide +kernel
theorem dO_letter_28 : decode bO_letter 28 = .ok (.aload_n 0, 1) := by decide +kernel
theorem dO_letter_29 : decode bO_letter 29 = .ok (.iload_n 1, 1) := by decide +kernel
theorem dO_letter_30 : decode bO_letter 30 = .ok (.iconst 0, 1) := by decide +kernel
theorem dO_letter_31 : decode bO_letter 31 = .ok (.invokevirtual 83, 3) := by decide +kernel
theorem dO_letter_34 : decode bO_letter 34 = .ok (.bipush 97, 2) := by decide +kernel
theorem dO_letter_36 : decode bO_letter 36 = .ok (.isub, 1) := by decide +kernel
theorem dO_letter_37 : decode bO_letter 37 = .ok (.goto 4, 3) := by decide +kernel
theorem dO_letter_40 : decode bO_letter 40 = .ok (.iconst (-1), 1) := by decide +kernel
theorem dO_letter_41 : decode bO_letter 41 = .ok (.ireturn, 1) := by decide +kernel
theorem dO_nameByte_0 : decode bO_nameByte 0 = .ok (.aload_n 0, 1) := by decide +kernel
theorem dO_nameByte_1 : decode bO_nameByte 1 = .ok (.iload_n 1, 1) := by decide +kernel
theorem dO_nameByte_2 : decode bO_nameByte 2 = .ok (.invokevirtual 79, 3) := by decide +kernel
theorem dO_nameByte_5 : decode bO_nameByte 5 = .ok (.ifCond .eq 21, 3) := by decide +kernel
theorem dO_nameByte_8 : decode bO_nameByte 8 = .ok (.aload_n 0, 1) := by decide +kernel
theorem dO_nameByte_9 : decode bO_nameByte 9 = .ok (.getfield 37, 3) := by decide +kernel
theorem dO_nameByte_12 : decode bO_nameByte 12 = .ok (.aload_n 0, 1) := by decide +kernel
theorem dO_nameByte_13 : decode bO_nameByte 13 = .ok (.getfield 15, 3) := by decide +kernel
theorem dO_nameByte_16 : decode bO_nameByte 16 = .ok (.iload_n 1, 1) := by decide +kernel
theorem dO_nameByte_17 : decode bO_nameByte 17 = .ok (.iaload, 1) := by decide +kernel
theorem dO_nameByte_18 : decode bO_nameByte 18 = .ok (.iload_n 2, 1) := by decide +kernel
theorem dO_nameByte_19 : decode bO_nameByte 19 = .ok (.iadd, 1) := by decide +kernel
theorem dO_nameByte_20 : decode bO_nameByte 20 = .ok (.invokevirtual 59, 3) := by decide +kernel
theorem dO_nameByte_23 : decode bO_nameByte 23 = .ok (.goto 4, 3) := by decide +kernel
theorem dO_nameByte_26 : decode bO_nameByte 26 = .ok (.iconst (-1), 1) := by decide +kernel
theorem dO_nameByte_27 : decode bO_nameByte 27 = .ok (.ireturn, 1) := by decide +kernel
theorem dO_init_0 : decode bO_init 0 = .ok (.aload_n 0, 1) := by decide +kernel
theorem dO_init_1 : decode bO_init 1 = .ok (.invokespecial 3, 3) := by decide +kernel
theorem dO_init_4 : decode bO_init 4 = .ok (.aload_n 0, 1) := by decide +kernel
theorem dO_init_5 : decode bO_init 5 = .ok (.bipush 60, 2) := by decide +kernel
theorem dO_init_7 : decode bO_init 7 = .ok (.newarray .int, 2) := by decide +kernel
theorem dO_init_9 : decode bO_init 9 = .ok (.putfield 11, 3) := by decide +kernel
theorem dO_init_12 : decode bO_init 12 = .ok (.aload_n 0, 1) := by decide +kernel
theorem dO_init_13 : decode bO_init 13 = .ok (.bipush 60, 2) := by decide +kernel
theorem dO_init_15 : decode bO_init 15 = .ok (.newarray .int, 2) := by decide +kernel
theorem dO_init_17 : decode bO_init 17 = .ok (.putfield 15, 3) := by decide +kernel
theorem dO_init_20 : decode bO_init 20 = .ok (.aload_n 0, 1) := by decide +kernel
theorem dO_init_21 : decode bO_init 21 = .ok (.bipush 60, 2) := by decide +kernel
theorem dO_init_23 : decode bO_init 23 = .ok (.newarray .int, 2) := by decide +kernel
theorem dO_init_25 : decode bO_init 25 = .ok (.putfield 18, 3) := by decide +kernel
theorem dO_init_28 : decode bO_init 28 = .ok (.aload_n 0, 1) := by decide +kernel
theorem dO_init_29 : decode bO_init 29 = .ok (.bipush 60, 2) := by decide +kernel
theorem dO_init_31 : decode bO_init 31 = .ok (.newarray .int, 2) := by decide +kernel
theorem dO_init_33 : decode bO_init 33 = .ok (.putfield 21, 3) := by decide +kernel
theorem dO_init_36 : decode bO_init 36 = .ok (.aload_n 0, 1) := by decide +kernel
theorem dO_init_37 : decode bO_init 37 = .ok (.bipush 60, 2) := by decide +kernel
theorem dO_init_39 : decode bO_init 39 = .ok (.newarray .int, 2) := by decide +kernel
theorem dO_init_41 : decode bO_init 41 = .ok (.putfield 24, 3) := by decide +kernel
theorem dO_init_44 : decode bO_init 44 = .ok (.aload_n 0, 1) := by decide +kernel
theorem dO_init_45 : decode bO_init 45 = .ok (.iconst 0, 1) := by decide +kernel
theorem dO_init_46 : decode bO_init 46 = .ok (.putfield 27, 3) := by decide +kernel
theorem dO_init_49 : decode bO_init 49 = .ok (.aload_n 0, 1) := by decide +kernel
theorem dO_init_50 : decode bO_init 50 = .ok (.iconst 0, 1) := by decide +kernel
theorem dO_init_51 : decode bO_init 51 = .ok (.putfield 31, 3) := by decide +kernel
theorem dO_init_54 : decode bO_init 54 = .ok (.aload_n 0, 1) := by decide +kernel
theorem dO_init_55 : decode bO_init 55 = .ok (.iconst 0, 1) := by decide +kernel
theorem dO_init_56 : decode bO_init 56 = .ok (.putfield 34, 3) := by decide +kernel
theorem dO_init_59 : decode bO_init 59 = .ok (.aload_n 0, 1) := by decide +kernel
theorem dO_init_60 : decode bO_init 60 = .ok (.aload_n 1, 1) := by decide +kernel
theorem dO_init_61 : decode bO_init 61 = .ok (.putfield 37, 3) := by decide +kernel
theorem dO_init_64 : decode bO_init 64 = .ok (.return_, 1) := by decide +kernel
theorem dO_read_0 : decode bO_read 0 = .ok (.aload_n 0, 1) := by decide +kernel
theorem dO_read_1 : decode bO_read 1 = .ok (.iconst 0, 1) := by decide +kernel
theorem dO_read_2 : decode bO_read 2 = .ok (.putfield 27, 3) := by decide +kernel
theorem dO_read_5 : decode bO_read 5 = .ok (.aload_n 0, 1) := by decide +kernel
theorem dO_read_6 : decode bO_read 6 = .ok (.iconst 0, 1) := by decide +kernel
theorem dO_read_7 : decode bO_read 7 = .ok (.putfield 31, 3) := by decide +kernel
theorem dO_read_10 : decode bO_read 10 = .ok (.aload_n 0, 1) := by decide +kernel
theorem dO_read_11 : decode bO_read 11 = .ok (.iconst 0, 1) := by decide +kernel
theorem dO_read_12 : decode bO_read 12 = .ok (.putfield 34, 3) := by decide +kernel
theorem dO_read_15 : decode bO_read 15 = .ok (.aload_n 0, 1) := by decide +kernel
theorem dO_read_16 : decode bO_read 16 = .ok (.iconst 0, 1) := by decide +kernel
theorem dO_read_17 : decode bO_read 17 = .ok (.iconst 1, 1) := by decide +kernel
theorem dO_read_18 : decode bO_read 18 = .ok (.invokevirtual 41, 3) := by decide +kernel
theorem dO_read_21 : decode bO_read 21 = .ok (.aload_n 0, 1) := by decide +kernel
theorem dO_read_22 : decode bO_read 22 = .ok (.getfield 37, 3) := by decide +kernel
theorem dO_read_25 : decode bO_read 25 = .ok (.getfield 45, 3) := by decide +kernel
theorem dO_read_28 : decode bO_read 28 = .ok (.if_icmp .ne 7, 3) := by decide +kernel
theorem dO_read_31 : decode bO_read 31 = .ok (.iconst 1, 1) := by decide +kernel
theorem dO_read_32 : decode bO_read 32 = .ok (.goto 4, 3) := by decide +kernel
theorem dO_read_35 : decode bO_read 35 = .ok (.iconst 0, 1) := by decide +kernel
theorem dO_read_36 : decode bO_read 36 = .ok (.ireturn, 1) := by decide +kernel
theorem dO_readDocument_0 : decode bO_readDocument 0 = .ok (.iload_n 2, 1) := by decide +kernel
theorem dO_readDocument_1 : decode bO_readDocument 1 = .ok (.iconst 5, 1) := by decide +kernel
theorem dO_readDocument_2 : decode bO_readDocument 2 = .ok (.if_icmp .gt 24, 3) := by decide +kernel
theorem dO_readDocument_5 : decode bO_readDocument 5 = .ok (.aload_n 0, 1) := by decide +kernel
theorem dO_readDocument_6 : decode bO_readDocument 6 = .ok (.getfield 31, 3) := by decide +kernel
theorem dO_readDocument_9 : decode bO_readDocument 9 = .ok (.bipush 30, 2) := by decide +kernel
theorem dO_readDocument_11 : decode bO_readDocument 11 = .ok (.if_icmp .ge 15, 3) := by decide +kernel
theorem dO_readDocument_14 : decode bO_readDocument 14 = .ok (.aload_n 0, 1) := by decide +kernel
theorem dO_readDocument_15 : decode bO_readDocument 15 = .ok (.getfield 37, 3) := by decide +kernel
theorem dO_readDocument_18 : decode bO_readDocument 18 = .ok (.iload_n 1, 1) := by decide +kernel
theorem dO_readDocument_19 : decode bO_readDocument 19 = .ok (.iconst 4, 1) := by decide +kernel
theorem dO_readDocument_20 : decode bO_readDocument 20 = .ok (.invokevirtual 50, 3) := by decide +kernel
theorem dO_readDocument_23 : decode bO_readDocument 23 = .ok (.ifCond .ne 5, 3) := by decide +kernel
theorem dO_readDocument_26 : decode bO_readDocument 26 = .ok (.iconst (-1), 1) := by decide +kernel
theorem dO_readDocument_27 : decode bO_readDocument 27 = .ok (.ireturn, 1) := by decide +kernel
theorem dO_readDocument_28 : decode bO_readDocument 28 = .ok (.aload_n 0, 1) := by decide +kernel
theorem dO_readDocument_29 : decode bO_readDocument 29 = .ok (.getfield 31, 3) := by decide +kernel
theorem dO_readDocument_32 : decode bO_readDocument 32 = .ok (.istore_n 3, 1) := by decide +kernel
theorem dO_readDocument_33 : decode bO_readDocument 33 = .ok (.aload_n 0, 1) := by decide +kernel
theorem dO_readDocument_34 : decode bO_readDocument 34 = .ok (.dup, 1) := by decide +kernel
theorem dO_readDocument_35 : decode bO_readDocument 35 = .ok (.getfield 31, 3) := by decide +kernel
theorem dO_readDocument_38 : decode bO_readDocument 38 = .ok (.iconst 1, 1) := by decide +kernel
theorem dO_readDocument_39 : decode bO_readDocument 39 = .ok (.iadd, 1) := by decide +kernel
theorem dO_readDocument_40 : decode bO_readDocument 40 = .ok (.putfield 31, 3) := by decide +kernel
theorem dO_readDocument_43 : decode bO_readDocument 43 = .ok (.aload_n 0, 1) := by decide +kernel
theorem dO_readDocument_44 : decode bO_readDocument 44 = .ok (.aload_n 0, 1) := by decide +kernel
theorem dO_readDocument_45 : decode bO_readDocument 45 = .ok (.getfield 34, 3) := by decide +kernel
theorem dO_readDocument_48 : decode bO_readDocument 48 = .ok (.iload_n 2, 1) := by decide +kernel
theorem dO_readDocument_49 : decode bO_readDocument 49 = .ok (.invokestatic 54, 3) := by decide +kernel
theorem dO_readDocument_52 : decode bO_readDocument 52 = .ok (.putfield 34, 3) := by decide +kernel
theorem dO_readDocument_55 : decode bO_readDocument 55 = .ok (.iload_n 1, 1) := by decide +kernel
theorem dO_readDocument_56 : decode bO_readDocument 56 = .ok (.iconst 4, 1) := by decide +kernel
theorem dO_readDocument_57 : decode bO_readDocument 57 = .ok (.iadd, 1) := by decide +kernel
theorem dO_readDocument_58 : decode bO_readDocument 58 = .ok (.istore 4, 2) := by decide +kernel
theorem dO_readDocument_60 : decode bO_readDocument 60 = .ok (.iconst 0, 1) := by decide +kernel
theorem dO_readDocument_61 : decode bO_readDocument 61 = .ok (.istore 5, 2) := by decide +kernel
theorem dO_readDocument_63 : decode bO_readDocument 63 = .ok (.iload 5, 2) := by decide +kernel
theorem dO_readDocument_65 : decode bO_readDocument 65 = .ok (.bipush 120, 2) := by decide +kernel
theorem dO_readDocument_67 : decode bO_readDocument 67 = .ok (.if_icmp .ge 31, 3) := by decide +kernel
theorem dO_readDocument_70 : decode bO_readDocument 70 = .ok (.aload_n 0, 1) := by decide +kernel
theorem dO_readDocument_71 : decode bO_readDocument 71 = .ok (.getfield 37, 3) := by decide +kernel
theorem dO_readDocument_74 : decode bO_readDocument 74 = .ok (.iload 4, 2) := by decide +kernel
theorem dO_readDocument_76 : decode bO_readDocument 76 = .ok (.invokevirtual 59, 3) := by decide +kernel
theorem dO_readDocument_79 : decode bO_readDocument 79 = .ok (.ifCond .le 19, 3) := by decide +kernel
theorem dO_readDocument_82 : decode bO_readDocument 82 = .ok (.aload_n 0, 1) := by decide +kernel
theorem dO_readDocument_83 : decode bO_readDocument 83 = .ok (.iload 4, 2) := by decide +kernel
theorem dO_readDocument_85 : decode bO_readDocument 85 = .ok (.iload_n 3, 1) := by decide +kernel
theorem dO_readDocument_86 : decode bO_readDocument 86 = .ok (.iload_n 2, 1) := by decide +kernel
theorem dO_readDocument_87 : decode bO_readDocument 87 = .ok (.invokevirtual 63, 3) := by decide +kernel
theorem dO_readDocument_90 : decode bO_readDocument 90 = .ok (.istore 4, 2) := by decide +kernel
theorem dO_readDocument_92 : decode bO_readDocument 92 = .ok (.iinc 5 1, 3) := by decide +kernel
theorem dO_readDocument_95 : decode bO_readDocument 95 = .ok (.goto (-32), 3) := by decide +kernel
theorem dO_readDocument_98 : decode bO_readDocument 98 = .ok (.aload_n 0, 1) := by decide +kernel
theorem dO_readDocument_99 : decode bO_readDocument 99 = .ok (.getfield 37, 3) := by decide +kernel
theorem dO_readDocument_102 : decode bO_readDocument 102 = .ok (.iload 4, 2) := by decide +kernel
theorem dO_readDocument_104 : decode bO_readDocument 104 = .ok (.invokevirtual 59, 3) := by decide +kernel
theorem dO_readDocument_107 : decode bO_readDocument 107 = .ok (.ifCond .ne 20, 3) := by decide +kernel
theorem dO_readDocument_110 : decode bO_readDocument 110 = .ok (.aload_n 0, 1) := by decide +kernel
theorem dO_readDocument_111 : decode bO_readDocument 111 = .ok (.getfield 37, 3) := by decide +kernel
theorem dO_readDocument_114 : decode bO_readDocument 114 = .ok (.iload_n 1, 1) := by decide +kernel
theorem dO_readDocument_115 : decode bO_readDocument 115 = .ok (.invokevirtual 67, 3) := by decide +kernel
theorem dO_readDocument_118 : decode bO_readDocument 118 = .ok (.iload 4, 2) := by decide +kernel
theorem dO_readDocument_120 : decode bO_readDocument 120 = .ok (.iconst 1, 1) := by decide +kernel
theorem dO_readDocument_121 : decode bO_readDocument 121 = .ok (.iadd, 1) := by decide +kernel
theorem dO_readDocument_122 : decode bO_readDocument 122 = .ok (.iload_n 1, 1) := by decide +kernel
theorem dO_readDocument_123 : decode bO_readDocument 123 = .ok (.isub, 1) := by decide +kernel
theorem dO_readDocument_124 : decode bO_readDocument 124 = .ok (.if_icmp .eq 5, 3) := by decide +kernel
theorem dO_readDocument_127 : decode bO_readDocument 127 = .ok (.iconst (-1), 1) := by decide +kernel
theorem dO_readDocument_128 : decode bO_readDocument 128 = .ok (.ireturn, 1) := by decide +kernel
theorem dO_readDocument_129 : decode bO_readDocument 129 = .ok (.iload 4, 2) := by decide +kernel
theorem dO_readDocument_131 : decode bO_readDocument 131 = .ok (.iconst 1, 1) := by decide +kernel
theorem dO_readDocument_132 : decode bO_readDocument 132 = .ok (.iadd, 1) := by decide +kernel
theorem dO_readDocument_133 : decode bO_readDocument 133 = .ok (.ireturn, 1) := by decide +kernel
theorem dO_readElement_0 : decode bO_readElement 0 = .ok (.aload_n 0, 1) := by decide +kernel
theorem dO_readElement_1 : decode bO_readElement 1 = .ok (.iload_n 1, 1) := by decide +kernel
theorem dO_readElement_2 : decode bO_readElement 2 = .ok (.iconst 1, 1) := by decide +kernel
theorem dO_readElement_3 : decode bO_readElement 3 = .ok (.iadd, 1) := by decide +kernel
theorem dO_readElement_4 : decode bO_readElement 4 = .ok (.invokevirtual 70, 3) := by decide +kernel
theorem dO_readElement_7 : decode bO_readElement 7 = .ok (.istore 4, 2) := by decide +kernel
theorem dO_readElement_9 : decode bO_readElement 9 = .ok (.aload_n 0, 1) := by decide +kernel
theorem dO_readElement_10 : decode bO_readElement 10 = .ok (.getfield 27, 3) := by decide +kernel
theorem dO_readElement_13 : decode bO_readElement 13 = .ok (.bipush 60, 2) := by decide +kernel
theorem dO_readElement_15 : decode bO_readElement 15 = .ok (.if_icmp .ge 15, 3) := by decide +kernel
theorem dO_readElement_18 : decode bO_readElement 18 = .ok (.aload_n 0, 1) := by decide +kernel
theorem dO_readElement_19 : decode bO_readElement 19 = .ok (.getfield 37, 3) := by decide +kernel
theorem dO_readElement_22 : decode bO_readElement 22 = .ok (.iload 4, 2) := by decide +kernel
theorem dO_readElement_24 : decode bO_readElement 24 = .ok (.invokevirtual 59, 3) := by decide +kernel
theorem dO_readElement_27 : decode bO_readElement 27 = .ok (.ifCond .eq 5, 3) := by decide +kernel
theorem dO_readElement_30 : decode bO_readElement 30 = .ok (.iconst (-1), 1) := by decide +kernel
theorem dO_readElement_31 : decode bO_readElement 31 = .ok (.ireturn, 1) := by decide +kernel
theorem dO_readElement_32 : decode bO_readElement 32 = .ok (.aload_n 0, 1) := by decide +kernel
theorem dO_readElement_33 : decode bO_readElement 33 = .ok (.getfield 37, 3) := by decide +kernel
theorem dO_readElement_36 : decode bO_readElement 36 = .ok (.iload_n 1, 1) := by decide +kernel
theorem dO_readElement_37 : decode bO_readElement 37 = .ok (.invokevirtual 59, 3) := by decide +kernel
theorem dO_readElement_40 : decode bO_readElement 40 = .ok (.istore 5, 2) := by decide +kernel
theorem dO_readElement_42 : decode bO_readElement 42 = .ok (.iload 4, 2) := by decide +kernel
theorem dO_readElement_44 : decode bO_readElement 44 = .ok (.iconst 1, 1) := by decide +kernel
theorem dO_readElement_45 : decode bO_readElement 45 = .ok (.iadd, 1) := by decide +kernel
theorem dO_readElement_46 : decode bO_readElement 46 = .ok (.istore 6, 2) := by decide +kernel
theorem dO_readElement_48 : decode bO_readElement 48 = .ok (.aload_n 0, 1) := by decide +kernel
theorem dO_readElement_49 : decode bO_readElement 49 = .ok (.getfield 11, 3) := by decide +kernel
theorem dO_readElement_52 : decode bO_readElement 52 = .ok (.aload_n 0, 1) := by decide +kernel
theorem dO_readElement_53 : decode bO_readElement 53 = .ok (.getfield 27, 3) := by decide +kernel
theorem dO_readElement_56 : decode bO_readElement 56 = .ok (.iload 5, 2) := by decide +kernel
theorem dO_readElement_58 : decode bO_readElement 58 = .ok (.iastore, 1) := by decide +kernel
theorem dO_readElement_59 : decode bO_readElement 59 = .ok (.aload_n 0, 1) := by decide +kernel
theorem dO_readElement_60 : decode bO_readElement 60 = .ok (.getfield 15, 3) := by decide +kernel
theorem dO_readElement_63 : decode bO_readElement 63 = .ok (.aload_n 0, 1) := by decide +kernel
theorem dO_readElement_64 : decode bO_readElement 64 = .ok (.getfield 27, 3) := by decide +kernel
theorem dO_readElement_67 : decode bO_readElement 67 = .ok (.iload_n 1, 1) := by decide +kernel
theorem dO_readElement_68 : decode bO_readElement 68 = .ok (.iconst 1, 1) := by decide +kernel
theorem dO_readElement_69 : decode bO_readElement 69 = .ok (.iadd, 1) := by decide +kernel
theorem dO_readElement_70 : decode bO_readElement 70 = .ok (.iastore, 1) := by decide +kernel
theorem dO_readElement_71 : decode bO_readElement 71 = .ok (.aload_n 0, 1) := by decide +kernel
theorem dO_readElement_72 : decode bO_readElement 72 = .ok (.getfield 18, 3) := by decide +kernel
theorem dO_readElement_75 : decode bO_readElement 75 = .ok (.aload_n 0, 1) := by decide +kernel
theorem dO_readElement_76 : decode bO_readElement 76 = .ok (.getfield 27, 3) := by decide +kernel
theorem dO_readElement_79 : decode bO_readElement 79 = .ok (.iload 6, 2) := by decide +kernel
theorem dO_readElement_81 : decode bO_readElement 81 = .ok (.iastore, 1) := by decide +kernel
theorem dO_readElement_82 : decode bO_readElement 82 = .ok (.aload_n 0, 1) := by decide +kernel
theorem dO_readElement_83 : decode bO_readElement 83 = .ok (.getfield 21, 3) := by decide +kernel
theorem dO_readElement_86 : decode bO_readElement 86 = .ok (.aload_n 0, 1) := by decide +kernel
theorem dO_readElement_87 : decode bO_readElement 87 = .ok (.getfield 27, 3) := by decide +kernel
theorem dO_readElement_90 : decode bO_readElement 90 = .ok (.iload_n 2, 1) := by decide +kernel
theorem dO_readElement_91 : decode bO_readElement 91 = .ok (.iastore, 1) := by decide +kernel
theorem dO_readElement_92 : decode bO_readElement 92 = .ok (.aload_n 0, 1) := by decide +kernel
theorem dO_readElement_93 : decode bO_readElement 93 = .ok (.getfield 24, 3) := by decide +kernel
theorem dO_readElement_96 : decode bO_readElement 96 = .ok (.aload_n 0, 1) := by decide +kernel
theorem dO_readElement_97 : decode bO_readElement 97 = .ok (.getfield 27, 3) := by decide +kernel
theorem dO_readElement_100 : decode bO_readElement 100 = .ok (.iload 5, 2) := by decide +kernel
theorem dO_readElement_102 : decode bO_readElement 102 = .ok (.iconst 3, 1) := by decide +kernel
theorem dO_readElement_103 : decode bO_readElement 103 = .ok (.if_icmp .ne 10, 3) := by decide +kernel
theorem dO_readElement_106 : decode bO_readElement 106 = .ok (.aload_n 0, 1) := by decide +kernel
theorem dO_readElement_107 : decode bO_readElement 107 = .ok (.getfield 31, 3) := by decide +kernel
theorem dO_readElement_110 : decode bO_readElement 110 = .ok (.goto 4, 3) := by decide +kernel
theorem dO_readElement_113 : decode bO_readElement 113 = .ok (.iconst (-1), 1) := by decide +kernel
theorem dO_readElement_114 : decode bO_readElement 114 = .ok (.iastore, 1) := by decide +kernel
theorem dO_readElement_115 : decode bO_readElement 115 = .ok (.aload_n 0, 1) := by decide +kernel
theorem dO_readElement_116 : decode bO_readElement 116 = .ok (.dup, 1) := by decide +kernel
theorem dO_readElement_117 : decode bO_readElement 117 = .ok (.getfield 27, 3) := by decide +kernel
theorem dO_readElement_120 : decode bO_readElement 120 = .ok (.iconst 1, 1) := by decide +kernel
theorem dO_readElement_121 : decode bO_readElement 121 = .ok (.iadd, 1) := by decide +kernel
theorem dO_readElement_122 : decode bO_readElement 122 = .ok (.putfield 27, 3) := by decide +kernel
theorem dO_readElement_125 : decode bO_readElement 125 = .ok (.aload_n 0, 1) := by decide +kernel
theorem dO_readElement_126 : decode bO_readElement 126 = .ok (.iload 5, 2) := by decide +kernel
theorem dO_readElement_128 : decode bO_readElement 128 = .ok (.iload 6, 2) := by decide +kernel
theorem dO_readElement_130 : decode bO_readElement 130 = .ok (.iload_n 3, 1) := by decide +kernel
theorem dO_readElement_131 : decode bO_readElement 131 = .ok (.invokevirtual 73, 3) := by decide +kernel
theorem dO_readElement_134 : decode bO_readElement 134 = .ok (.ireturn, 1) := by decide +kernel
theorem dO_readContent_0 : decode bO_readContent 0 = .ok (.iload_n 1, 1) := by decide +kernel
theorem dO_readContent_1 : decode bO_readContent 1 = .ok (.tableswitch 173 2 18 #[83, 89, 173, 173, 173, 173, 98, 173, 129, 173, 173, 173, 173, 173, 131, 173, 151], 83) := by decide +kernel
theorem dO_readContent_84 : decode bO_readContent 84 = .ok (.aload_n 0, 1) := by decide +kernel
theorem dO_readContent_85 : decode bO_readContent 85 = .ok (.iload_n 2, 1) := by decide +kernel
theorem dO_readContent_86 : decode bO_readContent 86 = .ok (.invokevirtual 76, 3) := by decide +kernel
theorem dO_readContent_89 : decode bO_readContent 89 = .ok (.ireturn, 1) := by decide +kernel
theorem dO_readContent_90 : decode bO_readContent 90 = .ok (.aload_n 0, 1) := by decide +kernel
theorem dO_readContent_91 : decode bO_readContent 91 = .ok (.iload_n 2, 1) := by decide +kernel
theorem dO_readContent_92 : decode bO_readContent 92 = .ok (.iload_n 3, 1) := by decide +kernel
theorem dO_readContent_93 : decode bO_readContent 93 = .ok (.iconst 1, 1) := by decide +kernel
theorem dO_readContent_94 : decode bO_readContent 94 = .ok (.iadd, 1) := by decide +kernel
theorem dO_readContent_95 : decode bO_readContent 95 = .ok (.invokevirtual 41, 3) := by decide +kernel
theorem dO_readContent_98 : decode bO_readContent 98 = .ok (.ireturn, 1) := by decide +kernel
theorem dO_readContent_99 : decode bO_readContent 99 = .ok (.aload_n 0, 1) := by decide +kernel
theorem dO_readContent_100 : decode bO_readContent 100 = .ok (.getfield 37, 3) := by decide +kernel
theorem dO_readContent_103 : decode bO_readContent 103 = .ok (.iload_n 2, 1) := by decide +kernel
theorem dO_readContent_104 : decode bO_readContent 104 = .ok (.invokevirtual 59, 3) := by decide +kernel
theorem dO_readContent_107 : decode bO_readContent 107 = .ok (.ifCond .eq 15, 3) := by decide +kernel
theorem dO_readContent_110 : decode bO_readContent 110 = .ok (.aload_n 0, 1) := by decide +kernel
theorem dO_readContent_111 : decode bO_readContent 111 = .ok (.getfield 37, 3) := by decide +kernel
theorem dO_readContent_114 : decode bO_readContent 114 = .ok (.iload_n 2, 1) := by decide +kernel
theorem dO_readContent_115 : decode bO_readContent 115 = .ok (.invokevirtual 59, 3) := by decide +kernel
theorem dO_readContent_118 : decode bO_readContent 118 = .ok (.iconst 1, 1) := by decide +kernel
theorem dO_readContent_119 : decode bO_readContent 119 = .ok (.if_icmp .ne 9, 3) := by decide +kernel
theorem dO_readContent_122 : decode bO_readContent 122 = .ok (.iload_n 2, 1) := by decide +kernel
theorem dO_readContent_123 : decode bO_readContent 123 = .ok (.iconst 1, 1) := by decide +kernel
theorem dO_readContent_124 : decode bO_readContent 124 = .ok (.iadd, 1) := by decide +kernel
theorem dO_readContent_125 : decode bO_readContent 125 = .ok (.goto 4, 3) := by decide +kernel
theorem dO_readContent_128 : decode bO_readContent 128 = .ok (.iconst (-1), 1) := by decide +kernel
theorem dO_readContent_129 : decode bO_readContent 129 = .ok (.ireturn, 1) := by decide +kernel
theorem dO_readContent_130 : decode bO_readContent 130 = .ok (.iload_n 2, 1) := by decide +kernel
theorem dO_readContent_131 : decode bO_readContent 131 = .ok (.ireturn, 1) := by decide +kernel
theorem dO_readContent_132 : decode bO_readContent 132 = .ok (.aload_n 0, 1) := by decide +kernel
theorem dO_readContent_133 : decode bO_readContent 133 = .ok (.getfield 37, 3) := by decide +kernel
theorem dO_readContent_136 : decode bO_readContent 136 = .ok (.iload_n 2, 1) := by decide +kernel
theorem dO_readContent_137 : decode bO_readContent 137 = .ok (.iconst 4, 1) := by decide +kernel
theorem dO_readContent_138 : decode bO_readContent 138 = .ok (.invokevirtual 50, 3) := by decide +kernel
theorem dO_readContent_141 : decode bO_readContent 141 = .ok (.ifCond .eq 9, 3) := by decide +kernel
theorem dO_readContent_144 : decode bO_readContent 144 = .ok (.iload_n 2, 1) := by decide +kernel
theorem dO_readContent_145 : decode bO_readContent 145 = .ok (.iconst 4, 1) := by decide +kernel
theorem dO_readContent_146 : decode bO_readContent 146 = .ok (.iadd, 1) := by decide +kernel
theorem dO_readContent_147 : decode bO_readContent 147 = .ok (.goto 4, 3) := by decide +kernel
theorem dO_readContent_150 : decode bO_readContent 150 = .ok (.iconst (-1), 1) := by decide +kernel
theorem dO_readContent_151 : decode bO_readContent 151 = .ok (.ireturn, 1) := by decide +kernel
theorem dO_readContent_152 : decode bO_readContent 152 = .ok (.aload_n 0, 1) := by decide +kernel
theorem dO_readContent_153 : decode bO_readContent 153 = .ok (.getfield 37, 3) := by decide +kernel
theorem dO_readContent_156 : decode bO_readContent 156 = .ok (.iload_n 2, 1) := by decide +kernel
theorem dO_readContent_157 : decode bO_readContent 157 = .ok (.bipush 8, 2) := by decide +kernel
theorem dO_readContent_159 : decode bO_readContent 159 = .ok (.invokevirtual 50, 3) := by decide +kernel
theorem dO_readContent_162 : decode bO_readContent 162 = .ok (.ifCond .eq 10, 3) := by decide +kernel
theorem dO_readContent_165 : decode bO_readContent 165 = .ok (.iload_n 2, 1) := by decide +kernel
theorem dO_readContent_166 : decode bO_readContent 166 = .ok (.bipush 8, 2) := by decide +kernel
theorem dO_readContent_168 : decode bO_readContent 168 = .ok (.iadd, 1) := by decide +kernel
theorem dO_readContent_169 : decode bO_readContent 169 = .ok (.goto 4, 3) := by decide +kernel
theorem dO_readContent_172 : decode bO_readContent 172 = .ok (.iconst (-1), 1) := by decide +kernel
theorem dO_readContent_173 : decode bO_readContent 173 = .ok (.ireturn, 1) := by decide +kernel
theorem dO_readContent_174 : decode bO_readContent 174 = .ok (.iconst (-1), 1) := by decide +kernel
theorem dO_readContent_175 : decode bO_readContent 175 = .ok (.ireturn, 1) := by decide +kernel
theorem dO_readText_0 : decode bO_readText 0 = .ok (.iload_n 1, 1) := by decide +kernel
theorem dO_readText_1 : decode bO_readText 1 = .ok (.iconst 4, 1) := by decide +kernel
theorem dO_readText_2 : decode bO_readText 2 = .ok (.iadd, 1) := by decide +kernel
theorem dO_readText_3 : decode bO_readText 3 = .ok (.istore_n 2, 1) := by decide +kernel
theorem dO_readText_4 : decode bO_readText 4 = .ok (.aload_n 0, 1) := by decide +kernel
theorem dO_readText_5 : decode bO_readText 5 = .ok (.iload_n 2, 1) := by decide +kernel
theorem dO_readText_6 : decode bO_readText 6 = .ok (.invokevirtual 70, 3) := by decide +kernel
theorem dO_readText_9 : decode bO_readText 9 = .ok (.istore_n 3, 1) := by decide +kernel
theorem dO_readText_10 : decode bO_readText 10 = .ok (.aload_n 0, 1) := by decide +kernel
theorem dO_readText_11 : decode bO_readText 11 = .ok (.getfield 37, 3) := by decide +kernel
theorem dO_readText_14 : decode bO_readText 14 = .ok (.iload_n 3, 1) := by decide +kernel
theorem dO_readText_15 : decode bO_readText 15 = .ok (.invokevirtual 59, 3) := by decide +kernel
theorem dO_readText_18 : decode bO_readText 18 = .ok (.ifCond .ne 23, 3) := by decide +kernel
theorem dO_readText_21 : decode bO_readText 21 = .ok (.aload_n 0, 1) := by decide +kernel
theorem dO_readText_22 : decode bO_readText 22 = .ok (.getfield 37, 3) := by decide +kernel
theorem dO_readText_25 : decode bO_readText 25 = .ok (.iload_n 1, 1) := by decide +kernel
theorem dO_readText_26 : decode bO_readText 26 = .ok (.invokevirtual 67, 3) := by decide +kernel
theorem dO_readText_29 : decode bO_readText 29 = .ok (.iload_n 3, 1) := by decide +kernel
theorem dO_readText_30 : decode bO_readText 30 = .ok (.iconst 1, 1) := by decide +kernel
theorem dO_readText_31 : decode bO_readText 31 = .ok (.iadd, 1) := by decide +kernel
theorem dO_readText_32 : decode bO_readText 32 = .ok (.iload_n 2, 1) := by decide +kernel
theorem dO_readText_33 : decode bO_readText 33 = .ok (.isub, 1) := by decide +kernel
theorem dO_readText_34 : decode bO_readText 34 = .ok (.if_icmp .ne 7, 3) := by decide +kernel
theorem dO_readText_37 : decode bO_readText 37 = .ok (.iconst 1, 1) := by decide +kernel
theorem dO_readText_38 : decode bO_readText 38 = .ok (.goto 4, 3) := by decide +kernel
theorem dO_readText_41 : decode bO_readText 41 = .ok (.iconst 0, 1) := by decide +kernel
theorem dO_readText_42 : decode bO_readText 42 = .ok (.istore 4, 2) := by decide +kernel
theorem dO_readText_44 : decode bO_readText 44 = .ok (.iload 4, 2) := by decide +kernel
theorem dO_readText_46 : decode bO_readText 46 = .ok (.ifCond .eq 9, 3) := by decide +kernel
theorem dO_readText_49 : decode bO_readText 49 = .ok (.iload_n 3, 1) := by decide +kernel
theorem dO_readText_50 : decode bO_readText 50 = .ok (.iconst 1, 1) := by decide +kernel
theorem dO_readText_51 : decode bO_readText 51 = .ok (.iadd, 1) := by decide +kernel
theorem dO_readText_52 : decode bO_readText 52 = .ok (.goto 4, 3) := by decide +kernel
theorem dO_readText_55 : decode bO_readText 55 = .ok (.iconst (-1), 1) := by decide +kernel
theorem dO_readText_56 : decode bO_readText 56 = .ok (.ireturn, 1) := by decide +kernel
theorem dO_endOfText_0 : decode bO_endOfText 0 = .ok (.iload_n 1, 1) := by decide +kernel
theorem dO_endOfText_1 : decode bO_endOfText 1 = .ok (.istore_n 2, 1) := by decide +kernel
theorem dO_endOfText_2 : decode bO_endOfText 2 = .ok (.iconst 0, 1) := by decide +kernel
theorem dO_endOfText_3 : decode bO_endOfText 3 = .ok (.istore_n 3, 1) := by decide +kernel
theorem dO_endOfText_4 : decode bO_endOfText 4 = .ok (.iload_n 3, 1) := by decide +kernel
theorem dO_endOfText_5 : decode bO_endOfText 5 = .ok (.bipush 120, 2) := by decide +kernel
theorem dO_endOfText_7 : decode bO_endOfText 7 = .ok (.if_icmp .ge 36, 3) := by decide +kernel
theorem dO_endOfText_10 : decode bO_endOfText 10 = .ok (.aload_n 0, 1) := by decide +kernel
theorem dO_endOfText_11 : decode bO_endOfText 11 = .ok (.getfield 37, 3) := by decide +kernel
theorem dO_endOfText_14 : decode bO_endOfText 14 = .ok (.iload_n 2, 1) := by decide +kernel
theorem dO_endOfText_15 : decode bO_endOfText 15 = .ok (.invokevirtual 59, 3) := by decide +kernel
theorem dO_endOfText_18 : decode bO_endOfText 18 = .ok (.ifCond .le 25, 3) := by decide +kernel
theorem dO_endOfText_21 : decode bO_endOfText 21 = .ok (.aload_n 0, 1) := by decide +kernel
theorem dO_endOfText_22 : decode bO_endOfText 22 = .ok (.getfield 37, 3) := by decide +kernel
theorem dO_endOfText_25 : decode bO_endOfText 25 = .ok (.iload_n 2, 1) := by decide +kernel
theorem dO_endOfText_26 : decode bO_endOfText 26 = .ok (.invokevirtual 59, 3) := by decide +kernel
theorem dO_endOfText_29 : decode bO_endOfText 29 = .ok (.bipush 127, 2) := by decide +kernel
theorem dO_endOfText_31 : decode bO_endOfText 31 = .ok (.if_icmp .gt 12, 3) := by decide +kernel
theorem dO_endOfText_34 : decode bO_endOfText 34 = .ok (.iinc 2 1, 3) := by decide +kernel
theorem dO_endOfText_37 : decode bO_endOfText 37 = .ok (.iinc 3 1, 3) := by decide +kernel
theorem dO_endOfText_40 : decode bO_endOfText 40 = .ok (.goto (-36), 3) := by decide +kernel
theorem dO_endOfText_43 : decode bO_endOfText 43 = .ok (.iload_n 2, 1) := by decide +kernel
theorem dO_endOfText_44 : decode bO_endOfText 44 = .ok (.ireturn, 1) := by decide +kernel
theorem dO_hasElement_0 : decode bO_hasElement 0 = .ok (.iload_n 1, 1) := by decide +kernel
theorem dO_hasElement_1 : decode bO_hasElement 1 = .ok (.ifCond .lt 15, 3) := by decide +kernel
theorem dO_hasElement_4 : decode bO_hasElement 4 = .ok (.iload_n 1, 1) := by decide +kernel
theorem dO_hasElement_5 : decode bO_hasElement 5 = .ok (.aload_n 0, 1) := by decide +kernel
theorem dO_hasElement_6 : decode bO_hasElement 6 = .ok (.getfield 27, 3) := by decide +kernel
theorem dO_hasElement_9 : decode bO_hasElement 9 = .ok (.if_icmp .ge 7, 3) := by decide +kernel
theorem dO_hasElement_12 : decode bO_hasElement 12 = .ok (.iconst 1, 1) := by decide +kernel
theorem dO_hasElement_13 : decode bO_hasElement 13 = .ok (.goto 4, 3) := by decide +kernel
theorem dO_hasElement_16 : decode bO_hasElement 16 = .ok (.iconst 0, 1) := by decide +kernel
theorem dO_hasElement_17 : decode bO_hasElement 17 = .ok (.ireturn, 1) := by decide +kernel
theorem dO_type_0 : decode bO_type 0 = .ok (.aload_n 0, 1) := by decide +kernel
theorem dO_type_1 : decode bO_type 1 = .ok (.iload_n 1, 1) := by decide +kernel
theorem dO_type_2 : decode bO_type 2 = .ok (.invokevirtual 79, 3) := by decide +kernel
theorem dO_type_5 : decode bO_type 5 = .ok (.ifCond .eq 12, 3) := by decide +kernel
theorem dO_type_8 : decode bO_type 8 = .ok (.aload_n 0, 1) := by decide +kernel
theorem dO_type_9 : decode bO_type 9 = .ok (.getfield 11, 3) := by decide +kernel
theorem dO_type_12 : decode bO_type 12 = .ok (.iload_n 1, 1) := by decide +kernel
theorem dO_type_13 : decode bO_type 13 = .ok (.iaload, 1) := by decide +kernel
theorem dO_type_14 : decode bO_type 14 = .ok (.goto 4, 3) := by decide +kernel
theorem dO_type_17 : decode bO_type 17 = .ok (.iconst (-1), 1) := by decide +kernel
theorem dO_type_18 : decode bO_type 18 = .ok (.ireturn, 1) := by decide +kernel
