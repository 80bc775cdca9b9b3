/-! decode rows of class PropertyDocuments$Writer: laid by wip/gen/names.py -/
theorem dW_init_0 : decode bW_init 0 = .ok (.aload_n 0, 1) := by decide +kernel
theorem dW_init_1 : decode bW_init 1 = .ok (.invokespecial 3, 3) := by decide +kernel
theorem dW_init_4 : decode bW_init 4 = .ok (.aload_n 0, 1) := by decide +kernel
theorem dW_init_5 : decode bW_init 5 = .ok (.aload_n 1, 1) := by decide +kernel
theorem dW_init_6 : decode bW_init 6 = .ok (.putfield 9, 3) := by decide +kernel
theorem dW_init_9 : decode bW_init 9 = .ok (.aload_n 0, 1) := by decide +kernel
theorem dW_init_10 : decode bW_init 10 = .ok (.aload_n 2, 1) := by decide +kernel
theorem dW_init_11 : decode bW_init 11 = .ok (.putfield 15, 3) := by decide +kernel
theorem dW_init_14 : decode bW_init 14 = .ok (.aload_n 0, 1) := by decide +kernel
theorem dW_init_15 : decode bW_init 15 = .ok (.new 19, 3) := by decide +kernel
theorem dW_init_18 : decode bW_init 18 = .ok (.dup, 1) := by decide +kernel
theorem dW_init_19 : decode bW_init 19 = .ok (.invokespecial 21, 3) := by decide +kernel
theorem dW_init_22 : decode bW_init 22 = .ok (.putfield 22, 3) := by decide +kernel
theorem dW_init_25 : decode bW_init 25 = .ok (.return_, 1) := by decide +kernel
theorem dW_write_0 : decode bW_write 0 = .ok (.aload_n 0, 1) := by decide +kernel
theorem dW_write_1 : decode bW_write 1 = .ok (.getfield 22, 3) := by decide +kernel
theorem dW_write_4 : decode bW_write 4 = .ok (.iconst 0, 1) := by decide +kernel
theorem dW_write_5 : decode bW_write 5 = .ok (.putfield 26, 3) := by decide +kernel
theorem dW_write_8 : decode bW_write 8 = .ok (.aload_n 0, 1) := by decide +kernel
theorem dW_write_9 : decode bW_write 9 = .ok (.iload_n 1, 1) := by decide +kernel
theorem dW_write_10 : decode bW_write 10 = .ok (.iload_n 2, 1) := by decide +kernel
theorem dW_write_11 : decode bW_write 11 = .ok (.iconst 1, 1) := by decide +kernel
theorem dW_write_12 : decode bW_write 12 = .ok (.invokevirtual 30, 3) := by decide +kernel
theorem dW_write_15 : decode bW_write 15 = .ok (.ireturn, 1) := by decide +kernel
theorem dW_writeDocument_0 : decode bW_writeDocument 0 = .ok (.aload_n 0, 1) := by decide +kernel
theorem dW_writeDocument_1 : decode bW_writeDocument 1 = .ok (.getfield 22, 3) := by decide +kernel
theorem dW_writeDocument_4 : decode bW_writeDocument 4 = .ok (.getfield 26, 3) := by decide +kernel
theorem dW_writeDocument_7 : decode bW_writeDocument 7 = .ok (.istore 4, 2) := by decide +kernel
theorem dW_writeDocument_9 : decode bW_writeDocument 9 = .ok (.aload_n 0, 1) := by decide +kernel
theorem dW_writeDocument_10 : decode bW_writeDocument 10 = .ok (.getfield 15, 3) := by decide +kernel
theorem dW_writeDocument_13 : decode bW_writeDocument 13 = .ok (.iload_n 1, 1) := by decide +kernel
theorem dW_writeDocument_14 : decode bW_writeDocument 14 = .ok (.invokevirtual 34, 3) := by decide +kernel
theorem dW_writeDocument_17 : decode bW_writeDocument 17 = .ok (.istore 5, 2) := by decide +kernel
theorem dW_writeDocument_19 : decode bW_writeDocument 19 = .ok (.iload_n 3, 1) := by decide +kernel
theorem dW_writeDocument_20 : decode bW_writeDocument 20 = .ok (.iconst 5, 1) := by decide +kernel
theorem dW_writeDocument_21 : decode bW_writeDocument 21 = .ok (.if_icmp .gt 34, 3) := by decide +kernel
theorem dW_writeDocument_24 : decode bW_writeDocument 24 = .ok (.aload_n 0, 1) := by decide +kernel
theorem dW_writeDocument_25 : decode bW_writeDocument 25 = .ok (.getfield 22, 3) := by decide +kernel
theorem dW_writeDocument_28 : decode bW_writeDocument 28 = .ok (.lconst 0, 1) := by decide +kernel
theorem dW_writeDocument_29 : decode bW_writeDocument 29 = .ok (.iconst 4, 1) := by decide +kernel
theorem dW_writeDocument_30 : decode bW_writeDocument 30 = .ok (.invokevirtual 40, 3) := by decide +kernel
theorem dW_writeDocument_33 : decode bW_writeDocument 33 = .ok (.ifCond .eq 22, 3) := by decide +kernel
theorem dW_writeDocument_36 : decode bW_writeDocument 36 = .ok (.iload 5, 2) := by decide +kernel
theorem dW_writeDocument_38 : decode bW_writeDocument 38 = .ok (.iload_n 2, 1) := by decide +kernel
theorem dW_writeDocument_39 : decode bW_writeDocument 39 = .ok (.if_icmp .eq 12, 3) := by decide +kernel
theorem dW_writeDocument_42 : decode bW_writeDocument 42 = .ok (.aload_n 0, 1) := by decide +kernel
theorem dW_writeDocument_43 : decode bW_writeDocument 43 = .ok (.iload 5, 2) := by decide +kernel
theorem dW_writeDocument_45 : decode bW_writeDocument 45 = .ok (.invokevirtual 44, 3) := by decide +kernel
theorem dW_writeDocument_48 : decode bW_writeDocument 48 = .ok (.ifCond .eq 7, 3) := by decide +kernel
theorem dW_writeDocument_51 : decode bW_writeDocument 51 = .ok (.iconst 1, 1) := by decide +kernel
theorem dW_writeDocument_52 : decode bW_writeDocument 52 = .ok (.goto 4, 3) := by decide +kernel
theorem dW_writeDocument_55 : decode bW_writeDocument 55 = .ok (.iconst 0, 1) := by decide +kernel
theorem dW_writeDocument_56 : decode bW_writeDocument 56 = .ok (.istore 6, 2) := by decide +kernel
theorem dW_writeDocument_58 : decode bW_writeDocument 58 = .ok (.iconst 0, 1) := by decide +kernel
theorem dW_writeDocument_59 : decode bW_writeDocument 59 = .ok (.istore 7, 2) := by decide +kernel
theorem dW_writeDocument_61 : decode bW_writeDocument 61 = .ok (.iload 7, 2) := by decide +kernel
theorem dW_writeDocument_63 : decode bW_writeDocument 63 = .ok (.iload 5, 2) := by decide +kernel
theorem dW_writeDocument_65 : decode bW_writeDocument 65 = .ok (.if_icmp .gt 46, 3) := by decide +kernel
theorem dW_writeDocument_68 : decode bW_writeDocument 68 = .ok (.iload 6, 2) := by decide +kernel
theorem dW_writeDocument_70 : decode bW_writeDocument 70 = .ok (.ifCond .eq 41, 3) := by decide +kernel
theorem dW_writeDocument_73 : decode bW_writeDocument 73 = .ok (.aload_n 0, 1) := by decide +kernel
theorem dW_writeDocument_74 : decode bW_writeDocument 74 = .ok (.getfield 9, 3) := by decide +kernel
theorem dW_writeDocument_77 : decode bW_writeDocument 77 = .ok (.iload 5, 2) := by decide +kernel
theorem dW_writeDocument_79 : decode bW_writeDocument 79 = .ok (.iload 7, 2) := by decide +kernel
theorem dW_writeDocument_81 : decode bW_writeDocument 81 = .ok (.invokevirtual 48, 3) := by decide +kernel
theorem dW_writeDocument_84 : decode bW_writeDocument 84 = .ok (.ifCond .eq 14, 3) := by decide +kernel
theorem dW_writeDocument_87 : decode bW_writeDocument 87 = .ok (.aload_n 0, 1) := by decide +kernel
theorem dW_writeDocument_88 : decode bW_writeDocument 88 = .ok (.iload_n 1, 1) := by decide +kernel
theorem dW_writeDocument_89 : decode bW_writeDocument 89 = .ok (.iload 7, 2) := by decide +kernel
theorem dW_writeDocument_91 : decode bW_writeDocument 91 = .ok (.iload_n 3, 1) := by decide +kernel
theorem dW_writeDocument_92 : decode bW_writeDocument 92 = .ok (.invokevirtual 54, 3) := by decide +kernel
theorem dW_writeDocument_95 : decode bW_writeDocument 95 = .ok (.ifCond .eq 7, 3) := by decide +kernel
theorem dW_writeDocument_98 : decode bW_writeDocument 98 = .ok (.iconst 1, 1) := by decide +kernel
theorem dW_writeDocument_99 : decode bW_writeDocument 99 = .ok (.goto 4, 3) := by decide +kernel
theorem dW_writeDocument_102 : decode bW_writeDocument 102 = .ok (.iconst 0, 1) := by decide +kernel
theorem dW_writeDocument_103 : decode bW_writeDocument 103 = .ok (.istore 6, 2) := by decide +kernel
theorem dW_writeDocument_105 : decode bW_writeDocument 105 = .ok (.iinc 7 1, 3) := by decide +kernel
theorem dW_writeDocument_108 : decode bW_writeDocument 108 = .ok (.goto (-47), 3) := by decide +kernel
theorem dW_writeDocument_111 : decode bW_writeDocument 111 = .ok (.iload 6, 2) := by decide +kernel
theorem dW_writeDocument_113 : decode bW_writeDocument 113 = .ok (.ifCond .eq 14, 3) := by decide +kernel
theorem dW_writeDocument_116 : decode bW_writeDocument 116 = .ok (.aload_n 0, 1) := by decide +kernel
theorem dW_writeDocument_117 : decode bW_writeDocument 117 = .ok (.getfield 22, 3) := by decide +kernel
theorem dW_writeDocument_120 : decode bW_writeDocument 120 = .ok (.iconst 0, 1) := by decide +kernel
theorem dW_writeDocument_121 : decode bW_writeDocument 121 = .ok (.invokevirtual 57, 3) := by decide +kernel
theorem dW_writeDocument_124 : decode bW_writeDocument 124 = .ok (.ifCond .ne 5, 3) := by decide +kernel
theorem dW_writeDocument_127 : decode bW_writeDocument 127 = .ok (.iconst 0, 1) := by decide +kernel
theorem dW_writeDocument_128 : decode bW_writeDocument 128 = .ok (.ireturn, 1) := by decide +kernel
theorem dW_writeDocument_129 : decode bW_writeDocument 129 = .ok (.aload_n 0, 1) := by decide +kernel
theorem dW_writeDocument_130 : decode bW_writeDocument 130 = .ok (.getfield 22, 3) := by decide +kernel
theorem dW_writeDocument_133 : decode bW_writeDocument 133 = .ok (.iload 4, 2) := by decide +kernel
theorem dW_writeDocument_135 : decode bW_writeDocument 135 = .ok (.aload_n 0, 1) := by decide +kernel
theorem dW_writeDocument_136 : decode bW_writeDocument 136 = .ok (.getfield 22, 3) := by decide +kernel
theorem dW_writeDocument_139 : decode bW_writeDocument 139 = .ok (.getfield 26, 3) := by decide +kernel
theorem dW_writeDocument_142 : decode bW_writeDocument 142 = .ok (.iload 4, 2) := by decide +kernel
theorem dW_writeDocument_144 : decode bW_writeDocument 144 = .ok (.isub, 1) := by decide +kernel
theorem dW_writeDocument_145 : decode bW_writeDocument 145 = .ok (.i2l, 1) := by decide +kernel
theorem dW_writeDocument_146 : decode bW_writeDocument 146 = .ok (.iconst 4, 1) := by decide +kernel
theorem dW_writeDocument_147 : decode bW_writeDocument 147 = .ok (.invokevirtual 60, 3) := by decide +kernel
theorem dW_writeDocument_150 : decode bW_writeDocument 150 = .ok (.iconst 1, 1) := by decide +kernel
theorem dW_writeDocument_151 : decode bW_writeDocument 151 = .ok (.ireturn, 1) := by decide +kernel
theorem dW_writeMark_0 : decode bW_writeMark 0 = .ok (.aload_n 0, 1) := by decide +kernel
theorem dW_writeMark_1 : decode bW_writeMark 1 = .ok (.getfield 22, 3) := by decide +kernel
theorem dW_writeMark_4 : decode bW_writeMark 4 = .ok (.iconst 2, 1) := by decide +kernel
theorem dW_writeMark_5 : decode bW_writeMark 5 = .ok (.invokevirtual 57, 3) := by decide +kernel
theorem dW_writeMark_8 : decode bW_writeMark 8 = .ok (.ifCond .eq 81, 3) := by decide +kernel
theorem dW_writeMark_11 : decode bW_writeMark 11 = .ok (.aload_n 0, 1) := by decide +kernel
theorem dW_writeMark_12 : decode bW_writeMark 12 = .ok (.getfield 22, 3) := by decide +kernel
theorem dW_writeMark_15 : decode bW_writeMark 15 = .ok (.bipush 95, 2) := by decide +kernel
theorem dW_writeMark_17 : decode bW_writeMark 17 = .ok (.invokevirtual 57, 3) := by decide +kernel
theorem dW_writeMark_20 : decode bW_writeMark 20 = .ok (.ifCond .eq 69, 3) := by decide +kernel
theorem dW_writeMark_23 : decode bW_writeMark 23 = .ok (.aload_n 0, 1) := by decide +kernel
theorem dW_writeMark_24 : decode bW_writeMark 24 = .ok (.getfield 22, 3) := by decide +kernel
theorem dW_writeMark_27 : decode bW_writeMark 27 = .ok (.bipush 116, 2) := by decide +kernel
theorem dW_writeMark_29 : decode bW_writeMark 29 = .ok (.invokevirtual 57, 3) := by decide +kernel
theorem dW_writeMark_32 : decode bW_writeMark 32 = .ok (.ifCond .eq 57, 3) := by decide +kernel
theorem dW_writeMark_35 : decode bW_writeMark 35 = .ok (.aload_n 0, 1) := by decide +kernel
theorem dW_writeMark_36 : decode bW_writeMark 36 = .ok (.getfield 22, 3) := by decide +kernel
theorem dW_writeMark_39 : decode bW_writeMark 39 = .ok (.iconst 0, 1) := by decide +kernel
theorem dW_writeMark_40 : decode bW_writeMark 40 = .ok (.invokevirtual 57, 3) := by decide +kernel
theorem dW_writeMark_43 : decode bW_writeMark 43 = .ok (.ifCond .eq 46, 3) := by decide +kernel
theorem dW_writeMark_46 : decode bW_writeMark 46 = .ok (.aload_n 0, 1) := by decide +kernel
theorem dW_writeMark_47 : decode bW_writeMark 47 = .ok (.getfield 22, 3) := by decide +kernel
theorem dW_writeMark_50 : decode bW_writeMark 50 = .ok (.ldc2_w 64, 3) := by decide +kernel
theorem dW_writeMark_53 : decode bW_writeMark 53 = .ok (.iconst 4, 1) := by decide +kernel
theorem dW_writeMark_54 : decode bW_writeMark 54 = .ok (.invokevirtual 40, 3) := by decide +kernel
theorem dW_writeMark_57 : decode bW_writeMark 57 = .ok (.ifCond .eq 32, 3) := by decide +kernel
theorem dW_writeMark_60 : decode bW_writeMark 60 = .ok (.aload_n 0, 1) := by decide +kernel
theorem dW_writeMark_61 : decode bW_writeMark 61 = .ok (.getfield 22, 3) := by decide +kernel
theorem dW_writeMark_64 : decode bW_writeMark 64 = .ok (.bipush 65, 2) := by decide +kernel
theorem dW_writeMark_66 : decode bW_writeMark 66 = .ok (.iload_n 1, 1) := by decide +kernel
theorem dW_writeMark_67 : decode bW_writeMark 67 = .ok (.iadd, 1) := by decide +kernel
theorem dW_writeMark_68 : decode bW_writeMark 68 = .ok (.invokevirtual 57, 3) := by decide +kernel
theorem dW_writeMark_71 : decode bW_writeMark 71 = .ok (.ifCond .eq 18, 3) := by decide +kernel
theorem dW_writeMark_74 : decode bW_writeMark 74 = .ok (.aload_n 0, 1) := by decide +kernel
theorem dW_writeMark_75 : decode bW_writeMark 75 = .ok (.getfield 22, 3) := by decide +kernel
theorem dW_writeMark_78 : decode bW_writeMark 78 = .ok (.iconst 0, 1) := by decide +kernel
theorem dW_writeMark_79 : decode bW_writeMark 79 = .ok (.invokevirtual 57, 3) := by decide +kernel
theorem dW_writeMark_82 : decode bW_writeMark 82 = .ok (.ifCond .eq 7, 3) := by decide +kernel
theorem dW_writeMark_85 : decode bW_writeMark 85 = .ok (.iconst 1, 1) := by decide +kernel
theorem dW_writeMark_86 : decode bW_writeMark 86 = .ok (.goto 4, 3) := by decide +kernel
theorem dW_writeMark_89 : decode bW_writeMark 89 = .ok (.iconst 0, 1) := by decide +kernel
theorem dW_writeMark_90 : decode bW_writeMark 90 = .ok (.ireturn, 1) := by decide +kernel
theorem dW_writeOwnProperties_0 : decode bW_writeOwnProperties 0 = .ok (.iconst 1, 1) := by decide +kernel
theorem dW_writeOwnProperties_1 : decode bW_writeOwnProperties 1 = .ok (.istore 4, 2) := by decide +kernel
theorem dW_writeOwnProperties_3 : decode bW_writeOwnProperties 3 = .ok (.iconst 0, 1) := by decide +kernel
theorem dW_writeOwnProperties_4 : decode bW_writeOwnProperties 4 = .ok (.istore 5, 2) := by decide +kernel
theorem dW_writeOwnProperties_6 : decode bW_writeOwnProperties 6 = .ok (.iload 5, 2) := by decide +kernel
theorem dW_writeOwnProperties_8 : decode bW_writeOwnProperties 8 = .ok (.bipush 8, 2) := by decide +kernel
theorem dW_writeOwnProperties_10 : decode bW_writeOwnProperties 10 = .ok (.if_icmp .ge 45, 3) := by decide +kernel
theorem dW_writeOwnProperties_13 : decode bW_writeOwnProperties 13 = .ok (.iload 4, 2) := by decide +kernel
theorem dW_writeOwnProperties_15 : decode bW_writeOwnProperties 15 = .ok (.ifCond .eq 40, 3) := by decide +kernel
theorem dW_writeOwnProperties_18 : decode bW_writeOwnProperties 18 = .ok (.aload_n 0, 1) := by decide +kernel
theorem dW_writeOwnProperties_19 : decode bW_writeOwnProperties 19 = .ok (.getfield 9, 3) := by decide +kernel
theorem dW_writeOwnProperties_22 : decode bW_writeOwnProperties 22 = .ok (.iload 5, 2) := by decide +kernel
theorem dW_writeOwnProperties_24 : decode bW_writeOwnProperties 24 = .ok (.iload_n 2, 1) := by decide +kernel
theorem dW_writeOwnProperties_25 : decode bW_writeOwnProperties 25 = .ok (.invokevirtual 66, 3) := by decide +kernel
theorem dW_writeOwnProperties_28 : decode bW_writeOwnProperties 28 = .ok (.ifCond .eq 14, 3) := by decide +kernel
theorem dW_writeOwnProperties_31 : decode bW_writeOwnProperties 31 = .ok (.aload_n 0, 1) := by decide +kernel
theorem dW_writeOwnProperties_32 : decode bW_writeOwnProperties 32 = .ok (.iload_n 1, 1) := by decide +kernel
theorem dW_writeOwnProperties_33 : decode bW_writeOwnProperties 33 = .ok (.iload 5, 2) := by decide +kernel
theorem dW_writeOwnProperties_35 : decode bW_writeOwnProperties 35 = .ok (.iload_n 3, 1) := by decide +kernel
theorem dW_writeOwnProperties_36 : decode bW_writeOwnProperties 36 = .ok (.invokevirtual 69, 3) := by decide +kernel
theorem dW_writeOwnProperties_39 : decode bW_writeOwnProperties 39 = .ok (.ifCond .eq 7, 3) := by decide +kernel
theorem dW_writeOwnProperties_42 : decode bW_writeOwnProperties 42 = .ok (.iconst 1, 1) := by decide +kernel
theorem dW_writeOwnProperties_43 : decode bW_writeOwnProperties 43 = .ok (.goto 4, 3) := by decide +kernel
theorem dW_writeOwnProperties_46 : decode bW_writeOwnProperties 46 = .ok (.iconst 0, 1) := by decide +kernel
theorem dW_writeOwnProperties_47 : decode bW_writeOwnProperties 47 = .ok (.istore 4, 2) := by decide +kernel
theorem dW_writeOwnProperties_49 : decode bW_writeOwnProperties 49 = .ok (.iinc 5 1, 3) := by decide +kernel
theorem dW_writeOwnProperties_52 : decode bW_writeOwnProperties 52 = .ok (.goto (-46), 3) := by decide +kernel
theorem dW_writeOwnProperties_55 : decode bW_writeOwnProperties 55 = .ok (.iload 4, 2) := by decide +kernel
theorem dW_writeOwnProperties_57 : decode bW_writeOwnProperties 57 = .ok (.ireturn, 1) := by decide +kernel
theorem dW_writeProperty_0 : decode bW_writeProperty 0 = .ok (.aload_n 0, 1) := by decide +kernel
theorem dW_writeProperty_1 : decode bW_writeProperty 1 = .ok (.getfield 9, 3) := by decide +kernel
theorem dW_writeProperty_4 : decode bW_writeProperty 4 = .ok (.iload_n 2, 1) := by decide +kernel
theorem dW_writeProperty_5 : decode bW_writeProperty 5 = .ok (.invokevirtual 72, 3) := by decide +kernel
theorem dW_writeProperty_8 : decode bW_writeProperty 8 = .ok (.istore 4, 2) := by decide +kernel
theorem dW_writeProperty_10 : decode bW_writeProperty 10 = .ok (.aload_n 0, 1) := by decide +kernel
theorem dW_writeProperty_11 : decode bW_writeProperty 11 = .ok (.getfield 15, 3) := by decide +kernel
theorem dW_writeProperty_14 : decode bW_writeProperty 14 = .ok (.iload_n 1, 1) := by decide +kernel
theorem dW_writeProperty_15 : decode bW_writeProperty 15 = .ok (.iload_n 2, 1) := by decide +kernel
theorem dW_writeProperty_16 : decode bW_writeProperty 16 = .ok (.invokevirtual 75, 3) := by decide +kernel
theorem dW_writeProperty_19 : decode bW_writeProperty 19 = .ok (.lstore 5, 2) := by decide +kernel
theorem dW_writeProperty_21 : decode bW_writeProperty 21 = .ok (.aload_n 0, 1) := by decide +kernel
theorem dW_writeProperty_22 : decode bW_writeProperty 22 = .ok (.getfield 9, 3) := by decide +kernel
theorem dW_writeProperty_25 : decode bW_writeProperty 25 = .ok (.iload_n 2, 1) := by decide +kernel
theorem dW_writeProperty_26 : decode bW_writeProperty 26 = .ok (.invokevirtual 79, 3) := by decide +kernel
theorem dW_writeProperty_29 : decode bW_writeProperty 29 = .ok (.tableswitch 118 0 2 #[27, 57, 88], 27) := by decide +kernel
theorem dW_writeProperty_56 : decode bW_writeProperty 56 = .ok (.aload_n 0, 1) := by decide +kernel
theorem dW_writeProperty_57 : decode bW_writeProperty 57 = .ok (.bipush 16, 2) := by decide +kernel
theorem dW_writeProperty_59 : decode bW_writeProperty 59 = .ok (.iload 4, 2) := by decide +kernel
theorem dW_writeProperty_61 : decode bW_writeProperty 61 = .ok (.invokevirtual 82, 3) := by decide +kernel
theorem dW_writeProperty_64 : decode bW_writeProperty 64 = .ok (.ifCond .eq 20, 3) := by decide +kernel
theorem dW_writeProperty_67 : decode bW_writeProperty 67 = .ok (.aload_n 0, 1) := by decide +kernel
theorem dW_writeProperty_68 : decode bW_writeProperty 68 = .ok (.getfield 22, 3) := by decide +kernel
theorem dW_writeProperty_71 : decode bW_writeProperty 71 = .ok (.lload 5, 2) := by decide +kernel
theorem dW_writeProperty_73 : decode bW_writeProperty 73 = .ok (.iconst 4, 1) := by decide +kernel
theorem dW_writeProperty_74 : decode bW_writeProperty 74 = .ok (.invokevirtual 40, 3) := by decide +kernel
theorem dW_writeProperty_77 : decode bW_writeProperty 77 = .ok (.ifCond .eq 7, 3) := by decide +kernel
theorem dW_writeProperty_80 : decode bW_writeProperty 80 = .ok (.iconst 1, 1) := by decide +kernel
theorem dW_writeProperty_81 : decode bW_writeProperty 81 = .ok (.goto 4, 3) := by decide +kernel
theorem dW_writeProperty_84 : decode bW_writeProperty 84 = .ok (.iconst 0, 1) := by decide +kernel
theorem dW_writeProperty_85 : decode bW_writeProperty 85 = .ok (.ireturn, 1) := by decide +kernel
theorem dW_writeProperty_86 : decode bW_writeProperty 86 = .ok (.aload_n 0, 1) := by decide +kernel
theorem dW_writeProperty_87 : decode bW_writeProperty 87 = .ok (.bipush 18, 2) := by decide +kernel
theorem dW_writeProperty_89 : decode bW_writeProperty 89 = .ok (.iload 4, 2) := by decide +kernel
theorem dW_writeProperty_91 : decode bW_writeProperty 91 = .ok (.invokevirtual 82, 3) := by decide +kernel
theorem dW_writeProperty_94 : decode bW_writeProperty 94 = .ok (.ifCond .eq 21, 3) := by decide +kernel
theorem dW_writeProperty_97 : decode bW_writeProperty 97 = .ok (.aload_n 0, 1) := by decide +kernel
theorem dW_writeProperty_98 : decode bW_writeProperty 98 = .ok (.getfield 22, 3) := by decide +kernel
theorem dW_writeProperty_101 : decode bW_writeProperty 101 = .ok (.lload 5, 2) := by decide +kernel
theorem dW_writeProperty_103 : decode bW_writeProperty 103 = .ok (.bipush 8, 2) := by decide +kernel
theorem dW_writeProperty_105 : decode bW_writeProperty 105 = .ok (.invokevirtual 40, 3) := by decide +kernel
theorem dW_writeProperty_108 : decode bW_writeProperty 108 = .ok (.ifCond .eq 7, 3) := by decide +kernel
theorem dW_writeProperty_111 : decode bW_writeProperty 111 = .ok (.iconst 1, 1) := by decide +kernel
theorem dW_writeProperty_112 : decode bW_writeProperty 112 = .ok (.goto 4, 3) := by decide +kernel
theorem dW_writeProperty_115 : decode bW_writeProperty 115 = .ok (.iconst 0, 1) := by decide +kernel
theorem dW_writeProperty_116 : decode bW_writeProperty 116 = .ok (.ireturn, 1) := by decide +kernel
theorem dW_writeProperty_117 : decode bW_writeProperty 117 = .ok (.aload_n 0, 1) := by decide +kernel
theorem dW_writeProperty_118 : decode bW_writeProperty 118 = .ok (.bipush 8, 2) := by decide +kernel
theorem dW_writeProperty_120 : decode bW_writeProperty 120 = .ok (.iload 4, 2) := by decide +kernel
theorem dW_writeProperty_122 : decode bW_writeProperty 122 = .ok (.invokevirtual 82, 3) := by decide +kernel
theorem dW_writeProperty_125 : decode bW_writeProperty 125 = .ok (.ifCond .eq 20, 3) := by decide +kernel
theorem dW_writeProperty_128 : decode bW_writeProperty 128 = .ok (.aload_n 0, 1) := by decide +kernel
theorem dW_writeProperty_129 : decode bW_writeProperty 129 = .ok (.getfield 22, 3) := by decide +kernel
theorem dW_writeProperty_132 : decode bW_writeProperty 132 = .ok (.lload 5, 2) := by decide +kernel
theorem dW_writeProperty_134 : decode bW_writeProperty 134 = .ok (.iconst 1, 1) := by decide +kernel
theorem dW_writeProperty_135 : decode bW_writeProperty 135 = .ok (.invokevirtual 40, 3) := by decide +kernel
theorem dW_writeProperty_138 : decode bW_writeProperty 138 = .ok (.ifCond .eq 7, 3) := by decide +kernel
theorem dW_writeProperty_141 : decode bW_writeProperty 141 = .ok (.iconst 1, 1) := by decide +kernel
theorem dW_writeProperty_142 : decode bW_writeProperty 142 = .ok (.goto 4, 3) := by decide +kernel
theorem dW_writeProperty_145 : decode bW_writeProperty 145 = .ok (.iconst 0, 1) := by decide +kernel
theorem dW_writeProperty_146 : decode bW_writeProperty 146 = .ok (.ireturn, 1) := by decide +kernel
theorem dW_writeProperty_147 : decode bW_writeProperty 147 = .ok (.aload_n 0, 1) := by decide +kernel
theorem dW_writeProperty_148 : decode bW_writeProperty 148 = .ok (.getfield 15, 3) := by decide +kernel
theorem dW_writeProperty_151 : decode bW_writeProperty 151 = .ok (.iload_n 1, 1) := by decide +kernel
theorem dW_writeProperty_152 : decode bW_writeProperty 152 = .ok (.iload_n 2, 1) := by decide +kernel
theorem dW_writeProperty_153 : decode bW_writeProperty 153 = .ok (.invokevirtual 85, 3) := by decide +kernel
theorem dW_writeProperty_156 : decode bW_writeProperty 156 = .ok (.istore 7, 2) := by decide +kernel
theorem dW_writeProperty_158 : decode bW_writeProperty 158 = .ok (.aload_n 0, 1) := by decide +kernel
theorem dW_writeProperty_159 : decode bW_writeProperty 159 = .ok (.iload 4, 2) := by decide +kernel
theorem dW_writeProperty_161 : decode bW_writeProperty 161 = .ok (.iload 7, 2) := by decide +kernel
theorem dW_writeProperty_163 : decode bW_writeProperty 163 = .ok (.aload_n 0, 1) := by decide +kernel
theorem dW_writeProperty_164 : decode bW_writeProperty 164 = .ok (.getfield 9, 3) := by decide +kernel
theorem dW_writeProperty_167 : decode bW_writeProperty 167 = .ok (.iload_n 2, 1) := by decide +kernel
theorem dW_writeProperty_168 : decode bW_writeProperty 168 = .ok (.invokevirtual 89, 3) := by decide +kernel
theorem dW_writeProperty_171 : decode bW_writeProperty 171 = .ok (.iload_n 3, 1) := by decide +kernel
theorem dW_writeProperty_172 : decode bW_writeProperty 172 = .ok (.invokevirtual 92, 3) := by decide +kernel
theorem dW_writeProperty_175 : decode bW_writeProperty 175 = .ok (.ireturn, 1) := by decide +kernel
theorem dW_writeLink_0 : decode bW_writeLink 0 = .ok (.iload_n 2, 1) := by decide +kernel
theorem dW_writeLink_1 : decode bW_writeLink 1 = .ok (.iconst (-1), 1) := by decide +kernel
theorem dW_writeLink_2 : decode bW_writeLink 2 = .ok (.if_icmp .ne 11, 3) := by decide +kernel
theorem dW_writeLink_5 : decode bW_writeLink 5 = .ok (.aload_n 0, 1) := by decide +kernel
theorem dW_writeLink_6 : decode bW_writeLink 6 = .ok (.bipush 10, 2) := by decide +kernel
theorem dW_writeLink_8 : decode bW_writeLink 8 = .ok (.iload_n 1, 1) := by decide +kernel
theorem dW_writeLink_9 : decode bW_writeLink 9 = .ok (.invokevirtual 82, 3) := by decide +kernel
theorem dW_writeLink_12 : decode bW_writeLink 12 = .ok (.ireturn, 1) := by decide +kernel
theorem dW_writeLink_13 : decode bW_writeLink 13 = .ok (.aload_n 0, 1) := by decide +kernel
theorem dW_writeLink_14 : decode bW_writeLink 14 = .ok (.iconst 3, 1) := by decide +kernel
theorem dW_writeLink_15 : decode bW_writeLink 15 = .ok (.iload_n 1, 1) := by decide +kernel
theorem dW_writeLink_16 : decode bW_writeLink 16 = .ok (.invokevirtual 82, 3) := by decide +kernel
theorem dW_writeLink_19 : decode bW_writeLink 19 = .ok (.ifCond .eq 20, 3) := by decide +kernel
theorem dW_writeLink_22 : decode bW_writeLink 22 = .ok (.aload_n 0, 1) := by decide +kernel
theorem dW_writeLink_23 : decode bW_writeLink 23 = .ok (.iload_n 2, 1) := by decide +kernel
theorem dW_writeLink_24 : decode bW_writeLink 24 = .ok (.iload_n 3, 1) := by decide +kernel
theorem dW_writeLink_25 : decode bW_writeLink 25 = .ok (.iload 4, 2) := by decide +kernel
theorem dW_writeLink_27 : decode bW_writeLink 27 = .ok (.iconst 1, 1) := by decide +kernel
theorem dW_writeLink_28 : decode bW_writeLink 28 = .ok (.iadd, 1) := by decide +kernel
theorem dW_writeLink_29 : decode bW_writeLink 29 = .ok (.invokevirtual 30, 3) := by decide +kernel
theorem dW_writeLink_32 : decode bW_writeLink 32 = .ok (.ifCond .eq 7, 3) := by decide +kernel
theorem dW_writeLink_35 : decode bW_writeLink 35 = .ok (.iconst 1, 1) := by decide +kernel
theorem dW_writeLink_36 : decode bW_writeLink 36 = .ok (.goto 4, 3) := by decide +kernel
theorem dW_writeLink_39 : decode bW_writeLink 39 = .ok (.iconst 0, 1) := by decide +kernel
theorem dW_writeLink_40 : decode bW_writeLink 40 = .ok (.ireturn, 1) := by decide +kernel
theorem dW_writeHead_0 : decode bW_writeHead 0 = .ok (.aload_n 0, 1) := by decide +kernel
theorem dW_writeHead_1 : decode bW_writeHead 1 = .ok (.getfield 22, 3) := by decide +kernel
theorem dW_writeHead_4 : decode bW_writeHead 4 = .ok (.iload_n 1, 1) := by decide +kernel
theorem dW_writeHead_5 : decode bW_writeHead 5 = .ok (.invokevirtual 57, 3) := by decide +kernel
theorem dW_writeHead_8 : decode bW_writeHead 8 = .ok (.ifCond .eq 32, 3) := by decide +kernel
theorem dW_writeHead_11 : decode bW_writeHead 11 = .ok (.aload_n 0, 1) := by decide +kernel
theorem dW_writeHead_12 : decode bW_writeHead 12 = .ok (.getfield 22, 3) := by decide +kernel
theorem dW_writeHead_15 : decode bW_writeHead 15 = .ok (.bipush 97, 2) := by decide +kernel
theorem dW_writeHead_17 : decode bW_writeHead 17 = .ok (.iload_n 2, 1) := by decide +kernel
theorem dW_writeHead_18 : decode bW_writeHead 18 = .ok (.iadd, 1) := by decide +kernel
theorem dW_writeHead_19 : decode bW_writeHead 19 = .ok (.invokevirtual 57, 3) := by decide +kernel
theorem dW_writeHead_22 : decode bW_writeHead 22 = .ok (.ifCond .eq 18, 3) := by decide +kernel
theorem dW_writeHead_25 : decode bW_writeHead 25 = .ok (.aload_n 0, 1) := by decide +kernel
theorem dW_writeHead_26 : decode bW_writeHead 26 = .ok (.getfield 22, 3) := by decide +kernel
theorem dW_writeHead_29 : decode bW_writeHead 29 = .ok (.iconst 0, 1) := by decide +kernel
theorem dW_writeHead_30 : decode bW_writeHead 30 = .ok (.invokevirtual 57, 3) := by decide +kernel
theorem dW_writeHead_33 : decode bW_writeHead 33 = .ok (.ifCond .eq 7, 3) := by decide +kernel
theorem dW_writeHead_36 : decode bW_writeHead 36 = .ok (.iconst 1, 1) := by decide +kernel
theorem dW_writeHead_37 : decode bW_writeHead 37 = .ok (.goto 4, 3) := by decide +kernel
theorem dW_writeHead_40 : decode bW_writeHead 40 = .ok (.iconst 0, 1) := by decide +kernel
theorem dW_writeHead_41 : decode bW_writeHead 41 = .ok (.ireturn, 1) := by decide +kernel
