/-! decode rows of class PropertyDocumentsModel: laid by wip/gen/names.py -/
theorem dM_fits_129 : decode bM_fits 129 = .ok (.getfield 74, 3) := by decide +kernel
theorem dM_fits_132 : decode bM_fits 132 = .ok (.iload_n 2, 1) := by decide +kernel
theorem dM_fits_133 : decode bM_fits 133 = .ok (.iaload, 1) := by decide +kernel
theorem dM_fits_134 : decode bM_fits 134 = .ok (.aload_n 0, 1) := by decide +kernel
theorem dM_fits_135 : decode bM_fits 135 = .ok (.getfield 22, 3) := by decide +kernel
theorem dM_fits_138 : decode bM_fits 138 = .ok (.iload_n 3, 1) := by decide +kernel
theorem dM_fits_139 : decode bM_fits 139 = .ok (.iaload, 1) := by decide +kernel
theorem dM_fits_140 : decode bM_fits 140 = .ok (.iastore, 1) := by decide +kernel
theorem dM_fits_141 : decode bM_fits 141 = .ok (.iinc 2 1, 3) := by decide +kernel
theorem dM_fits_144 : decode bM_fits 144 = .ok (.goto (-132), 3) := by decide +kernel
theorem dM_fits_147 : decode bM_fits 147 = .ok (.iconst 1, 1) := by decide +kernel
theorem dM_fits_148 : decode bM_fits 148 = .ok (.ireturn, 1) := by decide +kernel
theorem dM_long64_0 : decode bM_long64 0 = .ok (.aload_n 0, 1) := by decide +kernel
theorem dM_long64_1 : decode bM_long64 1 = .ok (.iload_n 1, 1) := by decide +kernel
theorem dM_long64_2 : decode bM_long64 2 = .ok (.invokevirtual 183, 3) := by decide +kernel
theorem dM_long64_5 : decode bM_long64 5 = .ok (.i2l, 1) := by decide +kernel
theorem dM_long64_6 : decode bM_long64 6 = .ok (.ldc2_w 209, 3) := by decide +kernel
theorem dM_long64_9 : decode bM_long64 9 = .ok (.land, 1) := by decide +kernel
theorem dM_long64_10 : decode bM_long64 10 = .ok (.aload_n 0, 1) := by decide +kernel
theorem dM_long64_11 : decode bM_long64 11 = .ok (.iload_n 1, 1) := by decide +kernel
theorem dM_long64_12 : decode bM_long64 12 = .ok (.iconst 4, 1) := by decide +kernel
theorem dM_long64_13 : decode bM_long64 13 = .ok (.iadd, 1) := by decide +kernel
theorem dM_long64_14 : decode bM_long64 14 = .ok (.invokevirtual 183, 3) := by decide +kernel
theorem dM_long64_17 : decode bM_long64 17 = .ok (.i2l, 1) := by decide +kernel
theorem dM_long64_18 : decode bM_long64 18 = .ok (.bipush 32, 2) := by decide +kernel
theorem dM_long64_20 : decode bM_long64 20 = .ok (.lshl, 1) := by decide +kernel
theorem dM_long64_21 : decode bM_long64 21 = .ok (.lor, 1) := by decide +kernel
theorem dM_long64_22 : decode bM_long64 22 = .ok (.lreturn, 1) := by decide +kernel
theorem dM_take_0 : decode bM_take 0 = .ok (.aload_n 0, 1) := by decide +kernel
theorem dM_take_1 : decode bM_take 1 = .ok (.iload_n 1, 1) := by decide +kernel
theorem dM_take_2 : decode bM_take 2 = .ok (.invokevirtual 203, 3) := by decide +kernel
theorem dM_take_5 : decode bM_take 5 = .ok (.istore_n 3, 1) := by decide +kernel
theorem dM_take_6 : decode bM_take 6 = .ok (.bipush 8, 2) := by decide +kernel
theorem dM_take_8 : decode bM_take 8 = .ok (.iload_n 2, 1) := by decide +kernel
theorem dM_take_9 : decode bM_take 9 = .ok (.aload_n 0, 1) := by decide +kernel
theorem dM_take_10 : decode bM_take 10 = .ok (.getfield 59, 3) := by decide +kernel
theorem dM_take_13 : decode bM_take 13 = .ok (.iload_n 1, 1) := by decide +kernel
theorem dM_take_14 : decode bM_take 14 = .ok (.iaload, 1) := by decide +kernel
theorem dM_take_15 : decode bM_take 15 = .ok (.iadd, 1) := by decide +kernel
theorem dM_take_16 : decode bM_take 16 = .ok (.imul, 1) := by decide +kernel
theorem dM_take_17 : decode bM_take 17 = .ok (.iload_n 3, 1) := by decide +kernel
theorem dM_take_18 : decode bM_take 18 = .ok (.iadd, 1) := by decide +kernel
theorem dM_take_19 : decode bM_take 19 = .ok (.istore 4, 2) := by decide +kernel
theorem dM_take_21 : decode bM_take 21 = .ok (.aload_n 0, 1) := by decide +kernel
theorem dM_take_22 : decode bM_take 22 = .ok (.getfield 19, 3) := by decide +kernel
theorem dM_take_25 : decode bM_take 25 = .ok (.iload_n 3, 1) := by decide +kernel
theorem dM_take_26 : decode bM_take 26 = .ok (.iaload, 1) := by decide +kernel
theorem dM_take_27 : decode bM_take 27 = .ok (.iconst 3, 1) := by decide +kernel
theorem dM_take_28 : decode bM_take 28 = .ok (.if_icmp .ne 37, 3) := by decide +kernel
theorem dM_take_31 : decode bM_take 31 = .ok (.aload_n 0, 1) := by decide +kernel
theorem dM_take_32 : decode bM_take 32 = .ok (.getfield 28, 3) := by decide +kernel
theorem dM_take_35 : decode bM_take 35 = .ok (.iload 4, 2) := by decide +kernel
theorem dM_take_37 : decode bM_take 37 = .ok (.aload_n 0, 1) := by decide +kernel
theorem dM_take_38 : decode bM_take 38 = .ok (.getfield 74, 3) := by decide +kernel
theorem dM_take_41 : decode bM_take 41 = .ok (.iload_n 1, 1) := by decide +kernel
theorem dM_take_42 : decode bM_take 42 = .ok (.iaload, 1) := by decide +kernel
theorem dM_take_43 : decode bM_take 43 = .ok (.ifCond .ge 9, 3) := by decide +kernel
theorem dM_take_46 : decode bM_take 46 = .ok (.ldc2_w 105, 3) := by decide +kernel
theorem dM_take_49 : decode bM_take 49 = .ok (.goto 12, 3) := by decide +kernel
theorem dM_take_52 : decode bM_take 52 = .ok (.iload_n 2, 1) := by decide +kernel
theorem dM_take_53 : decode bM_take 53 = .ok (.aload_n 0, 1) := by decide +kernel
theorem dM_take_54 : decode bM_take 54 = .ok (.getfield 74, 3) := by decide +kernel
theorem dM_take_57 : decode bM_take 57 = .ok (.iload_n 1, 1) := by decide +kernel
theorem dM_take_58 : decode bM_take 58 = .ok (.iaload, 1) := by decide +kernel
theorem dM_take_59 : decode bM_take 59 = .ok (.iadd, 1) := by decide +kernel
theorem dM_take_60 : decode bM_take 60 = .ok (.i2l, 1) := by decide +kernel
theorem dM_take_61 : decode bM_take 61 = .ok (.lastore, 1) := by decide +kernel
theorem dM_take_62 : decode bM_take 62 = .ok (.goto 78, 3) := by decide +kernel
theorem dM_take_65 : decode bM_take 65 = .ok (.aload_n 0, 1) := by decide +kernel
theorem dM_take_66 : decode bM_take 66 = .ok (.getfield 62, 3) := by decide +kernel
theorem dM_take_69 : decode bM_take 69 = .ok (.iload_n 1, 1) := by decide +kernel
theorem dM_take_70 : decode bM_take 70 = .ok (.iaload, 1) := by decide +kernel
theorem dM_take_71 : decode bM_take 71 = .ok (.bipush 8, 2) := by decide +kernel
theorem dM_take_73 : decode bM_take 73 = .ok (.if_icmp .ne 25, 3) := by decide +kernel
theorem dM_take_76 : decode bM_take 76 = .ok (.aload_n 0, 1) := by decide +kernel
theorem dM_take_77 : decode bM_take 77 = .ok (.getfield 28, 3) := by decide +kernel
theorem dM_take_80 : decode bM_take 80 = .ok (.iload 4, 2) := by decide +kernel
theorem dM_take_82 : decode bM_take 82 = .ok (.aload_n 0, 1) := by decide +kernel
theorem dM_take_83 : decode bM_take 83 = .ok (.getfield 32, 3) := by decide +kernel
theorem dM_take_86 : decode bM_take 86 = .ok (.aload_n 0, 1) := by decide +kernel
theorem dM_take_87 : decode bM_take 87 = .ok (.getfield 71, 3) := by decide +kernel
theorem dM_take_90 : decode bM_take 90 = .ok (.iload_n 1, 1) := by decide +kernel
theorem dM_take_91 : decode bM_take 91 = .ok (.iaload, 1) := by decide +kernel
theorem dM_take_92 : decode bM_take 92 = .ok (.iaload, 1) := by decide +kernel
theorem dM_take_93 : decode bM_take 93 = .ok (.i2l, 1) := by decide +kernel
theorem dM_take_94 : decode bM_take 94 = .ok (.lastore, 1) := by decide +kernel
theorem dM_take_95 : decode bM_take 95 = .ok (.goto 45, 3) := by decide +kernel
theorem dM_take_98 : decode bM_take 98 = .ok (.aload_n 0, 1) := by decide +kernel
theorem dM_take_99 : decode bM_take 99 = .ok (.getfield 28, 3) := by decide +kernel
theorem dM_take_102 : decode bM_take 102 = .ok (.iload 4, 2) := by decide +kernel
theorem dM_take_104 : decode bM_take 104 = .ok (.aload_n 0, 1) := by decide +kernel
theorem dM_take_105 : decode bM_take 105 = .ok (.getfield 62, 3) := by decide +kernel
theorem dM_take_108 : decode bM_take 108 = .ok (.iload_n 1, 1) := by decide +kernel
theorem dM_take_109 : decode bM_take 109 = .ok (.iaload, 1) := by decide +kernel
theorem dM_take_110 : decode bM_take 110 = .ok (.bipush 16, 2) := by decide +kernel
theorem dM_take_112 : decode bM_take 112 = .ok (.if_icmp .ne 17, 3) := by decide +kernel
theorem dM_take_115 : decode bM_take 115 = .ok (.aload_n 0, 1) := by decide +kernel
theorem dM_take_116 : decode bM_take 116 = .ok (.aload_n 0, 1) := by decide +kernel
theorem dM_take_117 : decode bM_take 117 = .ok (.getfield 71, 3) := by decide +kernel
theorem dM_take_120 : decode bM_take 120 = .ok (.iload_n 1, 1) := by decide +kernel
theorem dM_take_121 : decode bM_take 121 = .ok (.iaload, 1) := by decide +kernel
theorem dM_take_122 : decode bM_take 122 = .ok (.invokevirtual 183, 3) := by decide +kernel
theorem dM_take_125 : decode bM_take 125 = .ok (.i2l, 1) := by decide +kernel
theorem dM_take_126 : decode bM_take 126 = .ok (.goto 13, 3) := by decide +kernel
theorem dM_take_129 : decode bM_take 129 = .ok (.aload_n 0, 1) := by decide +kernel
theorem dM_take_130 : decode bM_take 130 = .ok (.aload_n 0, 1) := by decide +kernel
theorem dM_take_131 : decode bM_take 131 = .ok (.getfield 71, 3) := by decide +kernel
theorem dM_take_134 : decode bM_take 134 = .ok (.iload_n 1, 1) := by decide +kernel
theorem dM_take_135 : decode bM_take 135 = .ok (.iaload, 1) := by decide +kernel
theorem dM_take_136 : decode bM_take 136 = .ok (.invokevirtual 211, 3) := by decide +kernel
theorem dM_take_139 : decode bM_take 139 = .ok (.lastore, 1) := by decide +kernel
theorem dM_take_140 : decode bM_take 140 = .ok (.return_, 1) := by decide +kernel
theorem dM_decode_0 : decode bM_decode 0 = .ok (.aload_n 0, 1) := by decide +kernel
theorem dM_decode_1 : decode bM_decode 1 = .ok (.iload_n 1, 1) := by decide +kernel
theorem dM_decode_2 : decode bM_decode 2 = .ok (.invokevirtual 94, 3) := by decide +kernel
theorem dM_decode_5 : decode bM_decode 5 = .ok (.ifCond .ne 5, 3) := by decide +kernel
theorem dM_decode_8 : decode bM_decode 8 = .ok (.iconst (-1), 1) := by decide +kernel
theorem dM_decode_9 : decode bM_decode 9 = .ok (.ireturn, 1) := by decide +kernel
theorem dM_decode_10 : decode bM_decode 10 = .ok (.aload_n 0, 1) := by decide +kernel
theorem dM_decode_11 : decode bM_decode 11 = .ok (.invokevirtual 193, 3) := by decide +kernel
theorem dM_decode_14 : decode bM_decode 14 = .ok (.ifCond .ne 6, 3) := by decide +kernel
theorem dM_decode_17 : decode bM_decode 17 = .ok (.bipush (-3), 2) := by decide +kernel
theorem dM_decode_19 : decode bM_decode 19 = .ok (.ireturn, 1) := by decide +kernel
theorem dM_decode_20 : decode bM_decode 20 = .ok (.aload_n 0, 1) := by decide +kernel
theorem dM_decode_21 : decode bM_decode 21 = .ok (.getfield 53, 3) := by decide +kernel
theorem dM_decode_24 : decode bM_decode 24 = .ok (.iconst 0, 1) := by decide +kernel
theorem dM_decode_25 : decode bM_decode 25 = .ok (.iload_n 1, 1) := by decide +kernel
theorem dM_decode_26 : decode bM_decode 26 = .ok (.iastore, 1) := by decide +kernel
theorem dM_decode_27 : decode bM_decode 27 = .ok (.iconst 0, 1) := by decide +kernel
theorem dM_decode_28 : decode bM_decode 28 = .ok (.istore_n 2, 1) := by decide +kernel
theorem dM_decode_29 : decode bM_decode 29 = .ok (.iload_n 2, 1) := by decide +kernel
theorem dM_decode_30 : decode bM_decode 30 = .ok (.aload_n 0, 1) := by decide +kernel
theorem dM_decode_31 : decode bM_decode 31 = .ok (.getfield 171, 3) := by decide +kernel
theorem dM_decode_34 : decode bM_decode 34 = .ok (.if_icmp .ge 20, 3) := by decide +kernel
theorem dM_decode_37 : decode bM_decode 37 = .ok (.aload_n 0, 1) := by decide +kernel
theorem dM_decode_38 : decode bM_decode 38 = .ok (.iload_n 2, 1) := by decide +kernel
theorem dM_decode_39 : decode bM_decode 39 = .ok (.invokevirtual 215, 3) := by decide +kernel
theorem dM_decode_42 : decode bM_decode 42 = .ok (.ifCond .ne 6, 3) := by decide +kernel
theorem dM_decode_45 : decode bM_decode 45 = .ok (.bipush (-4), 2) := by decide +kernel
theorem dM_decode_47 : decode bM_decode 47 = .ok (.ireturn, 1) := by decide +kernel
theorem dM_decode_48 : decode bM_decode 48 = .ok (.iinc 2 1, 3) := by decide +kernel
theorem dM_decode_51 : decode bM_decode 51 = .ok (.goto (-22), 3) := by decide +kernel
theorem dM_decode_54 : decode bM_decode 54 = .ok (.aload_n 0, 1) := by decide +kernel
theorem dM_decode_55 : decode bM_decode 55 = .ok (.getfield 98, 3) := by decide +kernel
theorem dM_decode_58 : decode bM_decode 58 = .ok (.aload_n 0, 1) := by decide +kernel
theorem dM_decode_59 : decode bM_decode 59 = .ok (.getfield 171, 3) := by decide +kernel
theorem dM_decode_62 : decode bM_decode 62 = .ok (.iadd, 1) := by decide +kernel
theorem dM_decode_63 : decode bM_decode 63 = .ok (.bipush 12, 2) := by decide +kernel
theorem dM_decode_65 : decode bM_decode 65 = .ok (.if_icmp .le 6, 3) := by decide +kernel
theorem dM_decode_68 : decode bM_decode 68 = .ok (.bipush (-5), 2) := by decide +kernel
theorem dM_decode_70 : decode bM_decode 70 = .ok (.ireturn, 1) := by decide +kernel
theorem dM_decode_71 : decode bM_decode 71 = .ok (.aload_n 0, 1) := by decide +kernel
theorem dM_decode_72 : decode bM_decode 72 = .ok (.getfield 98, 3) := by decide +kernel
theorem dM_decode_75 : decode bM_decode 75 = .ok (.istore_n 2, 1) := by decide +kernel
theorem dM_decode_76 : decode bM_decode 76 = .ok (.iconst 0, 1) := by decide +kernel
theorem dM_decode_77 : decode bM_decode 77 = .ok (.istore_n 3, 1) := by decide +kernel
theorem dM_decode_78 : decode bM_decode 78 = .ok (.iload_n 3, 1) := by decide +kernel
theorem dM_decode_79 : decode bM_decode 79 = .ok (.aload_n 0, 1) := by decide +kernel
theorem dM_decode_80 : decode bM_decode 80 = .ok (.getfield 171, 3) := by decide +kernel
theorem dM_decode_83 : decode bM_decode 83 = .ok (.if_icmp .ge 42, 3) := by decide +kernel
theorem dM_decode_86 : decode bM_decode 86 = .ok (.aload_n 0, 1) := by decide +kernel
theorem dM_decode_87 : decode bM_decode 87 = .ok (.getfield 25, 3) := by decide +kernel
theorem dM_decode_90 : decode bM_decode 90 = .ok (.aload_n 0, 1) := by decide +kernel
theorem dM_decode_91 : decode bM_decode 91 = .ok (.getfield 98, 3) := by decide +kernel
theorem dM_decode_94 : decode bM_decode 94 = .ok (.aload_n 0, 1) := by decide +kernel
theorem dM_decode_95 : decode bM_decode 95 = .ok (.getfield 56, 3) := by decide +kernel
theorem dM_decode_98 : decode bM_decode 98 = .ok (.iload_n 3, 1) := by decide +kernel
theorem dM_decode_99 : decode bM_decode 99 = .ok (.iaload, 1) := by decide +kernel
theorem dM_decode_100 : decode bM_decode 100 = .ok (.iastore, 1) := by decide +kernel
theorem dM_decode_101 : decode bM_decode 101 = .ok (.aload_n 0, 1) := by decide +kernel
theorem dM_decode_102 : decode bM_decode 102 = .ok (.aload_n 0, 1) := by decide +kernel
theorem dM_decode_103 : decode bM_decode 103 = .ok (.getfield 98, 3) := by decide +kernel
theorem dM_decode_106 : decode bM_decode 106 = .ok (.invokevirtual 107, 3) := by decide +kernel
theorem dM_decode_109 : decode bM_decode 109 = .ok (.aload_n 0, 1) := by decide +kernel
theorem dM_decode_110 : decode bM_decode 110 = .ok (.dup, 1) := by decide +kernel
theorem dM_decode_111 : decode bM_decode 111 = .ok (.getfield 98, 3) := by decide +kernel
theorem dM_decode_114 : decode bM_decode 114 = .ok (.iconst 1, 1) := by decide +kernel
theorem dM_decode_115 : decode bM_decode 115 = .ok (.iadd, 1) := by decide +kernel
theorem dM_decode_116 : decode bM_decode 116 = .ok (.putfield 98, 3) := by decide +kernel
theorem dM_decode_119 : decode bM_decode 119 = .ok (.iinc 3 1, 3) := by decide +kernel
theorem dM_decode_122 : decode bM_decode 122 = .ok (.goto (-44), 3) := by decide +kernel
theorem dM_decode_125 : decode bM_decode 125 = .ok (.iconst 0, 1) := by decide +kernel
theorem dM_decode_126 : decode bM_decode 126 = .ok (.istore_n 3, 1) := by decide +kernel
theorem dM_decode_127 : decode bM_decode 127 = .ok (.iload_n 3, 1) := by decide +kernel
theorem dM_decode_128 : decode bM_decode 128 = .ok (.aload_n 0, 1) := by decide +kernel
theorem dM_decode_129 : decode bM_decode 129 = .ok (.getfield 177, 3) := by decide +kernel
theorem dM_decode_132 : decode bM_decode 132 = .ok (.if_icmp .ge 23, 3) := by decide +kernel
theorem dM_decode_135 : decode bM_decode 135 = .ok (.aload_n 0, 1) := by decide +kernel
theorem dM_decode_136 : decode bM_decode 136 = .ok (.iload_n 3, 1) := by decide +kernel
theorem dM_decode_137 : decode bM_decode 137 = .ok (.invokevirtual 197, 3) := by decide +kernel
theorem dM_decode_140 : decode bM_decode 140 = .ok (.ifCond .ne 9, 3) := by decide +kernel
theorem dM_decode_143 : decode bM_decode 143 = .ok (.aload_n 0, 1) := by decide +kernel
theorem dM_decode_144 : decode bM_decode 144 = .ok (.iload_n 3, 1) := by decide +kernel
theorem dM_decode_145 : decode bM_decode 145 = .ok (.iload_n 2, 1) := by decide +kernel
theorem dM_decode_146 : decode bM_decode 146 = .ok (.invokevirtual 218, 3) := by decide +kernel
theorem dM_decode_149 : decode bM_decode 149 = .ok (.iinc 3 1, 3) := by decide +kernel
theorem dM_decode_152 : decode bM_decode 152 = .ok (.goto (-25), 3) := by decide +kernel
theorem dM_decode_155 : decode bM_decode 155 = .ok (.iload_n 2, 1) := by decide +kernel
theorem dM_decode_156 : decode bM_decode 156 = .ok (.ireturn, 1) := by decide +kernel
theorem dM_size_0 : decode bM_size 0 = .ok (.aload_n 0, 1) := by decide +kernel
theorem dM_size_1 : decode bM_size 1 = .ok (.getfield 155, 3) := by decide +kernel
theorem dM_size_4 : decode bM_size 4 = .ok (.ireturn, 1) := by decide +kernel
theorem dM_byteAt_0 : decode bM_byteAt 0 = .ok (.iload_n 1, 1) := by decide +kernel
theorem dM_byteAt_1 : decode bM_byteAt 1 = .ok (.ifCond .lt 11, 3) := by decide +kernel
theorem dM_byteAt_4 : decode bM_byteAt 4 = .ok (.iload_n 1, 1) := by decide +kernel
theorem dM_byteAt_5 : decode bM_byteAt 5 = .ok (.aload_n 0, 1) := by decide +kernel
theorem dM_byteAt_6 : decode bM_byteAt 6 = .ok (.getfield 155, 3) := by decide +kernel
theorem dM_byteAt_9 : decode bM_byteAt 9 = .ok (.if_icmp .lt 7, 3) := by decide +kernel
theorem dM_byteAt_12 : decode bM_byteAt 12 = .ok (.iconst (-1), 1) := by decide +kernel
theorem dM_byteAt_13 : decode bM_byteAt 13 = .ok (.goto 9, 3) := by decide +kernel
theorem dM_byteAt_16 : decode bM_byteAt 16 = .ok (.aload_n 0, 1) := by decide +kernel
theorem dM_byteAt_17 : decode bM_byteAt 17 = .ok (.getfield 32, 3) := by decide +kernel
theorem dM_byteAt_20 : decode bM_byteAt 20 = .ok (.iload_n 1, 1) := by decide +kernel
theorem dM_byteAt_21 : decode bM_byteAt 21 = .ok (.iaload, 1) := by decide +kernel
theorem dM_byteAt_22 : decode bM_byteAt 22 = .ok (.ireturn, 1) := by decide +kernel
theorem dM_poke_0 : decode bM_poke 0 = .ok (.iload_n 1, 1) := by decide +kernel
theorem dM_poke_1 : decode bM_poke 1 = .ok (.ifCond .lt 28, 3) := by decide +kernel
theorem dM_poke_4 : decode bM_poke 4 = .ok (.iload_n 1, 1) := by decide +kernel
theorem dM_poke_5 : decode bM_poke 5 = .ok (.aload_n 0, 1) := by decide +kernel
theorem dM_poke_6 : decode bM_poke 6 = .ok (.getfield 155, 3) := by decide +kernel
theorem dM_poke_9 : decode bM_poke 9 = .ok (.if_icmp .gt 20, 3) := by decide +kernel
theorem dM_poke_12 : decode bM_poke 12 = .ok (.iload_n 2, 1) := by decide +kernel
theorem dM_poke_13 : decode bM_poke 13 = .ok (.ifCond .lt 16, 3) := by decide +kernel
theorem dM_poke_16 : decode bM_poke 16 = .ok (.iload_n 2, 1) := by decide +kernel
theorem dM_poke_17 : decode bM_poke 17 = .ok (.sipush 255, 3) := by decide +kernel
theorem dM_poke_20 : decode bM_poke 20 = .ok (.if_icmp .gt 9, 3) := by decide +kernel
theorem dM_poke_23 : decode bM_poke 23 = .ok (.iload_n 1, 1) := by decide +kernel
theorem dM_poke_24 : decode bM_poke 24 = .ok (.bipush 120, 2) := by decide +kernel
theorem dM_poke_26 : decode bM_poke 26 = .ok (.if_icmp .lt 5, 3) := by decide +kernel
theorem dM_poke_29 : decode bM_poke 29 = .ok (.iconst 0, 1) := by decide +kernel
theorem dM_poke_30 : decode bM_poke 30 = .ok (.ireturn, 1) := by decide +kernel
theorem dM_poke_31 : decode bM_poke 31 = .ok (.aload_n 0, 1) := by decide +kernel
theorem dM_poke_32 : decode bM_poke 32 = .ok (.getfield 32, 3) := by decide +kernel
theorem dM_poke_35 : decode bM_poke 35 = .ok (.iload_n 1, 1) := by decide +kernel
theorem dM_poke_36 : decode bM_poke 36 = .ok (.iload_n 2, 1) := by decide +kernel
theorem dM_poke_37 : decode bM_poke 37 = .ok (.iastore, 1) := by decide +kernel
theorem dM_poke_38 : decode bM_poke 38 = .ok (.aload_n 0, 1) := by decide +kernel
theorem dM_poke_39 : decode bM_poke 39 = .ok (.iload_n 1, 1) := by decide +kernel
theorem dM_poke_40 : decode bM_poke 40 = .ok (.aload_n 0, 1) := by decide +kernel
theorem dM_poke_41 : decode bM_poke 41 = .ok (.getfield 155, 3) := by decide +kernel
theorem dM_poke_44 : decode bM_poke 44 = .ok (.if_icmp .ne 12, 3) := by decide +kernel
theorem dM_poke_47 : decode bM_poke 47 = .ok (.aload_n 0, 1) := by decide +kernel
theorem dM_poke_48 : decode bM_poke 48 = .ok (.getfield 155, 3) := by decide +kernel
theorem dM_poke_51 : decode bM_poke 51 = .ok (.iconst 1, 1) := by decide +kernel
theorem dM_poke_52 : decode bM_poke 52 = .ok (.iadd, 1) := by decide +kernel
theorem dM_poke_53 : decode bM_poke 53 = .ok (.goto 7, 3) := by decide +kernel
theorem dM_poke_56 : decode bM_poke 56 = .ok (.aload_n 0, 1) := by decide +kernel
theorem dM_poke_57 : decode bM_poke 57 = .ok (.getfield 155, 3) := by decide +kernel
theorem dM_poke_60 : decode bM_poke 60 = .ok (.putfield 155, 3) := by decide +kernel
theorem dM_poke_63 : decode bM_poke 63 = .ok (.iconst 1, 1) := by decide +kernel
theorem dM_poke_64 : decode bM_poke 64 = .ok (.ireturn, 1) := by decide +kernel
theorem dM_cut_0 : decode bM_cut 0 = .ok (.iload_n 1, 1) := by decide +kernel
theorem dM_cut_1 : decode bM_cut 1 = .ok (.ifCond .lt 11, 3) := by decide +kernel
theorem dM_cut_4 : decode bM_cut 4 = .ok (.iload_n 1, 1) := by decide +kernel
theorem dM_cut_5 : decode bM_cut 5 = .ok (.aload_n 0, 1) := by decide +kernel
theorem dM_cut_6 : decode bM_cut 6 = .ok (.getfield 155, 3) := by decide +kernel
theorem dM_cut_9 : decode bM_cut 9 = .ok (.if_icmp .le 5, 3) := by decide +kernel
theorem dM_cut_12 : decode bM_cut 12 = .ok (.iconst 0, 1) := by decide +kernel
theorem dM_cut_13 : decode bM_cut 13 = .ok (.ireturn, 1) := by decide +kernel
theorem dM_cut_14 : decode bM_cut 14 = .ok (.aload_n 0, 1) := by decide +kernel
theorem dM_cut_15 : decode bM_cut 15 = .ok (.iload_n 1, 1) := by decide +kernel
theorem dM_cut_16 : decode bM_cut 16 = .ok (.putfield 155, 3) := by decide +kernel
theorem dM_cut_19 : decode bM_cut 19 = .ok (.iconst 1, 1) := by decide +kernel
theorem dM_cut_20 : decode bM_cut 20 = .ok (.ireturn, 1) := by decide +kernel
theorem dM_isOf_0 : decode bM_isOf 0 = .ok (.aload_n 0, 1) := by decide +kernel
theorem dM_isOf_1 : decode bM_isOf 1 = .ok (.iload_n 2, 1) := by decide +kernel
theorem dM_isOf_2 : decode bM_isOf 2 = .ok (.aload_n 0, 1) := by decide +kernel
theorem dM_isOf_3 : decode bM_isOf 3 = .ok (.getfield 13, 3) := by decide +kernel
theorem dM_isOf_6 : decode bM_isOf 6 = .ok (.iload_n 1, 1) := by decide +kernel
theorem dM_isOf_7 : decode bM_isOf 7 = .ok (.iaload, 1) := by decide +kernel
theorem dM_isOf_8 : decode bM_isOf 8 = .ok (.invokevirtual 84, 3) := by decide +kernel
theorem dM_isOf_11 : decode bM_isOf 11 = .ok (.ireturn, 1) := by decide +kernel
theorem dM_find_0 : decode bM_find 0 = .ok (.iconst (-1), 1) := by decide +kernel
theorem dM_find_1 : decode bM_find 1 = .ok (.istore_n 3, 1) := by decide +kernel
theorem dM_find_2 : decode bM_find 2 = .ok (.iconst 0, 1) := by decide +kernel
theorem dM_find_3 : decode bM_find 3 = .ok (.istore 4, 2) := by decide +kernel
theorem dM_find_5 : decode bM_find 5 = .ok (.iload 4, 2) := by decide +kernel
theorem dM_find_7 : decode bM_find 7 = .ok (.aload_n 0, 1) := by decide +kernel
theorem dM_find_8 : decode bM_find 8 = .ok (.getfield 88, 3) := by decide +kernel
theorem dM_find_11 : decode bM_find 11 = .ok (.if_icmp .ge 37, 3) := by decide +kernel
theorem dM_find_14 : decode bM_find 14 = .ok (.aload_n 0, 1) := by decide +kernel
theorem dM_find_15 : decode bM_find 15 = .ok (.iload 4, 2) := by decide +kernel
theorem dM_find_17 : decode bM_find 17 = .ok (.iload_n 1, 1) := by decide +kernel
theorem dM_find_18 : decode bM_find 18 = .ok (.invokevirtual 91, 3) := by decide +kernel
theorem dM_find_21 : decode bM_find 21 = .ok (.ifCond .eq 19, 3) := by decide +kernel
theorem dM_find_24 : decode bM_find 24 = .ok (.aload_n 0, 1) := by decide +kernel
theorem dM_find_25 : decode bM_find 25 = .ok (.getfield 16, 3) := by decide +kernel
theorem dM_find_28 : decode bM_find 28 = .ok (.iload 4, 2) := by decide +kernel
theorem dM_find_30 : decode bM_find 30 = .ok (.iaload, 1) := by decide +kernel
theorem dM_find_31 : decode bM_find 31 = .ok (.iload_n 2, 1) := by decide +kernel
theorem dM_find_32 : decode bM_find 32 = .ok (.if_icmp .ne 8, 3) := by decide +kernel
theorem dM_find_35 : decode bM_find 35 = .ok (.iload 4, 2) := by decide +kernel
theorem dM_find_37 : decode bM_find 37 = .ok (.goto 4, 3) := by decide +kernel
theorem dM_find_40 : decode bM_find 40 = .ok (.iload_n 3, 1) := by decide +kernel
theorem dM_find_41 : decode bM_find 41 = .ok (.istore_n 3, 1) := by decide +kernel
theorem dM_find_42 : decode bM_find 42 = .ok (.iinc 4 1, 3) := by decide +kernel
theorem dM_find_45 : decode bM_find 45 = .ok (.goto (-40), 3) := by decide +kernel
theorem dM_find_48 : decode bM_find 48 = .ok (.iload_n 3, 1) := by decide +kernel
theorem dM_find_49 : decode bM_find 49 = .ok (.ireturn, 1) := by decide +kernel
theorem dM_nth_0 : decode bM_nth 0 = .ok (.iload_n 2, 1) := by decide +kernel
theorem dM_nth_1 : decode bM_nth 1 = .ok (.istore_n 3, 1) := by decide +kernel
theorem dM_nth_2 : decode bM_nth 2 = .ok (.iconst 0, 1) := by decide +kernel
theorem dM_nth_3 : decode bM_nth 3 = .ok (.istore 4, 2) := by decide +kernel
theorem dM_nth_5 : decode bM_nth 5 = .ok (.iload 4, 2) := by decide +kernel
theorem dM_nth_7 : decode bM_nth 7 = .ok (.aload_n 0, 1) := by decide +kernel
theorem dM_nth_8 : decode bM_nth 8 = .ok (.getfield 80, 3) := by decide +kernel
theorem dM_nth_11 : decode bM_nth 11 = .ok (.if_icmp .ge 59, 3) := by decide +kernel
theorem dM_nth_14 : decode bM_nth 14 = .ok (.iconst 0, 1) := by decide +kernel
theorem dM_nth_15 : decode bM_nth 15 = .ok (.istore 5, 2) := by decide +kernel
theorem dM_nth_17 : decode bM_nth 17 = .ok (.iload 5, 2) := by decide +kernel
theorem dM_nth_19 : decode bM_nth 19 = .ok (.aload_n 0, 1) := by decide +kernel
theorem dM_nth_20 : decode bM_nth 20 = .ok (.getfield 88, 3) := by decide +kernel
theorem dM_nth_23 : decode bM_nth 23 = .ok (.if_icmp .ge 41, 3) := by decide +kernel
theorem dM_nth_26 : decode bM_nth 26 = .ok (.aload_n 0, 1) := by decide +kernel
theorem dM_nth_27 : decode bM_nth 27 = .ok (.getfield 13, 3) := by decide +kernel
theorem dM_nth_30 : decode bM_nth 30 = .ok (.iload 5, 2) := by decide +kernel
theorem dM_nth_32 : decode bM_nth 32 = .ok (.iaload, 1) := by decide +kernel
theorem dM_nth_33 : decode bM_nth 33 = .ok (.iload 4, 2) := by decide +kernel
theorem dM_nth_35 : decode bM_nth 35 = .ok (.if_icmp .ne 23, 3) := by decide +kernel
theorem dM_nth_38 : decode bM_nth 38 = .ok (.aload_n 0, 1) := by decide +kernel
theorem dM_nth_39 : decode bM_nth 39 = .ok (.iload 5, 2) := by decide +kernel
theorem dM_nth_41 : decode bM_nth 41 = .ok (.iload_n 1, 1) := by decide +kernel
theorem dM_nth_42 : decode bM_nth 42 = .ok (.invokevirtual 91, 3) := by decide +kernel
theorem dM_nth_45 : decode bM_nth 45 = .ok (.ifCond .eq 13, 3) := by decide +kernel
theorem dM_nth_48 : decode bM_nth 48 = .ok (.iload_n 3, 1) := by decide +kernel
theorem dM_nth_49 : decode bM_nth 49 = .ok (.ifCond .ne 6, 3) := by decide +kernel
theorem dM_nth_52 : decode bM_nth 52 = .ok (.iload 5, 2) := by decide +kernel
theorem dM_nth_54 : decode bM_nth 54 = .ok (.ireturn, 1) := by decide +kernel
theorem dM_nth_55 : decode bM_nth 55 = .ok (.iinc 3 (-1), 3) := by decide +kernel
theorem dM_nth_58 : decode bM_nth 58 = .ok (.iinc 5 1, 3) := by decide +kernel
theorem dM_nth_61 : decode bM_nth 61 = .ok (.goto (-44), 3) := by decide +kernel
theorem dM_nth_64 : decode bM_nth 64 = .ok (.iinc 4 1, 3) := by decide +kernel
theorem dM_nth_67 : decode bM_nth 67 = .ok (.goto (-62), 3) := by decide +kernel
theorem dM_nth_70 : decode bM_nth 70 = .ok (.iconst (-1), 1) := by decide +kernel
theorem dM_nth_71 : decode bM_nth 71 = .ok (.ireturn, 1) := by decide +kernel
theorem dM_define_0 : decode bM_define 0 = .ok (.iload_n 1, 1) := by decide +kernel
theorem dM_define_1 : decode bM_define 1 = .ok (.iconst (-1), 1) := by decide +kernel
theorem dM_define_2 : decode bM_define 2 = .ok (.if_icmp .eq 11, 3) := by decide +kernel
theorem dM_define_5 : decode bM_define 5 = .ok (.aload_n 0, 1) := by decide +kernel
theorem dM_define_6 : decode bM_define 6 = .ok (.iload_n 1, 1) := by decide +kernel
theorem dM_define_7 : decode bM_define 7 = .ok (.invokevirtual 94, 3) := by decide +kernel
theorem dM_define_10 : decode bM_define 10 = .ok (.ifCond .eq 19, 3) := by decide +kernel
theorem dM_define_13 : decode bM_define 13 = .ok (.aload_n 0, 1) := by decide +kernel
theorem dM_define_14 : decode bM_define 14 = .ok (.getfield 80, 3) := by decide +kernel
theorem dM_define_17 : decode bM_define 17 = .ok (.bipush 6, 2) := by decide +kernel
theorem dM_define_19 : decode bM_define 19 = .ok (.if_icmp .ge 10, 3) := by decide +kernel
theorem dM_define_22 : decode bM_define 22 = .ok (.aload_n 0, 1) := by decide +kernel
theorem dM_define_23 : decode bM_define 23 = .ok (.getfield 98, 3) := by decide +kernel
theorem dM_define_26 : decode bM_define 26 = .ok (.ifCond .le 5, 3) := by decide +kernel
theorem dM_define_29 : decode bM_define 29 = .ok (.iconst (-1), 1) := by decide +kernel
theorem dM_define_30 : decode bM_define 30 = .ok (.ireturn, 1) := by decide +kernel
theorem dM_define_31 : decode bM_define 31 = .ok (.aload_n 0, 1) := by decide +kernel
theorem dM_define_32 : decode bM_define 32 = .ok (.getfield 7, 3) := by decide +kernel
theorem dM_define_35 : decode bM_define 35 = .ok (.aload_n 0, 1) := by decide +kernel
theorem dM_define_36 : decode bM_define 36 = .ok (.getfield 80, 3) := by decide +kernel
theorem dM_define_39 : decode bM_define 39 = .ok (.iload_n 1, 1) := by decide +kernel
theorem dM_define_40 : decode bM_define 40 = .ok (.iastore, 1) := by decide +kernel
theorem dM_define_41 : decode bM_define 41 = .ok (.aload_n 0, 1) := by decide +kernel
theorem dM_define_42 : decode bM_define 42 = .ok (.dup, 1) := by decide +kernel
theorem dM_define_43 : decode bM_define 43 = .ok (.getfield 80, 3) := by decide +kernel
theorem dM_define_46 : decode bM_define 46 = .ok (.iconst 1, 1) := by decide +kernel
theorem dM_define_47 : decode bM_define 47 = .ok (.iadd, 1) := by decide +kernel
theorem dM_define_48 : decode bM_define 48 = .ok (.putfield 80, 3) := by decide +kernel
theorem dM_define_51 : decode bM_define 51 = .ok (.aload_n 0, 1) := by decide +kernel
theorem dM_define_52 : decode bM_define 52 = .ok (.getfield 80, 3) := by decide +kernel
theorem dM_define_55 : decode bM_define 55 = .ok (.iconst 1, 1) := by decide +kernel
theorem dM_define_56 : decode bM_define 56 = .ok (.isub, 1) := by decide +kernel
theorem dM_define_57 : decode bM_define 57 = .ok (.ireturn, 1) := by decide +kernel
theorem dM_property_0 : decode bM_property 0 = .ok (.aload_n 0, 1) := by decide +kernel
theorem dM_property_1 : decode bM_property 1 = .ok (.iload_n 1, 1) := by decide +kernel
theorem dM_property_2 : decode bM_property 2 = .ok (.invokevirtual 94, 3) := by decide +kernel
theorem dM_property_5 : decode bM_property 5 = .ok (.ifCond .eq 36, 3) := by decide +kernel
theorem dM_property_8 : decode bM_property 8 = .ok (.iload_n 2, 1) := by decide +kernel
theorem dM_property_9 : decode bM_property 9 = .ok (.ifCond .lt 32, 3) := by decide +kernel
theorem dM_property_12 : decode bM_property 12 = .ok (.iload_n 2, 1) := by decide +kernel
theorem dM_property_13 : decode bM_property 13 = .ok (.bipush 25, 2) := by decide +kernel
theorem dM_property_15 : decode bM_property 15 = .ok (.if_icmp .gt 26, 3) := by decide +kernel
theorem dM_property_18 : decode bM_property 18 = .ok (.iload_n 3, 1) := by decide +kernel
theorem dM_property_19 : decode bM_property 19 = .ok (.ifCond .lt 22, 3) := by decide +kernel
theorem dM_property_22 : decode bM_property 22 = .ok (.iload_n 3, 1) := by decide +kernel
theorem dM_property_23 : decode bM_property 23 = .ok (.iconst 3, 1) := by decide +kernel
theorem dM_property_24 : decode bM_property 24 = .ok (.if_icmp .gt 17, 3) := by decide +kernel
theorem dM_property_27 : decode bM_property 27 = .ok (.iload_n 3, 1) := by decide +kernel
theorem dM_property_28 : decode bM_property 28 = .ok (.iconst 3, 1) := by decide +kernel
theorem dM_property_29 : decode bM_property 29 = .ok (.if_icmp .ne 14, 3) := by decide +kernel
theorem dM_property_32 : decode bM_property 32 = .ok (.aload_n 0, 1) := by decide +kernel
theorem dM_property_33 : decode bM_property 33 = .ok (.iload 4, 2) := by decide +kernel
theorem dM_property_35 : decode bM_property 35 = .ok (.invokevirtual 94, 3) := by decide +kernel
theorem dM_property_38 : decode bM_property 38 = .ok (.ifCond .ne 5, 3) := by decide +kernel
theorem dM_property_41 : decode bM_property 41 = .ok (.iconst 0, 1) := by decide +kernel
theorem dM_property_42 : decode bM_property 42 = .ok (.ireturn, 1) := by decide +kernel
theorem dM_property_43 : decode bM_property 43 = .ok (.aload_n 0, 1) := by decide +kernel
theorem dM_property_44 : decode bM_property 44 = .ok (.getfield 88, 3) := by decide +kernel
theorem dM_property_47 : decode bM_property 47 = .ok (.bipush 8, 2) := by decide +kernel
theorem dM_property_49 : decode bM_property 49 = .ok (.if_icmp .ge 10, 3) := by decide +kernel
theorem dM_property_52 : decode bM_property 52 = .ok (.aload_n 0, 1) := by decide +kernel
theorem dM_property_53 : decode bM_property 53 = .ok (.getfield 98, 3) := by decide +kernel
theorem dM_property_56 : decode bM_property 56 = .ok (.ifCond .le 5, 3) := by decide +kernel
theorem dM_property_59 : decode bM_property 59 = .ok (.iconst 0, 1) := by decide +kernel
theorem dM_property_60 : decode bM_property 60 = .ok (.ireturn, 1) := by decide +kernel
theorem dM_property_61 : decode bM_property 61 = .ok (.iconst 0, 1) := by decide +kernel
theorem dM_property_62 : decode bM_property 62 = .ok (.istore 5, 2) := by decide +kernel
theorem dM_property_64 : decode bM_property 64 = .ok (.iload 5, 2) := by decide +kernel
theorem dM_property_66 : decode bM_property 66 = .ok (.aload_n 0, 1) := by decide +kernel
theorem dM_property_67 : decode bM_property 67 = .ok (.getfield 80, 3) := by decide +kernel
theorem dM_property_70 : decode bM_property 70 = .ok (.if_icmp .ge 31, 3) := by decide +kernel
theorem dM_property_73 : decode bM_property 73 = .ok (.aload_n 0, 1) := by decide +kernel
theorem dM_property_74 : decode bM_property 74 = .ok (.iload 5, 2) := by decide +kernel
theorem dM_property_76 : decode bM_property 76 = .ok (.iload_n 1, 1) := by decide +kernel
theorem dM_property_77 : decode bM_property 77 = .ok (.invokevirtual 84, 3) := by decide +kernel
theorem dM_property_80 : decode bM_property 80 = .ok (.ifCond .eq 15, 3) := by decide +kernel
theorem dM_property_83 : decode bM_property 83 = .ok (.aload_n 0, 1) := by decide +kernel
theorem dM_property_84 : decode bM_property 84 = .ok (.iload 5, 2) := by decide +kernel
theorem dM_property_86 : decode bM_property 86 = .ok (.iload_n 2, 1) := by decide +kernel
theorem dM_property_87 : decode bM_property 87 = .ok (.invokevirtual 101, 3) := by decide +kernel
theorem dM_property_90 : decode bM_property 90 = .ok (.ifCond .lt 5, 3) := by decide +kernel
theorem dM_property_93 : decode bM_property 93 = .ok (.iconst 0, 1) := by decide +kernel
theorem dM_property_94 : decode bM_property 94 = .ok (.ireturn, 1) := by decide +kernel
theorem dM_property_95 : decode bM_property 95 = .ok (.iinc 5 1, 3) := by decide +kernel
theorem dM_property_98 : decode bM_property 98 = .ok (.goto (-34), 3) := by decide +kernel
theorem dM_property_101 : decode bM_property 101 = .ok (.aload_n 0, 1) := by decide +kernel
theorem dM_property_102 : decode bM_property 102 = .ok (.getfield 13, 3) := by decide +kernel
theorem dM_property_105 : decode bM_property 105 = .ok (.aload_n 0, 1) := by decide +kernel
theorem dM_property_106 : decode bM_property 106 = .ok (.getfield 88, 3) := by decide +kernel
theorem dM_property_109 : decode bM_property 109 = .ok (.iload_n 1, 1) := by decide +kernel
theorem dM_property_110 : decode bM_property 110 = .ok (.iastore, 1) := by decide +kernel
theorem dM_property_111 : decode bM_property 111 = .ok (.aload_n 0, 1) := by decide +kernel
theorem dM_property_112 : decode bM_property 112 = .ok (.getfield 16, 3) := by decide +kernel
theorem dM_property_115 : decode bM_property 115 = .ok (.aload_n 0, 1) := by decide +kernel
theorem dM_property_116 : decode bM_property 116 = .ok (.getfield 88, 3) := by decide +kernel
theorem dM_property_119 : decode bM_property 119 = .ok (.iload_n 2, 1) := by decide +kernel
theorem dM_property_120 : decode bM_property 120 = .ok (.iastore, 1) := by decide +kernel
theorem dM_property_121 : decode bM_property 121 = .ok (.aload_n 0, 1) := by decide +kernel
theorem dM_property_122 : decode bM_property 122 = .ok (.getfield 19, 3) := by decide +kernel
theorem dM_property_125 : decode bM_property 125 = .ok (.aload_n 0, 1) := by decide +kernel
theorem dM_property_126 : decode bM_property 126 = .ok (.getfield 88, 3) := by decide +kernel
theorem dM_property_129 : decode bM_property 129 = .ok (.iload_n 3, 1) := by decide +kernel
theorem dM_property_130 : decode bM_property 130 = .ok (.iastore, 1) := by decide +kernel
theorem dM_property_131 : decode bM_property 131 = .ok (.aload_n 0, 1) := by decide +kernel
theorem dM_property_132 : decode bM_property 132 = .ok (.getfield 22, 3) := by decide +kernel
theorem dM_property_135 : decode bM_property 135 = .ok (.aload_n 0, 1) := by decide +kernel
theorem dM_property_136 : decode bM_property 136 = .ok (.getfield 88, 3) := by decide +kernel
theorem dM_property_139 : decode bM_property 139 = .ok (.iload 4, 2) := by decide +kernel
theorem dM_property_141 : decode bM_property 141 = .ok (.iastore, 1) := by decide +kernel
theorem dM_property_142 : decode bM_property 142 = .ok (.aload_n 0, 1) := by decide +kernel
theorem dM_property_143 : decode bM_property 143 = .ok (.dup, 1) := by decide +kernel
theorem dM_property_144 : decode bM_property 144 = .ok (.getfield 88, 3) := by decide +kernel
theorem dM_property_147 : decode bM_property 147 = .ok (.iconst 1, 1) := by decide +kernel
theorem dM_property_148 : decode bM_property 148 = .ok (.iadd, 1) := by decide +kernel
theorem dM_property_149 : decode bM_property 149 = .ok (.putfield 88, 3) := by decide +kernel
theorem dM_property_152 : decode bM_property 152 = .ok (.iconst 1, 1) := by decide +kernel
theorem dM_property_153 : decode bM_property 153 = .ok (.ireturn, 1) := by decide +kernel
theorem dM_isObject_0 : decode bM_isObject 0 = .ok (.iload_n 1, 1) := by decide +kernel
theorem dM_isObject_1 : decode bM_isObject 1 = .ok (.ifCond .lt 15, 3) := by decide +kernel
theorem dM_isObject_4 : decode bM_isObject 4 = .ok (.iload_n 1, 1) := by decide +kernel
theorem dM_isObject_5 : decode bM_isObject 5 = .ok (.aload_n 0, 1) := by decide +kernel
theorem dM_isObject_6 : decode bM_isObject 6 = .ok (.getfield 98, 3) := by decide +kernel
theorem dM_isObject_9 : decode bM_isObject 9 = .ok (.if_icmp .ge 7, 3) := by decide +kernel
theorem dM_isObject_12 : decode bM_isObject 12 = .ok (.iconst 1, 1) := by decide +kernel
theorem dM_isObject_13 : decode bM_isObject 13 = .ok (.goto 4, 3) := by decide +kernel
theorem dM_isObject_16 : decode bM_isObject 16 = .ok (.iconst 0, 1) := by decide +kernel
theorem dM_isObject_17 : decode bM_isObject 17 = .ok (.ireturn, 1) := by decide +kernel
