/-! decode rows of class PropertyDocumentsModel: laid by wip/gen/names.py -/
theorem dM_readElement_115 : decode bM_readElement 115 = .ok (.iconst 1, 1) := by decide +kernel
theorem dM_readElement_116 : decode bM_readElement 116 = .ok (.goto 4, 3) := by decide +kernel
theorem dM_readElement_119 : decode bM_readElement 119 = .ok (.iconst 0, 1) := by decide +kernel
theorem dM_readElement_120 : decode bM_readElement 120 = .ok (.putfield 161, 3) := by decide +kernel
theorem dM_readElement_123 : decode bM_readElement 123 = .ok (.goto 113, 3) := by decide +kernel
theorem dM_readElement_126 : decode bM_readElement 126 = .ok (.iload_n 1, 1) := by decide +kernel
theorem dM_readElement_127 : decode bM_readElement 127 = .ok (.iconst 3, 1) := by decide +kernel
theorem dM_readElement_128 : decode bM_readElement 128 = .ok (.if_icmp .ne 20, 3) := by decide +kernel
theorem dM_readElement_131 : decode bM_readElement 131 = .ok (.aload_n 0, 1) := by decide +kernel
theorem dM_readElement_132 : decode bM_readElement 132 = .ok (.getfield 74, 3) := by decide +kernel
theorem dM_readElement_135 : decode bM_readElement 135 = .ok (.iload_n 2, 1) := by decide +kernel
theorem dM_readElement_136 : decode bM_readElement 136 = .ok (.aload_n 0, 1) := by decide +kernel
theorem dM_readElement_137 : decode bM_readElement 137 = .ok (.getfield 171, 3) := by decide +kernel
theorem dM_readElement_140 : decode bM_readElement 140 = .ok (.iastore, 1) := by decide +kernel
theorem dM_readElement_141 : decode bM_readElement 141 = .ok (.aload_n 0, 1) := by decide +kernel
theorem dM_readElement_142 : decode bM_readElement 142 = .ok (.invokevirtual 187, 3) := by decide +kernel
theorem dM_readElement_145 : decode bM_readElement 145 = .ok (.goto 91, 3) := by decide +kernel
theorem dM_readElement_148 : decode bM_readElement 148 = .ok (.iload_n 1, 1) := by decide +kernel
theorem dM_readElement_149 : decode bM_readElement 149 = .ok (.bipush 8, 2) := by decide +kernel
theorem dM_readElement_151 : decode bM_readElement 151 = .ok (.if_icmp .ne 32, 3) := by decide +kernel
theorem dM_readElement_154 : decode bM_readElement 154 = .ok (.aload_n 0, 1) := by decide +kernel
theorem dM_readElement_155 : decode bM_readElement 155 = .ok (.invokevirtual 164, 3) := by decide +kernel
theorem dM_readElement_158 : decode bM_readElement 158 = .ok (.istore_n 3, 1) := by decide +kernel
theorem dM_readElement_159 : decode bM_readElement 159 = .ok (.aload_n 0, 1) := by decide +kernel
theorem dM_readElement_160 : decode bM_readElement 160 = .ok (.aload_n 0, 1) := by decide +kernel
theorem dM_readElement_161 : decode bM_readElement 161 = .ok (.getfield 161, 3) := by decide +kernel
theorem dM_readElement_164 : decode bM_readElement 164 = .ok (.ifCond .ne 8, 3) := by decide +kernel
theorem dM_readElement_167 : decode bM_readElement 167 = .ok (.iload_n 3, 1) := by decide +kernel
theorem dM_readElement_168 : decode bM_readElement 168 = .ok (.iconst 1, 1) := by decide +kernel
theorem dM_readElement_169 : decode bM_readElement 169 = .ok (.if_icmp .le 7, 3) := by decide +kernel
theorem dM_readElement_172 : decode bM_readElement 172 = .ok (.iconst 1, 1) := by decide +kernel
theorem dM_readElement_173 : decode bM_readElement 173 = .ok (.goto 4, 3) := by decide +kernel
theorem dM_readElement_176 : decode bM_readElement 176 = .ok (.iconst 0, 1) := by decide +kernel
theorem dM_readElement_177 : decode bM_readElement 177 = .ok (.putfield 161, 3) := by decide +kernel
theorem dM_readElement_180 : decode bM_readElement 180 = .ok (.goto 56, 3) := by decide +kernel
theorem dM_readElement_183 : decode bM_readElement 183 = .ok (.iload_n 1, 1) := by decide +kernel
theorem dM_readElement_184 : decode bM_readElement 184 = .ok (.bipush 16, 2) := by decide +kernel
theorem dM_readElement_186 : decode bM_readElement 186 = .ok (.if_icmp .eq 9, 3) := by decide +kernel
theorem dM_readElement_189 : decode bM_readElement 189 = .ok (.iload_n 1, 1) := by decide +kernel
theorem dM_readElement_190 : decode bM_readElement 190 = .ok (.bipush 18, 2) := by decide +kernel
theorem dM_readElement_192 : decode bM_readElement 192 = .ok (.if_icmp .ne 22, 3) := by decide +kernel
theorem dM_readElement_195 : decode bM_readElement 195 = .ok (.aload_n 0, 1) := by decide +kernel
theorem dM_readElement_196 : decode bM_readElement 196 = .ok (.iload_n 1, 1) := by decide +kernel
theorem dM_readElement_197 : decode bM_readElement 197 = .ok (.bipush 16, 2) := by decide +kernel
theorem dM_readElement_199 : decode bM_readElement 199 = .ok (.if_icmp .ne 7, 3) := by decide +kernel
theorem dM_readElement_202 : decode bM_readElement 202 = .ok (.iconst 4, 1) := by decide +kernel
theorem dM_readElement_203 : decode bM_readElement 203 = .ok (.goto 5, 3) := by decide +kernel
theorem dM_readElement_206 : decode bM_readElement 206 = .ok (.bipush 8, 2) := by decide +kernel
theorem dM_readElement_208 : decode bM_readElement 208 = .ok (.invokevirtual 174, 3) := by decide +kernel
theorem dM_readElement_211 : decode bM_readElement 211 = .ok (.goto 25, 3) := by decide +kernel
theorem dM_readElement_214 : decode bM_readElement 214 = .ok (.aload_n 0, 1) := by decide +kernel
theorem dM_readElement_215 : decode bM_readElement 215 = .ok (.aload_n 0, 1) := by decide +kernel
theorem dM_readElement_216 : decode bM_readElement 216 = .ok (.getfield 161, 3) := by decide +kernel
theorem dM_readElement_219 : decode bM_readElement 219 = .ok (.ifCond .ne 9, 3) := by decide +kernel
theorem dM_readElement_222 : decode bM_readElement 222 = .ok (.iload_n 1, 1) := by decide +kernel
theorem dM_readElement_223 : decode bM_readElement 223 = .ok (.bipush 10, 2) := by decide +kernel
theorem dM_readElement_225 : decode bM_readElement 225 = .ok (.if_icmp .eq 7, 3) := by decide +kernel
theorem dM_readElement_228 : decode bM_readElement 228 = .ok (.iconst 1, 1) := by decide +kernel
theorem dM_readElement_229 : decode bM_readElement 229 = .ok (.goto 4, 3) := by decide +kernel
theorem dM_readElement_232 : decode bM_readElement 232 = .ok (.iconst 0, 1) := by decide +kernel
theorem dM_readElement_233 : decode bM_readElement 233 = .ok (.putfield 161, 3) := by decide +kernel
theorem dM_readElement_236 : decode bM_readElement 236 = .ok (.return_, 1) := by decide +kernel
theorem dM_read_0 : decode bM_read 0 = .ok (.aload_n 0, 1) := by decide +kernel
theorem dM_read_1 : decode bM_read 1 = .ok (.iconst 0, 1) := by decide +kernel
theorem dM_read_2 : decode bM_read 2 = .ok (.putfield 158, 3) := by decide +kernel
theorem dM_read_5 : decode bM_read 5 = .ok (.aload_n 0, 1) := by decide +kernel
theorem dM_read_6 : decode bM_read 6 = .ok (.iconst 0, 1) := by decide +kernel
theorem dM_read_7 : decode bM_read 7 = .ok (.putfield 161, 3) := by decide +kernel
theorem dM_read_10 : decode bM_read 10 = .ok (.aload_n 0, 1) := by decide +kernel
theorem dM_read_11 : decode bM_read 11 = .ok (.iconst 0, 1) := by decide +kernel
theorem dM_read_12 : decode bM_read 12 = .ok (.putfield 171, 3) := by decide +kernel
theorem dM_read_15 : decode bM_read 15 = .ok (.aload_n 0, 1) := by decide +kernel
theorem dM_read_16 : decode bM_read 16 = .ok (.iconst 0, 1) := by decide +kernel
theorem dM_read_17 : decode bM_read 17 = .ok (.putfield 177, 3) := by decide +kernel
theorem dM_read_20 : decode bM_read 20 = .ok (.aload_n 0, 1) := by decide +kernel
theorem dM_read_21 : decode bM_read 21 = .ok (.iconst 0, 1) := by decide +kernel
theorem dM_read_22 : decode bM_read 22 = .ok (.putfield 168, 3) := by decide +kernel
theorem dM_read_25 : decode bM_read 25 = .ok (.aload_n 0, 1) := by decide +kernel
theorem dM_read_26 : decode bM_read 26 = .ok (.invokevirtual 187, 3) := by decide +kernel
theorem dM_read_29 : decode bM_read 29 = .ok (.aload_n 0, 1) := by decide +kernel
theorem dM_read_30 : decode bM_read 30 = .ok (.getfield 168, 3) := by decide +kernel
theorem dM_read_33 : decode bM_read 33 = .ok (.ifCond .le 103, 3) := by decide +kernel
theorem dM_read_36 : decode bM_read 36 = .ok (.aload_n 0, 1) := by decide +kernel
theorem dM_read_37 : decode bM_read 37 = .ok (.getfield 161, 3) := by decide +kernel
theorem dM_read_40 : decode bM_read 40 = .ok (.ifCond .ne 96, 3) := by decide +kernel
theorem dM_read_43 : decode bM_read 43 = .ok (.aload_n 0, 1) := by decide +kernel
theorem dM_read_44 : decode bM_read 44 = .ok (.invokevirtual 164, 3) := by decide +kernel
theorem dM_read_47 : decode bM_read 47 = .ok (.istore_n 1, 1) := by decide +kernel
theorem dM_read_48 : decode bM_read 48 = .ok (.iload_n 1, 1) := by decide +kernel
theorem dM_read_49 : decode bM_read 49 = .ok (.ifCond .le 18, 3) := by decide +kernel
theorem dM_read_52 : decode bM_read 52 = .ok (.aload_n 0, 1) := by decide +kernel
theorem dM_read_53 : decode bM_read 53 = .ok (.getfield 161, 3) := by decide +kernel
theorem dM_read_56 : decode bM_read 56 = .ok (.ifCond .ne 11, 3) := by decide +kernel
theorem dM_read_59 : decode bM_read 59 = .ok (.aload_n 0, 1) := by decide +kernel
theorem dM_read_60 : decode bM_read 60 = .ok (.iload_n 1, 1) := by decide +kernel
theorem dM_read_61 : decode bM_read 61 = .ok (.invokevirtual 190, 3) := by decide +kernel
theorem dM_read_64 : decode bM_read 64 = .ok (.goto 69, 3) := by decide +kernel
theorem dM_read_67 : decode bM_read 67 = .ok (.aload_n 0, 1) := by decide +kernel
theorem dM_read_68 : decode bM_read 68 = .ok (.dup, 1) := by decide +kernel
theorem dM_read_69 : decode bM_read 69 = .ok (.getfield 168, 3) := by decide +kernel
theorem dM_read_72 : decode bM_read 72 = .ok (.iconst 1, 1) := by decide +kernel
theorem dM_read_73 : decode bM_read 73 = .ok (.isub, 1) := by decide +kernel
theorem dM_read_74 : decode bM_read 74 = .ok (.putfield 168, 3) := by decide +kernel
theorem dM_read_77 : decode bM_read 77 = .ok (.aload_n 0, 1) := by decide +kernel
theorem dM_read_78 : decode bM_read 78 = .ok (.aload_n 0, 1) := by decide +kernel
theorem dM_read_79 : decode bM_read 79 = .ok (.getfield 161, 3) := by decide +kernel
theorem dM_read_82 : decode bM_read 82 = .ok (.ifCond .ne 43, 3) := by decide +kernel
theorem dM_read_85 : decode bM_read 85 = .ok (.aload_n 0, 1) := by decide +kernel
theorem dM_read_86 : decode bM_read 86 = .ok (.aload_n 0, 1) := by decide +kernel
theorem dM_read_87 : decode bM_read 87 = .ok (.getfield 47, 3) := by decide +kernel
theorem dM_read_90 : decode bM_read 90 = .ok (.aload_n 0, 1) := by decide +kernel
theorem dM_read_91 : decode bM_read 91 = .ok (.getfield 77, 3) := by decide +kernel
theorem dM_read_94 : decode bM_read 94 = .ok (.aload_n 0, 1) := by decide +kernel
theorem dM_read_95 : decode bM_read 95 = .ok (.getfield 168, 3) := by decide +kernel
theorem dM_read_98 : decode bM_read 98 = .ok (.iaload, 1) := by decide +kernel
theorem dM_read_99 : decode bM_read 99 = .ok (.iaload, 1) := by decide +kernel
theorem dM_read_100 : decode bM_read 100 = .ok (.invokevirtual 183, 3) := by decide +kernel
theorem dM_read_103 : decode bM_read 103 = .ok (.aload_n 0, 1) := by decide +kernel
theorem dM_read_104 : decode bM_read 104 = .ok (.getfield 158, 3) := by decide +kernel
theorem dM_read_107 : decode bM_read 107 = .ok (.aload_n 0, 1) := by decide +kernel
theorem dM_read_108 : decode bM_read 108 = .ok (.getfield 47, 3) := by decide +kernel
theorem dM_read_111 : decode bM_read 111 = .ok (.aload_n 0, 1) := by decide +kernel
theorem dM_read_112 : decode bM_read 112 = .ok (.getfield 77, 3) := by decide +kernel
theorem dM_read_115 : decode bM_read 115 = .ok (.aload_n 0, 1) := by decide +kernel
theorem dM_read_116 : decode bM_read 116 = .ok (.getfield 168, 3) := by decide +kernel
theorem dM_read_119 : decode bM_read 119 = .ok (.iaload, 1) := by decide +kernel
theorem dM_read_120 : decode bM_read 120 = .ok (.iaload, 1) := by decide +kernel
theorem dM_read_121 : decode bM_read 121 = .ok (.isub, 1) := by decide +kernel
theorem dM_read_122 : decode bM_read 122 = .ok (.if_icmp .eq 7, 3) := by decide +kernel
theorem dM_read_125 : decode bM_read 125 = .ok (.iconst 1, 1) := by decide +kernel
theorem dM_read_126 : decode bM_read 126 = .ok (.goto 4, 3) := by decide +kernel
theorem dM_read_129 : decode bM_read 129 = .ok (.iconst 0, 1) := by decide +kernel
theorem dM_read_130 : decode bM_read 130 = .ok (.putfield 161, 3) := by decide +kernel
theorem dM_read_133 : decode bM_read 133 = .ok (.goto (-104), 3) := by decide +kernel
theorem dM_read_136 : decode bM_read 136 = .ok (.aload_n 0, 1) := by decide +kernel
theorem dM_read_137 : decode bM_read 137 = .ok (.getfield 161, 3) := by decide +kernel
theorem dM_read_140 : decode bM_read 140 = .ok (.ifCond .ne 18, 3) := by decide +kernel
theorem dM_read_143 : decode bM_read 143 = .ok (.aload_n 0, 1) := by decide +kernel
theorem dM_read_144 : decode bM_read 144 = .ok (.getfield 158, 3) := by decide +kernel
theorem dM_read_147 : decode bM_read 147 = .ok (.aload_n 0, 1) := by decide +kernel
theorem dM_read_148 : decode bM_read 148 = .ok (.getfield 155, 3) := by decide +kernel
theorem dM_read_151 : decode bM_read 151 = .ok (.if_icmp .ne 7, 3) := by decide +kernel
theorem dM_read_154 : decode bM_read 154 = .ok (.iconst 1, 1) := by decide +kernel
theorem dM_read_155 : decode bM_read 155 = .ok (.goto 4, 3) := by decide +kernel
theorem dM_read_158 : decode bM_read 158 = .ok (.iconst 0, 1) := by decide +kernel
theorem dM_read_159 : decode bM_read 159 = .ok (.ireturn, 1) := by decide +kernel
theorem dM_sound_0 : decode bM_sound 0 = .ok (.aload_n 0, 1) := by decide +kernel
theorem dM_sound_1 : decode bM_sound 1 = .ok (.invokevirtual 193, 3) := by decide +kernel
theorem dM_sound_4 : decode bM_sound 4 = .ok (.ireturn, 1) := by decide +kernel
theorem dM_depth_0 : decode bM_depth 0 = .ok (.aload_n 0, 1) := by decide +kernel
theorem dM_depth_1 : decode bM_depth 1 = .ok (.invokevirtual 193, 3) := by decide +kernel
theorem dM_depth_4 : decode bM_depth 4 = .ok (.ifCond .ne 5, 3) := by decide +kernel
theorem dM_depth_7 : decode bM_depth 7 = .ok (.iconst 0, 1) := by decide +kernel
theorem dM_depth_8 : decode bM_depth 8 = .ok (.ireturn, 1) := by decide +kernel
theorem dM_depth_9 : decode bM_depth 9 = .ok (.iconst 0, 1) := by decide +kernel
theorem dM_depth_10 : decode bM_depth 10 = .ok (.istore_n 1, 1) := by decide +kernel
theorem dM_depth_11 : decode bM_depth 11 = .ok (.iconst 0, 1) := by decide +kernel
theorem dM_depth_12 : decode bM_depth 12 = .ok (.istore_n 2, 1) := by decide +kernel
theorem dM_depth_13 : decode bM_depth 13 = .ok (.iload_n 2, 1) := by decide +kernel
theorem dM_depth_14 : decode bM_depth 14 = .ok (.aload_n 0, 1) := by decide +kernel
theorem dM_depth_15 : decode bM_depth 15 = .ok (.getfield 171, 3) := by decide +kernel
theorem dM_depth_18 : decode bM_depth 18 = .ok (.if_icmp .ge 30, 3) := by decide +kernel
theorem dM_depth_21 : decode bM_depth 21 = .ok (.aload_n 0, 1) := by decide +kernel
theorem dM_depth_22 : decode bM_depth 22 = .ok (.getfield 50, 3) := by decide +kernel
theorem dM_depth_25 : decode bM_depth 25 = .ok (.iload_n 2, 1) := by decide +kernel
theorem dM_depth_26 : decode bM_depth 26 = .ok (.iaload, 1) := by decide +kernel
theorem dM_depth_27 : decode bM_depth 27 = .ok (.iload_n 1, 1) := by decide +kernel
theorem dM_depth_28 : decode bM_depth 28 = .ok (.if_icmp .le 12, 3) := by decide +kernel
theorem dM_depth_31 : decode bM_depth 31 = .ok (.aload_n 0, 1) := by decide +kernel
theorem dM_depth_32 : decode bM_depth 32 = .ok (.getfield 50, 3) := by decide +kernel
theorem dM_depth_35 : decode bM_depth 35 = .ok (.iload_n 2, 1) := by decide +kernel
theorem dM_depth_36 : decode bM_depth 36 = .ok (.iaload, 1) := by decide +kernel
theorem dM_depth_37 : decode bM_depth 37 = .ok (.goto 4, 3) := by decide +kernel
theorem dM_depth_40 : decode bM_depth 40 = .ok (.iload_n 1, 1) := by decide +kernel
theorem dM_depth_41 : decode bM_depth 41 = .ok (.istore_n 1, 1) := by decide +kernel
theorem dM_depth_42 : decode bM_depth 42 = .ok (.iinc 2 1, 3) := by decide +kernel
theorem dM_depth_45 : decode bM_depth 45 = .ok (.goto (-32), 3) := by decide +kernel
theorem dM_depth_48 : decode bM_depth 48 = .ok (.iload_n 1, 1) := by decide +kernel
theorem dM_depth_49 : decode bM_depth 49 = .ok (.ireturn, 1) := by decide +kernel
theorem dM_elements_0 : decode bM_elements 0 = .ok (.aload_n 0, 1) := by decide +kernel
theorem dM_elements_1 : decode bM_elements 1 = .ok (.invokevirtual 193, 3) := by decide +kernel
theorem dM_elements_4 : decode bM_elements 4 = .ok (.ifCond .eq 10, 3) := by decide +kernel
theorem dM_elements_7 : decode bM_elements 7 = .ok (.aload_n 0, 1) := by decide +kernel
theorem dM_elements_8 : decode bM_elements 8 = .ok (.getfield 177, 3) := by decide +kernel
theorem dM_elements_11 : decode bM_elements 11 = .ok (.goto 4, 3) := by decide +kernel
theorem dM_elements_14 : decode bM_elements 14 = .ok (.iconst 0, 1) := by decide +kernel
theorem dM_elements_15 : decode bM_elements 15 = .ok (.ireturn, 1) := by decide +kernel
theorem dM_isMark_0 : decode bM_isMark 0 = .ok (.aload_n 0, 1) := by decide +kernel
theorem dM_isMark_1 : decode bM_isMark 1 = .ok (.getfield 68, 3) := by decide +kernel
theorem dM_isMark_4 : decode bM_isMark 4 = .ok (.iload_n 1, 1) := by decide +kernel
theorem dM_isMark_5 : decode bM_isMark 5 = .ok (.iaload, 1) := by decide +kernel
theorem dM_isMark_6 : decode bM_isMark 6 = .ok (.iconst 2, 1) := by decide +kernel
theorem dM_isMark_7 : decode bM_isMark 7 = .ok (.if_icmp .ne 41, 3) := by decide +kernel
theorem dM_isMark_10 : decode bM_isMark 10 = .ok (.aload_n 0, 1) := by decide +kernel
theorem dM_isMark_11 : decode bM_isMark 11 = .ok (.getfield 32, 3) := by decide +kernel
theorem dM_isMark_14 : decode bM_isMark 14 = .ok (.aload_n 0, 1) := by decide +kernel
theorem dM_isMark_15 : decode bM_isMark 15 = .ok (.getfield 65, 3) := by decide +kernel
theorem dM_isMark_18 : decode bM_isMark 18 = .ok (.iload_n 1, 1) := by decide +kernel
theorem dM_isMark_19 : decode bM_isMark 19 = .ok (.iaload, 1) := by decide +kernel
theorem dM_isMark_20 : decode bM_isMark 20 = .ok (.iaload, 1) := by decide +kernel
theorem dM_isMark_21 : decode bM_isMark 21 = .ok (.bipush 95, 2) := by decide +kernel
theorem dM_isMark_23 : decode bM_isMark 23 = .ok (.if_icmp .ne 25, 3) := by decide +kernel
theorem dM_isMark_26 : decode bM_isMark 26 = .ok (.aload_n 0, 1) := by decide +kernel
theorem dM_isMark_27 : decode bM_isMark 27 = .ok (.getfield 32, 3) := by decide +kernel
theorem dM_isMark_30 : decode bM_isMark 30 = .ok (.aload_n 0, 1) := by decide +kernel
theorem dM_isMark_31 : decode bM_isMark 31 = .ok (.getfield 65, 3) := by decide +kernel
theorem dM_isMark_34 : decode bM_isMark 34 = .ok (.iload_n 1, 1) := by decide +kernel
theorem dM_isMark_35 : decode bM_isMark 35 = .ok (.iaload, 1) := by decide +kernel
theorem dM_isMark_36 : decode bM_isMark 36 = .ok (.iconst 1, 1) := by decide +kernel
theorem dM_isMark_37 : decode bM_isMark 37 = .ok (.iadd, 1) := by decide +kernel
theorem dM_isMark_38 : decode bM_isMark 38 = .ok (.iaload, 1) := by decide +kernel
theorem dM_isMark_39 : decode bM_isMark 39 = .ok (.bipush 116, 2) := by decide +kernel
theorem dM_isMark_41 : decode bM_isMark 41 = .ok (.if_icmp .ne 7, 3) := by decide +kernel
theorem dM_isMark_44 : decode bM_isMark 44 = .ok (.iconst 1, 1) := by decide +kernel
theorem dM_isMark_45 : decode bM_isMark 45 = .ok (.goto 4, 3) := by decide +kernel
theorem dM_isMark_48 : decode bM_isMark 48 = .ok (.iconst 0, 1) := by decide +kernel
theorem dM_isMark_49 : decode bM_isMark 49 = .ok (.ireturn, 1) := by decide +kernel
theorem dM_mean_0 : decode bM_mean 0 = .ok (.iconst 0, 1) := by decide +kernel
theorem dM_mean_1 : decode bM_mean 1 = .ok (.istore_n 2, 1) := by decide +kernel
theorem dM_mean_2 : decode bM_mean 2 = .ok (.aload_n 0, 1) := by decide +kernel
theorem dM_mean_3 : decode bM_mean 3 = .ok (.getfield 56, 3) := by decide +kernel
theorem dM_mean_6 : decode bM_mean 6 = .ok (.iload_n 1, 1) := by decide +kernel
theorem dM_mean_7 : decode bM_mean 7 = .ok (.aload_n 0, 1) := by decide +kernel
theorem dM_mean_8 : decode bM_mean 8 = .ok (.getfield 53, 3) := by decide +kernel
theorem dM_mean_11 : decode bM_mean 11 = .ok (.iload_n 1, 1) := by decide +kernel
theorem dM_mean_12 : decode bM_mean 12 = .ok (.iaload, 1) := by decide +kernel
theorem dM_mean_13 : decode bM_mean 13 = .ok (.iastore, 1) := by decide +kernel
theorem dM_mean_14 : decode bM_mean 14 = .ok (.iconst 0, 1) := by decide +kernel
theorem dM_mean_15 : decode bM_mean 15 = .ok (.istore_n 3, 1) := by decide +kernel
theorem dM_mean_16 : decode bM_mean 16 = .ok (.iload_n 3, 1) := by decide +kernel
theorem dM_mean_17 : decode bM_mean 17 = .ok (.aload_n 0, 1) := by decide +kernel
theorem dM_mean_18 : decode bM_mean 18 = .ok (.getfield 177, 3) := by decide +kernel
theorem dM_mean_21 : decode bM_mean 21 = .ok (.if_icmp .ge 108, 3) := by decide +kernel
theorem dM_mean_24 : decode bM_mean 24 = .ok (.aload_n 0, 1) := by decide +kernel
theorem dM_mean_25 : decode bM_mean 25 = .ok (.getfield 59, 3) := by decide +kernel
theorem dM_mean_28 : decode bM_mean 28 = .ok (.iload_n 3, 1) := by decide +kernel
theorem dM_mean_29 : decode bM_mean 29 = .ok (.iaload, 1) := by decide +kernel
theorem dM_mean_30 : decode bM_mean 30 = .ok (.iload_n 1, 1) := by decide +kernel
theorem dM_mean_31 : decode bM_mean 31 = .ok (.if_icmp .ne 92, 3) := by decide +kernel
theorem dM_mean_34 : decode bM_mean 34 = .ok (.aload_n 0, 1) := by decide +kernel
theorem dM_mean_35 : decode bM_mean 35 = .ok (.iload_n 3, 1) := by decide +kernel
theorem dM_mean_36 : decode bM_mean 36 = .ok (.invokevirtual 197, 3) := by decide +kernel
theorem dM_mean_39 : decode bM_mean 39 = .ok (.ifCond .eq 84, 3) := by decide +kernel
theorem dM_mean_42 : decode bM_mean 42 = .ok (.iinc 2 1, 3) := by decide +kernel
theorem dM_mean_45 : decode bM_mean 45 = .ok (.aload_n 0, 1) := by decide +kernel
theorem dM_mean_46 : decode bM_mean 46 = .ok (.getfield 62, 3) := by decide +kernel
theorem dM_mean_49 : decode bM_mean 49 = .ok (.iload_n 3, 1) := by decide +kernel
theorem dM_mean_50 : decode bM_mean 50 = .ok (.iaload, 1) := by decide +kernel
theorem dM_mean_51 : decode bM_mean 51 = .ok (.iconst 2, 1) := by decide +kernel
theorem dM_mean_52 : decode bM_mean 52 = .ok (.if_icmp .ne 17, 3) := by decide +kernel
theorem dM_mean_55 : decode bM_mean 55 = .ok (.aload_n 0, 1) := by decide +kernel
theorem dM_mean_56 : decode bM_mean 56 = .ok (.aload_n 0, 1) := by decide +kernel
theorem dM_mean_57 : decode bM_mean 57 = .ok (.getfield 71, 3) := by decide +kernel
theorem dM_mean_60 : decode bM_mean 60 = .ok (.iload_n 3, 1) := by decide +kernel
theorem dM_mean_61 : decode bM_mean 61 = .ok (.iaload, 1) := by decide +kernel
theorem dM_mean_62 : decode bM_mean 62 = .ok (.invokevirtual 183, 3) := by decide +kernel
theorem dM_mean_65 : decode bM_mean 65 = .ok (.iconst 2, 1) := by decide +kernel
theorem dM_mean_66 : decode bM_mean 66 = .ok (.if_icmp .eq 5, 3) := by decide +kernel
theorem dM_mean_69 : decode bM_mean 69 = .ok (.iconst 0, 1) := by decide +kernel
theorem dM_mean_70 : decode bM_mean 70 = .ok (.ireturn, 1) := by decide +kernel
theorem dM_mean_71 : decode bM_mean 71 = .ok (.aload_n 0, 1) := by decide +kernel
theorem dM_mean_72 : decode bM_mean 72 = .ok (.getfield 32, 3) := by decide +kernel
theorem dM_mean_75 : decode bM_mean 75 = .ok (.aload_n 0, 1) := by decide +kernel
theorem dM_mean_76 : decode bM_mean 76 = .ok (.getfield 71, 3) := by decide +kernel
theorem dM_mean_79 : decode bM_mean 79 = .ok (.iload_n 3, 1) := by decide +kernel
theorem dM_mean_80 : decode bM_mean 80 = .ok (.iaload, 1) := by decide +kernel
theorem dM_mean_81 : decode bM_mean 81 = .ok (.iconst 4, 1) := by decide +kernel
theorem dM_mean_82 : decode bM_mean 82 = .ok (.iadd, 1) := by decide +kernel
theorem dM_mean_83 : decode bM_mean 83 = .ok (.iaload, 1) := by decide +kernel
theorem dM_mean_84 : decode bM_mean 84 = .ok (.bipush 65, 2) := by decide +kernel
theorem dM_mean_86 : decode bM_mean 86 = .ok (.isub, 1) := by decide +kernel
theorem dM_mean_87 : decode bM_mean 87 = .ok (.istore 4, 2) := by decide +kernel
theorem dM_mean_89 : decode bM_mean 89 = .ok (.aload_n 0, 1) := by decide +kernel
theorem dM_mean_90 : decode bM_mean 90 = .ok (.iload 4, 2) := by decide +kernel
theorem dM_mean_92 : decode bM_mean 92 = .ok (.invokevirtual 94, 3) := by decide +kernel
theorem dM_mean_95 : decode bM_mean 95 = .ok (.ifCond .eq 18, 3) := by decide +kernel
theorem dM_mean_98 : decode bM_mean 98 = .ok (.aload_n 0, 1) := by decide +kernel
theorem dM_mean_99 : decode bM_mean 99 = .ok (.iload 4, 2) := by decide +kernel
theorem dM_mean_101 : decode bM_mean 101 = .ok (.aload_n 0, 1) := by decide +kernel
theorem dM_mean_102 : decode bM_mean 102 = .ok (.getfield 53, 3) := by decide +kernel
theorem dM_mean_105 : decode bM_mean 105 = .ok (.iload_n 1, 1) := by decide +kernel
theorem dM_mean_106 : decode bM_mean 106 = .ok (.iaload, 1) := by decide +kernel
theorem dM_mean_107 : decode bM_mean 107 = .ok (.invokevirtual 84, 3) := by decide +kernel
theorem dM_mean_110 : decode bM_mean 110 = .ok (.ifCond .ne 5, 3) := by decide +kernel
theorem dM_mean_113 : decode bM_mean 113 = .ok (.iconst 0, 1) := by decide +kernel
theorem dM_mean_114 : decode bM_mean 114 = .ok (.ireturn, 1) := by decide +kernel
theorem dM_mean_115 : decode bM_mean 115 = .ok (.aload_n 0, 1) := by decide +kernel
theorem dM_mean_116 : decode bM_mean 116 = .ok (.getfield 56, 3) := by decide +kernel
theorem dM_mean_119 : decode bM_mean 119 = .ok (.iload_n 1, 1) := by decide +kernel
theorem dM_mean_120 : decode bM_mean 120 = .ok (.iload 4, 2) := by decide +kernel
theorem dM_mean_122 : decode bM_mean 122 = .ok (.iastore, 1) := by decide +kernel
theorem dM_mean_123 : decode bM_mean 123 = .ok (.iinc 3 1, 3) := by decide +kernel
theorem dM_mean_126 : decode bM_mean 126 = .ok (.goto (-110), 3) := by decide +kernel
theorem dM_mean_129 : decode bM_mean 129 = .ok (.iload_n 2, 1) := by decide +kernel
theorem dM_mean_130 : decode bM_mean 130 = .ok (.iconst 1, 1) := by decide +kernel
theorem dM_mean_131 : decode bM_mean 131 = .ok (.if_icmp .gt 7, 3) := by decide +kernel
theorem dM_mean_134 : decode bM_mean 134 = .ok (.iconst 1, 1) := by decide +kernel
theorem dM_mean_135 : decode bM_mean 135 = .ok (.goto 4, 3) := by decide +kernel
theorem dM_mean_138 : decode bM_mean 138 = .ok (.iconst 0, 1) := by decide +kernel
theorem dM_mean_139 : decode bM_mean 139 = .ok (.ireturn, 1) := by decide +kernel
theorem dM_about_0 : decode bM_about 0 = .ok (.aload_n 0, 1) := by decide +kernel
theorem dM_about_1 : decode bM_about 1 = .ok (.getfield 68, 3) := by decide +kernel
theorem dM_about_4 : decode bM_about 4 = .ok (.iload_n 1, 1) := by decide +kernel
theorem dM_about_5 : decode bM_about 5 = .ok (.iaload, 1) := by decide +kernel
theorem dM_about_6 : decode bM_about 6 = .ok (.iconst 1, 1) := by decide +kernel
theorem dM_about_7 : decode bM_about 7 = .ok (.if_icmp .ne 35, 3) := by decide +kernel
theorem dM_about_10 : decode bM_about 10 = .ok (.aload_n 0, 1) := by decide +kernel
theorem dM_about_11 : decode bM_about 11 = .ok (.aload_n 0, 1) := by decide +kernel
theorem dM_about_12 : decode bM_about 12 = .ok (.getfield 56, 3) := by decide +kernel
theorem dM_about_15 : decode bM_about 15 = .ok (.aload_n 0, 1) := by decide +kernel
theorem dM_about_16 : decode bM_about 16 = .ok (.getfield 59, 3) := by decide +kernel
theorem dM_about_19 : decode bM_about 19 = .ok (.iload_n 1, 1) := by decide +kernel
theorem dM_about_20 : decode bM_about 20 = .ok (.iaload, 1) := by decide +kernel
theorem dM_about_21 : decode bM_about 21 = .ok (.iaload, 1) := by decide +kernel
theorem dM_about_22 : decode bM_about 22 = .ok (.aload_n 0, 1) := by decide +kernel
theorem dM_about_23 : decode bM_about 23 = .ok (.getfield 32, 3) := by decide +kernel
theorem dM_about_26 : decode bM_about 26 = .ok (.aload_n 0, 1) := by decide +kernel
theorem dM_about_27 : decode bM_about 27 = .ok (.getfield 65, 3) := by decide +kernel
theorem dM_about_30 : decode bM_about 30 = .ok (.iload_n 1, 1) := by decide +kernel
theorem dM_about_31 : decode bM_about 31 = .ok (.iaload, 1) := by decide +kernel
theorem dM_about_32 : decode bM_about 32 = .ok (.iaload, 1) := by decide +kernel
theorem dM_about_33 : decode bM_about 33 = .ok (.bipush 97, 2) := by decide +kernel
theorem dM_about_35 : decode bM_about 35 = .ok (.isub, 1) := by decide +kernel
theorem dM_about_36 : decode bM_about 36 = .ok (.invokevirtual 101, 3) := by decide +kernel
theorem dM_about_39 : decode bM_about 39 = .ok (.goto 4, 3) := by decide +kernel
theorem dM_about_42 : decode bM_about 42 = .ok (.iconst (-1), 1) := by decide +kernel
theorem dM_about_43 : decode bM_about 43 = .ok (.ireturn, 1) := by decide +kernel
theorem dM_typeFits_0 : decode bM_typeFits 0 = .ok (.iload_n 1, 1) := by decide +kernel
theorem dM_typeFits_1 : decode bM_typeFits 1 = .ok (.iconst 3, 1) := by decide +kernel
theorem dM_typeFits_2 : decode bM_typeFits 2 = .ok (.if_icmp .ne 20, 3) := by decide +kernel
theorem dM_typeFits_5 : decode bM_typeFits 5 = .ok (.iload_n 0, 1) := by decide +kernel
theorem dM_typeFits_6 : decode bM_typeFits 6 = .ok (.bipush 10, 2) := by decide +kernel
theorem dM_typeFits_8 : decode bM_typeFits 8 = .ok (.if_icmp .eq 8, 3) := by decide +kernel
theorem dM_typeFits_11 : decode bM_typeFits 11 = .ok (.iload_n 0, 1) := by decide +kernel
theorem dM_typeFits_12 : decode bM_typeFits 12 = .ok (.iconst 3, 1) := by decide +kernel
theorem dM_typeFits_13 : decode bM_typeFits 13 = .ok (.if_icmp .ne 7, 3) := by decide +kernel
theorem dM_typeFits_16 : decode bM_typeFits 16 = .ok (.iconst 1, 1) := by decide +kernel
theorem dM_typeFits_17 : decode bM_typeFits 17 = .ok (.goto 4, 3) := by decide +kernel
theorem dM_typeFits_20 : decode bM_typeFits 20 = .ok (.iconst 0, 1) := by decide +kernel
theorem dM_typeFits_21 : decode bM_typeFits 21 = .ok (.ireturn, 1) := by decide +kernel
theorem dM_typeFits_22 : decode bM_typeFits 22 = .ok (.iload_n 1, 1) := by decide +kernel
theorem dM_typeFits_23 : decode bM_typeFits 23 = .ok (.ifCond .ne 17, 3) := by decide +kernel
theorem dM_typeFits_26 : decode bM_typeFits 26 = .ok (.iload_n 0, 1) := by decide +kernel
theorem dM_typeFits_27 : decode bM_typeFits 27 = .ok (.bipush 16, 2) := by decide +kernel
theorem dM_typeFits_29 : decode bM_typeFits 29 = .ok (.if_icmp .ne 7, 3) := by decide +kernel
theorem dM_typeFits_32 : decode bM_typeFits 32 = .ok (.iconst 1, 1) := by decide +kernel
theorem dM_typeFits_33 : decode bM_typeFits 33 = .ok (.goto 43, 3) := by decide +kernel
theorem dM_typeFits_36 : decode bM_typeFits 36 = .ok (.iconst 0, 1) := by decide +kernel
theorem dM_typeFits_37 : decode bM_typeFits 37 = .ok (.goto 39, 3) := by decide +kernel
theorem dM_typeFits_40 : decode bM_typeFits 40 = .ok (.iload_n 1, 1) := by decide +kernel
theorem dM_typeFits_41 : decode bM_typeFits 41 = .ok (.iconst 1, 1) := by decide +kernel
theorem dM_typeFits_42 : decode bM_typeFits 42 = .ok (.if_icmp .ne 23, 3) := by decide +kernel
theorem dM_typeFits_45 : decode bM_typeFits 45 = .ok (.iload_n 0, 1) := by decide +kernel
theorem dM_typeFits_46 : decode bM_typeFits 46 = .ok (.bipush 18, 2) := by decide +kernel
theorem dM_typeFits_48 : decode bM_typeFits 48 = .ok (.if_icmp .eq 9, 3) := by decide +kernel
theorem dM_typeFits_51 : decode bM_typeFits 51 = .ok (.iload_n 0, 1) := by decide +kernel
theorem dM_typeFits_52 : decode bM_typeFits 52 = .ok (.bipush 16, 2) := by decide +kernel
theorem dM_typeFits_54 : decode bM_typeFits 54 = .ok (.if_icmp .ne 7, 3) := by decide +kernel
theorem dM_typeFits_57 : decode bM_typeFits 57 = .ok (.iconst 1, 1) := by decide +kernel
theorem dM_typeFits_58 : decode bM_typeFits 58 = .ok (.goto 18, 3) := by decide +kernel
theorem dM_typeFits_61 : decode bM_typeFits 61 = .ok (.iconst 0, 1) := by decide +kernel
theorem dM_typeFits_62 : decode bM_typeFits 62 = .ok (.goto 14, 3) := by decide +kernel
theorem dM_typeFits_65 : decode bM_typeFits 65 = .ok (.iload_n 0, 1) := by decide +kernel
theorem dM_typeFits_66 : decode bM_typeFits 66 = .ok (.bipush 8, 2) := by decide +kernel
theorem dM_typeFits_68 : decode bM_typeFits 68 = .ok (.if_icmp .ne 7, 3) := by decide +kernel
theorem dM_typeFits_71 : decode bM_typeFits 71 = .ok (.iconst 1, 1) := by decide +kernel
theorem dM_typeFits_72 : decode bM_typeFits 72 = .ok (.goto 4, 3) := by decide +kernel
theorem dM_typeFits_75 : decode bM_typeFits 75 = .ok (.iconst 0, 1) := by decide +kernel
theorem dM_typeFits_76 : decode bM_typeFits 76 = .ok (.ireturn, 1) := by decide +kernel
theorem dM_isKind_0 : decode bM_isKind 0 = .ok (.iconst 0, 1) := by decide +kernel
theorem dM_isKind_1 : decode bM_isKind 1 = .ok (.istore_n 3, 1) := by decide +kernel
theorem dM_isKind_2 : decode bM_isKind 2 = .ok (.iload_n 1, 1) := by decide +kernel
theorem dM_isKind_3 : decode bM_isKind 3 = .ok (.istore 4, 2) := by decide +kernel
theorem dM_isKind_5 : decode bM_isKind 5 = .ok (.iload 4, 2) := by decide +kernel
theorem dM_isKind_7 : decode bM_isKind 7 = .ok (.ifCond .lt 31, 3) := by decide +kernel
theorem dM_isKind_10 : decode bM_isKind 10 = .ok (.iload_n 3, 1) := by decide +kernel
theorem dM_isKind_11 : decode bM_isKind 11 = .ok (.ifCond .ne 9, 3) := by decide +kernel
theorem dM_isKind_14 : decode bM_isKind 14 = .ok (.iload 4, 2) := by decide +kernel
theorem dM_isKind_16 : decode bM_isKind 16 = .ok (.iload_n 2, 1) := by decide +kernel
theorem dM_isKind_17 : decode bM_isKind 17 = .ok (.if_icmp .ne 7, 3) := by decide +kernel
theorem dM_isKind_20 : decode bM_isKind 20 = .ok (.iconst 1, 1) := by decide +kernel
theorem dM_isKind_21 : decode bM_isKind 21 = .ok (.goto 4, 3) := by decide +kernel
theorem dM_isKind_24 : decode bM_isKind 24 = .ok (.iconst 0, 1) := by decide +kernel
theorem dM_isKind_25 : decode bM_isKind 25 = .ok (.istore_n 3, 1) := by decide +kernel
theorem dM_isKind_26 : decode bM_isKind 26 = .ok (.aload_n 0, 1) := by decide +kernel
theorem dM_isKind_27 : decode bM_isKind 27 = .ok (.getfield 7, 3) := by decide +kernel
theorem dM_isKind_30 : decode bM_isKind 30 = .ok (.iload 4, 2) := by decide +kernel
theorem dM_isKind_32 : decode bM_isKind 32 = .ok (.iaload, 1) := by decide +kernel
theorem dM_isKind_33 : decode bM_isKind 33 = .ok (.istore 4, 2) := by decide +kernel
theorem dM_isKind_35 : decode bM_isKind 35 = .ok (.goto (-30), 3) := by decide +kernel
theorem dM_isKind_38 : decode bM_isKind 38 = .ok (.iload_n 3, 1) := by decide +kernel
theorem dM_isKind_39 : decode bM_isKind 39 = .ok (.ireturn, 1) := by decide +kernel
theorem dM_fits_0 : decode bM_fits 0 = .ok (.aload_n 0, 1) := by decide +kernel
theorem dM_fits_1 : decode bM_fits 1 = .ok (.iload_n 1, 1) := by decide +kernel
theorem dM_fits_2 : decode bM_fits 2 = .ok (.invokevirtual 200, 3) := by decide +kernel
theorem dM_fits_5 : decode bM_fits 5 = .ok (.ifCond .ne 5, 3) := by decide +kernel
theorem dM_fits_8 : decode bM_fits 8 = .ok (.iconst 0, 1) := by decide +kernel
theorem dM_fits_9 : decode bM_fits 9 = .ok (.ireturn, 1) := by decide +kernel
theorem dM_fits_10 : decode bM_fits 10 = .ok (.iconst 0, 1) := by decide +kernel
theorem dM_fits_11 : decode bM_fits 11 = .ok (.istore_n 2, 1) := by decide +kernel
theorem dM_fits_12 : decode bM_fits 12 = .ok (.iload_n 2, 1) := by decide +kernel
theorem dM_fits_13 : decode bM_fits 13 = .ok (.aload_n 0, 1) := by decide +kernel
theorem dM_fits_14 : decode bM_fits 14 = .ok (.getfield 177, 3) := by decide +kernel
theorem dM_fits_17 : decode bM_fits 17 = .ok (.if_icmp .ge 130, 3) := by decide +kernel
theorem dM_fits_20 : decode bM_fits 20 = .ok (.aload_n 0, 1) := by decide +kernel
theorem dM_fits_21 : decode bM_fits 21 = .ok (.getfield 59, 3) := by decide +kernel
theorem dM_fits_24 : decode bM_fits 24 = .ok (.iload_n 2, 1) := by decide +kernel
theorem dM_fits_25 : decode bM_fits 25 = .ok (.iaload, 1) := by decide +kernel
theorem dM_fits_26 : decode bM_fits 26 = .ok (.iload_n 1, 1) := by decide +kernel
theorem dM_fits_27 : decode bM_fits 27 = .ok (.if_icmp .ne 114, 3) := by decide +kernel
theorem dM_fits_30 : decode bM_fits 30 = .ok (.aload_n 0, 1) := by decide +kernel
theorem dM_fits_31 : decode bM_fits 31 = .ok (.iload_n 2, 1) := by decide +kernel
theorem dM_fits_32 : decode bM_fits 32 = .ok (.invokevirtual 197, 3) := by decide +kernel
theorem dM_fits_35 : decode bM_fits 35 = .ok (.ifCond .ne 106, 3) := by decide +kernel
theorem dM_fits_38 : decode bM_fits 38 = .ok (.aload_n 0, 1) := by decide +kernel
theorem dM_fits_39 : decode bM_fits 39 = .ok (.iload_n 2, 1) := by decide +kernel
theorem dM_fits_40 : decode bM_fits 40 = .ok (.invokevirtual 203, 3) := by decide +kernel
theorem dM_fits_43 : decode bM_fits 43 = .ok (.istore_n 3, 1) := by decide +kernel
theorem dM_fits_44 : decode bM_fits 44 = .ok (.iload_n 3, 1) := by decide +kernel
theorem dM_fits_45 : decode bM_fits 45 = .ok (.ifCond .lt 21, 3) := by decide +kernel
theorem dM_fits_48 : decode bM_fits 48 = .ok (.aload_n 0, 1) := by decide +kernel
theorem dM_fits_49 : decode bM_fits 49 = .ok (.getfield 62, 3) := by decide +kernel
theorem dM_fits_52 : decode bM_fits 52 = .ok (.iload_n 2, 1) := by decide +kernel
theorem dM_fits_53 : decode bM_fits 53 = .ok (.iaload, 1) := by decide +kernel
theorem dM_fits_54 : decode bM_fits 54 = .ok (.aload_n 0, 1) := by decide +kernel
theorem dM_fits_55 : decode bM_fits 55 = .ok (.getfield 19, 3) := by decide +kernel
theorem dM_fits_58 : decode bM_fits 58 = .ok (.iload_n 3, 1) := by decide +kernel
theorem dM_fits_59 : decode bM_fits 59 = .ok (.iaload, 1) := by decide +kernel
theorem dM_fits_60 : decode bM_fits 60 = .ok (.invokestatic 206, 3) := by decide +kernel
theorem dM_fits_63 : decode bM_fits 63 = .ok (.ifCond .ne 5, 3) := by decide +kernel
theorem dM_fits_66 : decode bM_fits 66 = .ok (.iconst 0, 1) := by decide +kernel
theorem dM_fits_67 : decode bM_fits 67 = .ok (.ireturn, 1) := by decide +kernel
theorem dM_fits_68 : decode bM_fits 68 = .ok (.iconst 0, 1) := by decide +kernel
theorem dM_fits_69 : decode bM_fits 69 = .ok (.istore 4, 2) := by decide +kernel
theorem dM_fits_71 : decode bM_fits 71 = .ok (.iload 4, 2) := by decide +kernel
theorem dM_fits_73 : decode bM_fits 73 = .ok (.iload_n 2, 1) := by decide +kernel
theorem dM_fits_74 : decode bM_fits 74 = .ok (.if_icmp .ge 41, 3) := by decide +kernel
theorem dM_fits_77 : decode bM_fits 77 = .ok (.aload_n 0, 1) := by decide +kernel
theorem dM_fits_78 : decode bM_fits 78 = .ok (.getfield 59, 3) := by decide +kernel
theorem dM_fits_81 : decode bM_fits 81 = .ok (.iload 4, 2) := by decide +kernel
theorem dM_fits_83 : decode bM_fits 83 = .ok (.iaload, 1) := by decide +kernel
theorem dM_fits_84 : decode bM_fits 84 = .ok (.iload_n 1, 1) := by decide +kernel
theorem dM_fits_85 : decode bM_fits 85 = .ok (.if_icmp .ne 24, 3) := by decide +kernel
theorem dM_fits_88 : decode bM_fits 88 = .ok (.aload_n 0, 1) := by decide +kernel
theorem dM_fits_89 : decode bM_fits 89 = .ok (.iload 4, 2) := by decide +kernel
theorem dM_fits_91 : decode bM_fits 91 = .ok (.invokevirtual 197, 3) := by decide +kernel
theorem dM_fits_94 : decode bM_fits 94 = .ok (.ifCond .ne 15, 3) := by decide +kernel
theorem dM_fits_97 : decode bM_fits 97 = .ok (.aload_n 0, 1) := by decide +kernel
theorem dM_fits_98 : decode bM_fits 98 = .ok (.iload 4, 2) := by decide +kernel
theorem dM_fits_100 : decode bM_fits 100 = .ok (.invokevirtual 203, 3) := by decide +kernel
theorem dM_fits_103 : decode bM_fits 103 = .ok (.iload_n 3, 1) := by decide +kernel
theorem dM_fits_104 : decode bM_fits 104 = .ok (.if_icmp .ne 5, 3) := by decide +kernel
theorem dM_fits_107 : decode bM_fits 107 = .ok (.iconst 0, 1) := by decide +kernel
theorem dM_fits_108 : decode bM_fits 108 = .ok (.ireturn, 1) := by decide +kernel
theorem dM_fits_109 : decode bM_fits 109 = .ok (.iinc 4 1, 3) := by decide +kernel
theorem dM_fits_112 : decode bM_fits 112 = .ok (.goto (-41), 3) := by decide +kernel
theorem dM_fits_115 : decode bM_fits 115 = .ok (.aload_n 0, 1) := by decide +kernel
theorem dM_fits_116 : decode bM_fits 116 = .ok (.getfield 74, 3) := by decide +kernel
theorem dM_fits_119 : decode bM_fits 119 = .ok (.iload_n 2, 1) := by decide +kernel
theorem dM_fits_120 : decode bM_fits 120 = .ok (.iaload, 1) := by decide +kernel
theorem dM_fits_121 : decode bM_fits 121 = .ok (.ifCond .lt 20, 3) := by decide +kernel
theorem dM_fits_124 : decode bM_fits 124 = .ok (.aload_n 0, 1) := by decide +kernel
theorem dM_fits_125 : decode bM_fits 125 = .ok (.getfield 53, 3) := by decide +kernel
theorem dM_fits_128 : decode bM_fits 128 = .ok (.aload_n 0, 1) := by decide +kernel
