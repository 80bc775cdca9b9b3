/-! decode rows of class PropertyDocumentsModel: laid by wip/gen/names.py -/
theorem dM_end_26 : decode bM_end 26 = .ok (.getfield 121, 3) := by decide +kernel
theorem dM_end_29 : decode bM_end 29 = .ok (.iload_n 1, 1) := by decide +kernel
theorem dM_end_30 : decode bM_end 30 = .ok (.isub, 1) := by decide +kernel
theorem dM_end_31 : decode bM_end 31 = .ok (.istore_n 2, 1) := by decide +kernel
theorem dM_end_32 : decode bM_end 32 = .ok (.aload_n 0, 1) := by decide +kernel
theorem dM_end_33 : decode bM_end 33 = .ok (.getfield 35, 3) := by decide +kernel
theorem dM_end_36 : decode bM_end 36 = .ok (.iload_n 1, 1) := by decide +kernel
theorem dM_end_37 : decode bM_end 37 = .ok (.iload_n 2, 1) := by decide +kernel
theorem dM_end_38 : decode bM_end 38 = .ok (.sipush 255, 3) := by decide +kernel
theorem dM_end_41 : decode bM_end 41 = .ok (.iand, 1) := by decide +kernel
theorem dM_end_42 : decode bM_end 42 = .ok (.iastore, 1) := by decide +kernel
theorem dM_end_43 : decode bM_end 43 = .ok (.aload_n 0, 1) := by decide +kernel
theorem dM_end_44 : decode bM_end 44 = .ok (.getfield 35, 3) := by decide +kernel
theorem dM_end_47 : decode bM_end 47 = .ok (.iload_n 1, 1) := by decide +kernel
theorem dM_end_48 : decode bM_end 48 = .ok (.iconst 1, 1) := by decide +kernel
theorem dM_end_49 : decode bM_end 49 = .ok (.iadd, 1) := by decide +kernel
theorem dM_end_50 : decode bM_end 50 = .ok (.iload_n 2, 1) := by decide +kernel
theorem dM_end_51 : decode bM_end 51 = .ok (.bipush 8, 2) := by decide +kernel
theorem dM_end_53 : decode bM_end 53 = .ok (.ishr, 1) := by decide +kernel
theorem dM_end_54 : decode bM_end 54 = .ok (.iastore, 1) := by decide +kernel
theorem dM_end_55 : decode bM_end 55 = .ok (.aload_n 0, 1) := by decide +kernel
theorem dM_end_56 : decode bM_end 56 = .ok (.getfield 35, 3) := by decide +kernel
theorem dM_end_59 : decode bM_end 59 = .ok (.iload_n 1, 1) := by decide +kernel
theorem dM_end_60 : decode bM_end 60 = .ok (.iconst 2, 1) := by decide +kernel
theorem dM_end_61 : decode bM_end 61 = .ok (.iadd, 1) := by decide +kernel
theorem dM_end_62 : decode bM_end 62 = .ok (.iconst 0, 1) := by decide +kernel
theorem dM_end_63 : decode bM_end 63 = .ok (.iastore, 1) := by decide +kernel
theorem dM_end_64 : decode bM_end 64 = .ok (.aload_n 0, 1) := by decide +kernel
theorem dM_end_65 : decode bM_end 65 = .ok (.getfield 35, 3) := by decide +kernel
theorem dM_end_68 : decode bM_end 68 = .ok (.iload_n 1, 1) := by decide +kernel
theorem dM_end_69 : decode bM_end 69 = .ok (.iconst 3, 1) := by decide +kernel
theorem dM_end_70 : decode bM_end 70 = .ok (.iadd, 1) := by decide +kernel
theorem dM_end_71 : decode bM_end 71 = .ok (.iconst 0, 1) := by decide +kernel
theorem dM_end_72 : decode bM_end 72 = .ok (.iastore, 1) := by decide +kernel
theorem dM_end_73 : decode bM_end 73 = .ok (.return_, 1) := by decide +kernel
theorem dM_element_0 : decode bM_element 0 = .ok (.aload_n 0, 1) := by decide +kernel
theorem dM_element_1 : decode bM_element 1 = .ok (.getfield 28, 3) := by decide +kernel
theorem dM_element_4 : decode bM_element 4 = .ok (.bipush 8, 2) := by decide +kernel
theorem dM_element_6 : decode bM_element 6 = .ok (.iload_n 1, 1) := by decide +kernel
theorem dM_element_7 : decode bM_element 7 = .ok (.imul, 1) := by decide +kernel
theorem dM_element_8 : decode bM_element 8 = .ok (.iload_n 2, 1) := by decide +kernel
theorem dM_element_9 : decode bM_element 9 = .ok (.iadd, 1) := by decide +kernel
theorem dM_element_10 : decode bM_element 10 = .ok (.laload, 1) := by decide +kernel
theorem dM_element_11 : decode bM_element 11 = .ok (.lstore_n 3, 1) := by decide +kernel
theorem dM_element_12 : decode bM_element 12 = .ok (.aload_n 0, 1) := by decide +kernel
theorem dM_element_13 : decode bM_element 13 = .ok (.getfield 19, 3) := by decide +kernel
theorem dM_element_16 : decode bM_element 16 = .ok (.iload_n 2, 1) := by decide +kernel
theorem dM_element_17 : decode bM_element 17 = .ok (.iaload, 1) := by decide +kernel
theorem dM_element_18 : decode bM_element 18 = .ok (.iconst 3, 1) := by decide +kernel
theorem dM_element_19 : decode bM_element 19 = .ok (.if_icmp .ne 13, 3) := by decide +kernel
theorem dM_element_22 : decode bM_element 22 = .ok (.lload_n 3, 1) := by decide +kernel
theorem dM_element_23 : decode bM_element 23 = .ok (.lconst 0, 1) := by decide +kernel
theorem dM_element_24 : decode bM_element 24 = .ok (.lcmp, 1) := by decide +kernel
theorem dM_element_25 : decode bM_element 25 = .ok (.ifCond .ge 7, 3) := by decide +kernel
theorem dM_element_28 : decode bM_element 28 = .ok (.iconst 1, 1) := by decide +kernel
theorem dM_element_29 : decode bM_element 29 = .ok (.goto 4, 3) := by decide +kernel
theorem dM_element_32 : decode bM_element 32 = .ok (.iconst 0, 1) := by decide +kernel
theorem dM_element_33 : decode bM_element 33 = .ok (.istore 5, 2) := by decide +kernel
theorem dM_element_35 : decode bM_element 35 = .ok (.aload_n 0, 1) := by decide +kernel
theorem dM_element_36 : decode bM_element 36 = .ok (.aload_n 0, 1) := by decide +kernel
theorem dM_element_37 : decode bM_element 37 = .ok (.getfield 19, 3) := by decide +kernel
theorem dM_element_40 : decode bM_element 40 = .ok (.iload_n 2, 1) := by decide +kernel
theorem dM_element_41 : decode bM_element 41 = .ok (.iaload, 1) := by decide +kernel
theorem dM_element_42 : decode bM_element 42 = .ok (.ifCond .ne 8, 3) := by decide +kernel
theorem dM_element_45 : decode bM_element 45 = .ok (.bipush 16, 2) := by decide +kernel
theorem dM_element_47 : decode bM_element 47 = .ok (.goto 44, 3) := by decide +kernel
theorem dM_element_50 : decode bM_element 50 = .ok (.aload_n 0, 1) := by decide +kernel
theorem dM_element_51 : decode bM_element 51 = .ok (.getfield 19, 3) := by decide +kernel
theorem dM_element_54 : decode bM_element 54 = .ok (.iload_n 2, 1) := by decide +kernel
theorem dM_element_55 : decode bM_element 55 = .ok (.iaload, 1) := by decide +kernel
theorem dM_element_56 : decode bM_element 56 = .ok (.iconst 1, 1) := by decide +kernel
theorem dM_element_57 : decode bM_element 57 = .ok (.if_icmp .ne 8, 3) := by decide +kernel
theorem dM_element_60 : decode bM_element 60 = .ok (.bipush 18, 2) := by decide +kernel
theorem dM_element_62 : decode bM_element 62 = .ok (.goto 29, 3) := by decide +kernel
theorem dM_element_65 : decode bM_element 65 = .ok (.aload_n 0, 1) := by decide +kernel
theorem dM_element_66 : decode bM_element 66 = .ok (.getfield 19, 3) := by decide +kernel
theorem dM_element_69 : decode bM_element 69 = .ok (.iload_n 2, 1) := by decide +kernel
theorem dM_element_70 : decode bM_element 70 = .ok (.iaload, 1) := by decide +kernel
theorem dM_element_71 : decode bM_element 71 = .ok (.iconst 2, 1) := by decide +kernel
theorem dM_element_72 : decode bM_element 72 = .ok (.if_icmp .ne 8, 3) := by decide +kernel
theorem dM_element_75 : decode bM_element 75 = .ok (.bipush 8, 2) := by decide +kernel
theorem dM_element_77 : decode bM_element 77 = .ok (.goto 14, 3) := by decide +kernel
theorem dM_element_80 : decode bM_element 80 = .ok (.iload 5, 2) := by decide +kernel
theorem dM_element_82 : decode bM_element 82 = .ok (.ifCond .eq 8, 3) := by decide +kernel
theorem dM_element_85 : decode bM_element 85 = .ok (.bipush 10, 2) := by decide +kernel
theorem dM_element_87 : decode bM_element 87 = .ok (.goto 4, 3) := by decide +kernel
theorem dM_element_90 : decode bM_element 90 = .ok (.iconst 3, 1) := by decide +kernel
theorem dM_element_91 : decode bM_element 91 = .ok (.invokevirtual 130, 3) := by decide +kernel
theorem dM_element_94 : decode bM_element 94 = .ok (.aload_n 0, 1) := by decide +kernel
theorem dM_element_95 : decode bM_element 95 = .ok (.bipush 97, 2) := by decide +kernel
theorem dM_element_97 : decode bM_element 97 = .ok (.aload_n 0, 1) := by decide +kernel
theorem dM_element_98 : decode bM_element 98 = .ok (.getfield 16, 3) := by decide +kernel
theorem dM_element_101 : decode bM_element 101 = .ok (.iload_n 2, 1) := by decide +kernel
theorem dM_element_102 : decode bM_element 102 = .ok (.iaload, 1) := by decide +kernel
theorem dM_element_103 : decode bM_element 103 = .ok (.iadd, 1) := by decide +kernel
theorem dM_element_104 : decode bM_element 104 = .ok (.invokevirtual 130, 3) := by decide +kernel
theorem dM_element_107 : decode bM_element 107 = .ok (.aload_n 0, 1) := by decide +kernel
theorem dM_element_108 : decode bM_element 108 = .ok (.iconst 0, 1) := by decide +kernel
theorem dM_element_109 : decode bM_element 109 = .ok (.invokevirtual 130, 3) := by decide +kernel
theorem dM_element_112 : decode bM_element 112 = .ok (.aload_n 0, 1) := by decide +kernel
theorem dM_element_113 : decode bM_element 113 = .ok (.getfield 19, 3) := by decide +kernel
theorem dM_element_116 : decode bM_element 116 = .ok (.iload_n 2, 1) := by decide +kernel
theorem dM_element_117 : decode bM_element 117 = .ok (.iaload, 1) := by decide +kernel
theorem dM_element_118 : decode bM_element 118 = .ok (.iconst 3, 1) := by decide +kernel
theorem dM_element_119 : decode bM_element 119 = .ok (.if_icmp .ne 23, 3) := by decide +kernel
theorem dM_element_122 : decode bM_element 122 = .ok (.iload 5, 2) := by decide +kernel
theorem dM_element_124 : decode bM_element 124 = .ok (.ifCond .ne 52, 3) := by decide +kernel
theorem dM_element_127 : decode bM_element 127 = .ok (.aload_n 0, 1) := by decide +kernel
theorem dM_element_128 : decode bM_element 128 = .ok (.lload_n 3, 1) := by decide +kernel
theorem dM_element_129 : decode bM_element 129 = .ok (.l2i, 1) := by decide +kernel
theorem dM_element_130 : decode bM_element 130 = .ok (.aload_n 0, 1) := by decide +kernel
theorem dM_element_131 : decode bM_element 131 = .ok (.getfield 22, 3) := by decide +kernel
theorem dM_element_134 : decode bM_element 134 = .ok (.iload_n 2, 1) := by decide +kernel
theorem dM_element_135 : decode bM_element 135 = .ok (.iaload, 1) := by decide +kernel
theorem dM_element_136 : decode bM_element 136 = .ok (.invokevirtual 142, 3) := by decide +kernel
theorem dM_element_139 : decode bM_element 139 = .ok (.goto 37, 3) := by decide +kernel
theorem dM_element_142 : decode bM_element 142 = .ok (.aload_n 0, 1) := by decide +kernel
theorem dM_element_143 : decode bM_element 143 = .ok (.lload_n 3, 1) := by decide +kernel
theorem dM_element_144 : decode bM_element 144 = .ok (.aload_n 0, 1) := by decide +kernel
theorem dM_element_145 : decode bM_element 145 = .ok (.getfield 19, 3) := by decide +kernel
theorem dM_element_148 : decode bM_element 148 = .ok (.iload_n 2, 1) := by decide +kernel
theorem dM_element_149 : decode bM_element 149 = .ok (.iaload, 1) := by decide +kernel
theorem dM_element_150 : decode bM_element 150 = .ok (.ifCond .ne 7, 3) := by decide +kernel
theorem dM_element_153 : decode bM_element 153 = .ok (.iconst 4, 1) := by decide +kernel
theorem dM_element_154 : decode bM_element 154 = .ok (.goto 19, 3) := by decide +kernel
theorem dM_element_157 : decode bM_element 157 = .ok (.aload_n 0, 1) := by decide +kernel
theorem dM_element_158 : decode bM_element 158 = .ok (.getfield 19, 3) := by decide +kernel
theorem dM_element_161 : decode bM_element 161 = .ok (.iload_n 2, 1) := by decide +kernel
theorem dM_element_162 : decode bM_element 162 = .ok (.iaload, 1) := by decide +kernel
theorem dM_element_163 : decode bM_element 163 = .ok (.iconst 1, 1) := by decide +kernel
theorem dM_element_164 : decode bM_element 164 = .ok (.if_icmp .ne 8, 3) := by decide +kernel
theorem dM_element_167 : decode bM_element 167 = .ok (.bipush 8, 2) := by decide +kernel
theorem dM_element_169 : decode bM_element 169 = .ok (.goto 4, 3) := by decide +kernel
theorem dM_element_172 : decode bM_element 172 = .ok (.iconst 1, 1) := by decide +kernel
theorem dM_element_173 : decode bM_element 173 = .ok (.invokevirtual 136, 3) := by decide +kernel
theorem dM_element_176 : decode bM_element 176 = .ok (.return_, 1) := by decide +kernel
theorem dM_encode_0 : decode bM_encode 0 = .ok (.aload_n 0, 1) := by decide +kernel
theorem dM_encode_1 : decode bM_encode 1 = .ok (.iload_n 1, 1) := by decide +kernel
theorem dM_encode_2 : decode bM_encode 2 = .ok (.invokevirtual 111, 3) := by decide +kernel
theorem dM_encode_5 : decode bM_encode 5 = .ok (.ifCond .eq 25, 3) := by decide +kernel
theorem dM_encode_8 : decode bM_encode 8 = .ok (.aload_n 0, 1) := by decide +kernel
theorem dM_encode_9 : decode bM_encode 9 = .ok (.iload_n 2, 1) := by decide +kernel
theorem dM_encode_10 : decode bM_encode 10 = .ok (.invokevirtual 94, 3) := by decide +kernel
theorem dM_encode_13 : decode bM_encode 13 = .ok (.ifCond .eq 17, 3) := by decide +kernel
theorem dM_encode_16 : decode bM_encode 16 = .ok (.aload_n 0, 1) := by decide +kernel
theorem dM_encode_17 : decode bM_encode 17 = .ok (.aload_n 0, 1) := by decide +kernel
theorem dM_encode_18 : decode bM_encode 18 = .ok (.getfield 25, 3) := by decide +kernel
theorem dM_encode_21 : decode bM_encode 21 = .ok (.iload_n 1, 1) := by decide +kernel
theorem dM_encode_22 : decode bM_encode 22 = .ok (.iaload, 1) := by decide +kernel
theorem dM_encode_23 : decode bM_encode 23 = .ok (.iload_n 2, 1) := by decide +kernel
theorem dM_encode_24 : decode bM_encode 24 = .ok (.invokevirtual 84, 3) := by decide +kernel
theorem dM_encode_27 : decode bM_encode 27 = .ok (.ifCond .ne 5, 3) := by decide +kernel
theorem dM_encode_30 : decode bM_encode 30 = .ok (.iconst (-1), 1) := by decide +kernel
theorem dM_encode_31 : decode bM_encode 31 = .ok (.ireturn, 1) := by decide +kernel
theorem dM_encode_32 : decode bM_encode 32 = .ok (.aload_n 0, 1) := by decide +kernel
theorem dM_encode_33 : decode bM_encode 33 = .ok (.iconst 0, 1) := by decide +kernel
theorem dM_encode_34 : decode bM_encode 34 = .ok (.putfield 121, 3) := by decide +kernel
theorem dM_encode_37 : decode bM_encode 37 = .ok (.aload_n 0, 1) := by decide +kernel
theorem dM_encode_38 : decode bM_encode 38 = .ok (.iconst 0, 1) := by decide +kernel
theorem dM_encode_39 : decode bM_encode 39 = .ok (.putfield 124, 3) := by decide +kernel
theorem dM_encode_42 : decode bM_encode 42 = .ok (.aload_n 0, 1) := by decide +kernel
theorem dM_encode_43 : decode bM_encode 43 = .ok (.iconst 0, 1) := by decide +kernel
theorem dM_encode_44 : decode bM_encode 44 = .ok (.putfield 133, 3) := by decide +kernel
theorem dM_encode_47 : decode bM_encode 47 = .ok (.aload_n 0, 1) := by decide +kernel
theorem dM_encode_48 : decode bM_encode 48 = .ok (.iload_n 1, 1) := by decide +kernel
theorem dM_encode_49 : decode bM_encode 49 = .ok (.iload_n 2, 1) := by decide +kernel
theorem dM_encode_50 : decode bM_encode 50 = .ok (.invokevirtual 142, 3) := by decide +kernel
theorem dM_encode_53 : decode bM_encode 53 = .ok (.aload_n 0, 1) := by decide +kernel
theorem dM_encode_54 : decode bM_encode 54 = .ok (.getfield 133, 3) := by decide +kernel
theorem dM_encode_57 : decode bM_encode 57 = .ok (.ifCond .le 77, 3) := by decide +kernel
theorem dM_encode_60 : decode bM_encode 60 = .ok (.aload_n 0, 1) := by decide +kernel
theorem dM_encode_61 : decode bM_encode 61 = .ok (.getfield 124, 3) := by decide +kernel
theorem dM_encode_64 : decode bM_encode 64 = .ok (.ifCond .ne 70, 3) := by decide +kernel
theorem dM_encode_67 : decode bM_encode 67 = .ok (.aload_n 0, 1) := by decide +kernel
theorem dM_encode_68 : decode bM_encode 68 = .ok (.getfield 133, 3) := by decide +kernel
theorem dM_encode_71 : decode bM_encode 71 = .ok (.iconst 1, 1) := by decide +kernel
theorem dM_encode_72 : decode bM_encode 72 = .ok (.isub, 1) := by decide +kernel
theorem dM_encode_73 : decode bM_encode 73 = .ok (.istore_n 3, 1) := by decide +kernel
theorem dM_encode_74 : decode bM_encode 74 = .ok (.aload_n 0, 1) := by decide +kernel
theorem dM_encode_75 : decode bM_encode 75 = .ok (.aload_n 0, 1) := by decide +kernel
theorem dM_encode_76 : decode bM_encode 76 = .ok (.getfield 25, 3) := by decide +kernel
theorem dM_encode_79 : decode bM_encode 79 = .ok (.aload_n 0, 1) := by decide +kernel
theorem dM_encode_80 : decode bM_encode 80 = .ok (.getfield 38, 3) := by decide +kernel
theorem dM_encode_83 : decode bM_encode 83 = .ok (.iload_n 3, 1) := by decide +kernel
theorem dM_encode_84 : decode bM_encode 84 = .ok (.iaload, 1) := by decide +kernel
theorem dM_encode_85 : decode bM_encode 85 = .ok (.iaload, 1) := by decide +kernel
theorem dM_encode_86 : decode bM_encode 86 = .ok (.aload_n 0, 1) := by decide +kernel
theorem dM_encode_87 : decode bM_encode 87 = .ok (.getfield 44, 3) := by decide +kernel
theorem dM_encode_90 : decode bM_encode 90 = .ok (.iload_n 3, 1) := by decide +kernel
theorem dM_encode_91 : decode bM_encode 91 = .ok (.iaload, 1) := by decide +kernel
theorem dM_encode_92 : decode bM_encode 92 = .ok (.invokevirtual 146, 3) := by decide +kernel
theorem dM_encode_95 : decode bM_encode 95 = .ok (.istore 4, 2) := by decide +kernel
theorem dM_encode_97 : decode bM_encode 97 = .ok (.aload_n 0, 1) := by decide +kernel
theorem dM_encode_98 : decode bM_encode 98 = .ok (.getfield 44, 3) := by decide +kernel
theorem dM_encode_101 : decode bM_encode 101 = .ok (.iload_n 3, 1) := by decide +kernel
theorem dM_encode_102 : decode bM_encode 102 = .ok (.dup2, 1) := by decide +kernel
theorem dM_encode_103 : decode bM_encode 103 = .ok (.iaload, 1) := by decide +kernel
theorem dM_encode_104 : decode bM_encode 104 = .ok (.iconst 1, 1) := by decide +kernel
theorem dM_encode_105 : decode bM_encode 105 = .ok (.iadd, 1) := by decide +kernel
theorem dM_encode_106 : decode bM_encode 106 = .ok (.iastore, 1) := by decide +kernel
theorem dM_encode_107 : decode bM_encode 107 = .ok (.iload 4, 2) := by decide +kernel
theorem dM_encode_109 : decode bM_encode 109 = .ok (.ifCond .ge 10, 3) := by decide +kernel
theorem dM_encode_112 : decode bM_encode 112 = .ok (.aload_n 0, 1) := by decide +kernel
theorem dM_encode_113 : decode bM_encode 113 = .ok (.invokevirtual 149, 3) := by decide +kernel
theorem dM_encode_116 : decode bM_encode 116 = .ok (.goto 15, 3) := by decide +kernel
theorem dM_encode_119 : decode bM_encode 119 = .ok (.aload_n 0, 1) := by decide +kernel
theorem dM_encode_120 : decode bM_encode 120 = .ok (.aload_n 0, 1) := by decide +kernel
theorem dM_encode_121 : decode bM_encode 121 = .ok (.getfield 38, 3) := by decide +kernel
theorem dM_encode_124 : decode bM_encode 124 = .ok (.iload_n 3, 1) := by decide +kernel
theorem dM_encode_125 : decode bM_encode 125 = .ok (.iaload, 1) := by decide +kernel
theorem dM_encode_126 : decode bM_encode 126 = .ok (.iload 4, 2) := by decide +kernel
theorem dM_encode_128 : decode bM_encode 128 = .ok (.invokevirtual 152, 3) := by decide +kernel
theorem dM_encode_131 : decode bM_encode 131 = .ok (.goto (-78), 3) := by decide +kernel
theorem dM_encode_134 : decode bM_encode 134 = .ok (.aload_n 0, 1) := by decide +kernel
theorem dM_encode_135 : decode bM_encode 135 = .ok (.getfield 124, 3) := by decide +kernel
theorem dM_encode_138 : decode bM_encode 138 = .ok (.ifCond .eq 6, 3) := by decide +kernel
theorem dM_encode_141 : decode bM_encode 141 = .ok (.bipush (-2), 2) := by decide +kernel
theorem dM_encode_143 : decode bM_encode 143 = .ok (.ireturn, 1) := by decide +kernel
theorem dM_encode_144 : decode bM_encode 144 = .ok (.aload_n 0, 1) := by decide +kernel
theorem dM_encode_145 : decode bM_encode 145 = .ok (.aload_n 0, 1) := by decide +kernel
theorem dM_encode_146 : decode bM_encode 146 = .ok (.getfield 121, 3) := by decide +kernel
theorem dM_encode_149 : decode bM_encode 149 = .ok (.putfield 155, 3) := by decide +kernel
theorem dM_encode_152 : decode bM_encode 152 = .ok (.iconst 0, 1) := by decide +kernel
theorem dM_encode_153 : decode bM_encode 153 = .ok (.istore_n 3, 1) := by decide +kernel
theorem dM_encode_154 : decode bM_encode 154 = .ok (.iload_n 3, 1) := by decide +kernel
theorem dM_encode_155 : decode bM_encode 155 = .ok (.aload_n 0, 1) := by decide +kernel
theorem dM_encode_156 : decode bM_encode 156 = .ok (.getfield 121, 3) := by decide +kernel
theorem dM_encode_159 : decode bM_encode 159 = .ok (.if_icmp .ge 21, 3) := by decide +kernel
theorem dM_encode_162 : decode bM_encode 162 = .ok (.aload_n 0, 1) := by decide +kernel
theorem dM_encode_163 : decode bM_encode 163 = .ok (.getfield 32, 3) := by decide +kernel
theorem dM_encode_166 : decode bM_encode 166 = .ok (.iload_n 3, 1) := by decide +kernel
theorem dM_encode_167 : decode bM_encode 167 = .ok (.aload_n 0, 1) := by decide +kernel
theorem dM_encode_168 : decode bM_encode 168 = .ok (.getfield 35, 3) := by decide +kernel
theorem dM_encode_171 : decode bM_encode 171 = .ok (.iload_n 3, 1) := by decide +kernel
theorem dM_encode_172 : decode bM_encode 172 = .ok (.iaload, 1) := by decide +kernel
theorem dM_encode_173 : decode bM_encode 173 = .ok (.iastore, 1) := by decide +kernel
theorem dM_encode_174 : decode bM_encode 174 = .ok (.iinc 3 1, 3) := by decide +kernel
theorem dM_encode_177 : decode bM_encode 177 = .ok (.goto (-23), 3) := by decide +kernel
theorem dM_encode_180 : decode bM_encode 180 = .ok (.aload_n 0, 1) := by decide +kernel
theorem dM_encode_181 : decode bM_encode 181 = .ok (.getfield 155, 3) := by decide +kernel
theorem dM_encode_184 : decode bM_encode 184 = .ok (.ireturn, 1) := by decide +kernel
theorem dM_next_0 : decode bM_next 0 = .ok (.aload_n 0, 1) := by decide +kernel
theorem dM_next_1 : decode bM_next 1 = .ok (.getfield 158, 3) := by decide +kernel
theorem dM_next_4 : decode bM_next 4 = .ok (.aload_n 0, 1) := by decide +kernel
theorem dM_next_5 : decode bM_next 5 = .ok (.getfield 155, 3) := by decide +kernel
theorem dM_next_8 : decode bM_next 8 = .ok (.if_icmp .lt 10, 3) := by decide +kernel
theorem dM_next_11 : decode bM_next 11 = .ok (.aload_n 0, 1) := by decide +kernel
theorem dM_next_12 : decode bM_next 12 = .ok (.iconst 1, 1) := by decide +kernel
theorem dM_next_13 : decode bM_next 13 = .ok (.putfield 161, 3) := by decide +kernel
theorem dM_next_16 : decode bM_next 16 = .ok (.iconst 0, 1) := by decide +kernel
theorem dM_next_17 : decode bM_next 17 = .ok (.ireturn, 1) := by decide +kernel
theorem dM_next_18 : decode bM_next 18 = .ok (.aload_n 0, 1) := by decide +kernel
theorem dM_next_19 : decode bM_next 19 = .ok (.dup, 1) := by decide +kernel
theorem dM_next_20 : decode bM_next 20 = .ok (.getfield 158, 3) := by decide +kernel
theorem dM_next_23 : decode bM_next 23 = .ok (.iconst 1, 1) := by decide +kernel
theorem dM_next_24 : decode bM_next 24 = .ok (.iadd, 1) := by decide +kernel
theorem dM_next_25 : decode bM_next 25 = .ok (.putfield 158, 3) := by decide +kernel
theorem dM_next_28 : decode bM_next 28 = .ok (.aload_n 0, 1) := by decide +kernel
theorem dM_next_29 : decode bM_next 29 = .ok (.getfield 32, 3) := by decide +kernel
theorem dM_next_32 : decode bM_next 32 = .ok (.aload_n 0, 1) := by decide +kernel
theorem dM_next_33 : decode bM_next 33 = .ok (.getfield 158, 3) := by decide +kernel
theorem dM_next_36 : decode bM_next 36 = .ok (.iconst 1, 1) := by decide +kernel
theorem dM_next_37 : decode bM_next 37 = .ok (.isub, 1) := by decide +kernel
theorem dM_next_38 : decode bM_next 38 = .ok (.iaload, 1) := by decide +kernel
theorem dM_next_39 : decode bM_next 39 = .ok (.ireturn, 1) := by decide +kernel
theorem dM_number_0 : decode bM_number 0 = .ok (.aload_n 0, 1) := by decide +kernel
theorem dM_number_1 : decode bM_number 1 = .ok (.getfield 32, 3) := by decide +kernel
theorem dM_number_4 : decode bM_number 4 = .ok (.iload_n 1, 1) := by decide +kernel
theorem dM_number_5 : decode bM_number 5 = .ok (.iaload, 1) := by decide +kernel
theorem dM_number_6 : decode bM_number 6 = .ok (.aload_n 0, 1) := by decide +kernel
theorem dM_number_7 : decode bM_number 7 = .ok (.getfield 32, 3) := by decide +kernel
theorem dM_number_10 : decode bM_number 10 = .ok (.iload_n 1, 1) := by decide +kernel
theorem dM_number_11 : decode bM_number 11 = .ok (.iconst 1, 1) := by decide +kernel
theorem dM_number_12 : decode bM_number 12 = .ok (.iadd, 1) := by decide +kernel
theorem dM_number_13 : decode bM_number 13 = .ok (.iaload, 1) := by decide +kernel
theorem dM_number_14 : decode bM_number 14 = .ok (.bipush 8, 2) := by decide +kernel
theorem dM_number_16 : decode bM_number 16 = .ok (.ishl, 1) := by decide +kernel
theorem dM_number_17 : decode bM_number 17 = .ok (.ior, 1) := by decide +kernel
theorem dM_number_18 : decode bM_number 18 = .ok (.aload_n 0, 1) := by decide +kernel
theorem dM_number_19 : decode bM_number 19 = .ok (.getfield 32, 3) := by decide +kernel
theorem dM_number_22 : decode bM_number 22 = .ok (.iload_n 1, 1) := by decide +kernel
theorem dM_number_23 : decode bM_number 23 = .ok (.iconst 2, 1) := by decide +kernel
theorem dM_number_24 : decode bM_number 24 = .ok (.iadd, 1) := by decide +kernel
theorem dM_number_25 : decode bM_number 25 = .ok (.iaload, 1) := by decide +kernel
theorem dM_number_26 : decode bM_number 26 = .ok (.bipush 16, 2) := by decide +kernel
theorem dM_number_28 : decode bM_number 28 = .ok (.ishl, 1) := by decide +kernel
theorem dM_number_29 : decode bM_number 29 = .ok (.ior, 1) := by decide +kernel
theorem dM_number_30 : decode bM_number 30 = .ok (.aload_n 0, 1) := by decide +kernel
theorem dM_number_31 : decode bM_number 31 = .ok (.getfield 32, 3) := by decide +kernel
theorem dM_number_34 : decode bM_number 34 = .ok (.iload_n 1, 1) := by decide +kernel
theorem dM_number_35 : decode bM_number 35 = .ok (.iconst 3, 1) := by decide +kernel
theorem dM_number_36 : decode bM_number 36 = .ok (.iadd, 1) := by decide +kernel
theorem dM_number_37 : decode bM_number 37 = .ok (.iaload, 1) := by decide +kernel
theorem dM_number_38 : decode bM_number 38 = .ok (.bipush 24, 2) := by decide +kernel
theorem dM_number_40 : decode bM_number 40 = .ok (.ishl, 1) := by decide +kernel
theorem dM_number_41 : decode bM_number 41 = .ok (.ior, 1) := by decide +kernel
theorem dM_number_42 : decode bM_number 42 = .ok (.ireturn, 1) := by decide +kernel
theorem dM_skip_0 : decode bM_skip 0 = .ok (.iconst 0, 1) := by decide +kernel
theorem dM_skip_1 : decode bM_skip 1 = .ok (.istore_n 2, 1) := by decide +kernel
theorem dM_skip_2 : decode bM_skip 2 = .ok (.iload_n 2, 1) := by decide +kernel
theorem dM_skip_3 : decode bM_skip 3 = .ok (.iload_n 1, 1) := by decide +kernel
theorem dM_skip_4 : decode bM_skip 4 = .ok (.if_icmp .ge 14, 3) := by decide +kernel
theorem dM_skip_7 : decode bM_skip 7 = .ok (.aload_n 0, 1) := by decide +kernel
theorem dM_skip_8 : decode bM_skip 8 = .ok (.invokevirtual 164, 3) := by decide +kernel
theorem dM_skip_11 : decode bM_skip 11 = .ok (.pop, 1) := by decide +kernel
theorem dM_skip_12 : decode bM_skip 12 = .ok (.iinc 2 1, 3) := by decide +kernel
theorem dM_skip_15 : decode bM_skip 15 = .ok (.goto (-13), 3) := by decide +kernel
theorem dM_skip_18 : decode bM_skip 18 = .ok (.return_, 1) := by decide +kernel
theorem dM_line_0 : decode bM_line 0 = .ok (.iconst 0, 1) := by decide +kernel
theorem dM_line_1 : decode bM_line 1 = .ok (.istore_n 1, 1) := by decide +kernel
theorem dM_line_2 : decode bM_line 2 = .ok (.aload_n 0, 1) := by decide +kernel
theorem dM_line_3 : decode bM_line 3 = .ok (.invokevirtual 164, 3) := by decide +kernel
theorem dM_line_6 : decode bM_line 6 = .ok (.istore_n 2, 1) := by decide +kernel
theorem dM_line_7 : decode bM_line 7 = .ok (.iload_n 2, 1) := by decide +kernel
theorem dM_line_8 : decode bM_line 8 = .ok (.ifCond .le 43, 3) := by decide +kernel
theorem dM_line_11 : decode bM_line 11 = .ok (.aload_n 0, 1) := by decide +kernel
theorem dM_line_12 : decode bM_line 12 = .ok (.getfield 161, 3) := by decide +kernel
theorem dM_line_15 : decode bM_line 15 = .ok (.ifCond .ne 36, 3) := by decide +kernel
theorem dM_line_18 : decode bM_line 18 = .ok (.aload_n 0, 1) := by decide +kernel
theorem dM_line_19 : decode bM_line 19 = .ok (.aload_n 0, 1) := by decide +kernel
theorem dM_line_20 : decode bM_line 20 = .ok (.getfield 161, 3) := by decide +kernel
theorem dM_line_23 : decode bM_line 23 = .ok (.ifCond .ne 9, 3) := by decide +kernel
theorem dM_line_26 : decode bM_line 26 = .ok (.iload_n 2, 1) := by decide +kernel
theorem dM_line_27 : decode bM_line 27 = .ok (.bipush 127, 2) := by decide +kernel
theorem dM_line_29 : decode bM_line 29 = .ok (.if_icmp .le 7, 3) := by decide +kernel
theorem dM_line_32 : decode bM_line 32 = .ok (.iconst 1, 1) := by decide +kernel
theorem dM_line_33 : decode bM_line 33 = .ok (.goto 4, 3) := by decide +kernel
theorem dM_line_36 : decode bM_line 36 = .ok (.iconst 0, 1) := by decide +kernel
theorem dM_line_37 : decode bM_line 37 = .ok (.putfield 161, 3) := by decide +kernel
theorem dM_line_40 : decode bM_line 40 = .ok (.iinc 1 1, 3) := by decide +kernel
theorem dM_line_43 : decode bM_line 43 = .ok (.aload_n 0, 1) := by decide +kernel
theorem dM_line_44 : decode bM_line 44 = .ok (.invokevirtual 164, 3) := by decide +kernel
theorem dM_line_47 : decode bM_line 47 = .ok (.istore_n 2, 1) := by decide +kernel
theorem dM_line_48 : decode bM_line 48 = .ok (.goto (-41), 3) := by decide +kernel
theorem dM_line_51 : decode bM_line 51 = .ok (.iload_n 1, 1) := by decide +kernel
theorem dM_line_52 : decode bM_line 52 = .ok (.ireturn, 1) := by decide +kernel
theorem dM_isClass_0 : decode bM_isClass 0 = .ok (.iload_n 1, 1) := by decide +kernel
theorem dM_isClass_1 : decode bM_isClass 1 = .ok (.ifCond .lt 15, 3) := by decide +kernel
theorem dM_isClass_4 : decode bM_isClass 4 = .ok (.iload_n 1, 1) := by decide +kernel
theorem dM_isClass_5 : decode bM_isClass 5 = .ok (.aload_n 0, 1) := by decide +kernel
theorem dM_isClass_6 : decode bM_isClass 6 = .ok (.getfield 80, 3) := by decide +kernel
theorem dM_isClass_9 : decode bM_isClass 9 = .ok (.if_icmp .ge 7, 3) := by decide +kernel
theorem dM_isClass_12 : decode bM_isClass 12 = .ok (.iconst 1, 1) := by decide +kernel
theorem dM_isClass_13 : decode bM_isClass 13 = .ok (.goto 4, 3) := by decide +kernel
theorem dM_isClass_16 : decode bM_isClass 16 = .ok (.iconst 0, 1) := by decide +kernel
theorem dM_isClass_17 : decode bM_isClass 17 = .ok (.ireturn, 1) := by decide +kernel
theorem dM_readDocument_0 : decode bM_readDocument 0 = .ok (.aload_n 0, 1) := by decide +kernel
theorem dM_readDocument_1 : decode bM_readDocument 1 = .ok (.getfield 168, 3) := by decide +kernel
theorem dM_readDocument_4 : decode bM_readDocument 4 = .ok (.iconst 5, 1) := by decide +kernel
theorem dM_readDocument_5 : decode bM_readDocument 5 = .ok (.if_icmp .lt 9, 3) := by decide +kernel
theorem dM_readDocument_8 : decode bM_readDocument 8 = .ok (.aload_n 0, 1) := by decide +kernel
theorem dM_readDocument_9 : decode bM_readDocument 9 = .ok (.iconst 1, 1) := by decide +kernel
theorem dM_readDocument_10 : decode bM_readDocument 10 = .ok (.putfield 161, 3) := by decide +kernel
theorem dM_readDocument_13 : decode bM_readDocument 13 = .ok (.return_, 1) := by decide +kernel
theorem dM_readDocument_14 : decode bM_readDocument 14 = .ok (.aload_n 0, 1) := by decide +kernel
theorem dM_readDocument_15 : decode bM_readDocument 15 = .ok (.getfield 47, 3) := by decide +kernel
theorem dM_readDocument_18 : decode bM_readDocument 18 = .ok (.aload_n 0, 1) := by decide +kernel
theorem dM_readDocument_19 : decode bM_readDocument 19 = .ok (.getfield 171, 3) := by decide +kernel
theorem dM_readDocument_22 : decode bM_readDocument 22 = .ok (.aload_n 0, 1) := by decide +kernel
theorem dM_readDocument_23 : decode bM_readDocument 23 = .ok (.getfield 158, 3) := by decide +kernel
theorem dM_readDocument_26 : decode bM_readDocument 26 = .ok (.iastore, 1) := by decide +kernel
theorem dM_readDocument_27 : decode bM_readDocument 27 = .ok (.aload_n 0, 1) := by decide +kernel
theorem dM_readDocument_28 : decode bM_readDocument 28 = .ok (.iconst 4, 1) := by decide +kernel
theorem dM_readDocument_29 : decode bM_readDocument 29 = .ok (.invokevirtual 174, 3) := by decide +kernel
theorem dM_readDocument_32 : decode bM_readDocument 32 = .ok (.aload_n 0, 1) := by decide +kernel
theorem dM_readDocument_33 : decode bM_readDocument 33 = .ok (.getfield 50, 3) := by decide +kernel
theorem dM_readDocument_36 : decode bM_readDocument 36 = .ok (.aload_n 0, 1) := by decide +kernel
theorem dM_readDocument_37 : decode bM_readDocument 37 = .ok (.getfield 171, 3) := by decide +kernel
theorem dM_readDocument_40 : decode bM_readDocument 40 = .ok (.aload_n 0, 1) := by decide +kernel
theorem dM_readDocument_41 : decode bM_readDocument 41 = .ok (.getfield 168, 3) := by decide +kernel
theorem dM_readDocument_44 : decode bM_readDocument 44 = .ok (.iconst 1, 1) := by decide +kernel
theorem dM_readDocument_45 : decode bM_readDocument 45 = .ok (.iadd, 1) := by decide +kernel
theorem dM_readDocument_46 : decode bM_readDocument 46 = .ok (.iastore, 1) := by decide +kernel
theorem dM_readDocument_47 : decode bM_readDocument 47 = .ok (.aload_n 0, 1) := by decide +kernel
theorem dM_readDocument_48 : decode bM_readDocument 48 = .ok (.getfield 77, 3) := by decide +kernel
theorem dM_readDocument_51 : decode bM_readDocument 51 = .ok (.aload_n 0, 1) := by decide +kernel
theorem dM_readDocument_52 : decode bM_readDocument 52 = .ok (.getfield 168, 3) := by decide +kernel
theorem dM_readDocument_55 : decode bM_readDocument 55 = .ok (.aload_n 0, 1) := by decide +kernel
theorem dM_readDocument_56 : decode bM_readDocument 56 = .ok (.getfield 171, 3) := by decide +kernel
theorem dM_readDocument_59 : decode bM_readDocument 59 = .ok (.iastore, 1) := by decide +kernel
theorem dM_readDocument_60 : decode bM_readDocument 60 = .ok (.aload_n 0, 1) := by decide +kernel
theorem dM_readDocument_61 : decode bM_readDocument 61 = .ok (.dup, 1) := by decide +kernel
theorem dM_readDocument_62 : decode bM_readDocument 62 = .ok (.getfield 168, 3) := by decide +kernel
theorem dM_readDocument_65 : decode bM_readDocument 65 = .ok (.iconst 1, 1) := by decide +kernel
theorem dM_readDocument_66 : decode bM_readDocument 66 = .ok (.iadd, 1) := by decide +kernel
theorem dM_readDocument_67 : decode bM_readDocument 67 = .ok (.putfield 168, 3) := by decide +kernel
theorem dM_readDocument_70 : decode bM_readDocument 70 = .ok (.aload_n 0, 1) := by decide +kernel
theorem dM_readDocument_71 : decode bM_readDocument 71 = .ok (.dup, 1) := by decide +kernel
theorem dM_readDocument_72 : decode bM_readDocument 72 = .ok (.getfield 171, 3) := by decide +kernel
theorem dM_readDocument_75 : decode bM_readDocument 75 = .ok (.iconst 1, 1) := by decide +kernel
theorem dM_readDocument_76 : decode bM_readDocument 76 = .ok (.iadd, 1) := by decide +kernel
theorem dM_readDocument_77 : decode bM_readDocument 77 = .ok (.putfield 171, 3) := by decide +kernel
theorem dM_readDocument_80 : decode bM_readDocument 80 = .ok (.return_, 1) := by decide +kernel
theorem dM_readElement_0 : decode bM_readElement 0 = .ok (.aload_n 0, 1) := by decide +kernel
theorem dM_readElement_1 : decode bM_readElement 1 = .ok (.getfield 177, 3) := by decide +kernel
theorem dM_readElement_4 : decode bM_readElement 4 = .ok (.istore_n 2, 1) := by decide +kernel
theorem dM_readElement_5 : decode bM_readElement 5 = .ok (.aload_n 0, 1) := by decide +kernel
theorem dM_readElement_6 : decode bM_readElement 6 = .ok (.dup, 1) := by decide +kernel
theorem dM_readElement_7 : decode bM_readElement 7 = .ok (.getfield 177, 3) := by decide +kernel
theorem dM_readElement_10 : decode bM_readElement 10 = .ok (.iconst 1, 1) := by decide +kernel
theorem dM_readElement_11 : decode bM_readElement 11 = .ok (.iadd, 1) := by decide +kernel
theorem dM_readElement_12 : decode bM_readElement 12 = .ok (.putfield 177, 3) := by decide +kernel
theorem dM_readElement_15 : decode bM_readElement 15 = .ok (.aload_n 0, 1) := by decide +kernel
theorem dM_readElement_16 : decode bM_readElement 16 = .ok (.getfield 59, 3) := by decide +kernel
theorem dM_readElement_19 : decode bM_readElement 19 = .ok (.iload_n 2, 1) := by decide +kernel
theorem dM_readElement_20 : decode bM_readElement 20 = .ok (.aload_n 0, 1) := by decide +kernel
theorem dM_readElement_21 : decode bM_readElement 21 = .ok (.getfield 77, 3) := by decide +kernel
theorem dM_readElement_24 : decode bM_readElement 24 = .ok (.aload_n 0, 1) := by decide +kernel
theorem dM_readElement_25 : decode bM_readElement 25 = .ok (.getfield 168, 3) := by decide +kernel
theorem dM_readElement_28 : decode bM_readElement 28 = .ok (.iconst 1, 1) := by decide +kernel
theorem dM_readElement_29 : decode bM_readElement 29 = .ok (.isub, 1) := by decide +kernel
theorem dM_readElement_30 : decode bM_readElement 30 = .ok (.iaload, 1) := by decide +kernel
theorem dM_readElement_31 : decode bM_readElement 31 = .ok (.iastore, 1) := by decide +kernel
theorem dM_readElement_32 : decode bM_readElement 32 = .ok (.aload_n 0, 1) := by decide +kernel
theorem dM_readElement_33 : decode bM_readElement 33 = .ok (.getfield 62, 3) := by decide +kernel
theorem dM_readElement_36 : decode bM_readElement 36 = .ok (.iload_n 2, 1) := by decide +kernel
theorem dM_readElement_37 : decode bM_readElement 37 = .ok (.iload_n 1, 1) := by decide +kernel
theorem dM_readElement_38 : decode bM_readElement 38 = .ok (.iastore, 1) := by decide +kernel
theorem dM_readElement_39 : decode bM_readElement 39 = .ok (.aload_n 0, 1) := by decide +kernel
theorem dM_readElement_40 : decode bM_readElement 40 = .ok (.getfield 65, 3) := by decide +kernel
theorem dM_readElement_43 : decode bM_readElement 43 = .ok (.iload_n 2, 1) := by decide +kernel
theorem dM_readElement_44 : decode bM_readElement 44 = .ok (.aload_n 0, 1) := by decide +kernel
theorem dM_readElement_45 : decode bM_readElement 45 = .ok (.getfield 158, 3) := by decide +kernel
theorem dM_readElement_48 : decode bM_readElement 48 = .ok (.iastore, 1) := by decide +kernel
theorem dM_readElement_49 : decode bM_readElement 49 = .ok (.aload_n 0, 1) := by decide +kernel
theorem dM_readElement_50 : decode bM_readElement 50 = .ok (.getfield 68, 3) := by decide +kernel
theorem dM_readElement_53 : decode bM_readElement 53 = .ok (.iload_n 2, 1) := by decide +kernel
theorem dM_readElement_54 : decode bM_readElement 54 = .ok (.aload_n 0, 1) := by decide +kernel
theorem dM_readElement_55 : decode bM_readElement 55 = .ok (.invokevirtual 180, 3) := by decide +kernel
theorem dM_readElement_58 : decode bM_readElement 58 = .ok (.iastore, 1) := by decide +kernel
theorem dM_readElement_59 : decode bM_readElement 59 = .ok (.aload_n 0, 1) := by decide +kernel
theorem dM_readElement_60 : decode bM_readElement 60 = .ok (.getfield 71, 3) := by decide +kernel
theorem dM_readElement_63 : decode bM_readElement 63 = .ok (.iload_n 2, 1) := by decide +kernel
theorem dM_readElement_64 : decode bM_readElement 64 = .ok (.aload_n 0, 1) := by decide +kernel
theorem dM_readElement_65 : decode bM_readElement 65 = .ok (.getfield 158, 3) := by decide +kernel
theorem dM_readElement_68 : decode bM_readElement 68 = .ok (.iastore, 1) := by decide +kernel
theorem dM_readElement_69 : decode bM_readElement 69 = .ok (.aload_n 0, 1) := by decide +kernel
theorem dM_readElement_70 : decode bM_readElement 70 = .ok (.getfield 74, 3) := by decide +kernel
theorem dM_readElement_73 : decode bM_readElement 73 = .ok (.iload_n 2, 1) := by decide +kernel
theorem dM_readElement_74 : decode bM_readElement 74 = .ok (.iconst (-1), 1) := by decide +kernel
theorem dM_readElement_75 : decode bM_readElement 75 = .ok (.iastore, 1) := by decide +kernel
theorem dM_readElement_76 : decode bM_readElement 76 = .ok (.iload_n 1, 1) := by decide +kernel
theorem dM_readElement_77 : decode bM_readElement 77 = .ok (.iconst 2, 1) := by decide +kernel
theorem dM_readElement_78 : decode bM_readElement 78 = .ok (.if_icmp .ne 48, 3) := by decide +kernel
theorem dM_readElement_81 : decode bM_readElement 81 = .ok (.aload_n 0, 1) := by decide +kernel
theorem dM_readElement_82 : decode bM_readElement 82 = .ok (.iconst 4, 1) := by decide +kernel
theorem dM_readElement_83 : decode bM_readElement 83 = .ok (.invokevirtual 174, 3) := by decide +kernel
theorem dM_readElement_86 : decode bM_readElement 86 = .ok (.aload_n 0, 1) := by decide +kernel
theorem dM_readElement_87 : decode bM_readElement 87 = .ok (.invokevirtual 180, 3) := by decide +kernel
theorem dM_readElement_90 : decode bM_readElement 90 = .ok (.istore_n 3, 1) := by decide +kernel
theorem dM_readElement_91 : decode bM_readElement 91 = .ok (.aload_n 0, 1) := by decide +kernel
theorem dM_readElement_92 : decode bM_readElement 92 = .ok (.aload_n 0, 1) := by decide +kernel
theorem dM_readElement_93 : decode bM_readElement 93 = .ok (.getfield 161, 3) := by decide +kernel
theorem dM_readElement_96 : decode bM_readElement 96 = .ok (.ifCond .ne 19, 3) := by decide +kernel
theorem dM_readElement_99 : decode bM_readElement 99 = .ok (.aload_n 0, 1) := by decide +kernel
theorem dM_readElement_100 : decode bM_readElement 100 = .ok (.aload_n 0, 1) := by decide +kernel
theorem dM_readElement_101 : decode bM_readElement 101 = .ok (.getfield 71, 3) := by decide +kernel
theorem dM_readElement_104 : decode bM_readElement 104 = .ok (.iload_n 2, 1) := by decide +kernel
theorem dM_readElement_105 : decode bM_readElement 105 = .ok (.iaload, 1) := by decide +kernel
theorem dM_readElement_106 : decode bM_readElement 106 = .ok (.invokevirtual 183, 3) := by decide +kernel
theorem dM_readElement_109 : decode bM_readElement 109 = .ok (.iload_n 3, 1) := by decide +kernel
theorem dM_readElement_110 : decode bM_readElement 110 = .ok (.iconst 1, 1) := by decide +kernel
theorem dM_readElement_111 : decode bM_readElement 111 = .ok (.iadd, 1) := by decide +kernel
theorem dM_readElement_112 : decode bM_readElement 112 = .ok (.if_icmp .eq 7, 3) := by decide +kernel
