theorem dX5_look_83 : decode cX5_look 83 = .ok (.iconst 2, 1) := by decide +kernel
theorem dX5_look_84 : decode cX5_look 84 = .ok (.if_icmp .ne 7, 3) := by decide +kernel
theorem dX5_look_87 : decode cX5_look 87 = .ok (.iconst 1, 1) := by decide +kernel
theorem dX5_look_88 : decode cX5_look 88 = .ok (.goto 4, 3) := by decide +kernel
theorem dX5_look_91 : decode cX5_look 91 = .ok (.iconst 0, 1) := by decide +kernel
theorem dX5_look_92 : decode cX5_look 92 = .ok (.istore_n 2, 1) := by decide +kernel
theorem dX5_look_93 : decode cX5_look 93 = .ok (.iload_n 2, 1) := by decide +kernel
theorem dX5_look_94 : decode cX5_look 94 = .ok (.ifCond .eq 19, 3) := by decide +kernel
theorem dX5_look_97 : decode cX5_look 97 = .ok (.iload_n 1, 1) := by decide +kernel
theorem dX5_look_98 : decode cX5_look 98 = .ok (.bipush 10, 2) := by decide +kernel
theorem dX5_look_100 : decode cX5_look 100 = .ok (.iadd, 1) := by decide +kernel
theorem dX5_look_101 : decode cX5_look 101 = .ok (.aload_n 0, 1) := by decide +kernel
theorem dX5_look_102 : decode cX5_look 102 = .ok (.getfield 222, 3) := by decide +kernel
theorem dX5_look_105 : decode cX5_look 105 = .ok (.iadd, 1) := by decide +kernel
theorem dX5_look_106 : decode cX5_look 106 = .ok (.aload_n 0, 1) := by decide +kernel
theorem dX5_look_107 : decode cX5_look 107 = .ok (.getfield 180, 3) := by decide +kernel
theorem dX5_look_110 : decode cX5_look 110 = .ok (.if_icmp .le 5, 3) := by decide +kernel
theorem dX5_look_113 : decode cX5_look 113 = .ok (.iconst 0, 1) := by decide +kernel
theorem dX5_look_114 : decode cX5_look 114 = .ok (.ireturn, 1) := by decide +kernel
theorem dX5_look_115 : decode cX5_look 115 = .ok (.aload_n 0, 1) := by decide +kernel
theorem dX5_look_116 : decode cX5_look 116 = .ok (.getfield 219, 3) := by decide +kernel
theorem dX5_look_119 : decode cX5_look 119 = .ok (.iconst 3, 1) := by decide +kernel
theorem dX5_look_120 : decode cX5_look 120 = .ok (.if_icmp .ne 28, 3) := by decide +kernel
theorem dX5_look_123 : decode cX5_look 123 = .ok (.aload_n 0, 1) := by decide +kernel
theorem dX5_look_124 : decode cX5_look 124 = .ok (.sipush 256, 3) := by decide +kernel
theorem dX5_look_127 : decode cX5_look 127 = .ok (.aload_n 0, 1) := by decide +kernel
theorem dX5_look_128 : decode cX5_look 128 = .ok (.getfield 7, 3) := by decide +kernel
theorem dX5_look_131 : decode cX5_look 131 = .ok (.iload_n 1, 1) := by decide +kernel
theorem dX5_look_132 : decode cX5_look 132 = .ok (.iconst 2, 1) := by decide +kernel
theorem dX5_look_133 : decode cX5_look 133 = .ok (.iadd, 1) := by decide +kernel
theorem dX5_look_134 : decode cX5_look 134 = .ok (.iaload, 1) := by decide +kernel
theorem dX5_look_135 : decode cX5_look 135 = .ok (.imul, 1) := by decide +kernel
theorem dX5_look_136 : decode cX5_look 136 = .ok (.aload_n 0, 1) := by decide +kernel
theorem dX5_look_137 : decode cX5_look 137 = .ok (.getfield 7, 3) := by decide +kernel
theorem dX5_look_140 : decode cX5_look 140 = .ok (.iload_n 1, 1) := by decide +kernel
theorem dX5_look_141 : decode cX5_look 141 = .ok (.iconst 3, 1) := by decide +kernel
theorem dX5_look_142 : decode cX5_look 142 = .ok (.iadd, 1) := by decide +kernel
theorem dX5_look_143 : decode cX5_look 143 = .ok (.iaload, 1) := by decide +kernel
theorem dX5_look_144 : decode cX5_look 144 = .ok (.iadd, 1) := by decide +kernel
theorem dX5_look_145 : decode cX5_look 145 = .ok (.putfield 225, 3) := by decide +kernel
theorem dX5_look_148 : decode cX5_look 148 = .ok (.iconst 1, 1) := by decide +kernel
theorem dX5_look_149 : decode cX5_look 149 = .ok (.ireturn, 1) := by decide +kernel
theorem dX5_recover_0 : decode cX5_recover 0 = .ok (.aload_n 0, 1) := by decide +kernel
theorem dX5_recover_1 : decode cX5_recover 1 = .ok (.aload_n 0, 1) := by decide +kernel
theorem dX5_recover_2 : decode cX5_recover 2 = .ok (.getfield 52, 3) := by decide +kernel
theorem dX5_recover_5 : decode cX5_recover 5 = .ok (.ifCond .eq 7, 3) := by decide +kernel
theorem dX5_recover_8 : decode cX5_recover 8 = .ok (.iconst 1, 1) := by decide +kernel
theorem dX5_recover_9 : decode cX5_recover 9 = .ok (.goto 4, 3) := by decide +kernel
theorem dX5_recover_12 : decode cX5_recover 12 = .ok (.iconst 0, 1) := by decide +kernel
theorem dX5_recover_13 : decode cX5_recover 13 = .ok (.invokevirtual 202, 3) := by decide +kernel
theorem dX5_recover_16 : decode cX5_recover 16 = .ok (.ifCond .eq 5, 3) := by decide +kernel
theorem dX5_recover_19 : decode cX5_recover 19 = .ok (.iconst 0, 1) := by decide +kernel
theorem dX5_recover_20 : decode cX5_recover 20 = .ok (.ireturn, 1) := by decide +kernel
theorem dX5_recover_21 : decode cX5_recover 21 = .ok (.iconst 0, 1) := by decide +kernel
theorem dX5_recover_22 : decode cX5_recover 22 = .ok (.istore_n 1, 1) := by decide +kernel
theorem dX5_recover_23 : decode cX5_recover 23 = .ok (.iconst 0, 1) := by decide +kernel
theorem dX5_recover_24 : decode cX5_recover 24 = .ok (.istore_n 2, 1) := by decide +kernel
theorem dX5_recover_25 : decode cX5_recover 25 = .ok (.iconst (-1), 1) := by decide +kernel
theorem dX5_recover_26 : decode cX5_recover 26 = .ok (.istore_n 3, 1) := by decide +kernel
theorem dX5_recover_27 : decode cX5_recover 27 = .ok (.aload_n 0, 1) := by decide +kernel
theorem dX5_recover_28 : decode cX5_recover 28 = .ok (.iload_n 1, 1) := by decide +kernel
theorem dX5_recover_29 : decode cX5_recover 29 = .ok (.invokevirtual 228, 3) := by decide +kernel
theorem dX5_recover_32 : decode cX5_recover 32 = .ok (.ifCond .eq 34, 3) := by decide +kernel
theorem dX5_recover_35 : decode cX5_recover 35 = .ok (.iload_n 2, 1) := by decide +kernel
theorem dX5_recover_36 : decode cX5_recover 36 = .ok (.aload_n 0, 1) := by decide +kernel
theorem dX5_recover_37 : decode cX5_recover 37 = .ok (.getfield 225, 3) := by decide +kernel
theorem dX5_recover_40 : decode cX5_recover 40 = .ok (.iadd, 1) := by decide +kernel
theorem dX5_recover_41 : decode cX5_recover 41 = .ok (.iconst 1, 1) := by decide +kernel
theorem dX5_recover_42 : decode cX5_recover 42 = .ok (.iadd, 1) := by decide +kernel
theorem dX5_recover_43 : decode cX5_recover 43 = .ok (.istore_n 2, 1) := by decide +kernel
theorem dX5_recover_44 : decode cX5_recover 44 = .ok (.iload_n 1, 1) := by decide +kernel
theorem dX5_recover_45 : decode cX5_recover 45 = .ok (.iconst 2, 1) := by decide +kernel
theorem dX5_recover_46 : decode cX5_recover 46 = .ok (.iadd, 1) := by decide +kernel
theorem dX5_recover_47 : decode cX5_recover 47 = .ok (.aload_n 0, 1) := by decide +kernel
theorem dX5_recover_48 : decode cX5_recover 48 = .ok (.getfield 222, 3) := by decide +kernel
theorem dX5_recover_51 : decode cX5_recover 51 = .ok (.iadd, 1) := by decide +kernel
theorem dX5_recover_52 : decode cX5_recover 52 = .ok (.istore_n 3, 1) := by decide +kernel
theorem dX5_recover_53 : decode cX5_recover 53 = .ok (.iload_n 1, 1) := by decide +kernel
theorem dX5_recover_54 : decode cX5_recover 54 = .ok (.bipush 10, 2) := by decide +kernel
theorem dX5_recover_56 : decode cX5_recover 56 = .ok (.iadd, 1) := by decide +kernel
theorem dX5_recover_57 : decode cX5_recover 57 = .ok (.aload_n 0, 1) := by decide +kernel
theorem dX5_recover_58 : decode cX5_recover 58 = .ok (.getfield 222, 3) := by decide +kernel
theorem dX5_recover_61 : decode cX5_recover 61 = .ok (.iadd, 1) := by decide +kernel
theorem dX5_recover_62 : decode cX5_recover 62 = .ok (.istore_n 1, 1) := by decide +kernel
theorem dX5_recover_63 : decode cX5_recover 63 = .ok (.goto (-36), 3) := by decide +kernel
theorem dX5_recover_66 : decode cX5_recover 66 = .ok (.iload_n 2, 1) := by decide +kernel
theorem dX5_recover_67 : decode cX5_recover 67 = .ok (.aload_n 0, 1) := by decide +kernel
theorem dX5_recover_68 : decode cX5_recover 68 = .ok (.getfield 186, 3) := by decide +kernel
theorem dX5_recover_71 : decode cX5_recover 71 = .ok (.if_icmp .ge 12, 3) := by decide +kernel
theorem dX5_recover_74 : decode cX5_recover 74 = .ok (.aload_n 0, 1) := by decide +kernel
theorem dX5_recover_75 : decode cX5_recover 75 = .ok (.getfield 186, 3) := by decide +kernel
theorem dX5_recover_78 : decode cX5_recover 78 = .ok (.iload_n 2, 1) := by decide +kernel
theorem dX5_recover_79 : decode cX5_recover 79 = .ok (.isub, 1) := by decide +kernel
theorem dX5_recover_80 : decode cX5_recover 80 = .ok (.goto 4, 3) := by decide +kernel
theorem dX5_recover_83 : decode cX5_recover 83 = .ok (.iconst 0, 1) := by decide +kernel
theorem dX5_recover_84 : decode cX5_recover 84 = .ok (.istore 4, 2) := by decide +kernel
theorem dX5_recover_86 : decode cX5_recover 86 = .ok (.iload 4, 2) := by decide +kernel
theorem dX5_recover_88 : decode cX5_recover 88 = .ok (.ifCond .le 16, 3) := by decide +kernel
theorem dX5_recover_91 : decode cX5_recover 91 = .ok (.iload_n 1, 1) := by decide +kernel
theorem dX5_recover_92 : decode cX5_recover 92 = .ok (.bipush 12, 2) := by decide +kernel
theorem dX5_recover_94 : decode cX5_recover 94 = .ok (.iadd, 1) := by decide +kernel
theorem dX5_recover_95 : decode cX5_recover 95 = .ok (.sipush 1200, 3) := by decide +kernel
theorem dX5_recover_98 : decode cX5_recover 98 = .ok (.if_icmp .le 6, 3) := by decide +kernel
theorem dX5_recover_101 : decode cX5_recover 101 = .ok (.bipush (-2), 2) := by decide +kernel
theorem dX5_recover_103 : decode cX5_recover 103 = .ok (.ireturn, 1) := by decide +kernel
theorem dX5_recover_104 : decode cX5_recover 104 = .ok (.aload_n 0, 1) := by decide +kernel
theorem dX5_recover_105 : decode cX5_recover 105 = .ok (.iload_n 1, 1) := by decide +kernel
theorem dX5_recover_106 : decode cX5_recover 106 = .ok (.putfield 180, 3) := by decide +kernel
theorem dX5_recover_109 : decode cX5_recover 109 = .ok (.aload_n 0, 1) := by decide +kernel
theorem dX5_recover_110 : decode cX5_recover 110 = .ok (.iload_n 1, 1) := by decide +kernel
theorem dX5_recover_111 : decode cX5_recover 111 = .ok (.putfield 183, 3) := by decide +kernel
theorem dX5_recover_114 : decode cX5_recover 114 = .ok (.aload_n 0, 1) := by decide +kernel
theorem dX5_recover_115 : decode cX5_recover 115 = .ok (.iconst 1, 1) := by decide +kernel
theorem dX5_recover_116 : decode cX5_recover 116 = .ok (.putfield 52, 3) := by decide +kernel
theorem dX5_recover_119 : decode cX5_recover 119 = .ok (.iconst 0, 1) := by decide +kernel
theorem dX5_recover_120 : decode cX5_recover 120 = .ok (.istore 5, 2) := by decide +kernel
theorem dX5_recover_122 : decode cX5_recover 122 = .ok (.iload 5, 2) := by decide +kernel
theorem dX5_recover_124 : decode cX5_recover 124 = .ok (.bipush 8, 2) := by decide +kernel
theorem dX5_recover_126 : decode cX5_recover 126 = .ok (.if_icmp .ge 33, 3) := by decide +kernel
theorem dX5_recover_129 : decode cX5_recover 129 = .ok (.aload_n 0, 1) := by decide +kernel
theorem dX5_recover_130 : decode cX5_recover 130 = .ok (.getfield 19, 3) := by decide +kernel
theorem dX5_recover_133 : decode cX5_recover 133 = .ok (.iload 5, 2) := by decide +kernel
theorem dX5_recover_135 : decode cX5_recover 135 = .ok (.iload_n 3, 1) := by decide +kernel
theorem dX5_recover_136 : decode cX5_recover 136 = .ok (.ifCond .ge 7, 3) := by decide +kernel
theorem dX5_recover_139 : decode cX5_recover 139 = .ok (.iconst 0, 1) := by decide +kernel
theorem dX5_recover_140 : decode cX5_recover 140 = .ok (.goto 12, 3) := by decide +kernel
theorem dX5_recover_143 : decode cX5_recover 143 = .ok (.aload_n 0, 1) := by decide +kernel
theorem dX5_recover_144 : decode cX5_recover 144 = .ok (.getfield 7, 3) := by decide +kernel
theorem dX5_recover_147 : decode cX5_recover 147 = .ok (.iload_n 3, 1) := by decide +kernel
theorem dX5_recover_148 : decode cX5_recover 148 = .ok (.iload 5, 2) := by decide +kernel
theorem dX5_recover_150 : decode cX5_recover 150 = .ok (.iadd, 1) := by decide +kernel
theorem dX5_recover_151 : decode cX5_recover 151 = .ok (.iaload, 1) := by decide +kernel
theorem dX5_recover_152 : decode cX5_recover 152 = .ok (.iastore, 1) := by decide +kernel
theorem dX5_recover_153 : decode cX5_recover 153 = .ok (.iinc 5 1, 3) := by decide +kernel
theorem dX5_recover_156 : decode cX5_recover 156 = .ok (.goto (-34), 3) := by decide +kernel
theorem dX5_recover_159 : decode cX5_recover 159 = .ok (.iload 4, 2) := by decide +kernel
theorem dX5_recover_161 : decode cX5_recover 161 = .ok (.ifCond .le 66, 3) := by decide +kernel
theorem dX5_recover_164 : decode cX5_recover 164 = .ok (.aload_n 0, 1) := by decide +kernel
theorem dX5_recover_165 : decode cX5_recover 165 = .ok (.getfield 7, 3) := by decide +kernel
theorem dX5_recover_168 : decode cX5_recover 168 = .ok (.aload_n 0, 1) := by decide +kernel
theorem dX5_recover_169 : decode cX5_recover 169 = .ok (.getfield 180, 3) := by decide +kernel
theorem dX5_recover_172 : decode cX5_recover 172 = .ok (.iconst 3, 1) := by decide +kernel
theorem dX5_recover_173 : decode cX5_recover 173 = .ok (.iastore, 1) := by decide +kernel
theorem dX5_recover_174 : decode cX5_recover 174 = .ok (.aload_n 0, 1) := by decide +kernel
theorem dX5_recover_175 : decode cX5_recover 175 = .ok (.getfield 7, 3) := by decide +kernel
theorem dX5_recover_178 : decode cX5_recover 178 = .ok (.aload_n 0, 1) := by decide +kernel
theorem dX5_recover_179 : decode cX5_recover 179 = .ok (.getfield 180, 3) := by decide +kernel
theorem dX5_recover_182 : decode cX5_recover 182 = .ok (.iconst 1, 1) := by decide +kernel
theorem dX5_recover_183 : decode cX5_recover 183 = .ok (.iadd, 1) := by decide +kernel
theorem dX5_recover_184 : decode cX5_recover 184 = .ok (.iconst 2, 1) := by decide +kernel
theorem dX5_recover_185 : decode cX5_recover 185 = .ok (.iastore, 1) := by decide +kernel
theorem dX5_recover_186 : decode cX5_recover 186 = .ok (.aload_n 0, 1) := by decide +kernel
theorem dX5_recover_187 : decode cX5_recover 187 = .ok (.getfield 7, 3) := by decide +kernel
theorem dX5_recover_190 : decode cX5_recover 190 = .ok (.aload_n 0, 1) := by decide +kernel
theorem dX5_recover_191 : decode cX5_recover 191 = .ok (.getfield 180, 3) := by decide +kernel
theorem dX5_recover_194 : decode cX5_recover 194 = .ok (.iconst 2, 1) := by decide +kernel
theorem dX5_recover_195 : decode cX5_recover 195 = .ok (.iadd, 1) := by decide +kernel
theorem dX5_recover_196 : decode cX5_recover 196 = .ok (.iload 4, 2) := by decide +kernel
theorem dX5_recover_198 : decode cX5_recover 198 = .ok (.sipush 256, 3) := by decide +kernel
theorem dX5_recover_201 : decode cX5_recover 201 = .ok (.idiv, 1) := by decide +kernel
theorem dX5_recover_202 : decode cX5_recover 202 = .ok (.iastore, 1) := by decide +kernel
theorem dX5_recover_203 : decode cX5_recover 203 = .ok (.aload_n 0, 1) := by decide +kernel
theorem dX5_recover_204 : decode cX5_recover 204 = .ok (.getfield 7, 3) := by decide +kernel
theorem dX5_recover_207 : decode cX5_recover 207 = .ok (.aload_n 0, 1) := by decide +kernel
theorem dX5_recover_208 : decode cX5_recover 208 = .ok (.getfield 180, 3) := by decide +kernel
theorem dX5_recover_211 : decode cX5_recover 211 = .ok (.iconst 3, 1) := by decide +kernel
theorem dX5_recover_212 : decode cX5_recover 212 = .ok (.iadd, 1) := by decide +kernel
theorem dX5_recover_213 : decode cX5_recover 213 = .ok (.iload 4, 2) := by decide +kernel
theorem dX5_recover_215 : decode cX5_recover 215 = .ok (.sipush 256, 3) := by decide +kernel
theorem dX5_recover_218 : decode cX5_recover 218 = .ok (.irem, 1) := by decide +kernel
theorem dX5_recover_219 : decode cX5_recover 219 = .ok (.iastore, 1) := by decide +kernel
theorem dX5_recover_220 : decode cX5_recover 220 = .ok (.aload_n 0, 1) := by decide +kernel
theorem dX5_recover_221 : decode cX5_recover 221 = .ok (.iconst 2, 1) := by decide +kernel
theorem dX5_recover_222 : decode cX5_recover 222 = .ok (.invokevirtual 216, 3) := by decide +kernel
theorem dX5_recover_225 : decode cX5_recover 225 = .ok (.istore 5, 2) := by decide +kernel
theorem dX5_recover_227 : decode cX5_recover 227 = .ok (.iload 4, 2) := by decide +kernel
theorem dX5_recover_229 : decode cX5_recover 229 = .ok (.ireturn, 1) := by decide +kernel
theorem dX5_bears_0 : decode cX5_bears 0 = .ok (.aload_n 0, 1) := by decide +kernel
theorem dX5_bears_1 : decode cX5_bears 1 = .ok (.iload_n 2, 1) := by decide +kernel
theorem dX5_bears_2 : decode cX5_bears 2 = .ok (.iload_n 1, 1) := by decide +kernel
theorem dX5_bears_3 : decode cX5_bears 3 = .ok (.invokevirtual 206, 3) := by decide +kernel
theorem dX5_bears_6 : decode cX5_bears 6 = .ok (.iconst 1, 1) := by decide +kernel
theorem dX5_bears_7 : decode cX5_bears 7 = .ok (.istore_n 3, 1) := by decide +kernel
theorem dX5_bears_8 : decode cX5_bears 8 = .ok (.iconst 0, 1) := by decide +kernel
theorem dX5_bears_9 : decode cX5_bears 9 = .ok (.istore 4, 2) := by decide +kernel
theorem dX5_bears_11 : decode cX5_bears 11 = .ok (.iload 4, 2) := by decide +kernel
theorem dX5_bears_13 : decode cX5_bears 13 = .ok (.bipush 8, 2) := by decide +kernel
theorem dX5_bears_15 : decode cX5_bears 15 = .ok (.if_icmp .ge 59, 3) := by decide +kernel
theorem dX5_bears_18 : decode cX5_bears 18 = .ok (.aload_n 0, 1) := by decide +kernel
theorem dX5_bears_19 : decode cX5_bears 19 = .ok (.getfield 37, 3) := by decide +kernel
theorem dX5_bears_22 : decode cX5_bears 22 = .ok (.iload 4, 2) := by decide +kernel
theorem dX5_bears_24 : decode cX5_bears 24 = .ok (.aload_n 0, 1) := by decide +kernel
theorem dX5_bears_25 : decode cX5_bears 25 = .ok (.getfield 7, 3) := by decide +kernel
theorem dX5_bears_28 : decode cX5_bears 28 = .ok (.iload_n 1, 1) := by decide +kernel
theorem dX5_bears_29 : decode cX5_bears 29 = .ok (.iconst 2, 1) := by decide +kernel
theorem dX5_bears_30 : decode cX5_bears 30 = .ok (.iadd, 1) := by decide +kernel
theorem dX5_bears_31 : decode cX5_bears 31 = .ok (.aload_n 0, 1) := by decide +kernel
theorem dX5_bears_32 : decode cX5_bears 32 = .ok (.getfield 222, 3) := by decide +kernel
theorem dX5_bears_35 : decode cX5_bears 35 = .ok (.iadd, 1) := by decide +kernel
theorem dX5_bears_36 : decode cX5_bears 36 = .ok (.iload 4, 2) := by decide +kernel
theorem dX5_bears_38 : decode cX5_bears 38 = .ok (.iadd, 1) := by decide +kernel
theorem dX5_bears_39 : decode cX5_bears 39 = .ok (.iaload, 1) := by decide +kernel
theorem dX5_bears_40 : decode cX5_bears 40 = .ok (.iastore, 1) := by decide +kernel
theorem dX5_bears_41 : decode cX5_bears 41 = .ok (.iload_n 3, 1) := by decide +kernel
theorem dX5_bears_42 : decode cX5_bears 42 = .ok (.ifCond .eq 24, 3) := by decide +kernel
theorem dX5_bears_45 : decode cX5_bears 45 = .ok (.aload_n 0, 1) := by decide +kernel
theorem dX5_bears_46 : decode cX5_bears 46 = .ok (.getfield 37, 3) := by decide +kernel
theorem dX5_bears_49 : decode cX5_bears 49 = .ok (.iload 4, 2) := by decide +kernel
theorem dX5_bears_51 : decode cX5_bears 51 = .ok (.iaload, 1) := by decide +kernel
theorem dX5_bears_52 : decode cX5_bears 52 = .ok (.aload_n 0, 1) := by decide +kernel
theorem dX5_bears_53 : decode cX5_bears 53 = .ok (.getfield 31, 3) := by decide +kernel
theorem dX5_bears_56 : decode cX5_bears 56 = .ok (.iload 4, 2) := by decide +kernel
theorem dX5_bears_58 : decode cX5_bears 58 = .ok (.iaload, 1) := by decide +kernel
theorem dX5_bears_59 : decode cX5_bears 59 = .ok (.if_icmp .ne 7, 3) := by decide +kernel
theorem dX5_bears_62 : decode cX5_bears 62 = .ok (.iconst 1, 1) := by decide +kernel
theorem dX5_bears_63 : decode cX5_bears 63 = .ok (.goto 4, 3) := by decide +kernel
theorem dX5_bears_66 : decode cX5_bears 66 = .ok (.iconst 0, 1) := by decide +kernel
theorem dX5_bears_67 : decode cX5_bears 67 = .ok (.istore_n 3, 1) := by decide +kernel
theorem dX5_bears_68 : decode cX5_bears 68 = .ok (.iinc 4 1, 3) := by decide +kernel
theorem dX5_bears_71 : decode cX5_bears 71 = .ok (.goto (-60), 3) := by decide +kernel
theorem dX5_bears_74 : decode cX5_bears 74 = .ok (.iload_n 3, 1) := by decide +kernel
theorem dX5_bears_75 : decode cX5_bears 75 = .ok (.ireturn, 1) := by decide +kernel
theorem dX5_verify_0 : decode cX5_verify 0 = .ok (.aload_n 0, 1) := by decide +kernel
theorem dX5_verify_1 : decode cX5_verify 1 = .ok (.iconst 0, 1) := by decide +kernel
theorem dX5_verify_2 : decode cX5_verify 2 = .ok (.putfield 56, 3) := by decide +kernel
theorem dX5_verify_5 : decode cX5_verify 5 = .ok (.aload_n 0, 1) := by decide +kernel
theorem dX5_verify_6 : decode cX5_verify 6 = .ok (.invokevirtual 49, 3) := by decide +kernel
theorem dX5_verify_9 : decode cX5_verify 9 = .ok (.aload_n 0, 1) := by decide +kernel
theorem dX5_verify_10 : decode cX5_verify 10 = .ok (.iconst 1, 1) := by decide +kernel
theorem dX5_verify_11 : decode cX5_verify 11 = .ok (.putfield 60, 3) := by decide +kernel
theorem dX5_verify_14 : decode cX5_verify 14 = .ok (.iconst 0, 1) := by decide +kernel
theorem dX5_verify_15 : decode cX5_verify 15 = .ok (.istore 5, 2) := by decide +kernel
theorem dX5_verify_17 : decode cX5_verify 17 = .ok (.iload 5, 2) := by decide +kernel
theorem dX5_verify_19 : decode cX5_verify 19 = .ok (.bipush 16, 2) := by decide +kernel
theorem dX5_verify_21 : decode cX5_verify 21 = .ok (.if_icmp .ge 26, 3) := by decide +kernel
theorem dX5_verify_24 : decode cX5_verify 24 = .ok (.aload_n 0, 1) := by decide +kernel
theorem dX5_verify_25 : decode cX5_verify 25 = .ok (.getfield 34, 3) := by decide +kernel
theorem dX5_verify_28 : decode cX5_verify 28 = .ok (.iload 5, 2) := by decide +kernel
theorem dX5_verify_30 : decode cX5_verify 30 = .ok (.iload 5, 2) := by decide +kernel
theorem dX5_verify_32 : decode cX5_verify 32 = .ok (.iload_n 1, 1) := by decide +kernel
theorem dX5_verify_33 : decode cX5_verify 33 = .ok (.iload_n 2, 1) := by decide +kernel
theorem dX5_verify_34 : decode cX5_verify 34 = .ok (.iload_n 3, 1) := by decide +kernel
theorem dX5_verify_35 : decode cX5_verify 35 = .ok (.iload 4, 2) := by decide +kernel
theorem dX5_verify_37 : decode cX5_verify 37 = .ok (.invokestatic 195, 3) := by decide +kernel
theorem dX5_verify_40 : decode cX5_verify 40 = .ok (.iastore, 1) := by decide +kernel
theorem dX5_verify_41 : decode cX5_verify 41 = .ok (.iinc 5 1, 3) := by decide +kernel
theorem dX5_verify_44 : decode cX5_verify 44 = .ok (.goto (-27), 3) := by decide +kernel
theorem dX5_verify_47 : decode cX5_verify 47 = .ok (.iconst 0, 1) := by decide +kernel
theorem dX5_verify_48 : decode cX5_verify 48 = .ok (.istore 5, 2) := by decide +kernel
theorem dX5_verify_50 : decode cX5_verify 50 = .ok (.iload 5, 2) := by decide +kernel
theorem dX5_verify_52 : decode cX5_verify 52 = .ok (.bipush 8, 2) := by decide +kernel
theorem dX5_verify_54 : decode cX5_verify 54 = .ok (.if_icmp .ge 17, 3) := by decide +kernel
theorem dX5_verify_57 : decode cX5_verify 57 = .ok (.aload_n 0, 1) := by decide +kernel
theorem dX5_verify_58 : decode cX5_verify 58 = .ok (.getfield 37, 3) := by decide +kernel
theorem dX5_verify_61 : decode cX5_verify 61 = .ok (.iload 5, 2) := by decide +kernel
theorem dX5_verify_63 : decode cX5_verify 63 = .ok (.iconst 0, 1) := by decide +kernel
theorem dX5_verify_64 : decode cX5_verify 64 = .ok (.iastore, 1) := by decide +kernel
theorem dX5_verify_65 : decode cX5_verify 65 = .ok (.iinc 5 1, 3) := by decide +kernel
theorem dX5_verify_68 : decode cX5_verify 68 = .ok (.goto (-18), 3) := by decide +kernel
theorem dX5_verify_71 : decode cX5_verify 71 = .ok (.iconst 0, 1) := by decide +kernel
theorem dX5_verify_72 : decode cX5_verify 72 = .ok (.istore 5, 2) := by decide +kernel
theorem dX5_verify_74 : decode cX5_verify 74 = .ok (.iload 5, 2) := by decide +kernel
theorem dX5_verify_76 : decode cX5_verify 76 = .ok (.aload_n 0, 1) := by decide +kernel
theorem dX5_verify_77 : decode cX5_verify 77 = .ok (.getfield 180, 3) := by decide +kernel
theorem dX5_verify_80 : decode cX5_verify 80 = .ok (.if_icmp .ge 23, 3) := by decide +kernel
theorem dX5_verify_83 : decode cX5_verify 83 = .ok (.aload_n 0, 1) := by decide +kernel
theorem dX5_verify_84 : decode cX5_verify 84 = .ok (.getfield 40, 3) := by decide +kernel
theorem dX5_verify_87 : decode cX5_verify 87 = .ok (.iload 5, 2) := by decide +kernel
theorem dX5_verify_89 : decode cX5_verify 89 = .ok (.aload_n 0, 1) := by decide +kernel
theorem dX5_verify_90 : decode cX5_verify 90 = .ok (.getfield 7, 3) := by decide +kernel
theorem dX5_verify_93 : decode cX5_verify 93 = .ok (.iload 5, 2) := by decide +kernel
theorem dX5_verify_95 : decode cX5_verify 95 = .ok (.iaload, 1) := by decide +kernel
theorem dX5_verify_96 : decode cX5_verify 96 = .ok (.iastore, 1) := by decide +kernel
theorem dX5_verify_97 : decode cX5_verify 97 = .ok (.iinc 5 1, 3) := by decide +kernel
theorem dX5_verify_100 : decode cX5_verify 100 = .ok (.goto (-26), 3) := by decide +kernel
theorem dX5_verify_103 : decode cX5_verify 103 = .ok (.iconst 0, 1) := by decide +kernel
theorem dX5_verify_104 : decode cX5_verify 104 = .ok (.istore 5, 2) := by decide +kernel
theorem dX5_verify_106 : decode cX5_verify 106 = .ok (.iconst 0, 1) := by decide +kernel
theorem dX5_verify_107 : decode cX5_verify 107 = .ok (.istore 6, 2) := by decide +kernel
theorem dX5_verify_109 : decode cX5_verify 109 = .ok (.iconst 1, 1) := by decide +kernel
theorem dX5_verify_110 : decode cX5_verify 110 = .ok (.istore 7, 2) := by decide +kernel
theorem dX5_verify_112 : decode cX5_verify 112 = .ok (.iload 7, 2) := by decide +kernel
theorem dX5_verify_114 : decode cX5_verify 114 = .ok (.ifCond .eq 189, 3) := by decide +kernel
theorem dX5_verify_117 : decode cX5_verify 117 = .ok (.iload 5, 2) := by decide +kernel
theorem dX5_verify_119 : decode cX5_verify 119 = .ok (.aload_n 0, 1) := by decide +kernel
theorem dX5_verify_120 : decode cX5_verify 120 = .ok (.getfield 180, 3) := by decide +kernel
theorem dX5_verify_123 : decode cX5_verify 123 = .ok (.if_icmp .ge 180, 3) := by decide +kernel
theorem dX5_verify_126 : decode cX5_verify 126 = .ok (.aload_n 0, 1) := by decide +kernel
theorem dX5_verify_127 : decode cX5_verify 127 = .ok (.iload 5, 2) := by decide +kernel
theorem dX5_verify_129 : decode cX5_verify 129 = .ok (.invokevirtual 228, 3) := by decide +kernel
theorem dX5_verify_132 : decode cX5_verify 132 = .ok (.ifCond .eq 33, 3) := by decide +kernel
theorem dX5_verify_135 : decode cX5_verify 135 = .ok (.aload_n 0, 1) := by decide +kernel
theorem dX5_verify_136 : decode cX5_verify 136 = .ok (.getfield 219, 3) := by decide +kernel
theorem dX5_verify_139 : decode cX5_verify 139 = .ok (.iconst 3, 1) := by decide +kernel
theorem dX5_verify_140 : decode cX5_verify 140 = .ok (.if_icmp .ne 21, 3) := by decide +kernel
theorem dX5_verify_143 : decode cX5_verify 143 = .ok (.aload_n 0, 1) := by decide +kernel
theorem dX5_verify_144 : decode cX5_verify 144 = .ok (.getfield 225, 3) := by decide +kernel
theorem dX5_verify_147 : decode cX5_verify 147 = .ok (.iconst 1, 1) := by decide +kernel
theorem dX5_verify_148 : decode cX5_verify 148 = .ok (.if_icmp .lt 17, 3) := by decide +kernel
theorem dX5_verify_151 : decode cX5_verify 151 = .ok (.aload_n 0, 1) := by decide +kernel
theorem dX5_verify_152 : decode cX5_verify 152 = .ok (.getfield 225, 3) := by decide +kernel
theorem dX5_verify_155 : decode cX5_verify 155 = .ok (.sipush 1000, 3) := by decide +kernel
theorem dX5_verify_158 : decode cX5_verify 158 = .ok (.if_icmp .gt 7, 3) := by decide +kernel
theorem dX5_verify_161 : decode cX5_verify 161 = .ok (.iconst 1, 1) := by decide +kernel
theorem dX5_verify_162 : decode cX5_verify 162 = .ok (.goto 4, 3) := by decide +kernel
theorem dX5_verify_165 : decode cX5_verify 165 = .ok (.iconst 0, 1) := by decide +kernel
theorem dX5_verify_166 : decode cX5_verify 166 = .ok (.istore 7, 2) := by decide +kernel
theorem dX5_verify_168 : decode cX5_verify 168 = .ok (.iload 7, 2) := by decide +kernel
theorem dX5_verify_170 : decode cX5_verify 170 = .ok (.ifCond .eq 44, 3) := by decide +kernel
theorem dX5_verify_173 : decode cX5_verify 173 = .ok (.iconst 0, 1) := by decide +kernel
theorem dX5_verify_174 : decode cX5_verify 174 = .ok (.istore 8, 2) := by decide +kernel
theorem dX5_verify_176 : decode cX5_verify 176 = .ok (.iload 8, 2) := by decide +kernel
theorem dX5_verify_178 : decode cX5_verify 178 = .ok (.aload_n 0, 1) := by decide +kernel
theorem dX5_verify_179 : decode cX5_verify 179 = .ok (.getfield 225, 3) := by decide +kernel
theorem dX5_verify_182 : decode cX5_verify 182 = .ok (.if_icmp .ge 13, 3) := by decide +kernel
theorem dX5_verify_185 : decode cX5_verify 185 = .ok (.aload_n 0, 1) := by decide +kernel
theorem dX5_verify_186 : decode cX5_verify 186 = .ok (.invokevirtual 210, 3) := by decide +kernel
theorem dX5_verify_189 : decode cX5_verify 189 = .ok (.iinc 8 1, 3) := by decide +kernel
theorem dX5_verify_192 : decode cX5_verify 192 = .ok (.goto (-16), 3) := by decide +kernel
theorem dX5_verify_195 : decode cX5_verify 195 = .ok (.iload 6, 2) := by decide +kernel
theorem dX5_verify_197 : decode cX5_verify 197 = .ok (.aload_n 0, 1) := by decide +kernel
theorem dX5_verify_198 : decode cX5_verify 198 = .ok (.getfield 225, 3) := by decide +kernel
theorem dX5_verify_201 : decode cX5_verify 201 = .ok (.iadd, 1) := by decide +kernel
theorem dX5_verify_202 : decode cX5_verify 202 = .ok (.istore 6, 2) := by decide +kernel
theorem dX5_verify_204 : decode cX5_verify 204 = .ok (.aload_n 0, 1) := by decide +kernel
theorem dX5_verify_205 : decode cX5_verify 205 = .ok (.iload 5, 2) := by decide +kernel
theorem dX5_verify_207 : decode cX5_verify 207 = .ok (.iload 6, 2) := by decide +kernel
theorem dX5_verify_209 : decode cX5_verify 209 = .ok (.invokevirtual 231, 3) := by decide +kernel
theorem dX5_verify_212 : decode cX5_verify 212 = .ok (.istore 7, 2) := by decide +kernel
theorem dX5_verify_214 : decode cX5_verify 214 = .ok (.iload 7, 2) := by decide +kernel
theorem dX5_verify_216 : decode cX5_verify 216 = .ok (.ifCond .eq (-104), 3) := by decide +kernel
theorem dX5_verify_219 : decode cX5_verify 219 = .ok (.aload_n 0, 1) := by decide +kernel
theorem dX5_verify_220 : decode cX5_verify 220 = .ok (.getfield 43, 3) := by decide +kernel
theorem dX5_verify_223 : decode cX5_verify 223 = .ok (.aload_n 0, 1) := by decide +kernel
theorem dX5_verify_224 : decode cX5_verify 224 = .ok (.getfield 69, 3) := by decide +kernel
theorem dX5_verify_227 : decode cX5_verify 227 = .ok (.iload 5, 2) := by decide +kernel
theorem dX5_verify_229 : decode cX5_verify 229 = .ok (.iastore, 1) := by decide +kernel
theorem dX5_verify_230 : decode cX5_verify 230 = .ok (.aload_n 0, 1) := by decide +kernel
theorem dX5_verify_231 : decode cX5_verify 231 = .ok (.getfield 46, 3) := by decide +kernel
theorem dX5_verify_234 : decode cX5_verify 234 = .ok (.aload_n 0, 1) := by decide +kernel
theorem dX5_verify_235 : decode cX5_verify 235 = .ok (.getfield 69, 3) := by decide +kernel
theorem dX5_verify_238 : decode cX5_verify 238 = .ok (.iload 6, 2) := by decide +kernel
theorem dX5_verify_240 : decode cX5_verify 240 = .ok (.iastore, 1) := by decide +kernel
theorem dX5_verify_241 : decode cX5_verify 241 = .ok (.aload_n 0, 1) := by decide +kernel
theorem dX5_verify_242 : decode cX5_verify 242 = .ok (.dup, 1) := by decide +kernel
theorem dX5_verify_243 : decode cX5_verify 243 = .ok (.getfield 69, 3) := by decide +kernel
theorem dX5_verify_246 : decode cX5_verify 246 = .ok (.iconst 1, 1) := by decide +kernel
theorem dX5_verify_247 : decode cX5_verify 247 = .ok (.iadd, 1) := by decide +kernel
theorem dX5_verify_248 : decode cX5_verify 248 = .ok (.putfield 69, 3) := by decide +kernel
theorem dX5_verify_251 : decode cX5_verify 251 = .ok (.aload_n 0, 1) := by decide +kernel
theorem dX5_verify_252 : decode cX5_verify 252 = .ok (.aload_n 0, 1) := by decide +kernel
theorem dX5_verify_253 : decode cX5_verify 253 = .ok (.getfield 72, 3) := by decide +kernel
theorem dX5_verify_256 : decode cX5_verify 256 = .ok (.aload_n 0, 1) := by decide +kernel
theorem dX5_verify_257 : decode cX5_verify 257 = .ok (.getfield 225, 3) := by decide +kernel
theorem dX5_verify_260 : decode cX5_verify 260 = .ok (.iadd, 1) := by decide +kernel
theorem dX5_verify_261 : decode cX5_verify 261 = .ok (.putfield 72, 3) := by decide +kernel
theorem dX5_verify_264 : decode cX5_verify 264 = .ok (.aload_n 0, 1) := by decide +kernel
theorem dX5_verify_265 : decode cX5_verify 265 = .ok (.aload_n 0, 1) := by decide +kernel
theorem dX5_verify_266 : decode cX5_verify 266 = .ok (.getfield 219, 3) := by decide +kernel
theorem dX5_verify_269 : decode cX5_verify 269 = .ok (.iconst 2, 1) := by decide +kernel
theorem dX5_verify_270 : decode cX5_verify 270 = .ok (.if_icmp .ne 7, 3) := by decide +kernel
theorem dX5_verify_273 : decode cX5_verify 273 = .ok (.iconst 1, 1) := by decide +kernel
theorem dX5_verify_274 : decode cX5_verify 274 = .ok (.goto 4, 3) := by decide +kernel
theorem dX5_verify_277 : decode cX5_verify 277 = .ok (.iconst 0, 1) := by decide +kernel
theorem dX5_verify_278 : decode cX5_verify 278 = .ok (.putfield 75, 3) := by decide +kernel
theorem dX5_verify_281 : decode cX5_verify 281 = .ok (.iload 5, 2) := by decide +kernel
theorem dX5_verify_283 : decode cX5_verify 283 = .ok (.bipush 10, 2) := by decide +kernel
theorem dX5_verify_285 : decode cX5_verify 285 = .ok (.iadd, 1) := by decide +kernel
theorem dX5_verify_286 : decode cX5_verify 286 = .ok (.aload_n 0, 1) := by decide +kernel
theorem dX5_verify_287 : decode cX5_verify 287 = .ok (.getfield 222, 3) := by decide +kernel
theorem dX5_verify_290 : decode cX5_verify 290 = .ok (.iadd, 1) := by decide +kernel
theorem dX5_verify_291 : decode cX5_verify 291 = .ok (.istore 5, 2) := by decide +kernel
theorem dX5_verify_293 : decode cX5_verify 293 = .ok (.iinc 6 1, 3) := by decide +kernel
theorem dX5_verify_296 : decode cX5_verify 296 = .ok (.aload_n 0, 1) := by decide +kernel
theorem dX5_verify_297 : decode cX5_verify 297 = .ok (.invokevirtual 210, 3) := by decide +kernel
theorem dX5_verify_300 : decode cX5_verify 300 = .ok (.goto (-188), 3) := by decide +kernel
theorem dX5_verify_303 : decode cX5_verify 303 = .ok (.iload 7, 2) := by decide +kernel
theorem dX5_verify_305 : decode cX5_verify 305 = .ok (.ifCond .ne 20, 3) := by decide +kernel
theorem dX5_verify_308 : decode cX5_verify 308 = .ok (.aload_n 0, 1) := by decide +kernel
theorem dX5_verify_309 : decode cX5_verify 309 = .ok (.aload_n 0, 1) := by decide +kernel
theorem dX5_verify_310 : decode cX5_verify 310 = .ok (.getfield 69, 3) := by decide +kernel
theorem dX5_verify_313 : decode cX5_verify 313 = .ok (.putfield 63, 3) := by decide +kernel
theorem dX5_verify_316 : decode cX5_verify 316 = .ok (.aload_n 0, 1) := by decide +kernel
theorem dX5_verify_317 : decode cX5_verify 317 = .ok (.iload 5, 2) := by decide +kernel
theorem dX5_verify_319 : decode cX5_verify 319 = .ok (.putfield 66, 3) := by decide +kernel
theorem dX5_verify_322 : decode cX5_verify 322 = .ok (.bipush (-3), 2) := by decide +kernel
theorem dX5_verify_324 : decode cX5_verify 324 = .ok (.ireturn, 1) := by decide +kernel
theorem dX5_verify_325 : decode cX5_verify 325 = .ok (.aload_n 0, 1) := by decide +kernel
theorem dX5_verify_326 : decode cX5_verify 326 = .ok (.getfield 69, 3) := by decide +kernel
theorem dX5_verify_329 : decode cX5_verify 329 = .ok (.ireturn, 1) := by decide +kernel
theorem dX5_told_0 : decode cX5_told 0 = .ok (.aload_n 0, 1) := by decide +kernel
theorem dX5_told_1 : decode cX5_told 1 = .ok (.iload_n 1, 1) := by decide +kernel
theorem dX5_told_2 : decode cX5_told 2 = .ok (.ifCond .lt 12, 3) := by decide +kernel
theorem dX5_told_5 : decode cX5_told 5 = .ok (.iload_n 1, 1) := by decide +kernel
theorem dX5_told_6 : decode cX5_told 6 = .ok (.iconst 4, 1) := by decide +kernel
theorem dX5_told_7 : decode cX5_told 7 = .ok (.if_icmp .gt 7, 3) := by decide +kernel
theorem dX5_told_10 : decode cX5_told 10 = .ok (.iconst 0, 1) := by decide +kernel
theorem dX5_told_11 : decode cX5_told 11 = .ok (.goto 4, 3) := by decide +kernel
theorem dX5_told_14 : decode cX5_told 14 = .ok (.iconst 1, 1) := by decide +kernel
theorem dX5_told_15 : decode cX5_told 15 = .ok (.invokevirtual 202, 3) := by decide +kernel
theorem dX5_told_18 : decode cX5_told 18 = .ok (.ifCond .eq 5, 3) := by decide +kernel
theorem dX5_told_21 : decode cX5_told 21 = .ok (.iconst 0, 1) := by decide +kernel
theorem dX5_told_22 : decode cX5_told 22 = .ok (.ireturn, 1) := by decide +kernel
theorem dX5_told_23 : decode cX5_told 23 = .ok (.aload_n 0, 1) := by decide +kernel
theorem dX5_told_24 : decode cX5_told 24 = .ok (.getfield 60, 3) := by decide +kernel
theorem dX5_told_27 : decode cX5_told 27 = .ok (.ifCond .ne 5, 3) := by decide +kernel
theorem dX5_told_30 : decode cX5_told 30 = .ok (.iconst (-1), 1) := by decide +kernel
theorem dX5_told_31 : decode cX5_told 31 = .ok (.ireturn, 1) := by decide +kernel
theorem dX5_told_32 : decode cX5_told 32 = .ok (.iload_n 1, 1) := by decide +kernel
theorem dX5_told_33 : decode cX5_told 33 = .ok (.tableswitch 59 0 3 #[31, 36, 41, 46], 31) := by decide +kernel
theorem dX5_told_64 : decode cX5_told 64 = .ok (.aload_n 0, 1) := by decide +kernel
theorem dX5_told_65 : decode cX5_told 65 = .ok (.getfield 63, 3) := by decide +kernel
theorem dX5_told_68 : decode cX5_told 68 = .ok (.ireturn, 1) := by decide +kernel
theorem dX5_told_69 : decode cX5_told 69 = .ok (.aload_n 0, 1) := by decide +kernel
theorem dX5_told_70 : decode cX5_told 70 = .ok (.getfield 66, 3) := by decide +kernel
theorem dX5_told_73 : decode cX5_told 73 = .ok (.ireturn, 1) := by decide +kernel
theorem dX5_told_74 : decode cX5_told 74 = .ok (.aload_n 0, 1) := by decide +kernel
theorem dX5_told_75 : decode cX5_told 75 = .ok (.getfield 69, 3) := by decide +kernel
theorem dX5_told_78 : decode cX5_told 78 = .ok (.ireturn, 1) := by decide +kernel
theorem dX5_told_79 : decode cX5_told 79 = .ok (.aload_n 0, 1) := by decide +kernel
theorem dX5_told_80 : decode cX5_told 80 = .ok (.getfield 75, 3) := by decide +kernel
theorem dX5_told_83 : decode cX5_told 83 = .ok (.ifCond .eq 7, 3) := by decide +kernel
theorem dX5_told_86 : decode cX5_told 86 = .ok (.iconst 1, 1) := by decide +kernel
theorem dX5_told_87 : decode cX5_told 87 = .ok (.goto 4, 3) := by decide +kernel
theorem dX5_told_90 : decode cX5_told 90 = .ok (.iconst 0, 1) := by decide +kernel
theorem dX5_told_91 : decode cX5_told 91 = .ok (.ireturn, 1) := by decide +kernel
theorem dX5_told_92 : decode cX5_told 92 = .ok (.aload_n 0, 1) := by decide +kernel
theorem dX5_told_93 : decode cX5_told 93 = .ok (.getfield 72, 3) := by decide +kernel
theorem dX5_told_96 : decode cX5_told 96 = .ok (.ireturn, 1) := by decide +kernel
theorem dX5_record_0 : decode cX5_record 0 = .ok (.aload_n 0, 1) := by decide +kernel
theorem dX5_record_1 : decode cX5_record 1 = .ok (.iload_n 2, 1) := by decide +kernel
theorem dX5_record_2 : decode cX5_record 2 = .ok (.ifCond .lt 13, 3) := by decide +kernel
theorem dX5_record_5 : decode cX5_record 5 = .ok (.iload_n 2, 1) := by decide +kernel
theorem dX5_record_6 : decode cX5_record 6 = .ok (.bipush 42, 2) := by decide +kernel
theorem dX5_record_8 : decode cX5_record 8 = .ok (.if_icmp .gt 7, 3) := by decide +kernel
theorem dX5_record_11 : decode cX5_record 11 = .ok (.iconst 0, 1) := by decide +kernel
theorem dX5_record_12 : decode cX5_record 12 = .ok (.goto 4, 3) := by decide +kernel
theorem dX5_record_15 : decode cX5_record 15 = .ok (.iconst 1, 1) := by decide +kernel
theorem dX5_record_16 : decode cX5_record 16 = .ok (.invokevirtual 202, 3) := by decide +kernel
theorem dX5_record_19 : decode cX5_record 19 = .ok (.ifCond .eq 5, 3) := by decide +kernel
theorem dX5_record_22 : decode cX5_record 22 = .ok (.iconst 0, 1) := by decide +kernel
theorem dX5_record_23 : decode cX5_record 23 = .ok (.ireturn, 1) := by decide +kernel
theorem dX5_record_24 : decode cX5_record 24 = .ok (.iload_n 1, 1) := by decide +kernel
theorem dX5_record_25 : decode cX5_record 25 = .ok (.ifCond .lt 11, 3) := by decide +kernel
theorem dX5_record_28 : decode cX5_record 28 = .ok (.iload_n 1, 1) := by decide +kernel
theorem dX5_record_29 : decode cX5_record 29 = .ok (.aload_n 0, 1) := by decide +kernel
theorem dX5_record_30 : decode cX5_record 30 = .ok (.getfield 69, 3) := by decide +kernel
theorem dX5_record_33 : decode cX5_record 33 = .ok (.if_icmp .lt 5, 3) := by decide +kernel
theorem dX5_record_36 : decode cX5_record 36 = .ok (.iconst (-1), 1) := by decide +kernel
theorem dX5_record_37 : decode cX5_record 37 = .ok (.ireturn, 1) := by decide +kernel
theorem dX5_record_38 : decode cX5_record 38 = .ok (.aload_n 0, 1) := by decide +kernel
theorem dX5_record_39 : decode cX5_record 39 = .ok (.getfield 43, 3) := by decide +kernel
theorem dX5_record_42 : decode cX5_record 42 = .ok (.iload_n 1, 1) := by decide +kernel
theorem dX5_record_43 : decode cX5_record 43 = .ok (.iaload, 1) := by decide +kernel
theorem dX5_record_44 : decode cX5_record 44 = .ok (.istore_n 3, 1) := by decide +kernel
theorem dX5_record_45 : decode cX5_record 45 = .ok (.iload_n 2, 1) := by decide +kernel
theorem dX5_record_46 : decode cX5_record 46 = .ok (.iconst 1, 1) := by decide +kernel
theorem dX5_record_47 : decode cX5_record 47 = .ok (.if_icmp .ne 10, 3) := by decide +kernel
theorem dX5_record_50 : decode cX5_record 50 = .ok (.aload_n 0, 1) := by decide +kernel
theorem dX5_record_51 : decode cX5_record 51 = .ok (.getfield 46, 3) := by decide +kernel
theorem dX5_record_54 : decode cX5_record 54 = .ok (.iload_n 1, 1) := by decide +kernel
theorem dX5_record_55 : decode cX5_record 55 = .ok (.iaload, 1) := by decide +kernel
theorem dX5_record_56 : decode cX5_record 56 = .ok (.ireturn, 1) := by decide +kernel
theorem dX5_record_57 : decode cX5_record 57 = .ok (.iload_n 2, 1) := by decide +kernel
theorem dX5_record_58 : decode cX5_record 58 = .ok (.iconst 3, 1) := by decide +kernel
theorem dX5_record_59 : decode cX5_record 59 = .ok (.if_icmp .ge 20, 3) := by decide +kernel
theorem dX5_record_62 : decode cX5_record 62 = .ok (.aload_n 0, 1) := by decide +kernel
theorem dX5_record_63 : decode cX5_record 63 = .ok (.getfield 40, 3) := by decide +kernel
theorem dX5_record_66 : decode cX5_record 66 = .ok (.iload_n 2, 1) := by decide +kernel
theorem dX5_record_67 : decode cX5_record 67 = .ok (.ifCond .ne 7, 3) := by decide +kernel
theorem dX5_record_70 : decode cX5_record 70 = .ok (.iload_n 3, 1) := by decide +kernel
theorem dX5_record_71 : decode cX5_record 71 = .ok (.goto 6, 3) := by decide +kernel
theorem dX5_record_74 : decode cX5_record 74 = .ok (.iload_n 3, 1) := by decide +kernel
theorem dX5_record_75 : decode cX5_record 75 = .ok (.iconst 1, 1) := by decide +kernel
theorem dX5_record_76 : decode cX5_record 76 = .ok (.iadd, 1) := by decide +kernel
theorem dX5_record_77 : decode cX5_record 77 = .ok (.iaload, 1) := by decide +kernel
theorem dX5_record_78 : decode cX5_record 78 = .ok (.ireturn, 1) := by decide +kernel
theorem dX5_record_79 : decode cX5_record 79 = .ok (.iload_n 2, 1) := by decide +kernel
theorem dX5_record_80 : decode cX5_record 80 = .ok (.iconst 3, 1) := by decide +kernel
theorem dX5_record_81 : decode cX5_record 81 = .ok (.isub, 1) := by decide +kernel
theorem dX5_record_82 : decode cX5_record 82 = .ok (.aload_n 0, 1) := by decide +kernel
theorem dX5_record_83 : decode cX5_record 83 = .ok (.getfield 40, 3) := by decide +kernel
theorem dX5_record_86 : decode cX5_record 86 = .ok (.iload_n 3, 1) := by decide +kernel
theorem dX5_record_87 : decode cX5_record 87 = .ok (.iconst 1, 1) := by decide +kernel
theorem dX5_record_88 : decode cX5_record 88 = .ok (.iadd, 1) := by decide +kernel
theorem dX5_record_89 : decode cX5_record 89 = .ok (.iaload, 1) := by decide +kernel
theorem dX5_record_90 : decode cX5_record 90 = .ok (.if_icmp .ge 16, 3) := by decide +kernel
theorem dX5_record_93 : decode cX5_record 93 = .ok (.aload_n 0, 1) := by decide +kernel
theorem dX5_record_94 : decode cX5_record 94 = .ok (.getfield 40, 3) := by decide +kernel
theorem dX5_record_97 : decode cX5_record 97 = .ok (.iload_n 3, 1) := by decide +kernel
theorem dX5_record_98 : decode cX5_record 98 = .ok (.iload_n 2, 1) := by decide +kernel
theorem dX5_record_99 : decode cX5_record 99 = .ok (.iadd, 1) := by decide +kernel
theorem dX5_record_100 : decode cX5_record 100 = .ok (.iconst 1, 1) := by decide +kernel
theorem dX5_record_101 : decode cX5_record 101 = .ok (.isub, 1) := by decide +kernel
theorem dX5_record_102 : decode cX5_record 102 = .ok (.iaload, 1) := by decide +kernel
theorem dX5_record_103 : decode cX5_record 103 = .ok (.goto 4, 3) := by decide +kernel
theorem dX5_record_106 : decode cX5_record 106 = .ok (.iconst (-1), 1) := by decide +kernel
theorem dX5_record_107 : decode cX5_record 107 = .ok (.ireturn, 1) := by decide +kernel
theorem dX5_bend_0 : decode cX5_bend 0 = .ok (.aload_n 0, 1) := by decide +kernel
theorem dX5_bend_1 : decode cX5_bend 1 = .ok (.iload_n 1, 1) := by decide +kernel
theorem dX5_bend_2 : decode cX5_bend 2 = .ok (.ifCond .lt 11, 3) := by decide +kernel
theorem dX5_bend_5 : decode cX5_bend 5 = .ok (.iload_n 1, 1) := by decide +kernel
theorem dX5_bend_6 : decode cX5_bend 6 = .ok (.aload_n 0, 1) := by decide +kernel
theorem dX5_bend_7 : decode cX5_bend 7 = .ok (.getfield 180, 3) := by decide +kernel
theorem dX5_bend_10 : decode cX5_bend 10 = .ok (.if_icmp .lt 7, 3) := by decide +kernel
theorem dX5_bend_13 : decode cX5_bend 13 = .ok (.iconst 1, 1) := by decide +kernel
theorem dX5_bend_14 : decode cX5_bend 14 = .ok (.goto 18, 3) := by decide +kernel
theorem dX5_bend_17 : decode cX5_bend 17 = .ok (.iload_n 2, 1) := by decide +kernel
theorem dX5_bend_18 : decode cX5_bend 18 = .ok (.ifCond .lt 9, 3) := by decide +kernel
theorem dX5_bend_21 : decode cX5_bend 21 = .ok (.iload_n 2, 1) := by decide +kernel
theorem dX5_bend_22 : decode cX5_bend 22 = .ok (.bipush 7, 2) := by decide +kernel
theorem dX5_bend_24 : decode cX5_bend 24 = .ok (.if_icmp .le 7, 3) := by decide +kernel
theorem dX5_bend_27 : decode cX5_bend 27 = .ok (.iconst 2, 1) := by decide +kernel
theorem dX5_bend_28 : decode cX5_bend 28 = .ok (.goto 4, 3) := by decide +kernel
theorem dX5_bend_31 : decode cX5_bend 31 = .ok (.iconst 0, 1) := by decide +kernel
theorem dX5_bend_32 : decode cX5_bend 32 = .ok (.invokevirtual 202, 3) := by decide +kernel
theorem dX5_bend_35 : decode cX5_bend 35 = .ok (.ifCond .eq 5, 3) := by decide +kernel
theorem dX5_bend_38 : decode cX5_bend 38 = .ok (.iconst 0, 1) := by decide +kernel
theorem dX5_bend_39 : decode cX5_bend 39 = .ok (.ireturn, 1) := by decide +kernel
theorem dX5_bend_40 : decode cX5_bend 40 = .ok (.aload_n 0, 1) := by decide +kernel
theorem dX5_bend_41 : decode cX5_bend 41 = .ok (.getfield 7, 3) := by decide +kernel
theorem dX5_bend_44 : decode cX5_bend 44 = .ok (.iload_n 1, 1) := by decide +kernel
theorem dX5_bend_45 : decode cX5_bend 45 = .ok (.aload_n 0, 1) := by decide +kernel
theorem dX5_bend_46 : decode cX5_bend 46 = .ok (.getfield 7, 3) := by decide +kernel
theorem dX5_bend_49 : decode cX5_bend 49 = .ok (.iload_n 1, 1) := by decide +kernel
theorem dX5_bend_50 : decode cX5_bend 50 = .ok (.iaload, 1) := by decide +kernel
theorem dX5_bend_51 : decode cX5_bend 51 = .ok (.iconst 1, 1) := by decide +kernel
theorem dX5_bend_52 : decode cX5_bend 52 = .ok (.iload_n 2, 1) := by decide +kernel
theorem dX5_bend_53 : decode cX5_bend 53 = .ok (.ishl, 1) := by decide +kernel
theorem dX5_bend_54 : decode cX5_bend 54 = .ok (.ixor, 1) := by decide +kernel
theorem dX5_bend_55 : decode cX5_bend 55 = .ok (.iastore, 1) := by decide +kernel
theorem dX5_bend_56 : decode cX5_bend 56 = .ok (.aload_n 0, 1) := by decide +kernel
theorem dX5_bend_57 : decode cX5_bend 57 = .ok (.getfield 7, 3) := by decide +kernel
theorem dX5_bend_60 : decode cX5_bend 60 = .ok (.iload_n 1, 1) := by decide +kernel
theorem dX5_bend_61 : decode cX5_bend 61 = .ok (.iaload, 1) := by decide +kernel
theorem dX5_bend_62 : decode cX5_bend 62 = .ok (.ireturn, 1) := by decide +kernel
theorem dX5_octet_0 : decode cX5_octet 0 = .ok (.aload_n 0, 1) := by decide +kernel
theorem dX5_octet_1 : decode cX5_octet 1 = .ok (.iconst 0, 1) := by decide +kernel
theorem dX5_octet_2 : decode cX5_octet 2 = .ok (.putfield 56, 3) := by decide +kernel
theorem dX5_octet_5 : decode cX5_octet 5 = .ok (.iload_n 1, 1) := by decide +kernel
theorem dX5_octet_6 : decode cX5_octet 6 = .ok (.ifCond .lt 20, 3) := by decide +kernel
theorem dX5_octet_9 : decode cX5_octet 9 = .ok (.iload_n 1, 1) := by decide +kernel
theorem dX5_octet_10 : decode cX5_octet 10 = .ok (.aload_n 0, 1) := by decide +kernel
theorem dX5_octet_11 : decode cX5_octet 11 = .ok (.getfield 180, 3) := by decide +kernel
theorem dX5_octet_14 : decode cX5_octet 14 = .ok (.if_icmp .ge 12, 3) := by decide +kernel
theorem dX5_octet_17 : decode cX5_octet 17 = .ok (.aload_n 0, 1) := by decide +kernel
theorem dX5_octet_18 : decode cX5_octet 18 = .ok (.getfield 7, 3) := by decide +kernel
theorem dX5_octet_21 : decode cX5_octet 21 = .ok (.iload_n 1, 1) := by decide +kernel
theorem dX5_octet_22 : decode cX5_octet 22 = .ok (.iaload, 1) := by decide +kernel
theorem dX5_octet_23 : decode cX5_octet 23 = .ok (.goto 4, 3) := by decide +kernel
theorem dX5_octet_26 : decode cX5_octet 26 = .ok (.iconst (-1), 1) := by decide +kernel
theorem dX5_octet_27 : decode cX5_octet 27 = .ok (.ireturn, 1) := by decide +kernel
theorem dX5_key_0 : decode cX5_key 0 = .ok (.aload_n 0, 1) := by decide +kernel
theorem dX5_key_1 : decode cX5_key 1 = .ok (.iload_n 1, 1) := by decide +kernel
theorem dX5_key_2 : decode cX5_key 2 = .ok (.ifCond .lt 13, 3) := by decide +kernel
theorem dX5_key_5 : decode cX5_key 5 = .ok (.iload_n 1, 1) := by decide +kernel
theorem dX5_key_6 : decode cX5_key 6 = .ok (.bipush 15, 2) := by decide +kernel
theorem dX5_key_8 : decode cX5_key 8 = .ok (.if_icmp .gt 7, 3) := by decide +kernel
theorem dX5_key_11 : decode cX5_key 11 = .ok (.iconst 0, 1) := by decide +kernel
theorem dX5_key_12 : decode cX5_key 12 = .ok (.goto 4, 3) := by decide +kernel
theorem dX5_key_15 : decode cX5_key 15 = .ok (.iconst 1, 1) := by decide +kernel
theorem dX5_key_16 : decode cX5_key 16 = .ok (.invokevirtual 202, 3) := by decide +kernel
theorem dX5_key_19 : decode cX5_key 19 = .ok (.ifCond .eq 5, 3) := by decide +kernel
theorem dX5_key_22 : decode cX5_key 22 = .ok (.iconst 0, 1) := by decide +kernel
theorem dX5_key_23 : decode cX5_key 23 = .ok (.ireturn, 1) := by decide +kernel
theorem dX5_key_24 : decode cX5_key 24 = .ok (.aload_n 0, 1) := by decide +kernel
theorem dX5_key_25 : decode cX5_key 25 = .ok (.getfield 16, 3) := by decide +kernel
theorem dX5_key_28 : decode cX5_key 28 = .ok (.iload_n 1, 1) := by decide +kernel
theorem dX5_key_29 : decode cX5_key 29 = .ok (.iaload, 1) := by decide +kernel
theorem dX5_key_30 : decode cX5_key 30 = .ok (.ireturn, 1) := by decide +kernel
theorem dX5_count_0 : decode cX5_count 0 = .ok (.aload_n 0, 1) := by decide +kernel
theorem dX5_count_1 : decode cX5_count 1 = .ok (.iload_n 1, 1) := by decide +kernel
theorem dX5_count_2 : decode cX5_count 2 = .ok (.ifCond .lt 12, 3) := by decide +kernel
theorem dX5_count_5 : decode cX5_count 5 = .ok (.iload_n 1, 1) := by decide +kernel
theorem dX5_count_6 : decode cX5_count 6 = .ok (.iconst 5, 1) := by decide +kernel
theorem dX5_count_7 : decode cX5_count 7 = .ok (.if_icmp .gt 7, 3) := by decide +kernel
theorem dX5_count_10 : decode cX5_count 10 = .ok (.iconst 0, 1) := by decide +kernel
theorem dX5_count_11 : decode cX5_count 11 = .ok (.goto 4, 3) := by decide +kernel
theorem dX5_count_14 : decode cX5_count 14 = .ok (.iconst 1, 1) := by decide +kernel
theorem dX5_count_15 : decode cX5_count 15 = .ok (.invokevirtual 202, 3) := by decide +kernel
theorem dX5_count_18 : decode cX5_count 18 = .ok (.ifCond .eq 5, 3) := by decide +kernel
theorem dX5_count_21 : decode cX5_count 21 = .ok (.iconst 0, 1) := by decide +kernel
theorem dX5_count_22 : decode cX5_count 22 = .ok (.ireturn, 1) := by decide +kernel
theorem dX5_count_23 : decode cX5_count 23 = .ok (.iload_n 1, 1) := by decide +kernel
theorem dX5_count_24 : decode cX5_count 24 = .ok (.tableswitch 69 0 4 #[36, 41, 46, 51, 64], 36) := by decide +kernel
theorem dX5_count_60 : decode cX5_count 60 = .ok (.aload_n 0, 1) := by decide +kernel
theorem dX5_count_61 : decode cX5_count 61 = .ok (.getfield 180, 3) := by decide +kernel
theorem dX5_count_64 : decode cX5_count 64 = .ok (.ireturn, 1) := by decide +kernel
theorem dX5_count_65 : decode cX5_count 65 = .ok (.aload_n 0, 1) := by decide +kernel
theorem dX5_count_66 : decode cX5_count 66 = .ok (.getfield 183, 3) := by decide +kernel
theorem dX5_count_69 : decode cX5_count 69 = .ok (.ireturn, 1) := by decide +kernel
theorem dX5_count_70 : decode cX5_count 70 = .ok (.aload_n 0, 1) := by decide +kernel
theorem dX5_count_71 : decode cX5_count 71 = .ok (.getfield 186, 3) := by decide +kernel
theorem dX5_count_74 : decode cX5_count 74 = .ok (.ireturn, 1) := by decide +kernel
theorem dX5_count_75 : decode cX5_count 75 = .ok (.aload_n 0, 1) := by decide +kernel
theorem dX5_count_76 : decode cX5_count 76 = .ok (.getfield 52, 3) := by decide +kernel
theorem dX5_count_79 : decode cX5_count 79 = .ok (.ifCond .eq 7, 3) := by decide +kernel
theorem dX5_count_82 : decode cX5_count 82 = .ok (.iconst 1, 1) := by decide +kernel
theorem dX5_count_83 : decode cX5_count 83 = .ok (.goto 4, 3) := by decide +kernel
theorem dX5_count_86 : decode cX5_count 86 = .ok (.iconst 0, 1) := by decide +kernel
theorem dX5_count_87 : decode cX5_count 87 = .ok (.ireturn, 1) := by decide +kernel
theorem dX5_count_88 : decode cX5_count 88 = .ok (.aload_n 0, 1) := by decide +kernel
theorem dX5_count_89 : decode cX5_count 89 = .ok (.getfield 189, 3) := by decide +kernel
theorem dX5_count_92 : decode cX5_count 92 = .ok (.ireturn, 1) := by decide +kernel
theorem dX5_count_93 : decode cX5_count 93 = .ok (.aload_n 0, 1) := by decide +kernel
theorem dX5_count_94 : decode cX5_count 94 = .ok (.getfield 199, 3) := by decide +kernel
theorem dX5_count_97 : decode cX5_count 97 = .ok (.ireturn, 1) := by decide +kernel
