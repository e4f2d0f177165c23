theorem dX4_room_31 : decode cX4_room 31 = .ok (.iload_n 2, 1) := by decide +kernel
theorem dX4_room_32 : decode cX4_room 32 = .ok (.iconst 1, 1) := by decide +kernel
theorem dX4_room_33 : decode cX4_room 33 = .ok (.iadd, 1) := by decide +kernel
theorem dX4_room_34 : decode cX4_room 34 = .ok (.if_icmp .ne 9, 3) := by decide +kernel
theorem dX4_room_37 : decode cX4_room 37 = .ok (.iload_n 3, 1) := by decide +kernel
theorem dX4_room_38 : decode cX4_room 38 = .ok (.iconst 1, 1) := by decide +kernel
theorem dX4_room_39 : decode cX4_room 39 = .ok (.iadd, 1) := by decide +kernel
theorem dX4_room_40 : decode cX4_room 40 = .ok (.goto 4, 3) := by decide +kernel
theorem dX4_room_43 : decode cX4_room 43 = .ok (.iconst 0, 1) := by decide +kernel
theorem dX4_room_44 : decode cX4_room 44 = .ok (.istore_n 3, 1) := by decide +kernel
theorem dX4_room_45 : decode cX4_room 45 = .ok (.iload_n 3, 1) := by decide +kernel
theorem dX4_room_46 : decode cX4_room 46 = .ok (.iload_n 1, 1) := by decide +kernel
theorem dX4_room_47 : decode cX4_room 47 = .ok (.if_icmp .ne 10, 3) := by decide +kernel
theorem dX4_room_50 : decode cX4_room 50 = .ok (.iload 4, 2) := by decide +kernel
theorem dX4_room_52 : decode cX4_room 52 = .ok (.iconst 1, 1) := by decide +kernel
theorem dX4_room_53 : decode cX4_room 53 = .ok (.iadd, 1) := by decide +kernel
theorem dX4_room_54 : decode cX4_room 54 = .ok (.iload_n 1, 1) := by decide +kernel
theorem dX4_room_55 : decode cX4_room 55 = .ok (.isub, 1) := by decide +kernel
theorem dX4_room_56 : decode cX4_room 56 = .ok (.ireturn, 1) := by decide +kernel
theorem dX4_room_57 : decode cX4_room 57 = .ok (.iinc 4 1, 3) := by decide +kernel
theorem dX4_room_60 : decode cX4_room 60 = .ok (.goto (-55), 3) := by decide +kernel
theorem dX4_room_63 : decode cX4_room 63 = .ok (.iconst (-1), 1) := by decide +kernel
theorem dX4_room_64 : decode cX4_room 64 = .ok (.ireturn, 1) := by decide +kernel
theorem dX4_together_0 : decode cX4_together 0 = .ok (.iconst 0, 1) := by decide +kernel
theorem dX4_together_1 : decode cX4_together 1 = .ok (.istore_n 1, 1) := by decide +kernel
theorem dX4_together_2 : decode cX4_together 2 = .ok (.iconst 0, 1) := by decide +kernel
theorem dX4_together_3 : decode cX4_together 3 = .ok (.istore_n 2, 1) := by decide +kernel
theorem dX4_together_4 : decode cX4_together 4 = .ok (.iconst 0, 1) := by decide +kernel
theorem dX4_together_5 : decode cX4_together 5 = .ok (.istore_n 3, 1) := by decide +kernel
theorem dX4_together_6 : decode cX4_together 6 = .ok (.iload_n 3, 1) := by decide +kernel
theorem dX4_together_7 : decode cX4_together 7 = .ok (.aload_n 0, 1) := by decide +kernel
theorem dX4_together_8 : decode cX4_together 8 = .ok (.getfield 41, 3) := by decide +kernel
theorem dX4_together_11 : decode cX4_together 11 = .ok (.if_icmp .ge 63, 3) := by decide +kernel
theorem dX4_together_14 : decode cX4_together 14 = .ok (.aload_n 0, 1) := by decide +kernel
theorem dX4_together_15 : decode cX4_together 15 = .ok (.getfield 16, 3) := by decide +kernel
theorem dX4_together_18 : decode cX4_together 18 = .ok (.iload_n 3, 1) := by decide +kernel
theorem dX4_together_19 : decode cX4_together 19 = .ok (.iaload, 1) := by decide +kernel
theorem dX4_together_20 : decode cX4_together 20 = .ok (.ifCond .ne 6, 3) := by decide +kernel
theorem dX4_together_23 : decode cX4_together 23 = .ok (.goto 45, 3) := by decide +kernel
theorem dX4_together_26 : decode cX4_together 26 = .ok (.iload_n 2, 1) := by decide +kernel
theorem dX4_together_27 : decode cX4_together 27 = .ok (.iload_n 3, 1) := by decide +kernel
theorem dX4_together_28 : decode cX4_together 28 = .ok (.if_icmp .eq 37, 3) := by decide +kernel
theorem dX4_together_31 : decode cX4_together 31 = .ok (.aload_n 0, 1) := by decide +kernel
theorem dX4_together_32 : decode cX4_together 32 = .ok (.getfield 13, 3) := by decide +kernel
theorem dX4_together_35 : decode cX4_together 35 = .ok (.iload_n 2, 1) := by decide +kernel
theorem dX4_together_36 : decode cX4_together 36 = .ok (.aload_n 0, 1) := by decide +kernel
theorem dX4_together_37 : decode cX4_together 37 = .ok (.getfield 13, 3) := by decide +kernel
theorem dX4_together_40 : decode cX4_together 40 = .ok (.iload_n 3, 1) := by decide +kernel
theorem dX4_together_41 : decode cX4_together 41 = .ok (.iaload, 1) := by decide +kernel
theorem dX4_together_42 : decode cX4_together 42 = .ok (.iastore, 1) := by decide +kernel
theorem dX4_together_43 : decode cX4_together 43 = .ok (.aload_n 0, 1) := by decide +kernel
theorem dX4_together_44 : decode cX4_together 44 = .ok (.getfield 16, 3) := by decide +kernel
theorem dX4_together_47 : decode cX4_together 47 = .ok (.iload_n 2, 1) := by decide +kernel
theorem dX4_together_48 : decode cX4_together 48 = .ok (.aload_n 0, 1) := by decide +kernel
theorem dX4_together_49 : decode cX4_together 49 = .ok (.getfield 16, 3) := by decide +kernel
theorem dX4_together_52 : decode cX4_together 52 = .ok (.iload_n 3, 1) := by decide +kernel
theorem dX4_together_53 : decode cX4_together 53 = .ok (.iaload, 1) := by decide +kernel
theorem dX4_together_54 : decode cX4_together 54 = .ok (.iastore, 1) := by decide +kernel
theorem dX4_together_55 : decode cX4_together 55 = .ok (.aload_n 0, 1) := by decide +kernel
theorem dX4_together_56 : decode cX4_together 56 = .ok (.getfield 16, 3) := by decide +kernel
theorem dX4_together_59 : decode cX4_together 59 = .ok (.iload_n 3, 1) := by decide +kernel
theorem dX4_together_60 : decode cX4_together 60 = .ok (.iconst 0, 1) := by decide +kernel
theorem dX4_together_61 : decode cX4_together 61 = .ok (.iastore, 1) := by decide +kernel
theorem dX4_together_62 : decode cX4_together 62 = .ok (.iinc 1 1, 3) := by decide +kernel
theorem dX4_together_65 : decode cX4_together 65 = .ok (.iinc 2 1, 3) := by decide +kernel
theorem dX4_together_68 : decode cX4_together 68 = .ok (.iinc 3 1, 3) := by decide +kernel
theorem dX4_together_71 : decode cX4_together 71 = .ok (.goto (-65), 3) := by decide +kernel
theorem dX4_together_74 : decode cX4_together 74 = .ok (.iload_n 1, 1) := by decide +kernel
theorem dX4_together_75 : decode cX4_together 75 = .ok (.ireturn, 1) := by decide +kernel
theorem dX4_isBlock_0 : decode cX4_isBlock 0 = .ok (.iload_n 1, 1) := by decide +kernel
theorem dX4_isBlock_1 : decode cX4_isBlock 1 = .ok (.iconst 0, 1) := by decide +kernel
theorem dX4_isBlock_2 : decode cX4_isBlock 2 = .ok (.bipush 31, 2) := by decide +kernel
theorem dX4_isBlock_4 : decode cX4_isBlock 4 = .ok (.invokestatic 44, 3) := by decide +kernel
theorem dX4_isBlock_7 : decode cX4_isBlock 7 = .ok (.ireturn, 1) := by decide +kernel
theorem dX4_write_0 : decode cX4_write 0 = .ok (.aload_n 0, 1) := by decide +kernel
theorem dX4_write_1 : decode cX4_write 1 = .ok (.iload_n 1, 1) := by decide +kernel
theorem dX4_write_2 : decode cX4_write 2 = .ok (.invokevirtual 85, 3) := by decide +kernel
theorem dX4_write_5 : decode cX4_write 5 = .ok (.ifCond .ne 6, 3) := by decide +kernel
theorem dX4_write_8 : decode cX4_write 8 = .ok (.bipush (-11), 2) := by decide +kernel
theorem dX4_write_10 : decode cX4_write 10 = .ok (.ireturn, 1) := by decide +kernel
theorem dX4_write_11 : decode cX4_write 11 = .ok (.iconst 1, 1) := by decide +kernel
theorem dX4_write_12 : decode cX4_write 12 = .ok (.istore_n 2, 1) := by decide +kernel
theorem dX4_write_13 : decode cX4_write 13 = .ok (.iconst 1, 1) := by decide +kernel
theorem dX4_write_14 : decode cX4_write 14 = .ok (.istore_n 3, 1) := by decide +kernel
theorem dX4_write_15 : decode cX4_write 15 = .ok (.iload_n 3, 1) := by decide +kernel
theorem dX4_write_16 : decode cX4_write 16 = .ok (.sipush 256, 3) := by decide +kernel
theorem dX4_write_19 : decode cX4_write 19 = .ok (.if_icmp .ge 34, 3) := by decide +kernel
theorem dX4_write_22 : decode cX4_write 22 = .ok (.iload_n 2, 1) := by decide +kernel
theorem dX4_write_23 : decode cX4_write 23 = .ok (.ifCond .eq 22, 3) := by decide +kernel
theorem dX4_write_26 : decode cX4_write 26 = .ok (.aload_n 0, 1) := by decide +kernel
theorem dX4_write_27 : decode cX4_write 27 = .ok (.getfield 7, 3) := by decide +kernel
theorem dX4_write_30 : decode cX4_write 30 = .ok (.iload_n 3, 1) := by decide +kernel
theorem dX4_write_31 : decode cX4_write 31 = .ok (.iaload, 1) := by decide +kernel
theorem dX4_write_32 : decode cX4_write 32 = .ok (.aload_n 0, 1) := by decide +kernel
theorem dX4_write_33 : decode cX4_write 33 = .ok (.getfield 7, 3) := by decide +kernel
theorem dX4_write_36 : decode cX4_write 36 = .ok (.iconst 0, 1) := by decide +kernel
theorem dX4_write_37 : decode cX4_write 37 = .ok (.iaload, 1) := by decide +kernel
theorem dX4_write_38 : decode cX4_write 38 = .ok (.if_icmp .ne 7, 3) := by decide +kernel
theorem dX4_write_41 : decode cX4_write 41 = .ok (.iconst 1, 1) := by decide +kernel
theorem dX4_write_42 : decode cX4_write 42 = .ok (.goto 4, 3) := by decide +kernel
theorem dX4_write_45 : decode cX4_write 45 = .ok (.iconst 0, 1) := by decide +kernel
theorem dX4_write_46 : decode cX4_write 46 = .ok (.istore_n 2, 1) := by decide +kernel
theorem dX4_write_47 : decode cX4_write 47 = .ok (.iinc 3 1, 3) := by decide +kernel
theorem dX4_write_50 : decode cX4_write 50 = .ok (.goto (-35), 3) := by decide +kernel
theorem dX4_write_53 : decode cX4_write 53 = .ok (.iload_n 2, 1) := by decide +kernel
theorem dX4_write_54 : decode cX4_write 54 = .ok (.ifCond .eq 29, 3) := by decide +kernel
theorem dX4_write_57 : decode cX4_write 57 = .ok (.aload_n 0, 1) := by decide +kernel
theorem dX4_write_58 : decode cX4_write 58 = .ok (.iload_n 1, 1) := by decide +kernel
theorem dX4_write_59 : decode cX4_write 59 = .ok (.invokevirtual 89, 3) := by decide +kernel
theorem dX4_write_62 : decode cX4_write 62 = .ok (.aload_n 0, 1) := by decide +kernel
theorem dX4_write_63 : decode cX4_write 63 = .ok (.getfield 19, 3) := by decide +kernel
theorem dX4_write_66 : decode cX4_write 66 = .ok (.iload_n 1, 1) := by decide +kernel
theorem dX4_write_67 : decode cX4_write 67 = .ok (.iconst 1, 1) := by decide +kernel
theorem dX4_write_68 : decode cX4_write 68 = .ok (.iastore, 1) := by decide +kernel
theorem dX4_write_69 : decode cX4_write 69 = .ok (.aload_n 0, 1) := by decide +kernel
theorem dX4_write_70 : decode cX4_write 70 = .ok (.getfield 22, 3) := by decide +kernel
theorem dX4_write_73 : decode cX4_write 73 = .ok (.iload_n 1, 1) := by decide +kernel
theorem dX4_write_74 : decode cX4_write 74 = .ok (.aload_n 0, 1) := by decide +kernel
theorem dX4_write_75 : decode cX4_write 75 = .ok (.getfield 7, 3) := by decide +kernel
theorem dX4_write_78 : decode cX4_write 78 = .ok (.iconst 0, 1) := by decide +kernel
theorem dX4_write_79 : decode cX4_write 79 = .ok (.iaload, 1) := by decide +kernel
theorem dX4_write_80 : decode cX4_write 80 = .ok (.iastore, 1) := by decide +kernel
theorem dX4_write_81 : decode cX4_write 81 = .ok (.iconst 0, 1) := by decide +kernel
theorem dX4_write_82 : decode cX4_write 82 = .ok (.ireturn, 1) := by decide +kernel
theorem dX4_write_83 : decode cX4_write 83 = .ok (.aload_n 0, 1) := by decide +kernel
theorem dX4_write_84 : decode cX4_write 84 = .ok (.invokevirtual 92, 3) := by decide +kernel
theorem dX4_write_87 : decode cX4_write 87 = .ok (.aload_n 0, 1) := by decide +kernel
theorem dX4_write_88 : decode cX4_write 88 = .ok (.getfield 48, 3) := by decide +kernel
theorem dX4_write_91 : decode cX4_write 91 = .ok (.sipush 256, 3) := by decide +kernel
theorem dX4_write_94 : decode cX4_write 94 = .ok (.if_icmp .ge 7, 3) := by decide +kernel
theorem dX4_write_97 : decode cX4_write 97 = .ok (.iconst 1, 1) := by decide +kernel
theorem dX4_write_98 : decode cX4_write 98 = .ok (.goto 4, 3) := by decide +kernel
theorem dX4_write_101 : decode cX4_write 101 = .ok (.iconst 0, 1) := by decide +kernel
theorem dX4_write_102 : decode cX4_write 102 = .ok (.istore_n 3, 1) := by decide +kernel
theorem dX4_write_103 : decode cX4_write 103 = .ok (.iload_n 3, 1) := by decide +kernel
theorem dX4_write_104 : decode cX4_write 104 = .ok (.ifCond .eq 10, 3) := by decide +kernel
theorem dX4_write_107 : decode cX4_write 107 = .ok (.aload_n 0, 1) := by decide +kernel
theorem dX4_write_108 : decode cX4_write 108 = .ok (.getfield 48, 3) := by decide +kernel
theorem dX4_write_111 : decode cX4_write 111 = .ok (.goto 6, 3) := by decide +kernel
theorem dX4_write_114 : decode cX4_write 114 = .ok (.sipush 256, 3) := by decide +kernel
theorem dX4_write_117 : decode cX4_write 117 = .ok (.istore 4, 2) := by decide +kernel
theorem dX4_write_119 : decode cX4_write 119 = .ok (.aload_n 0, 1) := by decide +kernel
theorem dX4_write_120 : decode cX4_write 120 = .ok (.iload 4, 2) := by decide +kernel
theorem dX4_write_122 : decode cX4_write 122 = .ok (.iload_n 1, 1) := by decide +kernel
theorem dX4_write_123 : decode cX4_write 123 = .ok (.invokevirtual 95, 3) := by decide +kernel
theorem dX4_write_126 : decode cX4_write 126 = .ok (.istore 5, 2) := by decide +kernel
theorem dX4_write_128 : decode cX4_write 128 = .ok (.iload 5, 2) := by decide +kernel
theorem dX4_write_130 : decode cX4_write 130 = .ok (.ifCond .ge 22, 3) := by decide +kernel
theorem dX4_write_133 : decode cX4_write 133 = .ok (.aload_n 0, 1) := by decide +kernel
theorem dX4_write_134 : decode cX4_write 134 = .ok (.iconst 0, 1) := by decide +kernel
theorem dX4_write_135 : decode cX4_write 135 = .ok (.invokevirtual 98, 3) := by decide +kernel
theorem dX4_write_138 : decode cX4_write 138 = .ok (.aload_n 0, 1) := by decide +kernel
theorem dX4_write_139 : decode cX4_write 139 = .ok (.iload_n 1, 1) := by decide +kernel
theorem dX4_write_140 : decode cX4_write 140 = .ok (.invokevirtual 102, 3) := by decide +kernel
theorem dX4_write_143 : decode cX4_write 143 = .ok (.iadd, 1) := by decide +kernel
theorem dX4_write_144 : decode cX4_write 144 = .ok (.iload 4, 2) := by decide +kernel
theorem dX4_write_146 : decode cX4_write 146 = .ok (.if_icmp .ge 6, 3) := by decide +kernel
theorem dX4_write_149 : decode cX4_write 149 = .ok (.bipush (-14), 2) := by decide +kernel
theorem dX4_write_151 : decode cX4_write 151 = .ok (.ireturn, 1) := by decide +kernel
theorem dX4_write_152 : decode cX4_write 152 = .ok (.aload_n 0, 1) := by decide +kernel
theorem dX4_write_153 : decode cX4_write 153 = .ok (.iload_n 1, 1) := by decide +kernel
theorem dX4_write_154 : decode cX4_write 154 = .ok (.invokevirtual 89, 3) := by decide +kernel
theorem dX4_write_157 : decode cX4_write 157 = .ok (.iload 5, 2) := by decide +kernel
theorem dX4_write_159 : decode cX4_write 159 = .ok (.ifCond .ge 18, 3) := by decide +kernel
theorem dX4_write_162 : decode cX4_write 162 = .ok (.aload_n 0, 1) := by decide +kernel
theorem dX4_write_163 : decode cX4_write 163 = .ok (.invokevirtual 105, 3) := by decide +kernel
theorem dX4_write_166 : decode cX4_write 166 = .ok (.istore 6, 2) := by decide +kernel
theorem dX4_write_168 : decode cX4_write 168 = .ok (.aload_n 0, 1) := by decide +kernel
theorem dX4_write_169 : decode cX4_write 169 = .ok (.iload 4, 2) := by decide +kernel
theorem dX4_write_171 : decode cX4_write 171 = .ok (.iload_n 1, 1) := by decide +kernel
theorem dX4_write_172 : decode cX4_write 172 = .ok (.invokevirtual 95, 3) := by decide +kernel
theorem dX4_write_175 : decode cX4_write 175 = .ok (.istore 5, 2) := by decide +kernel
theorem dX4_write_177 : decode cX4_write 177 = .ok (.iconst 0, 1) := by decide +kernel
theorem dX4_write_178 : decode cX4_write 178 = .ok (.istore 6, 2) := by decide +kernel
theorem dX4_write_180 : decode cX4_write 180 = .ok (.iload 6, 2) := by decide +kernel
theorem dX4_write_182 : decode cX4_write 182 = .ok (.iload 4, 2) := by decide +kernel
theorem dX4_write_184 : decode cX4_write 184 = .ok (.if_icmp .ge 53, 3) := by decide +kernel
theorem dX4_write_187 : decode cX4_write 187 = .ok (.aload_n 0, 1) := by decide +kernel
theorem dX4_write_188 : decode cX4_write 188 = .ok (.getfield 13, 3) := by decide +kernel
theorem dX4_write_191 : decode cX4_write 191 = .ok (.iload 5, 2) := by decide +kernel
theorem dX4_write_193 : decode cX4_write 193 = .ok (.iload 6, 2) := by decide +kernel
theorem dX4_write_195 : decode cX4_write 195 = .ok (.iadd, 1) := by decide +kernel
theorem dX4_write_196 : decode cX4_write 196 = .ok (.iload_n 3, 1) := by decide +kernel
theorem dX4_write_197 : decode cX4_write 197 = .ok (.ifCond .eq 13, 3) := by decide +kernel
theorem dX4_write_200 : decode cX4_write 200 = .ok (.aload_n 0, 1) := by decide +kernel
theorem dX4_write_201 : decode cX4_write 201 = .ok (.getfield 32, 3) := by decide +kernel
theorem dX4_write_204 : decode cX4_write 204 = .ok (.iload 6, 2) := by decide +kernel
theorem dX4_write_206 : decode cX4_write 206 = .ok (.iaload, 1) := by decide +kernel
theorem dX4_write_207 : decode cX4_write 207 = .ok (.goto 10, 3) := by decide +kernel
theorem dX4_write_210 : decode cX4_write 210 = .ok (.aload_n 0, 1) := by decide +kernel
theorem dX4_write_211 : decode cX4_write 211 = .ok (.getfield 7, 3) := by decide +kernel
theorem dX4_write_214 : decode cX4_write 214 = .ok (.iload 6, 2) := by decide +kernel
theorem dX4_write_216 : decode cX4_write 216 = .ok (.iaload, 1) := by decide +kernel
theorem dX4_write_217 : decode cX4_write 217 = .ok (.iastore, 1) := by decide +kernel
theorem dX4_write_218 : decode cX4_write 218 = .ok (.aload_n 0, 1) := by decide +kernel
theorem dX4_write_219 : decode cX4_write 219 = .ok (.getfield 16, 3) := by decide +kernel
theorem dX4_write_222 : decode cX4_write 222 = .ok (.iload 5, 2) := by decide +kernel
theorem dX4_write_224 : decode cX4_write 224 = .ok (.iload 6, 2) := by decide +kernel
theorem dX4_write_226 : decode cX4_write 226 = .ok (.iadd, 1) := by decide +kernel
theorem dX4_write_227 : decode cX4_write 227 = .ok (.iload_n 1, 1) := by decide +kernel
theorem dX4_write_228 : decode cX4_write 228 = .ok (.iconst 1, 1) := by decide +kernel
theorem dX4_write_229 : decode cX4_write 229 = .ok (.iadd, 1) := by decide +kernel
theorem dX4_write_230 : decode cX4_write 230 = .ok (.iastore, 1) := by decide +kernel
theorem dX4_write_231 : decode cX4_write 231 = .ok (.iinc 6 1, 3) := by decide +kernel
theorem dX4_write_234 : decode cX4_write 234 = .ok (.goto (-54), 3) := by decide +kernel
theorem dX4_write_237 : decode cX4_write 237 = .ok (.aload_n 0, 1) := by decide +kernel
theorem dX4_write_238 : decode cX4_write 238 = .ok (.getfield 19, 3) := by decide +kernel
theorem dX4_write_241 : decode cX4_write 241 = .ok (.iload_n 1, 1) := by decide +kernel
theorem dX4_write_242 : decode cX4_write 242 = .ok (.iload_n 3, 1) := by decide +kernel
theorem dX4_write_243 : decode cX4_write 243 = .ok (.ifCond .eq 7, 3) := by decide +kernel
theorem dX4_write_246 : decode cX4_write 246 = .ok (.iconst 2, 1) := by decide +kernel
theorem dX4_write_247 : decode cX4_write 247 = .ok (.goto 4, 3) := by decide +kernel
theorem dX4_write_250 : decode cX4_write 250 = .ok (.iconst 3, 1) := by decide +kernel
theorem dX4_write_251 : decode cX4_write 251 = .ok (.iastore, 1) := by decide +kernel
theorem dX4_write_252 : decode cX4_write 252 = .ok (.iload 4, 2) := by decide +kernel
theorem dX4_write_254 : decode cX4_write 254 = .ok (.ireturn, 1) := by decide +kernel
theorem dX4_read_0 : decode cX4_read 0 = .ok (.aload_n 0, 1) := by decide +kernel
theorem dX4_read_1 : decode cX4_read 1 = .ok (.iload_n 1, 1) := by decide +kernel
theorem dX4_read_2 : decode cX4_read 2 = .ok (.invokevirtual 85, 3) := by decide +kernel
theorem dX4_read_5 : decode cX4_read 5 = .ok (.ifCond .ne 6, 3) := by decide +kernel
theorem dX4_read_8 : decode cX4_read 8 = .ok (.bipush (-11), 2) := by decide +kernel
theorem dX4_read_10 : decode cX4_read 10 = .ok (.ireturn, 1) := by decide +kernel
theorem dX4_read_11 : decode cX4_read 11 = .ok (.aload_n 0, 1) := by decide +kernel
theorem dX4_read_12 : decode cX4_read 12 = .ok (.getfield 19, 3) := by decide +kernel
theorem dX4_read_15 : decode cX4_read 15 = .ok (.iload_n 1, 1) := by decide +kernel
theorem dX4_read_16 : decode cX4_read 16 = .ok (.iaload, 1) := by decide +kernel
theorem dX4_read_17 : decode cX4_read 17 = .ok (.iconst 2, 1) := by decide +kernel
theorem dX4_read_18 : decode cX4_read 18 = .ok (.if_icmp .ge 46, 3) := by decide +kernel
theorem dX4_read_21 : decode cX4_read 21 = .ok (.iconst 0, 1) := by decide +kernel
theorem dX4_read_22 : decode cX4_read 22 = .ok (.istore_n 2, 1) := by decide +kernel
theorem dX4_read_23 : decode cX4_read 23 = .ok (.iload_n 2, 1) := by decide +kernel
theorem dX4_read_24 : decode cX4_read 24 = .ok (.sipush 256, 3) := by decide +kernel
theorem dX4_read_27 : decode cX4_read 27 = .ok (.if_icmp .ge 35, 3) := by decide +kernel
theorem dX4_read_30 : decode cX4_read 30 = .ok (.aload_n 0, 1) := by decide +kernel
theorem dX4_read_31 : decode cX4_read 31 = .ok (.getfield 7, 3) := by decide +kernel
theorem dX4_read_34 : decode cX4_read 34 = .ok (.iload_n 2, 1) := by decide +kernel
theorem dX4_read_35 : decode cX4_read 35 = .ok (.aload_n 0, 1) := by decide +kernel
theorem dX4_read_36 : decode cX4_read 36 = .ok (.getfield 19, 3) := by decide +kernel
theorem dX4_read_39 : decode cX4_read 39 = .ok (.iload_n 1, 1) := by decide +kernel
theorem dX4_read_40 : decode cX4_read 40 = .ok (.iaload, 1) := by decide +kernel
theorem dX4_read_41 : decode cX4_read 41 = .ok (.iconst 1, 1) := by decide +kernel
theorem dX4_read_42 : decode cX4_read 42 = .ok (.if_icmp .ne 12, 3) := by decide +kernel
theorem dX4_read_45 : decode cX4_read 45 = .ok (.aload_n 0, 1) := by decide +kernel
theorem dX4_read_46 : decode cX4_read 46 = .ok (.getfield 22, 3) := by decide +kernel
theorem dX4_read_49 : decode cX4_read 49 = .ok (.iload_n 1, 1) := by decide +kernel
theorem dX4_read_50 : decode cX4_read 50 = .ok (.iaload, 1) := by decide +kernel
theorem dX4_read_51 : decode cX4_read 51 = .ok (.goto 4, 3) := by decide +kernel
theorem dX4_read_54 : decode cX4_read 54 = .ok (.iconst 0, 1) := by decide +kernel
theorem dX4_read_55 : decode cX4_read 55 = .ok (.iastore, 1) := by decide +kernel
theorem dX4_read_56 : decode cX4_read 56 = .ok (.iinc 2 1, 3) := by decide +kernel
theorem dX4_read_59 : decode cX4_read 59 = .ok (.goto (-36), 3) := by decide +kernel
theorem dX4_read_62 : decode cX4_read 62 = .ok (.iconst 1, 1) := by decide +kernel
theorem dX4_read_63 : decode cX4_read 63 = .ok (.ireturn, 1) := by decide +kernel
theorem dX4_read_64 : decode cX4_read 64 = .ok (.aload_n 0, 1) := by decide +kernel
theorem dX4_read_65 : decode cX4_read 65 = .ok (.iload_n 1, 1) := by decide +kernel
theorem dX4_read_66 : decode cX4_read 66 = .ok (.invokevirtual 108, 3) := by decide +kernel
theorem dX4_read_69 : decode cX4_read 69 = .ok (.istore_n 2, 1) := by decide +kernel
theorem dX4_read_70 : decode cX4_read 70 = .ok (.aload_n 0, 1) := by decide +kernel
theorem dX4_read_71 : decode cX4_read 71 = .ok (.getfield 19, 3) := by decide +kernel
theorem dX4_read_74 : decode cX4_read 74 = .ok (.iload_n 1, 1) := by decide +kernel
theorem dX4_read_75 : decode cX4_read 75 = .ok (.iaload, 1) := by decide +kernel
theorem dX4_read_76 : decode cX4_read 76 = .ok (.iconst 3, 1) := by decide +kernel
theorem dX4_read_77 : decode cX4_read 77 = .ok (.if_icmp .ne 34, 3) := by decide +kernel
theorem dX4_read_80 : decode cX4_read 80 = .ok (.iconst 0, 1) := by decide +kernel
theorem dX4_read_81 : decode cX4_read 81 = .ok (.istore_n 3, 1) := by decide +kernel
theorem dX4_read_82 : decode cX4_read 82 = .ok (.iload_n 3, 1) := by decide +kernel
theorem dX4_read_83 : decode cX4_read 83 = .ok (.sipush 256, 3) := by decide +kernel
theorem dX4_read_86 : decode cX4_read 86 = .ok (.if_icmp .ge 23, 3) := by decide +kernel
theorem dX4_read_89 : decode cX4_read 89 = .ok (.aload_n 0, 1) := by decide +kernel
theorem dX4_read_90 : decode cX4_read 90 = .ok (.getfield 7, 3) := by decide +kernel
theorem dX4_read_93 : decode cX4_read 93 = .ok (.iload_n 3, 1) := by decide +kernel
theorem dX4_read_94 : decode cX4_read 94 = .ok (.aload_n 0, 1) := by decide +kernel
theorem dX4_read_95 : decode cX4_read 95 = .ok (.getfield 13, 3) := by decide +kernel
theorem dX4_read_98 : decode cX4_read 98 = .ok (.iload_n 2, 1) := by decide +kernel
theorem dX4_read_99 : decode cX4_read 99 = .ok (.iload_n 3, 1) := by decide +kernel
theorem dX4_read_100 : decode cX4_read 100 = .ok (.iadd, 1) := by decide +kernel
theorem dX4_read_101 : decode cX4_read 101 = .ok (.iaload, 1) := by decide +kernel
theorem dX4_read_102 : decode cX4_read 102 = .ok (.iastore, 1) := by decide +kernel
theorem dX4_read_103 : decode cX4_read 103 = .ok (.iinc 3 1, 3) := by decide +kernel
theorem dX4_read_106 : decode cX4_read 106 = .ok (.goto (-24), 3) := by decide +kernel
theorem dX4_read_109 : decode cX4_read 109 = .ok (.iconst 1, 1) := by decide +kernel
theorem dX4_read_110 : decode cX4_read 110 = .ok (.ireturn, 1) := by decide +kernel
theorem dX4_read_111 : decode cX4_read 111 = .ok (.aload_n 0, 1) := by decide +kernel
theorem dX4_read_112 : decode cX4_read 112 = .ok (.aload_n 0, 1) := by decide +kernel
theorem dX4_read_113 : decode cX4_read 113 = .ok (.iload_n 1, 1) := by decide +kernel
theorem dX4_read_114 : decode cX4_read 114 = .ok (.invokevirtual 102, 3) := by decide +kernel
theorem dX4_read_117 : decode cX4_read 117 = .ok (.putfield 72, 3) := by decide +kernel
theorem dX4_read_120 : decode cX4_read 120 = .ok (.iconst 0, 1) := by decide +kernel
theorem dX4_read_121 : decode cX4_read 121 = .ok (.istore_n 3, 1) := by decide +kernel
theorem dX4_read_122 : decode cX4_read 122 = .ok (.iload_n 3, 1) := by decide +kernel
theorem dX4_read_123 : decode cX4_read 123 = .ok (.aload_n 0, 1) := by decide +kernel
theorem dX4_read_124 : decode cX4_read 124 = .ok (.getfield 72, 3) := by decide +kernel
theorem dX4_read_127 : decode cX4_read 127 = .ok (.if_icmp .ge 23, 3) := by decide +kernel
theorem dX4_read_130 : decode cX4_read 130 = .ok (.aload_n 0, 1) := by decide +kernel
theorem dX4_read_131 : decode cX4_read 131 = .ok (.getfield 35, 3) := by decide +kernel
theorem dX4_read_134 : decode cX4_read 134 = .ok (.iload_n 3, 1) := by decide +kernel
theorem dX4_read_135 : decode cX4_read 135 = .ok (.aload_n 0, 1) := by decide +kernel
theorem dX4_read_136 : decode cX4_read 136 = .ok (.getfield 13, 3) := by decide +kernel
theorem dX4_read_139 : decode cX4_read 139 = .ok (.iload_n 2, 1) := by decide +kernel
theorem dX4_read_140 : decode cX4_read 140 = .ok (.iload_n 3, 1) := by decide +kernel
theorem dX4_read_141 : decode cX4_read 141 = .ok (.iadd, 1) := by decide +kernel
theorem dX4_read_142 : decode cX4_read 142 = .ok (.iaload, 1) := by decide +kernel
theorem dX4_read_143 : decode cX4_read 143 = .ok (.iastore, 1) := by decide +kernel
theorem dX4_read_144 : decode cX4_read 144 = .ok (.iinc 3 1, 3) := by decide +kernel
theorem dX4_read_147 : decode cX4_read 147 = .ok (.goto (-25), 3) := by decide +kernel
theorem dX4_read_150 : decode cX4_read 150 = .ok (.aload_n 0, 1) := by decide +kernel
theorem dX4_read_151 : decode cX4_read 151 = .ok (.invokevirtual 111, 3) := by decide +kernel
theorem dX4_read_154 : decode cX4_read 154 = .ok (.istore_n 3, 1) := by decide +kernel
theorem dX4_read_155 : decode cX4_read 155 = .ok (.iload_n 3, 1) := by decide +kernel
theorem dX4_read_156 : decode cX4_read 156 = .ok (.ifCond .le 6, 3) := by decide +kernel
theorem dX4_read_159 : decode cX4_read 159 = .ok (.iload_n 3, 1) := by decide +kernel
theorem dX4_read_160 : decode cX4_read 160 = .ok (.ineg, 1) := by decide +kernel
theorem dX4_read_161 : decode cX4_read 161 = .ok (.ireturn, 1) := by decide +kernel
theorem dX4_read_162 : decode cX4_read 162 = .ok (.aload_n 0, 1) := by decide +kernel
theorem dX4_read_163 : decode cX4_read 163 = .ok (.getfield 75, 3) := by decide +kernel
theorem dX4_read_166 : decode cX4_read 166 = .ok (.sipush 256, 3) := by decide +kernel
theorem dX4_read_169 : decode cX4_read 169 = .ok (.if_icmp .ge 6, 3) := by decide +kernel
theorem dX4_read_172 : decode cX4_read 172 = .ok (.bipush (-4), 2) := by decide +kernel
theorem dX4_read_174 : decode cX4_read 174 = .ok (.ireturn, 1) := by decide +kernel
theorem dX4_read_175 : decode cX4_read 175 = .ok (.iconst 0, 1) := by decide +kernel
theorem dX4_read_176 : decode cX4_read 176 = .ok (.istore 4, 2) := by decide +kernel
theorem dX4_read_178 : decode cX4_read 178 = .ok (.iload 4, 2) := by decide +kernel
theorem dX4_read_180 : decode cX4_read 180 = .ok (.sipush 256, 3) := by decide +kernel
theorem dX4_read_183 : decode cX4_read 183 = .ok (.if_icmp .ge 23, 3) := by decide +kernel
theorem dX4_read_186 : decode cX4_read 186 = .ok (.aload_n 0, 1) := by decide +kernel
theorem dX4_read_187 : decode cX4_read 187 = .ok (.getfield 7, 3) := by decide +kernel
theorem dX4_read_190 : decode cX4_read 190 = .ok (.iload 4, 2) := by decide +kernel
theorem dX4_read_192 : decode cX4_read 192 = .ok (.aload_n 0, 1) := by decide +kernel
theorem dX4_read_193 : decode cX4_read 193 = .ok (.getfield 38, 3) := by decide +kernel
theorem dX4_read_196 : decode cX4_read 196 = .ok (.iload 4, 2) := by decide +kernel
theorem dX4_read_198 : decode cX4_read 198 = .ok (.iaload, 1) := by decide +kernel
theorem dX4_read_199 : decode cX4_read 199 = .ok (.iastore, 1) := by decide +kernel
theorem dX4_read_200 : decode cX4_read 200 = .ok (.iinc 4 1, 3) := by decide +kernel
theorem dX4_read_203 : decode cX4_read 203 = .ok (.goto (-25), 3) := by decide +kernel
theorem dX4_read_206 : decode cX4_read 206 = .ok (.iconst 1, 1) := by decide +kernel
theorem dX4_read_207 : decode cX4_read 207 = .ok (.ireturn, 1) := by decide +kernel
theorem dX4_trim_0 : decode cX4_trim 0 = .ok (.aload_n 0, 1) := by decide +kernel
theorem dX4_trim_1 : decode cX4_trim 1 = .ok (.iload_n 1, 1) := by decide +kernel
theorem dX4_trim_2 : decode cX4_trim 2 = .ok (.invokevirtual 85, 3) := by decide +kernel
theorem dX4_trim_5 : decode cX4_trim 5 = .ok (.ifCond .ne 6, 3) := by decide +kernel
theorem dX4_trim_8 : decode cX4_trim 8 = .ok (.bipush (-11), 2) := by decide +kernel
theorem dX4_trim_10 : decode cX4_trim 10 = .ok (.ireturn, 1) := by decide +kernel
theorem dX4_trim_11 : decode cX4_trim 11 = .ok (.aload_n 0, 1) := by decide +kernel
theorem dX4_trim_12 : decode cX4_trim 12 = .ok (.iload_n 1, 1) := by decide +kernel
theorem dX4_trim_13 : decode cX4_trim 13 = .ok (.invokevirtual 102, 3) := by decide +kernel
theorem dX4_trim_16 : decode cX4_trim 16 = .ok (.istore_n 2, 1) := by decide +kernel
theorem dX4_trim_17 : decode cX4_trim 17 = .ok (.aload_n 0, 1) := by decide +kernel
theorem dX4_trim_18 : decode cX4_trim 18 = .ok (.iload_n 1, 1) := by decide +kernel
theorem dX4_trim_19 : decode cX4_trim 19 = .ok (.invokevirtual 89, 3) := by decide +kernel
theorem dX4_trim_22 : decode cX4_trim 22 = .ok (.aload_n 0, 1) := by decide +kernel
theorem dX4_trim_23 : decode cX4_trim 23 = .ok (.getfield 19, 3) := by decide +kernel
theorem dX4_trim_26 : decode cX4_trim 26 = .ok (.iload_n 1, 1) := by decide +kernel
theorem dX4_trim_27 : decode cX4_trim 27 = .ok (.iconst 0, 1) := by decide +kernel
theorem dX4_trim_28 : decode cX4_trim 28 = .ok (.iastore, 1) := by decide +kernel
theorem dX4_trim_29 : decode cX4_trim 29 = .ok (.iload_n 2, 1) := by decide +kernel
theorem dX4_trim_30 : decode cX4_trim 30 = .ok (.ireturn, 1) := by decide +kernel
theorem dX4_slot_0 : decode cX4_slot 0 = .ok (.aload_n 0, 1) := by decide +kernel
theorem dX4_slot_1 : decode cX4_slot 1 = .ok (.iload_n 1, 1) := by decide +kernel
theorem dX4_slot_2 : decode cX4_slot 2 = .ok (.invokevirtual 85, 3) := by decide +kernel
theorem dX4_slot_5 : decode cX4_slot 5 = .ok (.ifCond .ne 6, 3) := by decide +kernel
theorem dX4_slot_8 : decode cX4_slot 8 = .ok (.bipush (-11), 2) := by decide +kernel
theorem dX4_slot_10 : decode cX4_slot 10 = .ok (.ireturn, 1) := by decide +kernel
theorem dX4_slot_11 : decode cX4_slot 11 = .ok (.iload_n 2, 1) := by decide +kernel
theorem dX4_slot_12 : decode cX4_slot 12 = .ok (.iconst 0, 1) := by decide +kernel
theorem dX4_slot_13 : decode cX4_slot 13 = .ok (.iconst 2, 1) := by decide +kernel
theorem dX4_slot_14 : decode cX4_slot 14 = .ok (.invokestatic 44, 3) := by decide +kernel
theorem dX4_slot_17 : decode cX4_slot 17 = .ok (.ifCond .ne 6, 3) := by decide +kernel
theorem dX4_slot_20 : decode cX4_slot 20 = .ok (.bipush (-12), 2) := by decide +kernel
theorem dX4_slot_22 : decode cX4_slot 22 = .ok (.ireturn, 1) := by decide +kernel
theorem dX4_slot_23 : decode cX4_slot 23 = .ok (.iload_n 2, 1) := by decide +kernel
theorem dX4_slot_24 : decode cX4_slot 24 = .ok (.ifCond .ne 12, 3) := by decide +kernel
theorem dX4_slot_27 : decode cX4_slot 27 = .ok (.aload_n 0, 1) := by decide +kernel
theorem dX4_slot_28 : decode cX4_slot 28 = .ok (.getfield 19, 3) := by decide +kernel
theorem dX4_slot_31 : decode cX4_slot 31 = .ok (.iload_n 1, 1) := by decide +kernel
theorem dX4_slot_32 : decode cX4_slot 32 = .ok (.iaload, 1) := by decide +kernel
theorem dX4_slot_33 : decode cX4_slot 33 = .ok (.goto 21, 3) := by decide +kernel
theorem dX4_slot_36 : decode cX4_slot 36 = .ok (.iload_n 2, 1) := by decide +kernel
theorem dX4_slot_37 : decode cX4_slot 37 = .ok (.iconst 1, 1) := by decide +kernel
theorem dX4_slot_38 : decode cX4_slot 38 = .ok (.if_icmp .ne 11, 3) := by decide +kernel
theorem dX4_slot_41 : decode cX4_slot 41 = .ok (.aload_n 0, 1) := by decide +kernel
theorem dX4_slot_42 : decode cX4_slot 42 = .ok (.iload_n 1, 1) := by decide +kernel
theorem dX4_slot_43 : decode cX4_slot 43 = .ok (.invokevirtual 102, 3) := by decide +kernel
theorem dX4_slot_46 : decode cX4_slot 46 = .ok (.goto 8, 3) := by decide +kernel
theorem dX4_slot_49 : decode cX4_slot 49 = .ok (.aload_n 0, 1) := by decide +kernel
theorem dX4_slot_50 : decode cX4_slot 50 = .ok (.iload_n 1, 1) := by decide +kernel
theorem dX4_slot_51 : decode cX4_slot 51 = .ok (.invokevirtual 108, 3) := by decide +kernel
theorem dX4_slot_54 : decode cX4_slot 54 = .ok (.ireturn, 1) := by decide +kernel
theorem dX4_stored_0 : decode cX4_stored 0 = .ok (.iload_n 1, 1) := by decide +kernel
theorem dX4_stored_1 : decode cX4_stored 1 = .ok (.iconst 0, 1) := by decide +kernel
theorem dX4_stored_2 : decode cX4_stored 2 = .ok (.aload_n 0, 1) := by decide +kernel
theorem dX4_stored_3 : decode cX4_stored 3 = .ok (.getfield 41, 3) := by decide +kernel
theorem dX4_stored_6 : decode cX4_stored 6 = .ok (.iconst 1, 1) := by decide +kernel
theorem dX4_stored_7 : decode cX4_stored 7 = .ok (.isub, 1) := by decide +kernel
theorem dX4_stored_8 : decode cX4_stored 8 = .ok (.invokestatic 44, 3) := by decide +kernel
theorem dX4_stored_11 : decode cX4_stored 11 = .ok (.ifCond .eq 12, 3) := by decide +kernel
theorem dX4_stored_14 : decode cX4_stored 14 = .ok (.aload_n 0, 1) := by decide +kernel
theorem dX4_stored_15 : decode cX4_stored 15 = .ok (.getfield 13, 3) := by decide +kernel
theorem dX4_stored_18 : decode cX4_stored 18 = .ok (.iload_n 1, 1) := by decide +kernel
theorem dX4_stored_19 : decode cX4_stored 19 = .ok (.iaload, 1) := by decide +kernel
theorem dX4_stored_20 : decode cX4_stored 20 = .ok (.goto 4, 3) := by decide +kernel
theorem dX4_stored_23 : decode cX4_stored 23 = .ok (.iconst (-1), 1) := by decide +kernel
theorem dX4_stored_24 : decode cX4_stored 24 = .ok (.ireturn, 1) := by decide +kernel
theorem dX4_alter_0 : decode cX4_alter 0 = .ok (.iload_n 1, 1) := by decide +kernel
theorem dX4_alter_1 : decode cX4_alter 1 = .ok (.iconst 0, 1) := by decide +kernel
theorem dX4_alter_2 : decode cX4_alter 2 = .ok (.aload_n 0, 1) := by decide +kernel
theorem dX4_alter_3 : decode cX4_alter 3 = .ok (.getfield 41, 3) := by decide +kernel
theorem dX4_alter_6 : decode cX4_alter 6 = .ok (.iconst 1, 1) := by decide +kernel
theorem dX4_alter_7 : decode cX4_alter 7 = .ok (.isub, 1) := by decide +kernel
theorem dX4_alter_8 : decode cX4_alter 8 = .ok (.invokestatic 44, 3) := by decide +kernel
theorem dX4_alter_11 : decode cX4_alter 11 = .ok (.ifCond .ne 6, 3) := by decide +kernel
theorem dX4_alter_14 : decode cX4_alter 14 = .ok (.bipush (-12), 2) := by decide +kernel
theorem dX4_alter_16 : decode cX4_alter 16 = .ok (.ireturn, 1) := by decide +kernel
theorem dX4_alter_17 : decode cX4_alter 17 = .ok (.aload_n 0, 1) := by decide +kernel
theorem dX4_alter_18 : decode cX4_alter 18 = .ok (.getfield 13, 3) := by decide +kernel
theorem dX4_alter_21 : decode cX4_alter 21 = .ok (.iload_n 1, 1) := by decide +kernel
theorem dX4_alter_22 : decode cX4_alter 22 = .ok (.aload_n 0, 1) := by decide +kernel
theorem dX4_alter_23 : decode cX4_alter 23 = .ok (.getfield 13, 3) := by decide +kernel
theorem dX4_alter_26 : decode cX4_alter 26 = .ok (.iload_n 1, 1) := by decide +kernel
theorem dX4_alter_27 : decode cX4_alter 27 = .ok (.iaload, 1) := by decide +kernel
theorem dX4_alter_28 : decode cX4_alter 28 = .ok (.iload_n 2, 1) := by decide +kernel
theorem dX4_alter_29 : decode cX4_alter 29 = .ok (.sipush 255, 3) := by decide +kernel
theorem dX4_alter_32 : decode cX4_alter 32 = .ok (.iand, 1) := by decide +kernel
theorem dX4_alter_33 : decode cX4_alter 33 = .ok (.ixor, 1) := by decide +kernel
theorem dX4_alter_34 : decode cX4_alter 34 = .ok (.iastore, 1) := by decide +kernel
theorem dX4_alter_35 : decode cX4_alter 35 = .ok (.iconst 1, 1) := by decide +kernel
theorem dX4_alter_36 : decode cX4_alter 36 = .ok (.ireturn, 1) := by decide +kernel
theorem dX4_compact_0 : decode cX4_compact 0 = .ok (.aload_n 0, 1) := by decide +kernel
theorem dX4_compact_1 : decode cX4_compact 1 = .ok (.invokevirtual 105, 3) := by decide +kernel
theorem dX4_compact_4 : decode cX4_compact 4 = .ok (.ireturn, 1) := by decide +kernel
theorem dX4_free_0 : decode cX4_free 0 = .ok (.iload_n 1, 1) := by decide +kernel
theorem dX4_free_1 : decode cX4_free 1 = .ok (.iconst 0, 1) := by decide +kernel
theorem dX4_free_2 : decode cX4_free 2 = .ok (.iconst 2, 1) := by decide +kernel
theorem dX4_free_3 : decode cX4_free 3 = .ok (.invokestatic 44, 3) := by decide +kernel
theorem dX4_free_6 : decode cX4_free 6 = .ok (.ifCond .ne 6, 3) := by decide +kernel
theorem dX4_free_9 : decode cX4_free 9 = .ok (.bipush (-12), 2) := by decide +kernel
theorem dX4_free_11 : decode cX4_free 11 = .ok (.ireturn, 1) := by decide +kernel
theorem dX4_free_12 : decode cX4_free 12 = .ok (.iconst 0, 1) := by decide +kernel
theorem dX4_free_13 : decode cX4_free 13 = .ok (.istore_n 2, 1) := by decide +kernel
theorem dX4_free_14 : decode cX4_free 14 = .ok (.iconst 0, 1) := by decide +kernel
theorem dX4_free_15 : decode cX4_free 15 = .ok (.istore_n 3, 1) := by decide +kernel
theorem dX4_free_16 : decode cX4_free 16 = .ok (.iconst 0, 1) := by decide +kernel
theorem dX4_free_17 : decode cX4_free 17 = .ok (.istore 4, 2) := by decide +kernel
theorem dX4_free_19 : decode cX4_free 19 = .ok (.iconst 0, 1) := by decide +kernel
theorem dX4_free_20 : decode cX4_free 20 = .ok (.istore 5, 2) := by decide +kernel
theorem dX4_free_22 : decode cX4_free 22 = .ok (.iconst 0, 1) := by decide +kernel
theorem dX4_free_23 : decode cX4_free 23 = .ok (.istore 6, 2) := by decide +kernel
theorem dX4_free_25 : decode cX4_free 25 = .ok (.iload 6, 2) := by decide +kernel
theorem dX4_free_27 : decode cX4_free 27 = .ok (.aload_n 0, 1) := by decide +kernel
theorem dX4_free_28 : decode cX4_free 28 = .ok (.getfield 41, 3) := by decide +kernel
theorem dX4_free_31 : decode cX4_free 31 = .ok (.if_icmp .ge 72, 3) := by decide +kernel
theorem dX4_free_34 : decode cX4_free 34 = .ok (.aload_n 0, 1) := by decide +kernel
theorem dX4_free_35 : decode cX4_free 35 = .ok (.getfield 16, 3) := by decide +kernel
theorem dX4_free_38 : decode cX4_free 38 = .ok (.iload 6, 2) := by decide +kernel
theorem dX4_free_40 : decode cX4_free 40 = .ok (.iaload, 1) := by decide +kernel
theorem dX4_free_41 : decode cX4_free 41 = .ok (.ifCond .ne 10, 3) := by decide +kernel
theorem dX4_free_44 : decode cX4_free 44 = .ok (.iload 5, 2) := by decide +kernel
theorem dX4_free_46 : decode cX4_free 46 = .ok (.iconst 1, 1) := by decide +kernel
theorem dX4_free_47 : decode cX4_free 47 = .ok (.iadd, 1) := by decide +kernel
theorem dX4_free_48 : decode cX4_free 48 = .ok (.goto 4, 3) := by decide +kernel
theorem dX4_free_51 : decode cX4_free 51 = .ok (.iconst 0, 1) := by decide +kernel
theorem dX4_free_52 : decode cX4_free 52 = .ok (.istore 5, 2) := by decide +kernel
theorem dX4_free_54 : decode cX4_free 54 = .ok (.iload 5, 2) := by decide +kernel
theorem dX4_free_56 : decode cX4_free 56 = .ok (.ifCond .le 9, 3) := by decide +kernel
theorem dX4_free_59 : decode cX4_free 59 = .ok (.iload_n 2, 1) := by decide +kernel
theorem dX4_free_60 : decode cX4_free 60 = .ok (.iconst 1, 1) := by decide +kernel
theorem dX4_free_61 : decode cX4_free 61 = .ok (.iadd, 1) := by decide +kernel
theorem dX4_free_62 : decode cX4_free 62 = .ok (.goto 4, 3) := by decide +kernel
theorem dX4_free_65 : decode cX4_free 65 = .ok (.iload_n 2, 1) := by decide +kernel
theorem dX4_free_66 : decode cX4_free 66 = .ok (.istore_n 2, 1) := by decide +kernel
theorem dX4_free_67 : decode cX4_free 67 = .ok (.iload 5, 2) := by decide +kernel
theorem dX4_free_69 : decode cX4_free 69 = .ok (.iconst 1, 1) := by decide +kernel
theorem dX4_free_70 : decode cX4_free 70 = .ok (.if_icmp .ne 10, 3) := by decide +kernel
theorem dX4_free_73 : decode cX4_free 73 = .ok (.iload 4, 2) := by decide +kernel
theorem dX4_free_75 : decode cX4_free 75 = .ok (.iconst 1, 1) := by decide +kernel
theorem dX4_free_76 : decode cX4_free 76 = .ok (.iadd, 1) := by decide +kernel
theorem dX4_free_77 : decode cX4_free 77 = .ok (.goto 5, 3) := by decide +kernel
theorem dX4_free_80 : decode cX4_free 80 = .ok (.iload 4, 2) := by decide +kernel
theorem dX4_free_82 : decode cX4_free 82 = .ok (.istore 4, 2) := by decide +kernel
theorem dX4_free_84 : decode cX4_free 84 = .ok (.iload 5, 2) := by decide +kernel
theorem dX4_free_86 : decode cX4_free 86 = .ok (.iload_n 3, 1) := by decide +kernel
theorem dX4_free_87 : decode cX4_free 87 = .ok (.if_icmp .le 8, 3) := by decide +kernel
theorem dX4_free_90 : decode cX4_free 90 = .ok (.iload 5, 2) := by decide +kernel
theorem dX4_free_92 : decode cX4_free 92 = .ok (.goto 4, 3) := by decide +kernel
theorem dX4_free_95 : decode cX4_free 95 = .ok (.iload_n 3, 1) := by decide +kernel
theorem dX4_free_96 : decode cX4_free 96 = .ok (.istore_n 3, 1) := by decide +kernel
theorem dX4_free_97 : decode cX4_free 97 = .ok (.iinc 6 1, 3) := by decide +kernel
theorem dX4_free_100 : decode cX4_free 100 = .ok (.goto (-75), 3) := by decide +kernel
theorem dX4_free_103 : decode cX4_free 103 = .ok (.iload_n 1, 1) := by decide +kernel
theorem dX4_free_104 : decode cX4_free 104 = .ok (.ifCond .ne 7, 3) := by decide +kernel
theorem dX4_free_107 : decode cX4_free 107 = .ok (.iload_n 2, 1) := by decide +kernel
theorem dX4_free_108 : decode cX4_free 108 = .ok (.goto 14, 3) := by decide +kernel
theorem dX4_free_111 : decode cX4_free 111 = .ok (.iload_n 1, 1) := by decide +kernel
theorem dX4_free_112 : decode cX4_free 112 = .ok (.iconst 1, 1) := by decide +kernel
theorem dX4_free_113 : decode cX4_free 113 = .ok (.if_icmp .ne 7, 3) := by decide +kernel
theorem dX4_free_116 : decode cX4_free 116 = .ok (.iload_n 3, 1) := by decide +kernel
theorem dX4_free_117 : decode cX4_free 117 = .ok (.goto 5, 3) := by decide +kernel
theorem dX4_free_120 : decode cX4_free 120 = .ok (.iload 4, 2) := by decide +kernel
theorem dX4_free_122 : decode cX4_free 122 = .ok (.ireturn, 1) := by decide +kernel
theorem dX4_type_0 : decode cX4_type 0 = .ok (.iload_n 2, 1) := by decide +kernel
theorem dX4_type_1 : decode cX4_type 1 = .ok (.iconst 1, 1) := by decide +kernel
theorem dX4_type_2 : decode cX4_type 2 = .ok (.iconst 4, 1) := by decide +kernel
theorem dX4_type_3 : decode cX4_type 3 = .ok (.invokestatic 44, 3) := by decide +kernel
theorem dX4_type_6 : decode cX4_type 6 = .ok (.ifCond .ne 6, 3) := by decide +kernel
theorem dX4_type_9 : decode cX4_type 9 = .ok (.bipush (-12), 2) := by decide +kernel
theorem dX4_type_11 : decode cX4_type 11 = .ok (.ireturn, 1) := by decide +kernel
theorem dX4_type_12 : decode cX4_type 12 = .ok (.aload_n 0, 1) := by decide +kernel
theorem dX4_type_13 : decode cX4_type 13 = .ok (.getfield 114, 3) := by decide +kernel
theorem dX4_type_16 : decode cX4_type 16 = .ok (.iload_n 2, 1) := by decide +kernel
theorem dX4_type_17 : decode cX4_type 17 = .ok (.iadd, 1) := by decide +kernel
theorem dX4_type_18 : decode cX4_type 18 = .ok (.sipush 600, 3) := by decide +kernel
theorem dX4_type_21 : decode cX4_type 21 = .ok (.if_icmp .le 6, 3) := by decide +kernel
theorem dX4_type_24 : decode cX4_type 24 = .ok (.bipush (-14), 2) := by decide +kernel
theorem dX4_type_26 : decode cX4_type 26 = .ok (.ireturn, 1) := by decide +kernel
theorem dX4_type_27 : decode cX4_type 27 = .ok (.iload_n 2, 1) := by decide +kernel
theorem dX4_type_28 : decode cX4_type 28 = .ok (.iconst 1, 1) := by decide +kernel
theorem dX4_type_29 : decode cX4_type 29 = .ok (.isub, 1) := by decide +kernel
theorem dX4_type_30 : decode cX4_type 30 = .ok (.istore_n 3, 1) := by decide +kernel
theorem dX4_type_31 : decode cX4_type 31 = .ok (.iload_n 3, 1) := by decide +kernel
theorem dX4_type_32 : decode cX4_type 32 = .ok (.ifCond .lt 38, 3) := by decide +kernel
theorem dX4_type_35 : decode cX4_type 35 = .ok (.aload_n 0, 1) := by decide +kernel
