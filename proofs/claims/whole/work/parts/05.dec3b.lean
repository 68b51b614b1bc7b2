theorem d_Md_deliver_8 : decode b_Md_deliver 8 = .ok (.iconst 1, 1) := by decide +kernel
theorem d_Md_deliver_9 : decode b_Md_deliver 9 = .ok (.istore_n 2, 1) := by decide +kernel
theorem d_Md_deliver_10 : decode b_Md_deliver 10 = .ok (.aload_n 0, 1) := by decide +kernel
theorem d_Md_deliver_11 : decode b_Md_deliver 11 = .ok (.getfield 59, 3) := by decide +kernel
theorem d_Md_deliver_14 : decode b_Md_deliver 14 = .ok (.ifCond .ne 6, 3) := by decide +kernel
theorem d_Md_deliver_17 : decode b_Md_deliver 17 = .ok (.bipush (-4), 2) := by decide +kernel
theorem d_Md_deliver_19 : decode b_Md_deliver 19 = .ok (.ireturn, 1) := by decide +kernel
theorem d_Md_deliver_20 : decode b_Md_deliver 20 = .ok (.aload_n 0, 1) := by decide +kernel
theorem d_Md_deliver_21 : decode b_Md_deliver 21 = .ok (.getfield 56, 3) := by decide +kernel
theorem d_Md_deliver_24 : decode b_Md_deliver 24 = .ok (.iload_n 2, 1) := by decide +kernel
theorem d_Md_deliver_25 : decode b_Md_deliver 25 = .ok (.iaload, 1) := by decide +kernel
theorem d_Md_deliver_26 : decode b_Md_deliver 26 = .ok (.ifCond .ne 6, 3) := by decide +kernel
theorem d_Md_deliver_29 : decode b_Md_deliver 29 = .ok (.bipush (-3), 2) := by decide +kernel
theorem d_Md_deliver_31 : decode b_Md_deliver 31 = .ok (.ireturn, 1) := by decide +kernel
theorem d_Md_deliver_32 : decode b_Md_deliver 32 = .ok (.iload_n 2, 1) := by decide +kernel
theorem d_Md_deliver_33 : decode b_Md_deliver 33 = .ok (.bipush 64, 2) := by decide +kernel
theorem d_Md_deliver_35 : decode b_Md_deliver 35 = .ok (.imul, 1) := by decide +kernel
theorem d_Md_deliver_36 : decode b_Md_deliver 36 = .ok (.istore_n 3, 1) := by decide +kernel
theorem d_Md_deliver_37 : decode b_Md_deliver 37 = .ok (.aload_n 0, 1) := by decide +kernel
theorem d_Md_deliver_38 : decode b_Md_deliver 38 = .ok (.getfield 37, 3) := by decide +kernel
theorem d_Md_deliver_41 : decode b_Md_deliver 41 = .ok (.iload_n 3, 1) := by decide +kernel
theorem d_Md_deliver_42 : decode b_Md_deliver 42 = .ok (.iaload, 1) := by decide +kernel
theorem d_Md_deliver_43 : decode b_Md_deliver 43 = .ok (.istore 4, 2) := by decide +kernel
theorem d_Md_deliver_45 : decode b_Md_deliver 45 = .ok (.aload_n 0, 1) := by decide +kernel
theorem d_Md_deliver_46 : decode b_Md_deliver 46 = .ok (.getfield 40, 3) := by decide +kernel
theorem d_Md_deliver_49 : decode b_Md_deliver 49 = .ok (.iload_n 3, 1) := by decide +kernel
theorem d_Md_deliver_50 : decode b_Md_deliver 50 = .ok (.iaload, 1) := by decide +kernel
theorem d_Md_deliver_51 : decode b_Md_deliver 51 = .ok (.istore 5, 2) := by decide +kernel
theorem d_Md_deliver_53 : decode b_Md_deliver 53 = .ok (.aload_n 0, 1) := by decide +kernel
theorem d_Md_deliver_54 : decode b_Md_deliver 54 = .ok (.getfield 43, 3) := by decide +kernel
theorem d_Md_deliver_57 : decode b_Md_deliver 57 = .ok (.iload_n 3, 1) := by decide +kernel
theorem d_Md_deliver_58 : decode b_Md_deliver 58 = .ok (.iaload, 1) := by decide +kernel
theorem d_Md_deliver_59 : decode b_Md_deliver 59 = .ok (.istore 6, 2) := by decide +kernel
theorem d_Md_deliver_61 : decode b_Md_deliver 61 = .ok (.aload_n 0, 1) := by decide +kernel
theorem d_Md_deliver_62 : decode b_Md_deliver 62 = .ok (.getfield 46, 3) := by decide +kernel
theorem d_Md_deliver_65 : decode b_Md_deliver 65 = .ok (.iload_n 3, 1) := by decide +kernel
theorem d_Md_deliver_66 : decode b_Md_deliver 66 = .ok (.iaload, 1) := by decide +kernel
theorem d_Md_deliver_67 : decode b_Md_deliver 67 = .ok (.istore 7, 2) := by decide +kernel
theorem d_Md_deliver_69 : decode b_Md_deliver 69 = .ok (.aload_n 0, 1) := by decide +kernel
theorem d_Md_deliver_70 : decode b_Md_deliver 70 = .ok (.getfield 49, 3) := by decide +kernel
theorem d_Md_deliver_73 : decode b_Md_deliver 73 = .ok (.iload_n 3, 1) := by decide +kernel
theorem d_Md_deliver_74 : decode b_Md_deliver 74 = .ok (.iaload, 1) := by decide +kernel
theorem d_Md_deliver_75 : decode b_Md_deliver 75 = .ok (.istore 8, 2) := by decide +kernel
theorem d_Md_deliver_77 : decode b_Md_deliver 77 = .ok (.aload_n 0, 1) := by decide +kernel
theorem d_Md_deliver_78 : decode b_Md_deliver 78 = .ok (.getfield 52, 3) := by decide +kernel
theorem d_Md_deliver_81 : decode b_Md_deliver 81 = .ok (.iload_n 3, 1) := by decide +kernel
theorem d_Md_deliver_82 : decode b_Md_deliver 82 = .ok (.baload, 1) := by decide +kernel
theorem d_Md_deliver_83 : decode b_Md_deliver 83 = .ok (.ifCond .eq 10, 3) := by decide +kernel
theorem d_Md_deliver_86 : decode b_Md_deliver 86 = .ok (.aload_n 0, 1) := by decide +kernel
theorem d_Md_deliver_87 : decode b_Md_deliver 87 = .ok (.invokevirtual 128, 3) := by decide +kernel
theorem d_Md_deliver_90 : decode b_Md_deliver 90 = .ok (.bipush (-5), 2) := by decide +kernel
theorem d_Md_deliver_92 : decode b_Md_deliver 92 = .ok (.ireturn, 1) := by decide +kernel
theorem d_Md_deliver_93 : decode b_Md_deliver 93 = .ok (.aload_n 0, 1) := by decide +kernel
theorem d_Md_deliver_94 : decode b_Md_deliver 94 = .ok (.getfield 56, 3) := by decide +kernel
theorem d_Md_deliver_97 : decode b_Md_deliver 97 = .ok (.iload_n 2, 1) := by decide +kernel
theorem d_Md_deliver_98 : decode b_Md_deliver 98 = .ok (.dup2, 1) := by decide +kernel
theorem d_Md_deliver_99 : decode b_Md_deliver 99 = .ok (.iaload, 1) := by decide +kernel
theorem d_Md_deliver_100 : decode b_Md_deliver 100 = .ok (.iconst 1, 1) := by decide +kernel
theorem d_Md_deliver_101 : decode b_Md_deliver 101 = .ok (.isub, 1) := by decide +kernel
theorem d_Md_deliver_102 : decode b_Md_deliver 102 = .ok (.iastore, 1) := by decide +kernel
theorem d_Md_deliver_103 : decode b_Md_deliver 103 = .ok (.iload_n 3, 1) := by decide +kernel
theorem d_Md_deliver_104 : decode b_Md_deliver 104 = .ok (.istore 9, 2) := by decide +kernel
theorem d_Md_deliver_106 : decode b_Md_deliver 106 = .ok (.iload 9, 2) := by decide +kernel
theorem d_Md_deliver_108 : decode b_Md_deliver 108 = .ok (.iload_n 3, 1) := by decide +kernel
theorem d_Md_deliver_109 : decode b_Md_deliver 109 = .ok (.aload_n 0, 1) := by decide +kernel
theorem d_Md_deliver_110 : decode b_Md_deliver 110 = .ok (.getfield 56, 3) := by decide +kernel
theorem d_Md_deliver_113 : decode b_Md_deliver 113 = .ok (.iload_n 2, 1) := by decide +kernel
theorem d_Md_deliver_114 : decode b_Md_deliver 114 = .ok (.iaload, 1) := by decide +kernel
theorem d_Md_deliver_115 : decode b_Md_deliver 115 = .ok (.iadd, 1) := by decide +kernel
theorem d_Md_deliver_116 : decode b_Md_deliver 116 = .ok (.if_icmp .ge 105, 3) := by decide +kernel
theorem d_Md_deliver_119 : decode b_Md_deliver 119 = .ok (.aload_n 0, 1) := by decide +kernel
theorem d_Md_deliver_120 : decode b_Md_deliver 120 = .ok (.getfield 37, 3) := by decide +kernel
theorem d_Md_deliver_123 : decode b_Md_deliver 123 = .ok (.iload 9, 2) := by decide +kernel
theorem d_Md_deliver_125 : decode b_Md_deliver 125 = .ok (.aload_n 0, 1) := by decide +kernel
theorem d_Md_deliver_126 : decode b_Md_deliver 126 = .ok (.getfield 37, 3) := by decide +kernel
theorem d_Md_deliver_129 : decode b_Md_deliver 129 = .ok (.iload 9, 2) := by decide +kernel
theorem d_Md_deliver_131 : decode b_Md_deliver 131 = .ok (.iconst 1, 1) := by decide +kernel
theorem d_Md_deliver_132 : decode b_Md_deliver 132 = .ok (.iadd, 1) := by decide +kernel
theorem d_Md_deliver_133 : decode b_Md_deliver 133 = .ok (.iaload, 1) := by decide +kernel
theorem d_Md_deliver_134 : decode b_Md_deliver 134 = .ok (.iastore, 1) := by decide +kernel
theorem d_Md_deliver_135 : decode b_Md_deliver 135 = .ok (.aload_n 0, 1) := by decide +kernel
theorem d_Md_deliver_136 : decode b_Md_deliver 136 = .ok (.getfield 40, 3) := by decide +kernel
theorem d_Md_deliver_139 : decode b_Md_deliver 139 = .ok (.iload 9, 2) := by decide +kernel
theorem d_Md_deliver_141 : decode b_Md_deliver 141 = .ok (.aload_n 0, 1) := by decide +kernel
theorem d_Md_deliver_142 : decode b_Md_deliver 142 = .ok (.getfield 40, 3) := by decide +kernel
theorem d_Md_deliver_145 : decode b_Md_deliver 145 = .ok (.iload 9, 2) := by decide +kernel
theorem d_Md_deliver_147 : decode b_Md_deliver 147 = .ok (.iconst 1, 1) := by decide +kernel
theorem d_Md_deliver_148 : decode b_Md_deliver 148 = .ok (.iadd, 1) := by decide +kernel
theorem d_Md_deliver_149 : decode b_Md_deliver 149 = .ok (.iaload, 1) := by decide +kernel
theorem d_Md_deliver_150 : decode b_Md_deliver 150 = .ok (.iastore, 1) := by decide +kernel
theorem d_Md_deliver_151 : decode b_Md_deliver 151 = .ok (.aload_n 0, 1) := by decide +kernel
theorem d_Md_deliver_152 : decode b_Md_deliver 152 = .ok (.getfield 43, 3) := by decide +kernel
theorem d_Md_deliver_155 : decode b_Md_deliver 155 = .ok (.iload 9, 2) := by decide +kernel
theorem d_Md_deliver_157 : decode b_Md_deliver 157 = .ok (.aload_n 0, 1) := by decide +kernel
theorem d_Md_deliver_158 : decode b_Md_deliver 158 = .ok (.getfield 43, 3) := by decide +kernel
theorem d_Md_deliver_161 : decode b_Md_deliver 161 = .ok (.iload 9, 2) := by decide +kernel
theorem d_Md_deliver_163 : decode b_Md_deliver 163 = .ok (.iconst 1, 1) := by decide +kernel
theorem d_Md_deliver_164 : decode b_Md_deliver 164 = .ok (.iadd, 1) := by decide +kernel
theorem d_Md_deliver_165 : decode b_Md_deliver 165 = .ok (.iaload, 1) := by decide +kernel
theorem d_Md_deliver_166 : decode b_Md_deliver 166 = .ok (.iastore, 1) := by decide +kernel
theorem d_Md_deliver_167 : decode b_Md_deliver 167 = .ok (.aload_n 0, 1) := by decide +kernel
theorem d_Md_deliver_168 : decode b_Md_deliver 168 = .ok (.getfield 46, 3) := by decide +kernel
theorem d_Md_deliver_171 : decode b_Md_deliver 171 = .ok (.iload 9, 2) := by decide +kernel
theorem d_Md_deliver_173 : decode b_Md_deliver 173 = .ok (.aload_n 0, 1) := by decide +kernel
theorem d_Md_deliver_174 : decode b_Md_deliver 174 = .ok (.getfield 46, 3) := by decide +kernel
theorem d_Md_deliver_177 : decode b_Md_deliver 177 = .ok (.iload 9, 2) := by decide +kernel
theorem d_Md_deliver_179 : decode b_Md_deliver 179 = .ok (.iconst 1, 1) := by decide +kernel
theorem d_Md_deliver_180 : decode b_Md_deliver 180 = .ok (.iadd, 1) := by decide +kernel
theorem d_Md_deliver_181 : decode b_Md_deliver 181 = .ok (.iaload, 1) := by decide +kernel
theorem d_Md_deliver_182 : decode b_Md_deliver 182 = .ok (.iastore, 1) := by decide +kernel
theorem d_Md_deliver_183 : decode b_Md_deliver 183 = .ok (.aload_n 0, 1) := by decide +kernel
theorem d_Md_deliver_184 : decode b_Md_deliver 184 = .ok (.getfield 49, 3) := by decide +kernel
theorem d_Md_deliver_187 : decode b_Md_deliver 187 = .ok (.iload 9, 2) := by decide +kernel
theorem d_Md_deliver_189 : decode b_Md_deliver 189 = .ok (.aload_n 0, 1) := by decide +kernel
theorem d_Md_deliver_190 : decode b_Md_deliver 190 = .ok (.getfield 49, 3) := by decide +kernel
theorem d_Md_deliver_193 : decode b_Md_deliver 193 = .ok (.iload 9, 2) := by decide +kernel
theorem d_Md_deliver_195 : decode b_Md_deliver 195 = .ok (.iconst 1, 1) := by decide +kernel
theorem d_Md_deliver_196 : decode b_Md_deliver 196 = .ok (.iadd, 1) := by decide +kernel
theorem d_Md_deliver_197 : decode b_Md_deliver 197 = .ok (.iaload, 1) := by decide +kernel
theorem d_Md_deliver_198 : decode b_Md_deliver 198 = .ok (.iastore, 1) := by decide +kernel
theorem d_Md_deliver_199 : decode b_Md_deliver 199 = .ok (.aload_n 0, 1) := by decide +kernel
theorem d_Md_deliver_200 : decode b_Md_deliver 200 = .ok (.getfield 52, 3) := by decide +kernel
theorem d_Md_deliver_203 : decode b_Md_deliver 203 = .ok (.iload 9, 2) := by decide +kernel
theorem d_Md_deliver_205 : decode b_Md_deliver 205 = .ok (.aload_n 0, 1) := by decide +kernel
theorem d_Md_deliver_206 : decode b_Md_deliver 206 = .ok (.getfield 52, 3) := by decide +kernel
theorem d_Md_deliver_209 : decode b_Md_deliver 209 = .ok (.iload 9, 2) := by decide +kernel
theorem d_Md_deliver_211 : decode b_Md_deliver 211 = .ok (.iconst 1, 1) := by decide +kernel
theorem d_Md_deliver_212 : decode b_Md_deliver 212 = .ok (.iadd, 1) := by decide +kernel
theorem d_Md_deliver_213 : decode b_Md_deliver 213 = .ok (.baload, 1) := by decide +kernel
theorem d_Md_deliver_214 : decode b_Md_deliver 214 = .ok (.bastore, 1) := by decide +kernel
theorem d_Md_deliver_215 : decode b_Md_deliver 215 = .ok (.iinc 9 1, 3) := by decide +kernel
theorem d_Md_deliver_218 : decode b_Md_deliver 218 = .ok (.goto (-112), 3) := by decide +kernel
theorem d_Md_deliver_221 : decode b_Md_deliver 221 = .ok (.iload_n 1, 1) := by decide +kernel
theorem d_Md_deliver_222 : decode b_Md_deliver 222 = .ok (.ifCond .eq 16, 3) := by decide +kernel
theorem d_Md_deliver_225 : decode b_Md_deliver 225 = .ok (.aload_n 0, 1) := by decide +kernel
theorem d_Md_deliver_226 : decode b_Md_deliver 226 = .ok (.iload 4, 2) := by decide +kernel
theorem d_Md_deliver_228 : decode b_Md_deliver 228 = .ok (.iload 5, 2) := by decide +kernel
theorem d_Md_deliver_230 : decode b_Md_deliver 230 = .ok (.iload 6, 2) := by decide +kernel
theorem d_Md_deliver_232 : decode b_Md_deliver 232 = .ok (.invokevirtual 131, 3) := by decide +kernel
theorem d_Md_deliver_235 : decode b_Md_deliver 235 = .ok (.goto 17, 3) := by decide +kernel
theorem d_Md_deliver_238 : decode b_Md_deliver 238 = .ok (.aload_n 0, 1) := by decide +kernel
theorem d_Md_deliver_239 : decode b_Md_deliver 239 = .ok (.iload 4, 2) := by decide +kernel
theorem d_Md_deliver_241 : decode b_Md_deliver 241 = .ok (.iload 5, 2) := by decide +kernel
theorem d_Md_deliver_243 : decode b_Md_deliver 243 = .ok (.iload 6, 2) := by decide +kernel
theorem d_Md_deliver_245 : decode b_Md_deliver 245 = .ok (.iload 7, 2) := by decide +kernel
theorem d_Md_deliver_247 : decode b_Md_deliver 247 = .ok (.iload 8, 2) := by decide +kernel
theorem d_Md_deliver_249 : decode b_Md_deliver 249 = .ok (.invokevirtual 135, 3) := by decide +kernel
theorem d_Md_deliver_252 : decode b_Md_deliver 252 = .ok (.iload 5, 2) := by decide +kernel
theorem d_Md_deliver_254 : decode b_Md_deliver 254 = .ok (.ireturn, 1) := by decide +kernel
theorem d_Md_end_0 : decode b_Md_end 0 = .ok (.aload_n 0, 1) := by decide +kernel
theorem d_Md_end_1 : decode b_Md_end 1 = .ok (.iconst 0, 1) := by decide +kernel
theorem d_Md_end_2 : decode b_Md_end 2 = .ok (.putfield 59, 3) := by decide +kernel
theorem d_Md_end_5 : decode b_Md_end 5 = .ok (.aload_n 0, 1) := by decide +kernel
theorem d_Md_end_6 : decode b_Md_end 6 = .ok (.getfield 56, 3) := by decide +kernel
theorem d_Md_end_9 : decode b_Md_end 9 = .ok (.iconst 0, 1) := by decide +kernel
theorem d_Md_end_10 : decode b_Md_end 10 = .ok (.iconst 0, 1) := by decide +kernel
theorem d_Md_end_11 : decode b_Md_end 11 = .ok (.iastore, 1) := by decide +kernel
theorem d_Md_end_12 : decode b_Md_end 12 = .ok (.aload_n 0, 1) := by decide +kernel
theorem d_Md_end_13 : decode b_Md_end 13 = .ok (.getfield 56, 3) := by decide +kernel
theorem d_Md_end_16 : decode b_Md_end 16 = .ok (.iconst 1, 1) := by decide +kernel
theorem d_Md_end_17 : decode b_Md_end 17 = .ok (.iconst 0, 1) := by decide +kernel
theorem d_Md_end_18 : decode b_Md_end 18 = .ok (.iastore, 1) := by decide +kernel
theorem d_Md_end_19 : decode b_Md_end 19 = .ok (.iconst 0, 1) := by decide +kernel
theorem d_Md_end_20 : decode b_Md_end 20 = .ok (.istore_n 1, 1) := by decide +kernel
theorem d_Md_end_21 : decode b_Md_end 21 = .ok (.iload_n 1, 1) := by decide +kernel
theorem d_Md_end_22 : decode b_Md_end 22 = .ok (.aload_n 0, 1) := by decide +kernel
theorem d_Md_end_23 : decode b_Md_end 23 = .ok (.getfield 76, 3) := by decide +kernel
theorem d_Md_end_26 : decode b_Md_end 26 = .ok (.if_icmp .ge 26, 3) := by decide +kernel
theorem d_Md_end_29 : decode b_Md_end 29 = .ok (.aload_n 0, 1) := by decide +kernel
theorem d_Md_end_30 : decode b_Md_end 30 = .ok (.getfield 31, 3) := by decide +kernel
theorem d_Md_end_33 : decode b_Md_end 33 = .ok (.iload_n 1, 1) := by decide +kernel
theorem d_Md_end_34 : decode b_Md_end 34 = .ok (.iaload, 1) := by decide +kernel
theorem d_Md_end_35 : decode b_Md_end 35 = .ok (.iconst 1, 1) := by decide +kernel
theorem d_Md_end_36 : decode b_Md_end 36 = .ok (.if_icmp .ne 10, 3) := by decide +kernel
theorem d_Md_end_39 : decode b_Md_end 39 = .ok (.aload_n 0, 1) := by decide +kernel
theorem d_Md_end_40 : decode b_Md_end 40 = .ok (.getfield 31, 3) := by decide +kernel
theorem d_Md_end_43 : decode b_Md_end 43 = .ok (.iload_n 1, 1) := by decide +kernel
theorem d_Md_end_44 : decode b_Md_end 44 = .ok (.iconst 0, 1) := by decide +kernel
theorem d_Md_end_45 : decode b_Md_end 45 = .ok (.iastore, 1) := by decide +kernel
theorem d_Md_end_46 : decode b_Md_end 46 = .ok (.iinc 1 1, 3) := by decide +kernel
theorem d_Md_end_49 : decode b_Md_end 49 = .ok (.goto (-28), 3) := by decide +kernel
theorem d_Md_end_52 : decode b_Md_end 52 = .ok (.return_, 1) := by decide +kernel
theorem d_Md_work_0 : decode b_Md_work 0 = .ok (.aload_n 0, 1) := by decide +kernel
theorem d_Md_work_1 : decode b_Md_work 1 = .ok (.getfield 19, 3) := by decide +kernel
theorem d_Md_work_4 : decode b_Md_work 4 = .ok (.iload_n 1, 1) := by decide +kernel
theorem d_Md_work_5 : decode b_Md_work 5 = .ok (.iaload, 1) := by decide +kernel
theorem d_Md_work_6 : decode b_Md_work 6 = .ok (.ifCond .ne 46, 3) := by decide +kernel
theorem d_Md_work_9 : decode b_Md_work 9 = .ok (.iload_n 2, 1) := by decide +kernel
theorem d_Md_work_10 : decode b_Md_work 10 = .ok (.ifCond .ne 7, 3) := by decide +kernel
theorem d_Md_work_13 : decode b_Md_work 13 = .ok (.iconst 1, 1) := by decide +kernel
theorem d_Md_work_14 : decode b_Md_work 14 = .ok (.goto 6, 3) := by decide +kernel
theorem d_Md_work_17 : decode b_Md_work 17 = .ok (.iload_n 3, 1) := by decide +kernel
theorem d_Md_work_18 : decode b_Md_work 18 = .ok (.iconst 1, 1) := by decide +kernel
theorem d_Md_work_19 : decode b_Md_work 19 = .ok (.iadd, 1) := by decide +kernel
theorem d_Md_work_20 : decode b_Md_work 20 = .ok (.istore 4, 2) := by decide +kernel
theorem d_Md_work_22 : decode b_Md_work 22 = .ok (.iload 4, 2) := by decide +kernel
theorem d_Md_work_24 : decode b_Md_work 24 = .ok (.aload_n 0, 1) := by decide +kernel
theorem d_Md_work_25 : decode b_Md_work 25 = .ok (.getfield 25, 3) := by decide +kernel
theorem d_Md_work_28 : decode b_Md_work 28 = .ok (.iload_n 1, 1) := by decide +kernel
theorem d_Md_work_29 : decode b_Md_work 29 = .ok (.iaload, 1) := by decide +kernel
theorem d_Md_work_30 : decode b_Md_work 30 = .ok (.if_icmp .lt 11, 3) := by decide +kernel
theorem d_Md_work_33 : decode b_Md_work 33 = .ok (.aload_n 0, 1) := by decide +kernel
theorem d_Md_work_34 : decode b_Md_work 34 = .ok (.iload_n 1, 1) := by decide +kernel
theorem d_Md_work_35 : decode b_Md_work 35 = .ok (.invokevirtual 122, 3) := by decide +kernel
theorem d_Md_work_38 : decode b_Md_work 38 = .ok (.goto 13, 3) := by decide +kernel
theorem d_Md_work_41 : decode b_Md_work 41 = .ok (.aload_n 0, 1) := by decide +kernel
theorem d_Md_work_42 : decode b_Md_work 42 = .ok (.iconst 1, 1) := by decide +kernel
theorem d_Md_work_43 : decode b_Md_work 43 = .ok (.iload_n 1, 1) := by decide +kernel
theorem d_Md_work_44 : decode b_Md_work 44 = .ok (.iconst 2, 1) := by decide +kernel
theorem d_Md_work_45 : decode b_Md_work 45 = .ok (.iload 4, 2) := by decide +kernel
theorem d_Md_work_47 : decode b_Md_work 47 = .ok (.iconst 0, 1) := by decide +kernel
theorem d_Md_work_48 : decode b_Md_work 48 = .ok (.invokevirtual 110, 3) := by decide +kernel
theorem d_Md_work_51 : decode b_Md_work 51 = .ok (.return_, 1) := by decide +kernel
theorem d_Md_work_52 : decode b_Md_work 52 = .ok (.aload_n 0, 1) := by decide +kernel
theorem d_Md_work_53 : decode b_Md_work 53 = .ok (.getfield 19, 3) := by decide +kernel
theorem d_Md_work_56 : decode b_Md_work 56 = .ok (.iload_n 1, 1) := by decide +kernel
theorem d_Md_work_57 : decode b_Md_work 57 = .ok (.iaload, 1) := by decide +kernel
theorem d_Md_work_58 : decode b_Md_work 58 = .ok (.iconst 1, 1) := by decide +kernel
theorem d_Md_work_59 : decode b_Md_work 59 = .ok (.if_icmp .ne 48, 3) := by decide +kernel
theorem d_Md_work_62 : decode b_Md_work 62 = .ok (.iconst 0, 1) := by decide +kernel
theorem d_Md_work_63 : decode b_Md_work 63 = .ok (.istore 4, 2) := by decide +kernel
theorem d_Md_work_65 : decode b_Md_work 65 = .ok (.iload 4, 2) := by decide +kernel
theorem d_Md_work_67 : decode b_Md_work 67 = .ok (.aload_n 0, 1) := by decide +kernel
theorem d_Md_work_68 : decode b_Md_work 68 = .ok (.getfield 25, 3) := by decide +kernel
theorem d_Md_work_71 : decode b_Md_work 71 = .ok (.iload_n 1, 1) := by decide +kernel
theorem d_Md_work_72 : decode b_Md_work 72 = .ok (.iaload, 1) := by decide +kernel
theorem d_Md_work_73 : decode b_Md_work 73 = .ok (.if_icmp .ge 31, 3) := by decide +kernel
theorem d_Md_work_76 : decode b_Md_work 76 = .ok (.aload_n 0, 1) := by decide +kernel
theorem d_Md_work_77 : decode b_Md_work 77 = .ok (.iconst 1, 1) := by decide +kernel
theorem d_Md_work_78 : decode b_Md_work 78 = .ok (.iload_n 1, 1) := by decide +kernel
theorem d_Md_work_79 : decode b_Md_work 79 = .ok (.iconst 3, 1) := by decide +kernel
theorem d_Md_work_80 : decode b_Md_work 80 = .ok (.iload 4, 2) := by decide +kernel
theorem d_Md_work_82 : decode b_Md_work 82 = .ok (.aload_n 0, 1) := by decide +kernel
theorem d_Md_work_83 : decode b_Md_work 83 = .ok (.aload_n 0, 1) := by decide +kernel
theorem d_Md_work_84 : decode b_Md_work 84 = .ok (.getfield 22, 3) := by decide +kernel
theorem d_Md_work_87 : decode b_Md_work 87 = .ok (.iload_n 1, 1) := by decide +kernel
theorem d_Md_work_88 : decode b_Md_work 88 = .ok (.iaload, 1) := by decide +kernel
theorem d_Md_work_89 : decode b_Md_work 89 = .ok (.iload 4, 2) := by decide +kernel
theorem d_Md_work_91 : decode b_Md_work 91 = .ok (.iadd, 1) := by decide +kernel
theorem d_Md_work_92 : decode b_Md_work 92 = .ok (.invokevirtual 125, 3) := by decide +kernel
theorem d_Md_work_95 : decode b_Md_work 95 = .ok (.invokevirtual 110, 3) := by decide +kernel
theorem d_Md_work_98 : decode b_Md_work 98 = .ok (.iinc 4 1, 3) := by decide +kernel
theorem d_Md_work_101 : decode b_Md_work 101 = .ok (.goto (-36), 3) := by decide +kernel
theorem d_Md_work_104 : decode b_Md_work 104 = .ok (.goto 28, 3) := by decide +kernel
theorem d_Md_work_107 : decode b_Md_work 107 = .ok (.iconst 0, 1) := by decide +kernel
theorem d_Md_work_108 : decode b_Md_work 108 = .ok (.istore 4, 2) := by decide +kernel
theorem d_Md_work_110 : decode b_Md_work 110 = .ok (.iconst 0, 1) := by decide +kernel
theorem d_Md_work_111 : decode b_Md_work 111 = .ok (.istore 5, 2) := by decide +kernel
theorem d_Md_work_113 : decode b_Md_work 113 = .ok (.iload 5, 2) := by decide +kernel
theorem d_Md_work_115 : decode b_Md_work 115 = .ok (.bipush 16, 2) := by decide +kernel
theorem d_Md_work_117 : decode b_Md_work 117 = .ok (.if_icmp .ge 15, 3) := by decide +kernel
theorem d_Md_work_120 : decode b_Md_work 120 = .ok (.aload_n 0, 1) := by decide +kernel
theorem d_Md_work_121 : decode b_Md_work 121 = .ok (.invokevirtual 98, 3) := by decide +kernel
theorem d_Md_work_124 : decode b_Md_work 124 = .ok (.istore 4, 2) := by decide +kernel
theorem d_Md_work_126 : decode b_Md_work 126 = .ok (.iinc 5 1, 3) := by decide +kernel
theorem d_Md_work_129 : decode b_Md_work 129 = .ok (.goto (-16), 3) := by decide +kernel
theorem d_Md_work_132 : decode b_Md_work 132 = .ok (.aload_n 0, 1) := by decide +kernel
theorem d_Md_work_133 : decode b_Md_work 133 = .ok (.iload_n 1, 1) := by decide +kernel
theorem d_Md_work_134 : decode b_Md_work 134 = .ok (.invokevirtual 118, 3) := by decide +kernel
theorem d_Md_work_137 : decode b_Md_work 137 = .ok (.return_, 1) := by decide +kernel
theorem d_Md_putAll_0 : decode b_Md_putAll 0 = .ok (.iconst 0, 1) := by decide +kernel
theorem d_Md_putAll_1 : decode b_Md_putAll 1 = .ok (.istore_n 2, 1) := by decide +kernel
theorem d_Md_putAll_2 : decode b_Md_putAll 2 = .ok (.iload_n 2, 1) := by decide +kernel
theorem d_Md_putAll_3 : decode b_Md_putAll 3 = .ok (.aload_n 0, 1) := by decide +kernel
theorem d_Md_putAll_4 : decode b_Md_putAll 4 = .ok (.getfield 25, 3) := by decide +kernel
theorem d_Md_putAll_7 : decode b_Md_putAll 7 = .ok (.iload_n 1, 1) := by decide +kernel
theorem d_Md_putAll_8 : decode b_Md_putAll 8 = .ok (.iaload, 1) := by decide +kernel
theorem d_Md_putAll_9 : decode b_Md_putAll 9 = .ok (.if_icmp .ge 29, 3) := by decide +kernel
theorem d_Md_putAll_12 : decode b_Md_putAll 12 = .ok (.aload_n 0, 1) := by decide +kernel
theorem d_Md_putAll_13 : decode b_Md_putAll 13 = .ok (.aload_n 0, 1) := by decide +kernel
theorem d_Md_putAll_14 : decode b_Md_putAll 14 = .ok (.getfield 22, 3) := by decide +kernel
theorem d_Md_putAll_17 : decode b_Md_putAll 17 = .ok (.iload_n 1, 1) := by decide +kernel
theorem d_Md_putAll_18 : decode b_Md_putAll 18 = .ok (.iaload, 1) := by decide +kernel
theorem d_Md_putAll_19 : decode b_Md_putAll 19 = .ok (.iload_n 2, 1) := by decide +kernel
theorem d_Md_putAll_20 : decode b_Md_putAll 20 = .ok (.iadd, 1) := by decide +kernel
theorem d_Md_putAll_21 : decode b_Md_putAll 21 = .ok (.aload_n 0, 1) := by decide +kernel
theorem d_Md_putAll_22 : decode b_Md_putAll 22 = .ok (.getfield 28, 3) := by decide +kernel
theorem d_Md_putAll_25 : decode b_Md_putAll 25 = .ok (.iload_n 1, 1) := by decide +kernel
theorem d_Md_putAll_26 : decode b_Md_putAll 26 = .ok (.iaload, 1) := by decide +kernel
theorem d_Md_putAll_27 : decode b_Md_putAll 27 = .ok (.iload_n 2, 1) := by decide +kernel
theorem d_Md_putAll_28 : decode b_Md_putAll 28 = .ok (.iadd, 1) := by decide +kernel
theorem d_Md_putAll_29 : decode b_Md_putAll 29 = .ok (.invokevirtual 114, 3) := by decide +kernel
theorem d_Md_putAll_32 : decode b_Md_putAll 32 = .ok (.iinc 2 1, 3) := by decide +kernel
theorem d_Md_putAll_35 : decode b_Md_putAll 35 = .ok (.goto (-33), 3) := by decide +kernel
theorem d_Md_putAll_38 : decode b_Md_putAll 38 = .ok (.aload_n 0, 1) := by decide +kernel
theorem d_Md_putAll_39 : decode b_Md_putAll 39 = .ok (.iload_n 1, 1) := by decide +kernel
theorem d_Md_putAll_40 : decode b_Md_putAll 40 = .ok (.invokevirtual 118, 3) := by decide +kernel
theorem d_Md_putAll_43 : decode b_Md_putAll 43 = .ok (.return_, 1) := by decide +kernel
theorem d_Md_put_0 : decode b_Md_put 0 = .ok (.aload_n 0, 1) := by decide +kernel
theorem d_Md_put_1 : decode b_Md_put 1 = .ok (.getfield 13, 3) := by decide +kernel
theorem d_Md_put_4 : decode b_Md_put 4 = .ok (.iload_n 1, 1) := by decide +kernel
theorem d_Md_put_5 : decode b_Md_put 5 = .ok (.iload_n 2, 1) := by decide +kernel
theorem d_Md_put_6 : decode b_Md_put 6 = .ok (.iastore, 1) := by decide +kernel
theorem d_Md_put_7 : decode b_Md_put 7 = .ok (.aload_n 0, 1) := by decide +kernel
theorem d_Md_put_8 : decode b_Md_put 8 = .ok (.getfield 16, 3) := by decide +kernel
theorem d_Md_put_11 : decode b_Md_put 11 = .ok (.iload_n 1, 1) := by decide +kernel
theorem d_Md_put_12 : decode b_Md_put 12 = .ok (.iaload, 1) := by decide +kernel
theorem d_Md_put_13 : decode b_Md_put 13 = .ok (.ifCond .le 4, 3) := by decide +kernel
theorem d_Md_put_16 : decode b_Md_put 16 = .ok (.return_, 1) := by decide +kernel
theorem d_Md_put_17 : decode b_Md_put 17 = .ok (.aload_n 0, 1) := by decide +kernel
theorem d_Md_put_18 : decode b_Md_put 18 = .ok (.dup, 1) := by decide +kernel
theorem d_Md_put_19 : decode b_Md_put 19 = .ok (.getfield 91, 3) := by decide +kernel
theorem d_Md_put_22 : decode b_Md_put 22 = .ok (.iconst 1, 1) := by decide +kernel
theorem d_Md_put_23 : decode b_Md_put 23 = .ok (.iadd, 1) := by decide +kernel
theorem d_Md_put_24 : decode b_Md_put 24 = .ok (.putfield 91, 3) := by decide +kernel
theorem d_Md_put_27 : decode b_Md_put 27 = .ok (.aload_n 0, 1) := by decide +kernel
theorem d_Md_put_28 : decode b_Md_put 28 = .ok (.getfield 16, 3) := by decide +kernel
theorem d_Md_put_31 : decode b_Md_put 31 = .ok (.iload_n 1, 1) := by decide +kernel
theorem d_Md_put_32 : decode b_Md_put 32 = .ok (.aload_n 0, 1) := by decide +kernel
theorem d_Md_put_33 : decode b_Md_put 33 = .ok (.getfield 91, 3) := by decide +kernel
theorem d_Md_put_36 : decode b_Md_put 36 = .ok (.iastore, 1) := by decide +kernel
theorem d_Md_put_37 : decode b_Md_put 37 = .ok (.aload_n 0, 1) := by decide +kernel
theorem d_Md_put_38 : decode b_Md_put 38 = .ok (.invokevirtual 94, 3) := by decide +kernel
theorem d_Md_put_41 : decode b_Md_put 41 = .ok (.aload_n 0, 1) := by decide +kernel
theorem d_Md_put_42 : decode b_Md_put 42 = .ok (.getfield 70, 3) := by decide +kernel
theorem d_Md_put_45 : decode b_Md_put 45 = .ok (.if_icmp .le 10, 3) := by decide +kernel
theorem d_Md_put_48 : decode b_Md_put 48 = .ok (.aload_n 0, 1) := by decide +kernel
theorem d_Md_put_49 : decode b_Md_put 49 = .ok (.invokevirtual 98, 3) := by decide +kernel
theorem d_Md_put_52 : decode b_Md_put 52 = .ok (.goto 4, 3) := by decide +kernel
theorem d_Md_put_55 : decode b_Md_put 55 = .ok (.iconst 0, 1) := by decide +kernel
theorem d_Md_put_56 : decode b_Md_put 56 = .ok (.istore_n 3, 1) := by decide +kernel
theorem d_Md_put_57 : decode b_Md_put 57 = .ok (.return_, 1) := by decide +kernel
theorem d_Md_size_0 : decode b_Md_size 0 = .ok (.iconst 0, 1) := by decide +kernel
theorem d_Md_size_1 : decode b_Md_size 1 = .ok (.istore_n 1, 1) := by decide +kernel
theorem d_Md_size_2 : decode b_Md_size 2 = .ok (.iconst 0, 1) := by decide +kernel
theorem d_Md_size_3 : decode b_Md_size 3 = .ok (.istore_n 2, 1) := by decide +kernel
theorem d_Md_size_4 : decode b_Md_size 4 = .ok (.iload_n 2, 1) := by decide +kernel
theorem d_Md_size_5 : decode b_Md_size 5 = .ok (.bipush 16, 2) := by decide +kernel
theorem d_Md_size_7 : decode b_Md_size 7 = .ok (.if_icmp .ge 21, 3) := by decide +kernel
theorem d_Md_size_10 : decode b_Md_size 10 = .ok (.aload_n 0, 1) := by decide +kernel
theorem d_Md_size_11 : decode b_Md_size 11 = .ok (.getfield 16, 3) := by decide +kernel
theorem d_Md_size_14 : decode b_Md_size 14 = .ok (.iload_n 2, 1) := by decide +kernel
theorem d_Md_size_15 : decode b_Md_size 15 = .ok (.iaload, 1) := by decide +kernel
theorem d_Md_size_16 : decode b_Md_size 16 = .ok (.ifCond .le 6, 3) := by decide +kernel
theorem d_Md_size_19 : decode b_Md_size 19 = .ok (.iinc 1 1, 3) := by decide +kernel
theorem d_Md_size_22 : decode b_Md_size 22 = .ok (.iinc 2 1, 3) := by decide +kernel
theorem d_Md_size_25 : decode b_Md_size 25 = .ok (.goto (-21), 3) := by decide +kernel
theorem d_Md_size_28 : decode b_Md_size 28 = .ok (.iload_n 1, 1) := by decide +kernel
theorem d_Md_size_29 : decode b_Md_size 29 = .ok (.ireturn, 1) := by decide +kernel
theorem d_Md_finish_0 : decode b_Md_finish 0 = .ok (.aload_n 0, 1) := by decide +kernel
theorem d_Md_finish_1 : decode b_Md_finish 1 = .ok (.dup, 1) := by decide +kernel
theorem d_Md_finish_2 : decode b_Md_finish 2 = .ok (.getfield 101, 3) := by decide +kernel
theorem d_Md_finish_5 : decode b_Md_finish 5 = .ok (.iconst 1, 1) := by decide +kernel
theorem d_Md_finish_6 : decode b_Md_finish 6 = .ok (.iadd, 1) := by decide +kernel
theorem d_Md_finish_7 : decode b_Md_finish 7 = .ok (.putfield 101, 3) := by decide +kernel
theorem d_Md_finish_10 : decode b_Md_finish 10 = .ok (.aload_n 0, 1) := by decide +kernel
theorem d_Md_finish_11 : decode b_Md_finish 11 = .ok (.iconst 1, 1) := by decide +kernel
theorem d_Md_finish_12 : decode b_Md_finish 12 = .ok (.iload_n 1, 1) := by decide +kernel
theorem d_Md_finish_13 : decode b_Md_finish 13 = .ok (.iconst 4, 1) := by decide +kernel
theorem d_Md_finish_14 : decode b_Md_finish 14 = .ok (.iconst 0, 1) := by decide +kernel
theorem d_Md_finish_15 : decode b_Md_finish 15 = .ok (.iconst 0, 1) := by decide +kernel
theorem d_Md_finish_16 : decode b_Md_finish 16 = .ok (.invokevirtual 110, 3) := by decide +kernel
theorem d_Md_finish_19 : decode b_Md_finish 19 = .ok (.return_, 1) := by decide +kernel
theorem d_Md_valueOf_0 : decode b_Md_valueOf 0 = .ok (.aload_n 0, 1) := by decide +kernel
theorem d_Md_valueOf_1 : decode b_Md_valueOf 1 = .ok (.getfield 16, 3) := by decide +kernel
theorem d_Md_valueOf_4 : decode b_Md_valueOf 4 = .ok (.iload_n 1, 1) := by decide +kernel
theorem d_Md_valueOf_5 : decode b_Md_valueOf 5 = .ok (.iaload, 1) := by decide +kernel
theorem d_Md_valueOf_6 : decode b_Md_valueOf 6 = .ok (.ifCond .le 12, 3) := by decide +kernel
theorem d_Md_valueOf_9 : decode b_Md_valueOf 9 = .ok (.aload_n 0, 1) := by decide +kernel
theorem d_Md_valueOf_10 : decode b_Md_valueOf 10 = .ok (.getfield 13, 3) := by decide +kernel
theorem d_Md_valueOf_13 : decode b_Md_valueOf 13 = .ok (.iload_n 1, 1) := by decide +kernel
theorem d_Md_valueOf_14 : decode b_Md_valueOf 14 = .ok (.iaload, 1) := by decide +kernel
theorem d_Md_valueOf_15 : decode b_Md_valueOf 15 = .ok (.goto 9, 3) := by decide +kernel
theorem d_Md_valueOf_18 : decode b_Md_valueOf 18 = .ok (.aload_n 0, 1) := by decide +kernel
theorem d_Md_valueOf_19 : decode b_Md_valueOf 19 = .ok (.getfield 7, 3) := by decide +kernel
theorem d_Md_valueOf_22 : decode b_Md_valueOf 22 = .ok (.iload_n 1, 1) := by decide +kernel
theorem d_Md_valueOf_23 : decode b_Md_valueOf 23 = .ok (.iaload, 1) := by decide +kernel
theorem d_Md_valueOf_24 : decode b_Md_valueOf 24 = .ok (.ireturn, 1) := by decide +kernel
theorem d_Md_take_0 : decode b_Md_take 0 = .ok (.iload 5, 2) := by decide +kernel
theorem d_Md_take_2 : decode b_Md_take 2 = .ok (.aload_n 0, 1) := by decide +kernel
theorem d_Md_take_3 : decode b_Md_take 3 = .ok (.getfield 73, 3) := by decide +kernel
theorem d_Md_take_6 : decode b_Md_take 6 = .ok (.if_icmp .le 9, 3) := by decide +kernel
theorem d_Md_take_9 : decode b_Md_take 9 = .ok (.aload_n 0, 1) := by decide +kernel
theorem d_Md_take_10 : decode b_Md_take 10 = .ok (.iload 5, 2) := by decide +kernel
theorem d_Md_take_12 : decode b_Md_take 12 = .ok (.putfield 73, 3) := by decide +kernel
theorem d_Md_take_15 : decode b_Md_take 15 = .ok (.iload_n 2, 1) := by decide +kernel
theorem d_Md_take_16 : decode b_Md_take 16 = .ok (.iconst 2, 1) := by decide +kernel
theorem d_Md_take_17 : decode b_Md_take 17 = .ok (.if_icmp .ne 12, 3) := by decide +kernel
theorem d_Md_take_20 : decode b_Md_take 20 = .ok (.aload_n 0, 1) := by decide +kernel
theorem d_Md_take_21 : decode b_Md_take 21 = .ok (.iconst 0, 1) := by decide +kernel
theorem d_Md_take_22 : decode b_Md_take 22 = .ok (.iload_n 1, 1) := by decide +kernel
theorem d_Md_take_23 : decode b_Md_take 23 = .ok (.iconst 1, 1) := by decide +kernel
theorem d_Md_take_24 : decode b_Md_take 24 = .ok (.iload_n 3, 1) := by decide +kernel
theorem d_Md_take_25 : decode b_Md_take 25 = .ok (.iconst 0, 1) := by decide +kernel
theorem d_Md_take_26 : decode b_Md_take 26 = .ok (.invokevirtual 110, 3) := by decide +kernel
theorem d_Md_take_29 : decode b_Md_take 29 = .ok (.iload_n 2, 1) := by decide +kernel
theorem d_Md_take_30 : decode b_Md_take 30 = .ok (.iconst 3, 1) := by decide +kernel
theorem d_Md_take_31 : decode b_Md_take 31 = .ok (.if_icmp .ne 15, 3) := by decide +kernel
theorem d_Md_take_34 : decode b_Md_take 34 = .ok (.aload_n 0, 1) := by decide +kernel
theorem d_Md_take_35 : decode b_Md_take 35 = .ok (.getfield 34, 3) := by decide +kernel
theorem d_Md_take_38 : decode b_Md_take 38 = .ok (.iload_n 1, 1) := by decide +kernel
theorem d_Md_take_39 : decode b_Md_take 39 = .ok (.iconst 3, 1) := by decide +kernel
theorem d_Md_take_40 : decode b_Md_take 40 = .ok (.imul, 1) := by decide +kernel
theorem d_Md_take_41 : decode b_Md_take 41 = .ok (.iload_n 3, 1) := by decide +kernel
theorem d_Md_take_42 : decode b_Md_take 42 = .ok (.iadd, 1) := by decide +kernel
theorem d_Md_take_43 : decode b_Md_take 43 = .ok (.iload 4, 2) := by decide +kernel
theorem d_Md_take_45 : decode b_Md_take 45 = .ok (.iastore, 1) := by decide +kernel
theorem d_Md_take_46 : decode b_Md_take 46 = .ok (.iload_n 2, 1) := by decide +kernel
theorem d_Md_take_47 : decode b_Md_take 47 = .ok (.iconst 4, 1) := by decide +kernel
theorem d_Md_take_48 : decode b_Md_take 48 = .ok (.if_icmp .ne 10, 3) := by decide +kernel
