theorem d_Md_init_0 : decode b_Md_init 0 = .ok (.aload_n 0, 1) := by decide +kernel
theorem d_Md_init_1 : decode b_Md_init 1 = .ok (.invokespecial 1, 3) := by decide +kernel
theorem d_Md_init_4 : decode b_Md_init 4 = .ok (.aload_n 0, 1) := by decide +kernel
theorem d_Md_init_5 : decode b_Md_init 5 = .ok (.bipush 16, 2) := by decide +kernel
theorem d_Md_init_7 : decode b_Md_init 7 = .ok (.newarray .int, 2) := by decide +kernel
theorem d_Md_init_9 : decode b_Md_init 9 = .ok (.putfield 7, 3) := by decide +kernel
theorem d_Md_init_12 : decode b_Md_init 12 = .ok (.aload_n 0, 1) := by decide +kernel
theorem d_Md_init_13 : decode b_Md_init 13 = .ok (.bipush 16, 2) := by decide +kernel
theorem d_Md_init_15 : decode b_Md_init 15 = .ok (.newarray .int, 2) := by decide +kernel
theorem d_Md_init_17 : decode b_Md_init 17 = .ok (.putfield 13, 3) := by decide +kernel
theorem d_Md_init_20 : decode b_Md_init 20 = .ok (.aload_n 0, 1) := by decide +kernel
theorem d_Md_init_21 : decode b_Md_init 21 = .ok (.bipush 16, 2) := by decide +kernel
theorem d_Md_init_23 : decode b_Md_init 23 = .ok (.newarray .int, 2) := by decide +kernel
theorem d_Md_init_25 : decode b_Md_init 25 = .ok (.putfield 16, 3) := by decide +kernel
theorem d_Md_init_28 : decode b_Md_init 28 = .ok (.aload_n 0, 1) := by decide +kernel
theorem d_Md_init_29 : decode b_Md_init 29 = .ok (.bipush 120, 2) := by decide +kernel
theorem d_Md_init_31 : decode b_Md_init 31 = .ok (.newarray .int, 2) := by decide +kernel
theorem d_Md_init_33 : decode b_Md_init 33 = .ok (.putfield 19, 3) := by decide +kernel
theorem d_Md_init_36 : decode b_Md_init 36 = .ok (.aload_n 0, 1) := by decide +kernel
theorem d_Md_init_37 : decode b_Md_init 37 = .ok (.bipush 120, 2) := by decide +kernel
theorem d_Md_init_39 : decode b_Md_init 39 = .ok (.newarray .int, 2) := by decide +kernel
theorem d_Md_init_41 : decode b_Md_init 41 = .ok (.putfield 22, 3) := by decide +kernel
theorem d_Md_init_44 : decode b_Md_init 44 = .ok (.aload_n 0, 1) := by decide +kernel
theorem d_Md_init_45 : decode b_Md_init 45 = .ok (.bipush 120, 2) := by decide +kernel
theorem d_Md_init_47 : decode b_Md_init 47 = .ok (.newarray .int, 2) := by decide +kernel
theorem d_Md_init_49 : decode b_Md_init 49 = .ok (.putfield 25, 3) := by decide +kernel
theorem d_Md_init_52 : decode b_Md_init 52 = .ok (.aload_n 0, 1) := by decide +kernel
theorem d_Md_init_53 : decode b_Md_init 53 = .ok (.bipush 120, 2) := by decide +kernel
theorem d_Md_init_55 : decode b_Md_init 55 = .ok (.newarray .int, 2) := by decide +kernel
theorem d_Md_init_57 : decode b_Md_init 57 = .ok (.putfield 28, 3) := by decide +kernel
theorem d_Md_init_60 : decode b_Md_init 60 = .ok (.aload_n 0, 1) := by decide +kernel
theorem d_Md_init_61 : decode b_Md_init 61 = .ok (.bipush 120, 2) := by decide +kernel
theorem d_Md_init_63 : decode b_Md_init 63 = .ok (.newarray .int, 2) := by decide +kernel
theorem d_Md_init_65 : decode b_Md_init 65 = .ok (.putfield 31, 3) := by decide +kernel
theorem d_Md_init_68 : decode b_Md_init 68 = .ok (.aload_n 0, 1) := by decide +kernel
theorem d_Md_init_69 : decode b_Md_init 69 = .ok (.sipush 360, 3) := by decide +kernel
theorem d_Md_init_72 : decode b_Md_init 72 = .ok (.newarray .int, 2) := by decide +kernel
theorem d_Md_init_74 : decode b_Md_init 74 = .ok (.putfield 34, 3) := by decide +kernel
theorem d_Md_init_77 : decode b_Md_init 77 = .ok (.aload_n 0, 1) := by decide +kernel
theorem d_Md_init_78 : decode b_Md_init 78 = .ok (.sipush 128, 3) := by decide +kernel
theorem d_Md_init_81 : decode b_Md_init 81 = .ok (.newarray .int, 2) := by decide +kernel
theorem d_Md_init_83 : decode b_Md_init 83 = .ok (.putfield 37, 3) := by decide +kernel
theorem d_Md_init_86 : decode b_Md_init 86 = .ok (.aload_n 0, 1) := by decide +kernel
theorem d_Md_init_87 : decode b_Md_init 87 = .ok (.sipush 128, 3) := by decide +kernel
theorem d_Md_init_90 : decode b_Md_init 90 = .ok (.newarray .int, 2) := by decide +kernel
theorem d_Md_init_92 : decode b_Md_init 92 = .ok (.putfield 40, 3) := by decide +kernel
theorem d_Md_init_95 : decode b_Md_init 95 = .ok (.aload_n 0, 1) := by decide +kernel
theorem d_Md_init_96 : decode b_Md_init 96 = .ok (.sipush 128, 3) := by decide +kernel
theorem d_Md_init_99 : decode b_Md_init 99 = .ok (.newarray .int, 2) := by decide +kernel
theorem d_Md_init_101 : decode b_Md_init 101 = .ok (.putfield 43, 3) := by decide +kernel
theorem d_Md_init_104 : decode b_Md_init 104 = .ok (.aload_n 0, 1) := by decide +kernel
theorem d_Md_init_105 : decode b_Md_init 105 = .ok (.sipush 128, 3) := by decide +kernel
theorem d_Md_init_108 : decode b_Md_init 108 = .ok (.newarray .int, 2) := by decide +kernel
theorem d_Md_init_110 : decode b_Md_init 110 = .ok (.putfield 46, 3) := by decide +kernel
theorem d_Md_init_113 : decode b_Md_init 113 = .ok (.aload_n 0, 1) := by decide +kernel
theorem d_Md_init_114 : decode b_Md_init 114 = .ok (.sipush 128, 3) := by decide +kernel
theorem d_Md_init_117 : decode b_Md_init 117 = .ok (.newarray .int, 2) := by decide +kernel
theorem d_Md_init_119 : decode b_Md_init 119 = .ok (.putfield 49, 3) := by decide +kernel
theorem d_Md_init_122 : decode b_Md_init 122 = .ok (.aload_n 0, 1) := by decide +kernel
theorem d_Md_init_123 : decode b_Md_init 123 = .ok (.sipush 128, 3) := by decide +kernel
theorem d_Md_init_126 : decode b_Md_init 126 = .ok (.newarray .boolean, 2) := by decide +kernel
theorem d_Md_init_128 : decode b_Md_init 128 = .ok (.putfield 52, 3) := by decide +kernel
theorem d_Md_init_131 : decode b_Md_init 131 = .ok (.aload_n 0, 1) := by decide +kernel
theorem d_Md_init_132 : decode b_Md_init 132 = .ok (.iconst 2, 1) := by decide +kernel
theorem d_Md_init_133 : decode b_Md_init 133 = .ok (.newarray .int, 2) := by decide +kernel
theorem d_Md_init_135 : decode b_Md_init 135 = .ok (.putfield 56, 3) := by decide +kernel
theorem d_Md_init_138 : decode b_Md_init 138 = .ok (.aload_n 0, 1) := by decide +kernel
theorem d_Md_init_139 : decode b_Md_init 139 = .ok (.iconst 1, 1) := by decide +kernel
theorem d_Md_init_140 : decode b_Md_init 140 = .ok (.putfield 59, 3) := by decide +kernel
theorem d_Md_init_143 : decode b_Md_init 143 = .ok (.aload_n 0, 1) := by decide +kernel
theorem d_Md_init_144 : decode b_Md_init 144 = .ok (.iconst 1, 1) := by decide +kernel
theorem d_Md_init_145 : decode b_Md_init 145 = .ok (.putfield 63, 3) := by decide +kernel
theorem d_Md_init_148 : decode b_Md_init 148 = .ok (.aload_n 0, 1) := by decide +kernel
theorem d_Md_init_149 : decode b_Md_init 149 = .ok (.iload_n 1, 1) := by decide +kernel
theorem d_Md_init_150 : decode b_Md_init 150 = .ok (.iconst 1, 1) := by decide +kernel
theorem d_Md_init_151 : decode b_Md_init 151 = .ok (.if_icmp .ge 7, 3) := by decide +kernel
theorem d_Md_init_154 : decode b_Md_init 154 = .ok (.iconst 1, 1) := by decide +kernel
theorem d_Md_init_155 : decode b_Md_init 155 = .ok (.goto 13, 3) := by decide +kernel
theorem d_Md_init_158 : decode b_Md_init 158 = .ok (.iload_n 1, 1) := by decide +kernel
theorem d_Md_init_159 : decode b_Md_init 159 = .ok (.iconst 4, 1) := by decide +kernel
theorem d_Md_init_160 : decode b_Md_init 160 = .ok (.if_icmp .le 7, 3) := by decide +kernel
theorem d_Md_init_163 : decode b_Md_init 163 = .ok (.iconst 4, 1) := by decide +kernel
theorem d_Md_init_164 : decode b_Md_init 164 = .ok (.goto 4, 3) := by decide +kernel
theorem d_Md_init_167 : decode b_Md_init 167 = .ok (.iload_n 1, 1) := by decide +kernel
theorem d_Md_init_168 : decode b_Md_init 168 = .ok (.putfield 67, 3) := by decide +kernel
theorem d_Md_init_171 : decode b_Md_init 171 = .ok (.aload_n 0, 1) := by decide +kernel
theorem d_Md_init_172 : decode b_Md_init 172 = .ok (.iload_n 2, 1) := by decide +kernel
theorem d_Md_init_173 : decode b_Md_init 173 = .ok (.iconst 1, 1) := by decide +kernel
theorem d_Md_init_174 : decode b_Md_init 174 = .ok (.if_icmp .ge 7, 3) := by decide +kernel
theorem d_Md_init_177 : decode b_Md_init 177 = .ok (.iconst 1, 1) := by decide +kernel
theorem d_Md_init_178 : decode b_Md_init 178 = .ok (.goto 15, 3) := by decide +kernel
theorem d_Md_init_181 : decode b_Md_init 181 = .ok (.iload_n 2, 1) := by decide +kernel
theorem d_Md_init_182 : decode b_Md_init 182 = .ok (.bipush 6, 2) := by decide +kernel
theorem d_Md_init_184 : decode b_Md_init 184 = .ok (.if_icmp .le 8, 3) := by decide +kernel
theorem d_Md_init_187 : decode b_Md_init 187 = .ok (.bipush 6, 2) := by decide +kernel
theorem d_Md_init_189 : decode b_Md_init 189 = .ok (.goto 4, 3) := by decide +kernel
theorem d_Md_init_192 : decode b_Md_init 192 = .ok (.iload_n 2, 1) := by decide +kernel
theorem d_Md_init_193 : decode b_Md_init 193 = .ok (.putfield 70, 3) := by decide +kernel
theorem d_Md_init_196 : decode b_Md_init 196 = .ok (.aload_n 0, 1) := by decide +kernel
theorem d_Md_init_197 : decode b_Md_init 197 = .ok (.aload_n 0, 1) := by decide +kernel
theorem d_Md_init_198 : decode b_Md_init 198 = .ok (.getfield 67, 3) := by decide +kernel
theorem d_Md_init_201 : decode b_Md_init 201 = .ok (.putfield 73, 3) := by decide +kernel
theorem d_Md_init_204 : decode b_Md_init 204 = .ok (.return_, 1) := by decide +kernel
theorem d_Md_write_0 : decode b_Md_write 0 = .ok (.aload_n 0, 1) := by decide +kernel
theorem d_Md_write_1 : decode b_Md_write 1 = .ok (.iload_n 1, 1) := by decide +kernel
theorem d_Md_write_2 : decode b_Md_write 2 = .ok (.iload_n 2, 1) := by decide +kernel
theorem d_Md_write_3 : decode b_Md_write 3 = .ok (.invokevirtual 79, 3) := by decide +kernel
theorem d_Md_write_6 : decode b_Md_write 6 = .ok (.ifCond .eq 7, 3) := by decide +kernel
theorem d_Md_write_9 : decode b_Md_write 9 = .ok (.iconst (-1), 1) := by decide +kernel
theorem d_Md_write_10 : decode b_Md_write 10 = .ok (.goto 11, 3) := by decide +kernel
theorem d_Md_write_13 : decode b_Md_write 13 = .ok (.aload_n 0, 1) := by decide +kernel
theorem d_Md_write_14 : decode b_Md_write 14 = .ok (.iconst 0, 1) := by decide +kernel
theorem d_Md_write_15 : decode b_Md_write 15 = .ok (.iload_n 1, 1) := by decide +kernel
theorem d_Md_write_16 : decode b_Md_write 16 = .ok (.iload_n 2, 1) := by decide +kernel
theorem d_Md_write_17 : decode b_Md_write 17 = .ok (.iload_n 3, 1) := by decide +kernel
theorem d_Md_write_18 : decode b_Md_write 18 = .ok (.invokevirtual 83, 3) := by decide +kernel
theorem d_Md_write_21 : decode b_Md_write 21 = .ok (.ireturn, 1) := by decide +kernel
theorem d_Md_outside_0 : decode b_Md_outside 0 = .ok (.iload_n 1, 1) := by decide +kernel
theorem d_Md_outside_1 : decode b_Md_outside 1 = .ok (.ifCond .lt 27, 3) := by decide +kernel
theorem d_Md_outside_4 : decode b_Md_outside 4 = .ok (.iload_n 1, 1) := by decide +kernel
theorem d_Md_outside_5 : decode b_Md_outside 5 = .ok (.bipush 15, 2) := by decide +kernel
theorem d_Md_outside_7 : decode b_Md_outside 7 = .ok (.if_icmp .gt 21, 3) := by decide +kernel
theorem d_Md_outside_10 : decode b_Md_outside 10 = .ok (.iload_n 2, 1) := by decide +kernel
theorem d_Md_outside_11 : decode b_Md_outside 11 = .ok (.iconst 1, 1) := by decide +kernel
theorem d_Md_outside_12 : decode b_Md_outside 12 = .ok (.if_icmp .lt 16, 3) := by decide +kernel
theorem d_Md_outside_15 : decode b_Md_outside 15 = .ok (.iload_n 2, 1) := by decide +kernel
theorem d_Md_outside_16 : decode b_Md_outside 16 = .ok (.iconst 3, 1) := by decide +kernel
theorem d_Md_outside_17 : decode b_Md_outside 17 = .ok (.if_icmp .gt 11, 3) := by decide +kernel
theorem d_Md_outside_20 : decode b_Md_outside 20 = .ok (.iload_n 1, 1) := by decide +kernel
theorem d_Md_outside_21 : decode b_Md_outside 21 = .ok (.iload_n 2, 1) := by decide +kernel
theorem d_Md_outside_22 : decode b_Md_outside 22 = .ok (.iadd, 1) := by decide +kernel
theorem d_Md_outside_23 : decode b_Md_outside 23 = .ok (.bipush 16, 2) := by decide +kernel
theorem d_Md_outside_25 : decode b_Md_outside 25 = .ok (.if_icmp .le 7, 3) := by decide +kernel
theorem d_Md_outside_28 : decode b_Md_outside 28 = .ok (.iconst 1, 1) := by decide +kernel
theorem d_Md_outside_29 : decode b_Md_outside 29 = .ok (.goto 4, 3) := by decide +kernel
theorem d_Md_outside_32 : decode b_Md_outside 32 = .ok (.iconst 0, 1) := by decide +kernel
theorem d_Md_outside_33 : decode b_Md_outside 33 = .ok (.ireturn, 1) := by decide +kernel
theorem d_Md_add_0 : decode b_Md_add 0 = .ok (.aload_n 0, 1) := by decide +kernel
theorem d_Md_add_1 : decode b_Md_add 1 = .ok (.getfield 76, 3) := by decide +kernel
theorem d_Md_add_4 : decode b_Md_add 4 = .ok (.bipush 120, 2) := by decide +kernel
theorem d_Md_add_6 : decode b_Md_add 6 = .ok (.if_icmp .ne 6, 3) := by decide +kernel
theorem d_Md_add_9 : decode b_Md_add 9 = .ok (.bipush (-2), 2) := by decide +kernel
theorem d_Md_add_11 : decode b_Md_add 11 = .ok (.ireturn, 1) := by decide +kernel
theorem d_Md_add_12 : decode b_Md_add 12 = .ok (.aload_n 0, 1) := by decide +kernel
theorem d_Md_add_13 : decode b_Md_add 13 = .ok (.getfield 19, 3) := by decide +kernel
theorem d_Md_add_16 : decode b_Md_add 16 = .ok (.aload_n 0, 1) := by decide +kernel
theorem d_Md_add_17 : decode b_Md_add 17 = .ok (.getfield 76, 3) := by decide +kernel
theorem d_Md_add_20 : decode b_Md_add 20 = .ok (.iload_n 1, 1) := by decide +kernel
theorem d_Md_add_21 : decode b_Md_add 21 = .ok (.iastore, 1) := by decide +kernel
theorem d_Md_add_22 : decode b_Md_add 22 = .ok (.aload_n 0, 1) := by decide +kernel
theorem d_Md_add_23 : decode b_Md_add 23 = .ok (.getfield 22, 3) := by decide +kernel
theorem d_Md_add_26 : decode b_Md_add 26 = .ok (.aload_n 0, 1) := by decide +kernel
theorem d_Md_add_27 : decode b_Md_add 27 = .ok (.getfield 76, 3) := by decide +kernel
theorem d_Md_add_30 : decode b_Md_add 30 = .ok (.iload_n 2, 1) := by decide +kernel
theorem d_Md_add_31 : decode b_Md_add 31 = .ok (.iastore, 1) := by decide +kernel
theorem d_Md_add_32 : decode b_Md_add 32 = .ok (.aload_n 0, 1) := by decide +kernel
theorem d_Md_add_33 : decode b_Md_add 33 = .ok (.getfield 25, 3) := by decide +kernel
theorem d_Md_add_36 : decode b_Md_add 36 = .ok (.aload_n 0, 1) := by decide +kernel
theorem d_Md_add_37 : decode b_Md_add 37 = .ok (.getfield 76, 3) := by decide +kernel
theorem d_Md_add_40 : decode b_Md_add 40 = .ok (.iload_n 3, 1) := by decide +kernel
theorem d_Md_add_41 : decode b_Md_add 41 = .ok (.iastore, 1) := by decide +kernel
theorem d_Md_add_42 : decode b_Md_add 42 = .ok (.aload_n 0, 1) := by decide +kernel
theorem d_Md_add_43 : decode b_Md_add 43 = .ok (.getfield 28, 3) := by decide +kernel
theorem d_Md_add_46 : decode b_Md_add 46 = .ok (.aload_n 0, 1) := by decide +kernel
theorem d_Md_add_47 : decode b_Md_add 47 = .ok (.getfield 76, 3) := by decide +kernel
theorem d_Md_add_50 : decode b_Md_add 50 = .ok (.iload 4, 2) := by decide +kernel
theorem d_Md_add_52 : decode b_Md_add 52 = .ok (.iastore, 1) := by decide +kernel
theorem d_Md_add_53 : decode b_Md_add 53 = .ok (.aload_n 0, 1) := by decide +kernel
theorem d_Md_add_54 : decode b_Md_add 54 = .ok (.getfield 31, 3) := by decide +kernel
theorem d_Md_add_57 : decode b_Md_add 57 = .ok (.aload_n 0, 1) := by decide +kernel
theorem d_Md_add_58 : decode b_Md_add 58 = .ok (.getfield 76, 3) := by decide +kernel
theorem d_Md_add_61 : decode b_Md_add 61 = .ok (.iconst 0, 1) := by decide +kernel
theorem d_Md_add_62 : decode b_Md_add 62 = .ok (.iastore, 1) := by decide +kernel
theorem d_Md_add_63 : decode b_Md_add 63 = .ok (.aload_n 0, 1) := by decide +kernel
theorem d_Md_add_64 : decode b_Md_add 64 = .ok (.dup, 1) := by decide +kernel
theorem d_Md_add_65 : decode b_Md_add 65 = .ok (.getfield 76, 3) := by decide +kernel
theorem d_Md_add_68 : decode b_Md_add 68 = .ok (.iconst 1, 1) := by decide +kernel
theorem d_Md_add_69 : decode b_Md_add 69 = .ok (.iadd, 1) := by decide +kernel
theorem d_Md_add_70 : decode b_Md_add 70 = .ok (.putfield 76, 3) := by decide +kernel
theorem d_Md_add_73 : decode b_Md_add 73 = .ok (.aload_n 0, 1) := by decide +kernel
theorem d_Md_add_74 : decode b_Md_add 74 = .ok (.getfield 76, 3) := by decide +kernel
theorem d_Md_add_77 : decode b_Md_add 77 = .ok (.iconst 1, 1) := by decide +kernel
theorem d_Md_add_78 : decode b_Md_add 78 = .ok (.isub, 1) := by decide +kernel
theorem d_Md_add_79 : decode b_Md_add 79 = .ok (.ireturn, 1) := by decide +kernel
theorem d_Md_read_0 : decode b_Md_read 0 = .ok (.aload_n 0, 1) := by decide +kernel
theorem d_Md_read_1 : decode b_Md_read 1 = .ok (.iload_n 1, 1) := by decide +kernel
theorem d_Md_read_2 : decode b_Md_read 2 = .ok (.iload_n 2, 1) := by decide +kernel
theorem d_Md_read_3 : decode b_Md_read 3 = .ok (.invokevirtual 79, 3) := by decide +kernel
theorem d_Md_read_6 : decode b_Md_read 6 = .ok (.ifCond .eq 7, 3) := by decide +kernel
theorem d_Md_read_9 : decode b_Md_read 9 = .ok (.iconst (-1), 1) := by decide +kernel
theorem d_Md_read_10 : decode b_Md_read 10 = .ok (.goto 11, 3) := by decide +kernel
theorem d_Md_read_13 : decode b_Md_read 13 = .ok (.aload_n 0, 1) := by decide +kernel
theorem d_Md_read_14 : decode b_Md_read 14 = .ok (.iconst 1, 1) := by decide +kernel
theorem d_Md_read_15 : decode b_Md_read 15 = .ok (.iload_n 1, 1) := by decide +kernel
theorem d_Md_read_16 : decode b_Md_read 16 = .ok (.iload_n 2, 1) := by decide +kernel
theorem d_Md_read_17 : decode b_Md_read 17 = .ok (.iconst 0, 1) := by decide +kernel
theorem d_Md_read_18 : decode b_Md_read 18 = .ok (.invokevirtual 83, 3) := by decide +kernel
theorem d_Md_read_21 : decode b_Md_read 21 = .ok (.ireturn, 1) := by decide +kernel
theorem d_Md_sync_0 : decode b_Md_sync 0 = .ok (.aload_n 0, 1) := by decide +kernel
theorem d_Md_sync_1 : decode b_Md_sync 1 = .ok (.iconst 2, 1) := by decide +kernel
theorem d_Md_sync_2 : decode b_Md_sync 2 = .ok (.iconst 0, 1) := by decide +kernel
theorem d_Md_sync_3 : decode b_Md_sync 3 = .ok (.iconst 0, 1) := by decide +kernel
theorem d_Md_sync_4 : decode b_Md_sync 4 = .ok (.iconst 0, 1) := by decide +kernel
theorem d_Md_sync_5 : decode b_Md_sync 5 = .ok (.invokevirtual 83, 3) := by decide +kernel
theorem d_Md_sync_8 : decode b_Md_sync 8 = .ok (.ireturn, 1) := by decide +kernel
theorem d_Md_flush_0 : decode b_Md_flush 0 = .ok (.aload_n 0, 1) := by decide +kernel
theorem d_Md_flush_1 : decode b_Md_flush 1 = .ok (.iconst 0, 1) := by decide +kernel
theorem d_Md_flush_2 : decode b_Md_flush 2 = .ok (.invokevirtual 87, 3) := by decide +kernel
theorem d_Md_flush_5 : decode b_Md_flush 5 = .ok (.istore_n 1, 1) := by decide +kernel
theorem d_Md_flush_6 : decode b_Md_flush 6 = .ok (.iload_n 1, 1) := by decide +kernel
theorem d_Md_flush_7 : decode b_Md_flush 7 = .ok (.ifCond .ge 6, 3) := by decide +kernel
theorem d_Md_flush_10 : decode b_Md_flush 10 = .ok (.bipush (-3), 2) := by decide +kernel
theorem d_Md_flush_12 : decode b_Md_flush 12 = .ok (.ireturn, 1) := by decide +kernel
theorem d_Md_flush_13 : decode b_Md_flush 13 = .ok (.aload_n 0, 1) := by decide +kernel
theorem d_Md_flush_14 : decode b_Md_flush 14 = .ok (.getfield 7, 3) := by decide +kernel
theorem d_Md_flush_17 : decode b_Md_flush 17 = .ok (.iload_n 1, 1) := by decide +kernel
theorem d_Md_flush_18 : decode b_Md_flush 18 = .ok (.aload_n 0, 1) := by decide +kernel
theorem d_Md_flush_19 : decode b_Md_flush 19 = .ok (.getfield 13, 3) := by decide +kernel
theorem d_Md_flush_22 : decode b_Md_flush 22 = .ok (.iload_n 1, 1) := by decide +kernel
theorem d_Md_flush_23 : decode b_Md_flush 23 = .ok (.iaload, 1) := by decide +kernel
theorem d_Md_flush_24 : decode b_Md_flush 24 = .ok (.iastore, 1) := by decide +kernel
theorem d_Md_flush_25 : decode b_Md_flush 25 = .ok (.aload_n 0, 1) := by decide +kernel
theorem d_Md_flush_26 : decode b_Md_flush 26 = .ok (.getfield 16, 3) := by decide +kernel
theorem d_Md_flush_29 : decode b_Md_flush 29 = .ok (.iload_n 1, 1) := by decide +kernel
theorem d_Md_flush_30 : decode b_Md_flush 30 = .ok (.iconst 0, 1) := by decide +kernel
theorem d_Md_flush_31 : decode b_Md_flush 31 = .ok (.iastore, 1) := by decide +kernel
theorem d_Md_flush_32 : decode b_Md_flush 32 = .ok (.iload_n 1, 1) := by decide +kernel
theorem d_Md_flush_33 : decode b_Md_flush 33 = .ok (.ireturn, 1) := by decide +kernel
theorem d_Md_blockAt_0 : decode b_Md_blockAt 0 = .ok (.iconst 0, 1) := by decide +kernel
theorem d_Md_blockAt_1 : decode b_Md_blockAt 1 = .ok (.istore_n 2, 1) := by decide +kernel
theorem d_Md_blockAt_2 : decode b_Md_blockAt 2 = .ok (.iload_n 2, 1) := by decide +kernel
theorem d_Md_blockAt_3 : decode b_Md_blockAt 3 = .ok (.bipush 16, 2) := by decide +kernel
theorem d_Md_blockAt_5 : decode b_Md_blockAt 5 = .ok (.if_icmp .ge 72, 3) := by decide +kernel
theorem d_Md_blockAt_8 : decode b_Md_blockAt 8 = .ok (.iconst 0, 1) := by decide +kernel
theorem d_Md_blockAt_9 : decode b_Md_blockAt 9 = .ok (.istore_n 3, 1) := by decide +kernel
theorem d_Md_blockAt_10 : decode b_Md_blockAt 10 = .ok (.iconst 0, 1) := by decide +kernel
theorem d_Md_blockAt_11 : decode b_Md_blockAt 11 = .ok (.istore 4, 2) := by decide +kernel
theorem d_Md_blockAt_13 : decode b_Md_blockAt 13 = .ok (.iload 4, 2) := by decide +kernel
theorem d_Md_blockAt_15 : decode b_Md_blockAt 15 = .ok (.bipush 16, 2) := by decide +kernel
theorem d_Md_blockAt_17 : decode b_Md_blockAt 17 = .ok (.if_icmp .ge 38, 3) := by decide +kernel
theorem d_Md_blockAt_20 : decode b_Md_blockAt 20 = .ok (.aload_n 0, 1) := by decide +kernel
theorem d_Md_blockAt_21 : decode b_Md_blockAt 21 = .ok (.getfield 16, 3) := by decide +kernel
theorem d_Md_blockAt_24 : decode b_Md_blockAt 24 = .ok (.iload 4, 2) := by decide +kernel
theorem d_Md_blockAt_26 : decode b_Md_blockAt 26 = .ok (.iaload, 1) := by decide +kernel
theorem d_Md_blockAt_27 : decode b_Md_blockAt 27 = .ok (.ifCond .le 22, 3) := by decide +kernel
theorem d_Md_blockAt_30 : decode b_Md_blockAt 30 = .ok (.aload_n 0, 1) := by decide +kernel
theorem d_Md_blockAt_31 : decode b_Md_blockAt 31 = .ok (.getfield 16, 3) := by decide +kernel
theorem d_Md_blockAt_34 : decode b_Md_blockAt 34 = .ok (.iload 4, 2) := by decide +kernel
theorem d_Md_blockAt_36 : decode b_Md_blockAt 36 = .ok (.iaload, 1) := by decide +kernel
theorem d_Md_blockAt_37 : decode b_Md_blockAt 37 = .ok (.aload_n 0, 1) := by decide +kernel
theorem d_Md_blockAt_38 : decode b_Md_blockAt 38 = .ok (.getfield 16, 3) := by decide +kernel
theorem d_Md_blockAt_41 : decode b_Md_blockAt 41 = .ok (.iload_n 2, 1) := by decide +kernel
theorem d_Md_blockAt_42 : decode b_Md_blockAt 42 = .ok (.iaload, 1) := by decide +kernel
theorem d_Md_blockAt_43 : decode b_Md_blockAt 43 = .ok (.if_icmp .ge 6, 3) := by decide +kernel
theorem d_Md_blockAt_46 : decode b_Md_blockAt 46 = .ok (.iinc 3 1, 3) := by decide +kernel
theorem d_Md_blockAt_49 : decode b_Md_blockAt 49 = .ok (.iinc 4 1, 3) := by decide +kernel
theorem d_Md_blockAt_52 : decode b_Md_blockAt 52 = .ok (.goto (-39), 3) := by decide +kernel
theorem d_Md_blockAt_55 : decode b_Md_blockAt 55 = .ok (.aload_n 0, 1) := by decide +kernel
theorem d_Md_blockAt_56 : decode b_Md_blockAt 56 = .ok (.getfield 16, 3) := by decide +kernel
theorem d_Md_blockAt_59 : decode b_Md_blockAt 59 = .ok (.iload_n 2, 1) := by decide +kernel
theorem d_Md_blockAt_60 : decode b_Md_blockAt 60 = .ok (.iaload, 1) := by decide +kernel
theorem d_Md_blockAt_61 : decode b_Md_blockAt 61 = .ok (.ifCond .le 10, 3) := by decide +kernel
theorem d_Md_blockAt_64 : decode b_Md_blockAt 64 = .ok (.iload_n 3, 1) := by decide +kernel
theorem d_Md_blockAt_65 : decode b_Md_blockAt 65 = .ok (.iload_n 1, 1) := by decide +kernel
theorem d_Md_blockAt_66 : decode b_Md_blockAt 66 = .ok (.if_icmp .ne 5, 3) := by decide +kernel
theorem d_Md_blockAt_69 : decode b_Md_blockAt 69 = .ok (.iload_n 2, 1) := by decide +kernel
theorem d_Md_blockAt_70 : decode b_Md_blockAt 70 = .ok (.ireturn, 1) := by decide +kernel
theorem d_Md_blockAt_71 : decode b_Md_blockAt 71 = .ok (.iinc 2 1, 3) := by decide +kernel
theorem d_Md_blockAt_74 : decode b_Md_blockAt 74 = .ok (.goto (-72), 3) := by decide +kernel
theorem d_Md_blockAt_77 : decode b_Md_blockAt 77 = .ok (.bipush (-3), 2) := by decide +kernel
theorem d_Md_blockAt_79 : decode b_Md_blockAt 79 = .ok (.ireturn, 1) := by decide +kernel
theorem d_Md_send_0 : decode b_Md_send 0 = .ok (.aload_n 0, 1) := by decide +kernel
theorem d_Md_send_1 : decode b_Md_send 1 = .ok (.getfield 59, 3) := by decide +kernel
theorem d_Md_send_4 : decode b_Md_send 4 = .ok (.ifCond .ne 6, 3) := by decide +kernel
theorem d_Md_send_7 : decode b_Md_send 7 = .ok (.bipush (-4), 2) := by decide +kernel
theorem d_Md_send_9 : decode b_Md_send 9 = .ok (.ireturn, 1) := by decide +kernel
theorem d_Md_send_10 : decode b_Md_send 10 = .ok (.aload_n 0, 1) := by decide +kernel
theorem d_Md_send_11 : decode b_Md_send 11 = .ok (.iconst 0, 1) := by decide +kernel
theorem d_Md_send_12 : decode b_Md_send 12 = .ok (.invokevirtual 104, 3) := by decide +kernel
theorem d_Md_send_15 : decode b_Md_send 15 = .ok (.ifCond .ne 6, 3) := by decide +kernel
theorem d_Md_send_18 : decode b_Md_send 18 = .ok (.bipush (-3), 2) := by decide +kernel
theorem d_Md_send_20 : decode b_Md_send 20 = .ok (.ireturn, 1) := by decide +kernel
theorem d_Md_send_21 : decode b_Md_send 21 = .ok (.iconst 0, 1) := by decide +kernel
theorem d_Md_send_22 : decode b_Md_send 22 = .ok (.istore_n 1, 1) := by decide +kernel
theorem d_Md_send_23 : decode b_Md_send 23 = .ok (.iload_n 1, 1) := by decide +kernel
theorem d_Md_send_24 : decode b_Md_send 24 = .ok (.bipush 119, 2) := by decide +kernel
theorem d_Md_send_26 : decode b_Md_send 26 = .ok (.if_icmp .ge 18, 3) := by decide +kernel
theorem d_Md_send_29 : decode b_Md_send 29 = .ok (.aload_n 0, 1) := by decide +kernel
theorem d_Md_send_30 : decode b_Md_send 30 = .ok (.getfield 31, 3) := by decide +kernel
theorem d_Md_send_33 : decode b_Md_send 33 = .ok (.iload_n 1, 1) := by decide +kernel
theorem d_Md_send_34 : decode b_Md_send 34 = .ok (.iaload, 1) := by decide +kernel
theorem d_Md_send_35 : decode b_Md_send 35 = .ok (.ifCond .eq 9, 3) := by decide +kernel
theorem d_Md_send_38 : decode b_Md_send 38 = .ok (.iinc 1 1, 3) := by decide +kernel
theorem d_Md_send_41 : decode b_Md_send 41 = .ok (.goto (-18), 3) := by decide +kernel
theorem d_Md_send_44 : decode b_Md_send 44 = .ok (.aload_n 0, 1) := by decide +kernel
theorem d_Md_send_45 : decode b_Md_send 45 = .ok (.getfield 107, 3) := by decide +kernel
theorem d_Md_send_48 : decode b_Md_send 48 = .ok (.aload_n 0, 1) := by decide +kernel
theorem d_Md_send_49 : decode b_Md_send 49 = .ok (.getfield 73, 3) := by decide +kernel
theorem d_Md_send_52 : decode b_Md_send 52 = .ok (.if_icmp .lt 6, 3) := by decide +kernel
theorem d_Md_send_55 : decode b_Md_send 55 = .ok (.bipush (-2), 2) := by decide +kernel
theorem d_Md_send_57 : decode b_Md_send 57 = .ok (.ireturn, 1) := by decide +kernel
theorem d_Md_send_58 : decode b_Md_send 58 = .ok (.aload_n 0, 1) := by decide +kernel
theorem d_Md_send_59 : decode b_Md_send 59 = .ok (.getfield 31, 3) := by decide +kernel
theorem d_Md_send_62 : decode b_Md_send 62 = .ok (.iload_n 1, 1) := by decide +kernel
theorem d_Md_send_63 : decode b_Md_send 63 = .ok (.iconst 1, 1) := by decide +kernel
theorem d_Md_send_64 : decode b_Md_send 64 = .ok (.iastore, 1) := by decide +kernel
theorem d_Md_send_65 : decode b_Md_send 65 = .ok (.aload_n 0, 1) := by decide +kernel
theorem d_Md_send_66 : decode b_Md_send 66 = .ok (.dup, 1) := by decide +kernel
theorem d_Md_send_67 : decode b_Md_send 67 = .ok (.getfield 107, 3) := by decide +kernel
theorem d_Md_send_70 : decode b_Md_send 70 = .ok (.iconst 1, 1) := by decide +kernel
theorem d_Md_send_71 : decode b_Md_send 71 = .ok (.iadd, 1) := by decide +kernel
theorem d_Md_send_72 : decode b_Md_send 72 = .ok (.putfield 107, 3) := by decide +kernel
theorem d_Md_send_75 : decode b_Md_send 75 = .ok (.aload_n 0, 1) := by decide +kernel
theorem d_Md_send_76 : decode b_Md_send 76 = .ok (.iconst 0, 1) := by decide +kernel
theorem d_Md_send_77 : decode b_Md_send 77 = .ok (.iload_n 1, 1) := by decide +kernel
theorem d_Md_send_78 : decode b_Md_send 78 = .ok (.iconst 0, 1) := by decide +kernel
theorem d_Md_send_79 : decode b_Md_send 79 = .ok (.iconst 0, 1) := by decide +kernel
theorem d_Md_send_80 : decode b_Md_send 80 = .ok (.iconst 0, 1) := by decide +kernel
theorem d_Md_send_81 : decode b_Md_send 81 = .ok (.invokevirtual 110, 3) := by decide +kernel
theorem d_Md_send_84 : decode b_Md_send 84 = .ok (.iload_n 1, 1) := by decide +kernel
theorem d_Md_send_85 : decode b_Md_send 85 = .ok (.ireturn, 1) := by decide +kernel
theorem d_Md_number_0 : decode b_Md_number 0 = .ok (.iconst 0, 1) := by decide +kernel
theorem d_Md_number_1 : decode b_Md_number 1 = .ok (.istore_n 2, 1) := by decide +kernel
theorem d_Md_number_2 : decode b_Md_number 2 = .ok (.iconst 0, 1) := by decide +kernel
theorem d_Md_number_3 : decode b_Md_number 3 = .ok (.istore_n 3, 1) := by decide +kernel
theorem d_Md_number_4 : decode b_Md_number 4 = .ok (.iload_n 3, 1) := by decide +kernel
theorem d_Md_number_5 : decode b_Md_number 5 = .ok (.aload_n 0, 1) := by decide +kernel
theorem d_Md_number_6 : decode b_Md_number 6 = .ok (.getfield 76, 3) := by decide +kernel
theorem d_Md_number_9 : decode b_Md_number 9 = .ok (.if_icmp .ge 22, 3) := by decide +kernel
theorem d_Md_number_12 : decode b_Md_number 12 = .ok (.aload_n 0, 1) := by decide +kernel
theorem d_Md_number_13 : decode b_Md_number 13 = .ok (.getfield 31, 3) := by decide +kernel
theorem d_Md_number_16 : decode b_Md_number 16 = .ok (.iload_n 3, 1) := by decide +kernel
theorem d_Md_number_17 : decode b_Md_number 17 = .ok (.iaload, 1) := by decide +kernel
theorem d_Md_number_18 : decode b_Md_number 18 = .ok (.iload_n 1, 1) := by decide +kernel
theorem d_Md_number_19 : decode b_Md_number 19 = .ok (.if_icmp .ne 6, 3) := by decide +kernel
theorem d_Md_number_22 : decode b_Md_number 22 = .ok (.iinc 2 1, 3) := by decide +kernel
theorem d_Md_number_25 : decode b_Md_number 25 = .ok (.iinc 3 1, 3) := by decide +kernel
theorem d_Md_number_28 : decode b_Md_number 28 = .ok (.goto (-24), 3) := by decide +kernel
theorem d_Md_number_31 : decode b_Md_number 31 = .ok (.iload_n 2, 1) := by decide +kernel
theorem d_Md_number_32 : decode b_Md_number 32 = .ok (.ireturn, 1) := by decide +kernel
theorem d_Md_post_0 : decode b_Md_post 0 = .ok (.iload_n 1, 1) := by decide +kernel
theorem d_Md_post_1 : decode b_Md_post 1 = .ok (.bipush 64, 2) := by decide +kernel
theorem d_Md_post_3 : decode b_Md_post 3 = .ok (.imul, 1) := by decide +kernel
theorem d_Md_post_4 : decode b_Md_post 4 = .ok (.aload_n 0, 1) := by decide +kernel
theorem d_Md_post_5 : decode b_Md_post 5 = .ok (.getfield 56, 3) := by decide +kernel
theorem d_Md_post_8 : decode b_Md_post 8 = .ok (.iload_n 1, 1) := by decide +kernel
theorem d_Md_post_9 : decode b_Md_post 9 = .ok (.iaload, 1) := by decide +kernel
theorem d_Md_post_10 : decode b_Md_post 10 = .ok (.iadd, 1) := by decide +kernel
theorem d_Md_post_11 : decode b_Md_post 11 = .ok (.istore 6, 2) := by decide +kernel
theorem d_Md_post_13 : decode b_Md_post 13 = .ok (.aload_n 0, 1) := by decide +kernel
theorem d_Md_post_14 : decode b_Md_post 14 = .ok (.getfield 37, 3) := by decide +kernel
theorem d_Md_post_17 : decode b_Md_post 17 = .ok (.iload 6, 2) := by decide +kernel
theorem d_Md_post_19 : decode b_Md_post 19 = .ok (.iload_n 2, 1) := by decide +kernel
theorem d_Md_post_20 : decode b_Md_post 20 = .ok (.iastore, 1) := by decide +kernel
theorem d_Md_post_21 : decode b_Md_post 21 = .ok (.aload_n 0, 1) := by decide +kernel
theorem d_Md_post_22 : decode b_Md_post 22 = .ok (.getfield 40, 3) := by decide +kernel
theorem d_Md_post_25 : decode b_Md_post 25 = .ok (.iload 6, 2) := by decide +kernel
theorem d_Md_post_27 : decode b_Md_post 27 = .ok (.iload_n 3, 1) := by decide +kernel
theorem d_Md_post_28 : decode b_Md_post 28 = .ok (.iastore, 1) := by decide +kernel
theorem d_Md_post_29 : decode b_Md_post 29 = .ok (.aload_n 0, 1) := by decide +kernel
theorem d_Md_post_30 : decode b_Md_post 30 = .ok (.getfield 43, 3) := by decide +kernel
theorem d_Md_post_33 : decode b_Md_post 33 = .ok (.iload 6, 2) := by decide +kernel
theorem d_Md_post_35 : decode b_Md_post 35 = .ok (.iload 4, 2) := by decide +kernel
theorem d_Md_post_37 : decode b_Md_post 37 = .ok (.iastore, 1) := by decide +kernel
theorem d_Md_post_38 : decode b_Md_post 38 = .ok (.aload_n 0, 1) := by decide +kernel
theorem d_Md_post_39 : decode b_Md_post 39 = .ok (.getfield 46, 3) := by decide +kernel
theorem d_Md_post_42 : decode b_Md_post 42 = .ok (.iload 6, 2) := by decide +kernel
theorem d_Md_post_44 : decode b_Md_post 44 = .ok (.iload 5, 2) := by decide +kernel
theorem d_Md_post_46 : decode b_Md_post 46 = .ok (.iastore, 1) := by decide +kernel
theorem d_Md_post_47 : decode b_Md_post 47 = .ok (.aload_n 0, 1) := by decide +kernel
theorem d_Md_post_48 : decode b_Md_post 48 = .ok (.getfield 49, 3) := by decide +kernel
theorem d_Md_post_51 : decode b_Md_post 51 = .ok (.iload 6, 2) := by decide +kernel
theorem d_Md_post_53 : decode b_Md_post 53 = .ok (.iload_n 1, 1) := by decide +kernel
theorem d_Md_post_54 : decode b_Md_post 54 = .ok (.ifCond .ne 7, 3) := by decide +kernel
theorem d_Md_post_57 : decode b_Md_post 57 = .ok (.iconst 0, 1) := by decide +kernel
theorem d_Md_post_58 : decode b_Md_post 58 = .ok (.goto 12, 3) := by decide +kernel
theorem d_Md_post_61 : decode b_Md_post 61 = .ok (.aload_n 0, 1) := by decide +kernel
theorem d_Md_post_62 : decode b_Md_post 62 = .ok (.getfield 101, 3) := by decide +kernel
theorem d_Md_post_65 : decode b_Md_post 65 = .ok (.aload_n 0, 1) := by decide +kernel
theorem d_Md_post_66 : decode b_Md_post 66 = .ok (.getfield 67, 3) := by decide +kernel
theorem d_Md_post_69 : decode b_Md_post 69 = .ok (.iadd, 1) := by decide +kernel
theorem d_Md_post_70 : decode b_Md_post 70 = .ok (.iastore, 1) := by decide +kernel
theorem d_Md_post_71 : decode b_Md_post 71 = .ok (.aload_n 0, 1) := by decide +kernel
theorem d_Md_post_72 : decode b_Md_post 72 = .ok (.getfield 52, 3) := by decide +kernel
theorem d_Md_post_75 : decode b_Md_post 75 = .ok (.iload 6, 2) := by decide +kernel
theorem d_Md_post_77 : decode b_Md_post 77 = .ok (.iconst 0, 1) := by decide +kernel
theorem d_Md_post_78 : decode b_Md_post 78 = .ok (.bastore, 1) := by decide +kernel
theorem d_Md_post_79 : decode b_Md_post 79 = .ok (.aload_n 0, 1) := by decide +kernel
theorem d_Md_post_80 : decode b_Md_post 80 = .ok (.getfield 56, 3) := by decide +kernel
theorem d_Md_post_83 : decode b_Md_post 83 = .ok (.iload_n 1, 1) := by decide +kernel
theorem d_Md_post_84 : decode b_Md_post 84 = .ok (.dup2, 1) := by decide +kernel
theorem d_Md_post_85 : decode b_Md_post 85 = .ok (.iaload, 1) := by decide +kernel
theorem d_Md_post_86 : decode b_Md_post 86 = .ok (.iconst 1, 1) := by decide +kernel
theorem d_Md_post_87 : decode b_Md_post 87 = .ok (.iadd, 1) := by decide +kernel
theorem d_Md_post_88 : decode b_Md_post 88 = .ok (.iastore, 1) := by decide +kernel
theorem d_Md_post_89 : decode b_Md_post 89 = .ok (.return_, 1) := by decide +kernel
theorem d_Md_deliver_0 : decode b_Md_deliver 0 = .ok (.iload_n 1, 1) := by decide +kernel
theorem d_Md_deliver_1 : decode b_Md_deliver 1 = .ok (.ifCond .eq 7, 3) := by decide +kernel
theorem d_Md_deliver_4 : decode b_Md_deliver 4 = .ok (.iconst 0, 1) := by decide +kernel
theorem d_Md_deliver_5 : decode b_Md_deliver 5 = .ok (.goto 4, 3) := by decide +kernel
