theorem d_Md_take_51 : decode b_Md_take 51 = .ok (.aload_n 0, 1) := by decide +kernel
theorem d_Md_take_52 : decode b_Md_take 52 = .ok (.getfield 31, 3) := by decide +kernel
theorem d_Md_take_55 : decode b_Md_take 55 = .ok (.iload_n 1, 1) := by decide +kernel
theorem d_Md_take_56 : decode b_Md_take 56 = .ok (.iconst 2, 1) := by decide +kernel
theorem d_Md_take_57 : decode b_Md_take 57 = .ok (.iastore, 1) := by decide +kernel
theorem d_Md_take_58 : decode b_Md_take 58 = .ok (.return_, 1) := by decide +kernel
theorem d_Md_damage_0 : decode b_Md_damage 0 = .ok (.iload_n 1, 1) := by decide +kernel
theorem d_Md_damage_1 : decode b_Md_damage 1 = .ok (.ifCond .eq 7, 3) := by decide +kernel
theorem d_Md_damage_4 : decode b_Md_damage 4 = .ok (.iconst 0, 1) := by decide +kernel
theorem d_Md_damage_5 : decode b_Md_damage 5 = .ok (.goto 4, 3) := by decide +kernel
theorem d_Md_damage_8 : decode b_Md_damage 8 = .ok (.iconst 1, 1) := by decide +kernel
theorem d_Md_damage_9 : decode b_Md_damage 9 = .ok (.istore_n 3, 1) := by decide +kernel
theorem d_Md_damage_10 : decode b_Md_damage 10 = .ok (.iload_n 2, 1) := by decide +kernel
theorem d_Md_damage_11 : decode b_Md_damage 11 = .ok (.ifCond .lt 13, 3) := by decide +kernel
theorem d_Md_damage_14 : decode b_Md_damage 14 = .ok (.iload_n 2, 1) := by decide +kernel
theorem d_Md_damage_15 : decode b_Md_damage 15 = .ok (.aload_n 0, 1) := by decide +kernel
theorem d_Md_damage_16 : decode b_Md_damage 16 = .ok (.getfield 56, 3) := by decide +kernel
theorem d_Md_damage_19 : decode b_Md_damage 19 = .ok (.iload_n 3, 1) := by decide +kernel
theorem d_Md_damage_20 : decode b_Md_damage 20 = .ok (.iaload, 1) := by decide +kernel
theorem d_Md_damage_21 : decode b_Md_damage 21 = .ok (.if_icmp .lt 6, 3) := by decide +kernel
theorem d_Md_damage_24 : decode b_Md_damage 24 = .ok (.bipush (-3), 2) := by decide +kernel
theorem d_Md_damage_26 : decode b_Md_damage 26 = .ok (.ireturn, 1) := by decide +kernel
theorem d_Md_damage_27 : decode b_Md_damage 27 = .ok (.aload_n 0, 1) := by decide +kernel
theorem d_Md_damage_28 : decode b_Md_damage 28 = .ok (.getfield 52, 3) := by decide +kernel
theorem d_Md_damage_31 : decode b_Md_damage 31 = .ok (.iload_n 3, 1) := by decide +kernel
theorem d_Md_damage_32 : decode b_Md_damage 32 = .ok (.bipush 64, 2) := by decide +kernel
theorem d_Md_damage_34 : decode b_Md_damage 34 = .ok (.imul, 1) := by decide +kernel
theorem d_Md_damage_35 : decode b_Md_damage 35 = .ok (.iload_n 2, 1) := by decide +kernel
theorem d_Md_damage_36 : decode b_Md_damage 36 = .ok (.iadd, 1) := by decide +kernel
theorem d_Md_damage_37 : decode b_Md_damage 37 = .ok (.iconst 1, 1) := by decide +kernel
theorem d_Md_damage_38 : decode b_Md_damage 38 = .ok (.bastore, 1) := by decide +kernel
theorem d_Md_damage_39 : decode b_Md_damage 39 = .ok (.iconst 0, 1) := by decide +kernel
theorem d_Md_damage_40 : decode b_Md_damage 40 = .ok (.ireturn, 1) := by decide +kernel
theorem d_Md_drop_0 : decode b_Md_drop 0 = .ok (.aload_n 0, 1) := by decide +kernel
theorem d_Md_drop_1 : decode b_Md_drop 1 = .ok (.getfield 59, 3) := by decide +kernel
theorem d_Md_drop_4 : decode b_Md_drop 4 = .ok (.ifCond .ne 6, 3) := by decide +kernel
theorem d_Md_drop_7 : decode b_Md_drop 7 = .ok (.bipush (-4), 2) := by decide +kernel
theorem d_Md_drop_9 : decode b_Md_drop 9 = .ok (.ireturn, 1) := by decide +kernel
theorem d_Md_drop_10 : decode b_Md_drop 10 = .ok (.aload_n 0, 1) := by decide +kernel
theorem d_Md_drop_11 : decode b_Md_drop 11 = .ok (.invokevirtual 128, 3) := by decide +kernel
theorem d_Md_drop_14 : decode b_Md_drop 14 = .ok (.iconst 0, 1) := by decide +kernel
theorem d_Md_drop_15 : decode b_Md_drop 15 = .ok (.ireturn, 1) := by decide +kernel
theorem d_Md_crash_0 : decode b_Md_crash 0 = .ok (.aload_n 0, 1) := by decide +kernel
theorem d_Md_crash_1 : decode b_Md_crash 1 = .ok (.getfield 59, 3) := by decide +kernel
theorem d_Md_crash_4 : decode b_Md_crash 4 = .ok (.ifCond .eq 7, 3) := by decide +kernel
theorem d_Md_crash_7 : decode b_Md_crash 7 = .ok (.aload_n 0, 1) := by decide +kernel
theorem d_Md_crash_8 : decode b_Md_crash 8 = .ok (.invokevirtual 128, 3) := by decide +kernel
theorem d_Md_crash_11 : decode b_Md_crash 11 = .ok (.iconst 0, 1) := by decide +kernel
theorem d_Md_crash_12 : decode b_Md_crash 12 = .ok (.istore_n 1, 1) := by decide +kernel
theorem d_Md_crash_13 : decode b_Md_crash 13 = .ok (.iload_n 1, 1) := by decide +kernel
theorem d_Md_crash_14 : decode b_Md_crash 14 = .ok (.bipush 16, 2) := by decide +kernel
theorem d_Md_crash_16 : decode b_Md_crash 16 = .ok (.if_icmp .ge 16, 3) := by decide +kernel
theorem d_Md_crash_19 : decode b_Md_crash 19 = .ok (.aload_n 0, 1) := by decide +kernel
theorem d_Md_crash_20 : decode b_Md_crash 20 = .ok (.getfield 16, 3) := by decide +kernel
theorem d_Md_crash_23 : decode b_Md_crash 23 = .ok (.iload_n 1, 1) := by decide +kernel
theorem d_Md_crash_24 : decode b_Md_crash 24 = .ok (.iconst 0, 1) := by decide +kernel
theorem d_Md_crash_25 : decode b_Md_crash 25 = .ok (.iastore, 1) := by decide +kernel
theorem d_Md_crash_26 : decode b_Md_crash 26 = .ok (.iinc 1 1, 3) := by decide +kernel
theorem d_Md_crash_29 : decode b_Md_crash 29 = .ok (.goto (-16), 3) := by decide +kernel
theorem d_Md_crash_32 : decode b_Md_crash 32 = .ok (.iconst 0, 1) := by decide +kernel
theorem d_Md_crash_33 : decode b_Md_crash 33 = .ok (.ireturn, 1) := by decide +kernel
theorem d_Md_login_0 : decode b_Md_login 0 = .ok (.aload_n 0, 1) := by decide +kernel
theorem d_Md_login_1 : decode b_Md_login 1 = .ok (.getfield 59, 3) := by decide +kernel
theorem d_Md_login_4 : decode b_Md_login 4 = .ok (.ifCond .eq 5, 3) := by decide +kernel
theorem d_Md_login_7 : decode b_Md_login 7 = .ok (.iconst (-1), 1) := by decide +kernel
theorem d_Md_login_8 : decode b_Md_login 8 = .ok (.ireturn, 1) := by decide +kernel
theorem d_Md_login_9 : decode b_Md_login 9 = .ok (.aload_n 0, 1) := by decide +kernel
theorem d_Md_login_10 : decode b_Md_login 10 = .ok (.iconst 1, 1) := by decide +kernel
theorem d_Md_login_11 : decode b_Md_login 11 = .ok (.putfield 59, 3) := by decide +kernel
theorem d_Md_login_14 : decode b_Md_login 14 = .ok (.aload_n 0, 1) := by decide +kernel
theorem d_Md_login_15 : decode b_Md_login 15 = .ok (.iconst 0, 1) := by decide +kernel
theorem d_Md_login_16 : decode b_Md_login 16 = .ok (.putfield 107, 3) := by decide +kernel
theorem d_Md_login_19 : decode b_Md_login 19 = .ok (.aload_n 0, 1) := by decide +kernel
theorem d_Md_login_20 : decode b_Md_login 20 = .ok (.iconst 0, 1) := by decide +kernel
theorem d_Md_login_21 : decode b_Md_login 21 = .ok (.putfield 101, 3) := by decide +kernel
theorem d_Md_login_24 : decode b_Md_login 24 = .ok (.aload_n 0, 1) := by decide +kernel
theorem d_Md_login_25 : decode b_Md_login 25 = .ok (.aload_n 0, 1) := by decide +kernel
theorem d_Md_login_26 : decode b_Md_login 26 = .ok (.getfield 67, 3) := by decide +kernel
theorem d_Md_login_29 : decode b_Md_login 29 = .ok (.putfield 73, 3) := by decide +kernel
theorem d_Md_login_32 : decode b_Md_login 32 = .ok (.aload_n 0, 1) := by decide +kernel
theorem d_Md_login_33 : decode b_Md_login 33 = .ok (.dup, 1) := by decide +kernel
theorem d_Md_login_34 : decode b_Md_login 34 = .ok (.getfield 63, 3) := by decide +kernel
theorem d_Md_login_37 : decode b_Md_login 37 = .ok (.iconst 1, 1) := by decide +kernel
theorem d_Md_login_38 : decode b_Md_login 38 = .ok (.iadd, 1) := by decide +kernel
theorem d_Md_login_39 : decode b_Md_login 39 = .ok (.putfield 63, 3) := by decide +kernel
theorem d_Md_login_42 : decode b_Md_login 42 = .ok (.aload_n 0, 1) := by decide +kernel
theorem d_Md_login_43 : decode b_Md_login 43 = .ok (.iconst 0, 1) := by decide +kernel
theorem d_Md_login_44 : decode b_Md_login 44 = .ok (.invokevirtual 104, 3) := by decide +kernel
theorem d_Md_login_47 : decode b_Md_login 47 = .ok (.ireturn, 1) := by decide +kernel
theorem d_Md_state_0 : decode b_Md_state 0 = .ok (.iload_n 1, 1) := by decide +kernel
theorem d_Md_state_1 : decode b_Md_state 1 = .ok (.ifCond .lt 11, 3) := by decide +kernel
theorem d_Md_state_4 : decode b_Md_state 4 = .ok (.iload_n 1, 1) := by decide +kernel
theorem d_Md_state_5 : decode b_Md_state 5 = .ok (.aload_n 0, 1) := by decide +kernel
theorem d_Md_state_6 : decode b_Md_state 6 = .ok (.getfield 76, 3) := by decide +kernel
theorem d_Md_state_9 : decode b_Md_state 9 = .ok (.if_icmp .lt 7, 3) := by decide +kernel
theorem d_Md_state_12 : decode b_Md_state 12 = .ok (.iconst (-1), 1) := by decide +kernel
theorem d_Md_state_13 : decode b_Md_state 13 = .ok (.goto 9, 3) := by decide +kernel
theorem d_Md_state_16 : decode b_Md_state 16 = .ok (.aload_n 0, 1) := by decide +kernel
theorem d_Md_state_17 : decode b_Md_state 17 = .ok (.getfield 31, 3) := by decide +kernel
theorem d_Md_state_20 : decode b_Md_state 20 = .ok (.iload_n 1, 1) := by decide +kernel
theorem d_Md_state_21 : decode b_Md_state 21 = .ok (.iaload, 1) := by decide +kernel
theorem d_Md_state_22 : decode b_Md_state 22 = .ok (.ireturn, 1) := by decide +kernel
theorem d_Md_result_0 : decode b_Md_result 0 = .ok (.iload_n 1, 1) := by decide +kernel
theorem d_Md_result_1 : decode b_Md_result 1 = .ok (.ifCond .lt 31, 3) := by decide +kernel
theorem d_Md_result_4 : decode b_Md_result 4 = .ok (.iload_n 1, 1) := by decide +kernel
theorem d_Md_result_5 : decode b_Md_result 5 = .ok (.aload_n 0, 1) := by decide +kernel
theorem d_Md_result_6 : decode b_Md_result 6 = .ok (.getfield 76, 3) := by decide +kernel
theorem d_Md_result_9 : decode b_Md_result 9 = .ok (.if_icmp .ge 23, 3) := by decide +kernel
theorem d_Md_result_12 : decode b_Md_result 12 = .ok (.aload_n 0, 1) := by decide +kernel
theorem d_Md_result_13 : decode b_Md_result 13 = .ok (.getfield 19, 3) := by decide +kernel
theorem d_Md_result_16 : decode b_Md_result 16 = .ok (.iload_n 1, 1) := by decide +kernel
theorem d_Md_result_17 : decode b_Md_result 17 = .ok (.iaload, 1) := by decide +kernel
theorem d_Md_result_18 : decode b_Md_result 18 = .ok (.iconst 1, 1) := by decide +kernel
theorem d_Md_result_19 : decode b_Md_result 19 = .ok (.if_icmp .ne 13, 3) := by decide +kernel
theorem d_Md_result_22 : decode b_Md_result 22 = .ok (.aload_n 0, 1) := by decide +kernel
theorem d_Md_result_23 : decode b_Md_result 23 = .ok (.getfield 31, 3) := by decide +kernel
theorem d_Md_result_26 : decode b_Md_result 26 = .ok (.iload_n 1, 1) := by decide +kernel
theorem d_Md_result_27 : decode b_Md_result 27 = .ok (.iaload, 1) := by decide +kernel
theorem d_Md_result_28 : decode b_Md_result 28 = .ok (.iconst 2, 1) := by decide +kernel
theorem d_Md_result_29 : decode b_Md_result 29 = .ok (.if_icmp .eq 7, 3) := by decide +kernel
theorem d_Md_result_32 : decode b_Md_result 32 = .ok (.ldc2_w 138, 3) := by decide +kernel
theorem d_Md_result_35 : decode b_Md_result 35 = .ok (.lreturn, 1) := by decide +kernel
theorem d_Md_result_36 : decode b_Md_result 36 = .ok (.iload_n 2, 1) := by decide +kernel
theorem d_Md_result_37 : decode b_Md_result 37 = .ok (.ifCond .lt 13, 3) := by decide +kernel
theorem d_Md_result_40 : decode b_Md_result 40 = .ok (.iload_n 2, 1) := by decide +kernel
theorem d_Md_result_41 : decode b_Md_result 41 = .ok (.aload_n 0, 1) := by decide +kernel
theorem d_Md_result_42 : decode b_Md_result 42 = .ok (.getfield 25, 3) := by decide +kernel
theorem d_Md_result_45 : decode b_Md_result 45 = .ok (.iload_n 1, 1) := by decide +kernel
theorem d_Md_result_46 : decode b_Md_result 46 = .ok (.iaload, 1) := by decide +kernel
theorem d_Md_result_47 : decode b_Md_result 47 = .ok (.if_icmp .lt 9, 3) := by decide +kernel
theorem d_Md_result_50 : decode b_Md_result 50 = .ok (.ldc2_w 138, 3) := by decide +kernel
theorem d_Md_result_53 : decode b_Md_result 53 = .ok (.goto 14, 3) := by decide +kernel
theorem d_Md_result_56 : decode b_Md_result 56 = .ok (.aload_n 0, 1) := by decide +kernel
theorem d_Md_result_57 : decode b_Md_result 57 = .ok (.getfield 34, 3) := by decide +kernel
theorem d_Md_result_60 : decode b_Md_result 60 = .ok (.iload_n 1, 1) := by decide +kernel
theorem d_Md_result_61 : decode b_Md_result 61 = .ok (.iconst 3, 1) := by decide +kernel
theorem d_Md_result_62 : decode b_Md_result 62 = .ok (.imul, 1) := by decide +kernel
theorem d_Md_result_63 : decode b_Md_result 63 = .ok (.iload_n 2, 1) := by decide +kernel
theorem d_Md_result_64 : decode b_Md_result 64 = .ok (.iadd, 1) := by decide +kernel
theorem d_Md_result_65 : decode b_Md_result 65 = .ok (.iaload, 1) := by decide +kernel
theorem d_Md_result_66 : decode b_Md_result 66 = .ok (.i2l, 1) := by decide +kernel
theorem d_Md_result_67 : decode b_Md_result 67 = .ok (.lreturn, 1) := by decide +kernel
theorem d_Md_present_0 : decode b_Md_present 0 = .ok (.iload_n 1, 1) := by decide +kernel
theorem d_Md_present_1 : decode b_Md_present 1 = .ok (.ifCond .lt 9, 3) := by decide +kernel
theorem d_Md_present_4 : decode b_Md_present 4 = .ok (.iload_n 1, 1) := by decide +kernel
theorem d_Md_present_5 : decode b_Md_present 5 = .ok (.bipush 15, 2) := by decide +kernel
theorem d_Md_present_7 : decode b_Md_present 7 = .ok (.if_icmp .le 9, 3) := by decide +kernel
theorem d_Md_present_10 : decode b_Md_present 10 = .ok (.ldc2_w 138, 3) := by decide +kernel
theorem d_Md_present_13 : decode b_Md_present 13 = .ok (.goto 9, 3) := by decide +kernel
theorem d_Md_present_16 : decode b_Md_present 16 = .ok (.aload_n 0, 1) := by decide +kernel
theorem d_Md_present_17 : decode b_Md_present 17 = .ok (.iload_n 1, 1) := by decide +kernel
theorem d_Md_present_18 : decode b_Md_present 18 = .ok (.invokevirtual 125, 3) := by decide +kernel
theorem d_Md_present_21 : decode b_Md_present 21 = .ok (.i2l, 1) := by decide +kernel
theorem d_Md_present_22 : decode b_Md_present 22 = .ok (.lreturn, 1) := by decide +kernel
theorem d_Md_disk_0 : decode b_Md_disk 0 = .ok (.iload_n 1, 1) := by decide +kernel
theorem d_Md_disk_1 : decode b_Md_disk 1 = .ok (.ifCond .lt 9, 3) := by decide +kernel
theorem d_Md_disk_4 : decode b_Md_disk 4 = .ok (.iload_n 1, 1) := by decide +kernel
theorem d_Md_disk_5 : decode b_Md_disk 5 = .ok (.bipush 15, 2) := by decide +kernel
theorem d_Md_disk_7 : decode b_Md_disk 7 = .ok (.if_icmp .le 9, 3) := by decide +kernel
theorem d_Md_disk_10 : decode b_Md_disk 10 = .ok (.ldc2_w 138, 3) := by decide +kernel
theorem d_Md_disk_13 : decode b_Md_disk 13 = .ok (.goto 10, 3) := by decide +kernel
theorem d_Md_disk_16 : decode b_Md_disk 16 = .ok (.aload_n 0, 1) := by decide +kernel
theorem d_Md_disk_17 : decode b_Md_disk 17 = .ok (.getfield 7, 3) := by decide +kernel
theorem d_Md_disk_20 : decode b_Md_disk 20 = .ok (.iload_n 1, 1) := by decide +kernel
theorem d_Md_disk_21 : decode b_Md_disk 21 = .ok (.iaload, 1) := by decide +kernel
theorem d_Md_disk_22 : decode b_Md_disk 22 = .ok (.i2l, 1) := by decide +kernel
theorem d_Md_disk_23 : decode b_Md_disk 23 = .ok (.lreturn, 1) := by decide +kernel
theorem d_Md_cached_0 : decode b_Md_cached 0 = .ok (.iload_n 1, 1) := by decide +kernel
theorem d_Md_cached_1 : decode b_Md_cached 1 = .ok (.ifCond .lt 9, 3) := by decide +kernel
theorem d_Md_cached_4 : decode b_Md_cached 4 = .ok (.iload_n 1, 1) := by decide +kernel
theorem d_Md_cached_5 : decode b_Md_cached 5 = .ok (.bipush 15, 2) := by decide +kernel
theorem d_Md_cached_7 : decode b_Md_cached 7 = .ok (.if_icmp .le 8, 3) := by decide +kernel
theorem d_Md_cached_10 : decode b_Md_cached 10 = .ok (.bipush (-3), 2) := by decide +kernel
theorem d_Md_cached_12 : decode b_Md_cached 12 = .ok (.goto 8, 3) := by decide +kernel
theorem d_Md_cached_15 : decode b_Md_cached 15 = .ok (.aload_n 0, 1) := by decide +kernel
theorem d_Md_cached_16 : decode b_Md_cached 16 = .ok (.iload_n 1, 1) := by decide +kernel
theorem d_Md_cached_17 : decode b_Md_cached 17 = .ok (.invokevirtual 87, 3) := by decide +kernel
theorem d_Md_cached_20 : decode b_Md_cached 20 = .ok (.ireturn, 1) := by decide +kernel
theorem d_Md_message_0 : decode b_Md_message 0 = .ok (.iload_n 1, 1) := by decide +kernel
theorem d_Md_message_1 : decode b_Md_message 1 = .ok (.ifCond .eq 7, 3) := by decide +kernel
theorem d_Md_message_4 : decode b_Md_message 4 = .ok (.iconst 0, 1) := by decide +kernel
theorem d_Md_message_5 : decode b_Md_message 5 = .ok (.goto 4, 3) := by decide +kernel
theorem d_Md_message_8 : decode b_Md_message 8 = .ok (.iconst 1, 1) := by decide +kernel
theorem d_Md_message_9 : decode b_Md_message 9 = .ok (.istore 4, 2) := by decide +kernel
theorem d_Md_message_11 : decode b_Md_message 11 = .ok (.iload_n 2, 1) := by decide +kernel
theorem d_Md_message_12 : decode b_Md_message 12 = .ok (.ifCond .lt 14, 3) := by decide +kernel
theorem d_Md_message_15 : decode b_Md_message 15 = .ok (.iload_n 2, 1) := by decide +kernel
theorem d_Md_message_16 : decode b_Md_message 16 = .ok (.aload_n 0, 1) := by decide +kernel
theorem d_Md_message_17 : decode b_Md_message 17 = .ok (.getfield 56, 3) := by decide +kernel
theorem d_Md_message_20 : decode b_Md_message 20 = .ok (.iload 4, 2) := by decide +kernel
theorem d_Md_message_22 : decode b_Md_message 22 = .ok (.iaload, 1) := by decide +kernel
theorem d_Md_message_23 : decode b_Md_message 23 = .ok (.if_icmp .lt 5, 3) := by decide +kernel
theorem d_Md_message_26 : decode b_Md_message 26 = .ok (.iconst (-1), 1) := by decide +kernel
theorem d_Md_message_27 : decode b_Md_message 27 = .ok (.ireturn, 1) := by decide +kernel
theorem d_Md_message_28 : decode b_Md_message 28 = .ok (.iload 4, 2) := by decide +kernel
theorem d_Md_message_30 : decode b_Md_message 30 = .ok (.bipush 64, 2) := by decide +kernel
theorem d_Md_message_32 : decode b_Md_message 32 = .ok (.imul, 1) := by decide +kernel
theorem d_Md_message_33 : decode b_Md_message 33 = .ok (.iload_n 2, 1) := by decide +kernel
theorem d_Md_message_34 : decode b_Md_message 34 = .ok (.iadd, 1) := by decide +kernel
theorem d_Md_message_35 : decode b_Md_message 35 = .ok (.istore 5, 2) := by decide +kernel
theorem d_Md_message_37 : decode b_Md_message 37 = .ok (.iload_n 3, 1) := by decide +kernel
theorem d_Md_message_38 : decode b_Md_message 38 = .ok (.ifCond .ne 11, 3) := by decide +kernel
theorem d_Md_message_41 : decode b_Md_message 41 = .ok (.aload_n 0, 1) := by decide +kernel
theorem d_Md_message_42 : decode b_Md_message 42 = .ok (.getfield 37, 3) := by decide +kernel
theorem d_Md_message_45 : decode b_Md_message 45 = .ok (.iload 5, 2) := by decide +kernel
theorem d_Md_message_47 : decode b_Md_message 47 = .ok (.iaload, 1) := by decide +kernel
theorem d_Md_message_48 : decode b_Md_message 48 = .ok (.ireturn, 1) := by decide +kernel
theorem d_Md_message_49 : decode b_Md_message 49 = .ok (.iload_n 3, 1) := by decide +kernel
theorem d_Md_message_50 : decode b_Md_message 50 = .ok (.iconst 1, 1) := by decide +kernel
theorem d_Md_message_51 : decode b_Md_message 51 = .ok (.if_icmp .ne 11, 3) := by decide +kernel
theorem d_Md_message_54 : decode b_Md_message 54 = .ok (.aload_n 0, 1) := by decide +kernel
theorem d_Md_message_55 : decode b_Md_message 55 = .ok (.getfield 40, 3) := by decide +kernel
theorem d_Md_message_58 : decode b_Md_message 58 = .ok (.iload 5, 2) := by decide +kernel
theorem d_Md_message_60 : decode b_Md_message 60 = .ok (.iaload, 1) := by decide +kernel
theorem d_Md_message_61 : decode b_Md_message 61 = .ok (.ireturn, 1) := by decide +kernel
theorem d_Md_message_62 : decode b_Md_message 62 = .ok (.iload_n 3, 1) := by decide +kernel
theorem d_Md_message_63 : decode b_Md_message 63 = .ok (.iconst 2, 1) := by decide +kernel
theorem d_Md_message_64 : decode b_Md_message 64 = .ok (.if_icmp .ne 11, 3) := by decide +kernel
theorem d_Md_message_67 : decode b_Md_message 67 = .ok (.aload_n 0, 1) := by decide +kernel
theorem d_Md_message_68 : decode b_Md_message 68 = .ok (.getfield 43, 3) := by decide +kernel
theorem d_Md_message_71 : decode b_Md_message 71 = .ok (.iload 5, 2) := by decide +kernel
theorem d_Md_message_73 : decode b_Md_message 73 = .ok (.iaload, 1) := by decide +kernel
theorem d_Md_message_74 : decode b_Md_message 74 = .ok (.ireturn, 1) := by decide +kernel
theorem d_Md_message_75 : decode b_Md_message 75 = .ok (.iload_n 3, 1) := by decide +kernel
theorem d_Md_message_76 : decode b_Md_message 76 = .ok (.iconst 3, 1) := by decide +kernel
theorem d_Md_message_77 : decode b_Md_message 77 = .ok (.if_icmp .ne 11, 3) := by decide +kernel
theorem d_Md_message_80 : decode b_Md_message 80 = .ok (.aload_n 0, 1) := by decide +kernel
theorem d_Md_message_81 : decode b_Md_message 81 = .ok (.getfield 49, 3) := by decide +kernel
theorem d_Md_message_84 : decode b_Md_message 84 = .ok (.iload 5, 2) := by decide +kernel
theorem d_Md_message_86 : decode b_Md_message 86 = .ok (.iaload, 1) := by decide +kernel
theorem d_Md_message_87 : decode b_Md_message 87 = .ok (.ireturn, 1) := by decide +kernel
theorem d_Md_message_88 : decode b_Md_message 88 = .ok (.iload_n 3, 1) := by decide +kernel
theorem d_Md_message_89 : decode b_Md_message 89 = .ok (.iconst 4, 1) := by decide +kernel
theorem d_Md_message_90 : decode b_Md_message 90 = .ok (.if_icmp .ne 21, 3) := by decide +kernel
theorem d_Md_message_93 : decode b_Md_message 93 = .ok (.aload_n 0, 1) := by decide +kernel
theorem d_Md_message_94 : decode b_Md_message 94 = .ok (.getfield 52, 3) := by decide +kernel
theorem d_Md_message_97 : decode b_Md_message 97 = .ok (.iload 5, 2) := by decide +kernel
theorem d_Md_message_99 : decode b_Md_message 99 = .ok (.baload, 1) := by decide +kernel
theorem d_Md_message_100 : decode b_Md_message 100 = .ok (.ifCond .eq 7, 3) := by decide +kernel
theorem d_Md_message_103 : decode b_Md_message 103 = .ok (.iconst 1, 1) := by decide +kernel
theorem d_Md_message_104 : decode b_Md_message 104 = .ok (.goto 8, 3) := by decide +kernel
theorem d_Md_message_107 : decode b_Md_message 107 = .ok (.iconst 0, 1) := by decide +kernel
theorem d_Md_message_108 : decode b_Md_message 108 = .ok (.goto 4, 3) := by decide +kernel
theorem d_Md_message_111 : decode b_Md_message 111 = .ok (.iconst (-1), 1) := by decide +kernel
theorem d_Md_message_112 : decode b_Md_message 112 = .ok (.ireturn, 1) := by decide +kernel
theorem d_Md_waiting_0 : decode b_Md_waiting 0 = .ok (.aload_n 0, 1) := by decide +kernel
theorem d_Md_waiting_1 : decode b_Md_waiting 1 = .ok (.getfield 56, 3) := by decide +kernel
theorem d_Md_waiting_4 : decode b_Md_waiting 4 = .ok (.iload_n 1, 1) := by decide +kernel
theorem d_Md_waiting_5 : decode b_Md_waiting 5 = .ok (.ifCond .eq 7, 3) := by decide +kernel
theorem d_Md_waiting_8 : decode b_Md_waiting 8 = .ok (.iconst 0, 1) := by decide +kernel
theorem d_Md_waiting_9 : decode b_Md_waiting 9 = .ok (.goto 4, 3) := by decide +kernel
theorem d_Md_waiting_12 : decode b_Md_waiting 12 = .ok (.iconst 1, 1) := by decide +kernel
theorem d_Md_waiting_13 : decode b_Md_waiting 13 = .ok (.iaload, 1) := by decide +kernel
theorem d_Md_waiting_14 : decode b_Md_waiting 14 = .ok (.ireturn, 1) := by decide +kernel
theorem d_Md_count_0 : decode b_Md_count 0 = .ok (.iload_n 1, 1) := by decide +kernel
theorem d_Md_count_1 : decode b_Md_count 1 = .ok (.ifCond .ne 8, 3) := by decide +kernel
theorem d_Md_count_4 : decode b_Md_count 4 = .ok (.aload_n 0, 1) := by decide +kernel
theorem d_Md_count_5 : decode b_Md_count 5 = .ok (.getfield 76, 3) := by decide +kernel
theorem d_Md_count_8 : decode b_Md_count 8 = .ok (.ireturn, 1) := by decide +kernel
theorem d_Md_count_9 : decode b_Md_count 9 = .ok (.iload_n 1, 1) := by decide +kernel
theorem d_Md_count_10 : decode b_Md_count 10 = .ok (.iconst 1, 1) := by decide +kernel
theorem d_Md_count_11 : decode b_Md_count 11 = .ok (.if_icmp .lt 16, 3) := by decide +kernel
theorem d_Md_count_14 : decode b_Md_count 14 = .ok (.iload_n 1, 1) := by decide +kernel
theorem d_Md_count_15 : decode b_Md_count 15 = .ok (.iconst 3, 1) := by decide +kernel
theorem d_Md_count_16 : decode b_Md_count 16 = .ok (.if_icmp .gt 11, 3) := by decide +kernel
theorem d_Md_count_19 : decode b_Md_count 19 = .ok (.aload_n 0, 1) := by decide +kernel
theorem d_Md_count_20 : decode b_Md_count 20 = .ok (.iload_n 1, 1) := by decide +kernel
theorem d_Md_count_21 : decode b_Md_count 21 = .ok (.iconst 1, 1) := by decide +kernel
theorem d_Md_count_22 : decode b_Md_count 22 = .ok (.isub, 1) := by decide +kernel
theorem d_Md_count_23 : decode b_Md_count 23 = .ok (.invokevirtual 104, 3) := by decide +kernel
theorem d_Md_count_26 : decode b_Md_count 26 = .ok (.ireturn, 1) := by decide +kernel
theorem d_Md_count_27 : decode b_Md_count 27 = .ok (.iload_n 1, 1) := by decide +kernel
theorem d_Md_count_28 : decode b_Md_count 28 = .ok (.iconst 4, 1) := by decide +kernel
theorem d_Md_count_29 : decode b_Md_count 29 = .ok (.if_icmp .ne 8, 3) := by decide +kernel
theorem d_Md_count_32 : decode b_Md_count 32 = .ok (.aload_n 0, 1) := by decide +kernel
theorem d_Md_count_33 : decode b_Md_count 33 = .ok (.invokevirtual 94, 3) := by decide +kernel
theorem d_Md_count_36 : decode b_Md_count 36 = .ok (.ireturn, 1) := by decide +kernel
theorem d_Md_count_37 : decode b_Md_count 37 = .ok (.iload_n 1, 1) := by decide +kernel
theorem d_Md_count_38 : decode b_Md_count 38 = .ok (.bipush 8, 2) := by decide +kernel
theorem d_Md_count_40 : decode b_Md_count 40 = .ok (.if_icmp .ne 8, 3) := by decide +kernel
theorem d_Md_count_43 : decode b_Md_count 43 = .ok (.aload_n 0, 1) := by decide +kernel
theorem d_Md_count_44 : decode b_Md_count 44 = .ok (.getfield 63, 3) := by decide +kernel
theorem d_Md_count_47 : decode b_Md_count 47 = .ok (.ireturn, 1) := by decide +kernel
theorem d_Md_count_48 : decode b_Md_count 48 = .ok (.iload_n 1, 1) := by decide +kernel
theorem d_Md_count_49 : decode b_Md_count 49 = .ok (.iconst 5, 1) := by decide +kernel
theorem d_Md_count_50 : decode b_Md_count 50 = .ok (.if_icmp .lt 9, 3) := by decide +kernel
theorem d_Md_count_53 : decode b_Md_count 53 = .ok (.iload_n 1, 1) := by decide +kernel
theorem d_Md_count_54 : decode b_Md_count 54 = .ok (.bipush 7, 2) := by decide +kernel
theorem d_Md_count_56 : decode b_Md_count 56 = .ok (.if_icmp .le 5, 3) := by decide +kernel
theorem d_Md_count_59 : decode b_Md_count 59 = .ok (.iconst (-1), 1) := by decide +kernel
theorem d_Md_count_60 : decode b_Md_count 60 = .ok (.ireturn, 1) := by decide +kernel
theorem d_Md_count_61 : decode b_Md_count 61 = .ok (.aload_n 0, 1) := by decide +kernel
theorem d_Md_count_62 : decode b_Md_count 62 = .ok (.getfield 59, 3) := by decide +kernel
theorem d_Md_count_65 : decode b_Md_count 65 = .ok (.ifCond .ne 5, 3) := by decide +kernel
theorem d_Md_count_68 : decode b_Md_count 68 = .ok (.iconst 0, 1) := by decide +kernel
theorem d_Md_count_69 : decode b_Md_count 69 = .ok (.ireturn, 1) := by decide +kernel
theorem d_Md_count_70 : decode b_Md_count 70 = .ok (.iload_n 1, 1) := by decide +kernel
theorem d_Md_count_71 : decode b_Md_count 71 = .ok (.iconst 5, 1) := by decide +kernel
theorem d_Md_count_72 : decode b_Md_count 72 = .ok (.if_icmp .ne 10, 3) := by decide +kernel
theorem d_Md_count_75 : decode b_Md_count 75 = .ok (.aload_n 0, 1) := by decide +kernel
theorem d_Md_count_76 : decode b_Md_count 76 = .ok (.getfield 107, 3) := by decide +kernel
theorem d_Md_count_79 : decode b_Md_count 79 = .ok (.goto 20, 3) := by decide +kernel
theorem d_Md_count_82 : decode b_Md_count 82 = .ok (.iload_n 1, 1) := by decide +kernel
theorem d_Md_count_83 : decode b_Md_count 83 = .ok (.bipush 6, 2) := by decide +kernel
theorem d_Md_count_85 : decode b_Md_count 85 = .ok (.if_icmp .ne 10, 3) := by decide +kernel
theorem d_Md_count_88 : decode b_Md_count 88 = .ok (.aload_n 0, 1) := by decide +kernel
theorem d_Md_count_89 : decode b_Md_count 89 = .ok (.getfield 101, 3) := by decide +kernel
theorem d_Md_count_92 : decode b_Md_count 92 = .ok (.goto 7, 3) := by decide +kernel
theorem d_Md_count_95 : decode b_Md_count 95 = .ok (.aload_n 0, 1) := by decide +kernel
theorem d_Md_count_96 : decode b_Md_count 96 = .ok (.getfield 73, 3) := by decide +kernel
theorem d_Md_count_99 : decode b_Md_count 99 = .ok (.ireturn, 1) := by decide +kernel
