theorem d_Bs_init_0 : decode b_Bs_init 0 = .ok (.aload_n 0, 1) := by decide +kernel
theorem d_Bs_init_1 : decode b_Bs_init 1 = .ok (.invokespecial 3, 3) := by decide +kernel
theorem d_Bs_init_4 : decode b_Bs_init 4 = .ok (.aload_n 0, 1) := by decide +kernel
theorem d_Bs_init_5 : decode b_Bs_init 5 = .ok (.bipush 120, 2) := by decide +kernel
theorem d_Bs_init_7 : decode b_Bs_init 7 = .ok (.anewarray 9, 3) := by decide +kernel
theorem d_Bs_init_10 : decode b_Bs_init 10 = .ok (.putfield 11, 3) := by decide +kernel
theorem d_Bs_init_13 : decode b_Bs_init 13 = .ok (.aload_n 0, 1) := by decide +kernel
theorem d_Bs_init_14 : decode b_Bs_init 14 = .ok (.iconst 0, 1) := by decide +kernel
theorem d_Bs_init_15 : decode b_Bs_init 15 = .ok (.putfield 15, 3) := by decide +kernel
theorem d_Bs_init_18 : decode b_Bs_init 18 = .ok (.aload_n 0, 1) := by decide +kernel
theorem d_Bs_init_19 : decode b_Bs_init 19 = .ok (.new 19, 3) := by decide +kernel
theorem d_Bs_init_22 : decode b_Bs_init 22 = .ok (.dup, 1) := by decide +kernel
theorem d_Bs_init_23 : decode b_Bs_init 23 = .ok (.iconst 4, 1) := by decide +kernel
theorem d_Bs_init_24 : decode b_Bs_init 24 = .ok (.invokespecial 21, 3) := by decide +kernel
theorem d_Bs_init_27 : decode b_Bs_init 27 = .ok (.putfield 24, 3) := by decide +kernel
theorem d_Bs_init_30 : decode b_Bs_init 30 = .ok (.aload_n 0, 1) := by decide +kernel
theorem d_Bs_init_31 : decode b_Bs_init 31 = .ok (.new 19, 3) := by decide +kernel
theorem d_Bs_init_34 : decode b_Bs_init 34 = .ok (.dup, 1) := by decide +kernel
theorem d_Bs_init_35 : decode b_Bs_init 35 = .ok (.bipush 16, 2) := by decide +kernel
theorem d_Bs_init_37 : decode b_Bs_init 37 = .ok (.invokespecial 21, 3) := by decide +kernel
theorem d_Bs_init_40 : decode b_Bs_init 40 = .ok (.putfield 28, 3) := by decide +kernel
theorem d_Bs_init_43 : decode b_Bs_init 43 = .ok (.aload_n 0, 1) := by decide +kernel
theorem d_Bs_init_44 : decode b_Bs_init 44 = .ok (.iconst 0, 1) := by decide +kernel
theorem d_Bs_init_45 : decode b_Bs_init 45 = .ok (.putfield 31, 3) := by decide +kernel
theorem d_Bs_init_48 : decode b_Bs_init 48 = .ok (.aload_n 0, 1) := by decide +kernel
theorem d_Bs_init_49 : decode b_Bs_init 49 = .ok (.iconst 0, 1) := by decide +kernel
theorem d_Bs_init_50 : decode b_Bs_init 50 = .ok (.putfield 35, 3) := by decide +kernel
theorem d_Bs_init_53 : decode b_Bs_init 53 = .ok (.aload_n 0, 1) := by decide +kernel
theorem d_Bs_init_54 : decode b_Bs_init 54 = .ok (.iconst 0, 1) := by decide +kernel
theorem d_Bs_init_55 : decode b_Bs_init 55 = .ok (.putfield 38, 3) := by decide +kernel
theorem d_Bs_init_58 : decode b_Bs_init 58 = .ok (.aload_n 0, 1) := by decide +kernel
theorem d_Bs_init_59 : decode b_Bs_init 59 = .ok (.iconst 0, 1) := by decide +kernel
theorem d_Bs_init_60 : decode b_Bs_init 60 = .ok (.putfield 41, 3) := by decide +kernel
theorem d_Bs_init_63 : decode b_Bs_init 63 = .ok (.aload_n 0, 1) := by decide +kernel
theorem d_Bs_init_64 : decode b_Bs_init 64 = .ok (.iconst 0, 1) := by decide +kernel
theorem d_Bs_init_65 : decode b_Bs_init 65 = .ok (.putfield 44, 3) := by decide +kernel
theorem d_Bs_init_68 : decode b_Bs_init 68 = .ok (.aload_n 0, 1) := by decide +kernel
theorem d_Bs_init_69 : decode b_Bs_init 69 = .ok (.iload_n 1, 1) := by decide +kernel
theorem d_Bs_init_70 : decode b_Bs_init 70 = .ok (.iconst 1, 1) := by decide +kernel
theorem d_Bs_init_71 : decode b_Bs_init 71 = .ok (.iconst 4, 1) := by decide +kernel
theorem d_Bs_init_72 : decode b_Bs_init 72 = .ok (.invokestatic 47, 3) := by decide +kernel
theorem d_Bs_init_75 : decode b_Bs_init 75 = .ok (.putfield 51, 3) := by decide +kernel
theorem d_Bs_init_78 : decode b_Bs_init 78 = .ok (.aload_n 0, 1) := by decide +kernel
theorem d_Bs_init_79 : decode b_Bs_init 79 = .ok (.new 54, 3) := by decide +kernel
theorem d_Bs_init_82 : decode b_Bs_init 82 = .ok (.dup, 1) := by decide +kernel
theorem d_Bs_init_83 : decode b_Bs_init 83 = .ok (.iload_n 2, 1) := by decide +kernel
theorem d_Bs_init_84 : decode b_Bs_init 84 = .ok (.iconst 1, 1) := by decide +kernel
theorem d_Bs_init_85 : decode b_Bs_init 85 = .ok (.bipush 6, 2) := by decide +kernel
theorem d_Bs_init_87 : decode b_Bs_init 87 = .ok (.invokestatic 47, 3) := by decide +kernel
theorem d_Bs_init_90 : decode b_Bs_init 90 = .ok (.invokespecial 56, 3) := by decide +kernel
theorem d_Bs_init_93 : decode b_Bs_init 93 = .ok (.putfield 57, 3) := by decide +kernel
theorem d_Bs_init_96 : decode b_Bs_init 96 = .ok (.aload_n 0, 1) := by decide +kernel
theorem d_Bs_init_97 : decode b_Bs_init 97 = .ok (.invokevirtual 61, 3) := by decide +kernel
theorem d_Bs_init_100 : decode b_Bs_init 100 = .ok (.return_, 1) := by decide +kernel
theorem d_Bs_clamp_0 : decode b_Bs_clamp 0 = .ok (.iload_n 1, 1) := by decide +kernel
theorem d_Bs_clamp_1 : decode b_Bs_clamp 1 = .ok (.iload_n 2, 1) := by decide +kernel
theorem d_Bs_clamp_2 : decode b_Bs_clamp 2 = .ok (.iload_n 0, 1) := by decide +kernel
theorem d_Bs_clamp_3 : decode b_Bs_clamp 3 = .ok (.invokestatic 165, 3) := by decide +kernel
theorem d_Bs_clamp_6 : decode b_Bs_clamp 6 = .ok (.invokestatic 171, 3) := by decide +kernel
theorem d_Bs_clamp_9 : decode b_Bs_clamp 9 = .ok (.ireturn, 1) := by decide +kernel
theorem d_Bs_beginSession_0 : decode b_Bs_beginSession 0 = .ok (.aload_n 0, 1) := by decide +kernel
theorem d_Bs_beginSession_1 : decode b_Bs_beginSession 1 = .ok (.iconst 1, 1) := by decide +kernel
theorem d_Bs_beginSession_2 : decode b_Bs_beginSession 2 = .ok (.putfield 31, 3) := by decide +kernel
theorem d_Bs_beginSession_5 : decode b_Bs_beginSession 5 = .ok (.aload_n 0, 1) := by decide +kernel
theorem d_Bs_beginSession_6 : decode b_Bs_beginSession 6 = .ok (.dup, 1) := by decide +kernel
theorem d_Bs_beginSession_7 : decode b_Bs_beginSession 7 = .ok (.getfield 35, 3) := by decide +kernel
theorem d_Bs_beginSession_10 : decode b_Bs_beginSession 10 = .ok (.iconst 1, 1) := by decide +kernel
theorem d_Bs_beginSession_11 : decode b_Bs_beginSession 11 = .ok (.iadd, 1) := by decide +kernel
theorem d_Bs_beginSession_12 : decode b_Bs_beginSession 12 = .ok (.putfield 35, 3) := by decide +kernel
theorem d_Bs_beginSession_15 : decode b_Bs_beginSession 15 = .ok (.aload_n 0, 1) := by decide +kernel
theorem d_Bs_beginSession_16 : decode b_Bs_beginSession 16 = .ok (.iconst 0, 1) := by decide +kernel
theorem d_Bs_beginSession_17 : decode b_Bs_beginSession 17 = .ok (.putfield 38, 3) := by decide +kernel
theorem d_Bs_beginSession_20 : decode b_Bs_beginSession 20 = .ok (.aload_n 0, 1) := by decide +kernel
theorem d_Bs_beginSession_21 : decode b_Bs_beginSession 21 = .ok (.iconst 0, 1) := by decide +kernel
theorem d_Bs_beginSession_22 : decode b_Bs_beginSession 22 = .ok (.putfield 41, 3) := by decide +kernel
theorem d_Bs_beginSession_25 : decode b_Bs_beginSession 25 = .ok (.aload_n 0, 1) := by decide +kernel
theorem d_Bs_beginSession_26 : decode b_Bs_beginSession 26 = .ok (.aload_n 0, 1) := by decide +kernel
theorem d_Bs_beginSession_27 : decode b_Bs_beginSession 27 = .ok (.getfield 51, 3) := by decide +kernel
theorem d_Bs_beginSession_30 : decode b_Bs_beginSession 30 = .ok (.putfield 44, 3) := by decide +kernel
theorem d_Bs_beginSession_33 : decode b_Bs_beginSession 33 = .ok (.return_, 1) := by decide +kernel
theorem d_Bs_write_0 : decode b_Bs_write 0 = .ok (.iload_n 1, 1) := by decide +kernel
theorem d_Bs_write_1 : decode b_Bs_write 1 = .ok (.iload_n 2, 1) := by decide +kernel
theorem d_Bs_write_2 : decode b_Bs_write 2 = .ok (.invokestatic 64, 3) := by decide +kernel
theorem d_Bs_write_5 : decode b_Bs_write 5 = .ok (.ifCond .ne 5, 3) := by decide +kernel
theorem d_Bs_write_8 : decode b_Bs_write 8 = .ok (.iconst (-1), 1) := by decide +kernel
theorem d_Bs_write_9 : decode b_Bs_write 9 = .ok (.ireturn, 1) := by decide +kernel
theorem d_Bs_write_10 : decode b_Bs_write 10 = .ok (.aload_n 0, 1) := by decide +kernel
theorem d_Bs_write_11 : decode b_Bs_write 11 = .ok (.iconst 0, 1) := by decide +kernel
theorem d_Bs_write_12 : decode b_Bs_write 12 = .ok (.iload_n 1, 1) := by decide +kernel
theorem d_Bs_write_13 : decode b_Bs_write 13 = .ok (.iload_n 2, 1) := by decide +kernel
theorem d_Bs_write_14 : decode b_Bs_write 14 = .ok (.iload_n 3, 1) := by decide +kernel
theorem d_Bs_write_15 : decode b_Bs_write 15 = .ok (.invokevirtual 68, 3) := by decide +kernel
theorem d_Bs_write_18 : decode b_Bs_write 18 = .ok (.ireturn, 1) := by decide +kernel
theorem d_Bs_isStretch_0 : decode b_Bs_isStretch 0 = .ok (.iload_n 0, 1) := by decide +kernel
theorem d_Bs_isStretch_1 : decode b_Bs_isStretch 1 = .ok (.invokestatic 137, 3) := by decide +kernel
theorem d_Bs_isStretch_4 : decode b_Bs_isStretch 4 = .ok (.ifCond .eq 25, 3) := by decide +kernel
theorem d_Bs_isStretch_7 : decode b_Bs_isStretch 7 = .ok (.iload_n 1, 1) := by decide +kernel
theorem d_Bs_isStretch_8 : decode b_Bs_isStretch 8 = .ok (.iconst 1, 1) := by decide +kernel
theorem d_Bs_isStretch_9 : decode b_Bs_isStretch 9 = .ok (.if_icmp .lt 20, 3) := by decide +kernel
theorem d_Bs_isStretch_12 : decode b_Bs_isStretch 12 = .ok (.iload_n 1, 1) := by decide +kernel
theorem d_Bs_isStretch_13 : decode b_Bs_isStretch 13 = .ok (.iconst 3, 1) := by decide +kernel
theorem d_Bs_isStretch_14 : decode b_Bs_isStretch 14 = .ok (.if_icmp .gt 15, 3) := by decide +kernel
theorem d_Bs_isStretch_17 : decode b_Bs_isStretch 17 = .ok (.iload_n 0, 1) := by decide +kernel
theorem d_Bs_isStretch_18 : decode b_Bs_isStretch 18 = .ok (.iload_n 1, 1) := by decide +kernel
theorem d_Bs_isStretch_19 : decode b_Bs_isStretch 19 = .ok (.iadd, 1) := by decide +kernel
theorem d_Bs_isStretch_20 : decode b_Bs_isStretch 20 = .ok (.bipush 16, 2) := by decide +kernel
theorem d_Bs_isStretch_22 : decode b_Bs_isStretch 22 = .ok (.if_icmp .gt 7, 3) := by decide +kernel
theorem d_Bs_isStretch_25 : decode b_Bs_isStretch 25 = .ok (.iconst 1, 1) := by decide +kernel
theorem d_Bs_isStretch_26 : decode b_Bs_isStretch 26 = .ok (.goto 4, 3) := by decide +kernel
theorem d_Bs_isStretch_29 : decode b_Bs_isStretch 29 = .ok (.iconst 0, 1) := by decide +kernel
theorem d_Bs_isStretch_30 : decode b_Bs_isStretch 30 = .ok (.ireturn, 1) := by decide +kernel
theorem d_Bs_isBlock_0 : decode b_Bs_isBlock 0 = .ok (.iload_n 0, 1) := by decide +kernel
theorem d_Bs_isBlock_1 : decode b_Bs_isBlock 1 = .ok (.ifCond .lt 13, 3) := by decide +kernel
theorem d_Bs_isBlock_4 : decode b_Bs_isBlock 4 = .ok (.iload_n 0, 1) := by decide +kernel
theorem d_Bs_isBlock_5 : decode b_Bs_isBlock 5 = .ok (.bipush 16, 2) := by decide +kernel
theorem d_Bs_isBlock_7 : decode b_Bs_isBlock 7 = .ok (.if_icmp .ge 7, 3) := by decide +kernel
theorem d_Bs_isBlock_10 : decode b_Bs_isBlock 10 = .ok (.iconst 1, 1) := by decide +kernel
theorem d_Bs_isBlock_11 : decode b_Bs_isBlock 11 = .ok (.goto 4, 3) := by decide +kernel
theorem d_Bs_isBlock_14 : decode b_Bs_isBlock 14 = .ok (.iconst 0, 1) := by decide +kernel
theorem d_Bs_isBlock_15 : decode b_Bs_isBlock 15 = .ok (.ireturn, 1) := by decide +kernel
theorem d_Bs_addRequest_0 : decode b_Bs_addRequest 0 = .ok (.aload_n 0, 1) := by decide +kernel
theorem d_Bs_addRequest_1 : decode b_Bs_addRequest 1 = .ok (.getfield 15, 3) := by decide +kernel
theorem d_Bs_addRequest_4 : decode b_Bs_addRequest 4 = .ok (.bipush 120, 2) := by decide +kernel
theorem d_Bs_addRequest_6 : decode b_Bs_addRequest 6 = .ok (.if_icmp .lt 6, 3) := by decide +kernel
theorem d_Bs_addRequest_9 : decode b_Bs_addRequest 9 = .ok (.bipush (-2), 2) := by decide +kernel
theorem d_Bs_addRequest_11 : decode b_Bs_addRequest 11 = .ok (.ireturn, 1) := by decide +kernel
theorem d_Bs_addRequest_12 : decode b_Bs_addRequest 12 = .ok (.aload_n 0, 1) := by decide +kernel
theorem d_Bs_addRequest_13 : decode b_Bs_addRequest 13 = .ok (.getfield 15, 3) := by decide +kernel
theorem d_Bs_addRequest_16 : decode b_Bs_addRequest 16 = .ok (.istore 5, 2) := by decide +kernel
theorem d_Bs_addRequest_18 : decode b_Bs_addRequest 18 = .ok (.aload_n 0, 1) := by decide +kernel
theorem d_Bs_addRequest_19 : decode b_Bs_addRequest 19 = .ok (.getfield 11, 3) := by decide +kernel
theorem d_Bs_addRequest_22 : decode b_Bs_addRequest 22 = .ok (.iload 5, 2) := by decide +kernel
theorem d_Bs_addRequest_24 : decode b_Bs_addRequest 24 = .ok (.new 9, 3) := by decide +kernel
theorem d_Bs_addRequest_27 : decode b_Bs_addRequest 27 = .ok (.dup, 1) := by decide +kernel
theorem d_Bs_addRequest_28 : decode b_Bs_addRequest 28 = .ok (.iload_n 1, 1) := by decide +kernel
theorem d_Bs_addRequest_29 : decode b_Bs_addRequest 29 = .ok (.iload_n 2, 1) := by decide +kernel
theorem d_Bs_addRequest_30 : decode b_Bs_addRequest 30 = .ok (.iload_n 3, 1) := by decide +kernel
theorem d_Bs_addRequest_31 : decode b_Bs_addRequest 31 = .ok (.iload 4, 2) := by decide +kernel
theorem d_Bs_addRequest_33 : decode b_Bs_addRequest 33 = .ok (.invokespecial 174, 3) := by decide +kernel
theorem d_Bs_addRequest_36 : decode b_Bs_addRequest 36 = .ok (.aastore, 1) := by decide +kernel
theorem d_Bs_addRequest_37 : decode b_Bs_addRequest 37 = .ok (.aload_n 0, 1) := by decide +kernel
theorem d_Bs_addRequest_38 : decode b_Bs_addRequest 38 = .ok (.dup, 1) := by decide +kernel
theorem d_Bs_addRequest_39 : decode b_Bs_addRequest 39 = .ok (.getfield 15, 3) := by decide +kernel
theorem d_Bs_addRequest_42 : decode b_Bs_addRequest 42 = .ok (.iconst 1, 1) := by decide +kernel
theorem d_Bs_addRequest_43 : decode b_Bs_addRequest 43 = .ok (.iadd, 1) := by decide +kernel
theorem d_Bs_addRequest_44 : decode b_Bs_addRequest 44 = .ok (.putfield 15, 3) := by decide +kernel
theorem d_Bs_addRequest_47 : decode b_Bs_addRequest 47 = .ok (.iload 5, 2) := by decide +kernel
theorem d_Bs_addRequest_49 : decode b_Bs_addRequest 49 = .ok (.ireturn, 1) := by decide +kernel
theorem d_Bs_read_0 : decode b_Bs_read 0 = .ok (.iload_n 1, 1) := by decide +kernel
theorem d_Bs_read_1 : decode b_Bs_read 1 = .ok (.iload_n 2, 1) := by decide +kernel
theorem d_Bs_read_2 : decode b_Bs_read 2 = .ok (.invokestatic 64, 3) := by decide +kernel
theorem d_Bs_read_5 : decode b_Bs_read 5 = .ok (.ifCond .ne 5, 3) := by decide +kernel
theorem d_Bs_read_8 : decode b_Bs_read 8 = .ok (.iconst (-1), 1) := by decide +kernel
theorem d_Bs_read_9 : decode b_Bs_read 9 = .ok (.ireturn, 1) := by decide +kernel
theorem d_Bs_read_10 : decode b_Bs_read 10 = .ok (.aload_n 0, 1) := by decide +kernel
theorem d_Bs_read_11 : decode b_Bs_read 11 = .ok (.iconst 1, 1) := by decide +kernel
theorem d_Bs_read_12 : decode b_Bs_read 12 = .ok (.iload_n 1, 1) := by decide +kernel
theorem d_Bs_read_13 : decode b_Bs_read 13 = .ok (.iload_n 2, 1) := by decide +kernel
theorem d_Bs_read_14 : decode b_Bs_read 14 = .ok (.iconst 0, 1) := by decide +kernel
theorem d_Bs_read_15 : decode b_Bs_read 15 = .ok (.invokevirtual 68, 3) := by decide +kernel
theorem d_Bs_read_18 : decode b_Bs_read 18 = .ok (.ireturn, 1) := by decide +kernel
theorem d_Bs_sync_0 : decode b_Bs_sync 0 = .ok (.aload_n 0, 1) := by decide +kernel
theorem d_Bs_sync_1 : decode b_Bs_sync 1 = .ok (.iconst 2, 1) := by decide +kernel
theorem d_Bs_sync_2 : decode b_Bs_sync 2 = .ok (.iconst 0, 1) := by decide +kernel
theorem d_Bs_sync_3 : decode b_Bs_sync 3 = .ok (.iconst 0, 1) := by decide +kernel
theorem d_Bs_sync_4 : decode b_Bs_sync 4 = .ok (.iconst 0, 1) := by decide +kernel
theorem d_Bs_sync_5 : decode b_Bs_sync 5 = .ok (.invokevirtual 68, 3) := by decide +kernel
theorem d_Bs_sync_8 : decode b_Bs_sync 8 = .ok (.ireturn, 1) := by decide +kernel
theorem d_Bs_send_0 : decode b_Bs_send 0 = .ok (.aload_n 0, 1) := by decide +kernel
theorem d_Bs_send_1 : decode b_Bs_send 1 = .ok (.getfield 31, 3) := by decide +kernel
theorem d_Bs_send_4 : decode b_Bs_send 4 = .ok (.ifCond .ne 6, 3) := by decide +kernel
theorem d_Bs_send_7 : decode b_Bs_send 7 = .ok (.bipush (-4), 2) := by decide +kernel
theorem d_Bs_send_9 : decode b_Bs_send 9 = .ok (.ireturn, 1) := by decide +kernel
theorem d_Bs_send_10 : decode b_Bs_send 10 = .ok (.aload_n 0, 1) := by decide +kernel
theorem d_Bs_send_11 : decode b_Bs_send 11 = .ok (.invokevirtual 72, 3) := by decide +kernel
theorem d_Bs_send_14 : decode b_Bs_send 14 = .ok (.istore_n 1, 1) := by decide +kernel
theorem d_Bs_send_15 : decode b_Bs_send 15 = .ok (.iload_n 1, 1) := by decide +kernel
theorem d_Bs_send_16 : decode b_Bs_send 16 = .ok (.bipush (-3), 2) := by decide +kernel
theorem d_Bs_send_18 : decode b_Bs_send 18 = .ok (.if_icmp .ne 6, 3) := by decide +kernel
theorem d_Bs_send_21 : decode b_Bs_send 21 = .ok (.bipush (-3), 2) := by decide +kernel
theorem d_Bs_send_23 : decode b_Bs_send 23 = .ok (.ireturn, 1) := by decide +kernel
theorem d_Bs_send_24 : decode b_Bs_send 24 = .ok (.aload_n 0, 1) := by decide +kernel
theorem d_Bs_send_25 : decode b_Bs_send 25 = .ok (.getfield 38, 3) := by decide +kernel
theorem d_Bs_send_28 : decode b_Bs_send 28 = .ok (.aload_n 0, 1) := by decide +kernel
theorem d_Bs_send_29 : decode b_Bs_send 29 = .ok (.getfield 44, 3) := by decide +kernel
theorem d_Bs_send_32 : decode b_Bs_send 32 = .ok (.if_icmp .lt 6, 3) := by decide +kernel
theorem d_Bs_send_35 : decode b_Bs_send 35 = .ok (.bipush (-2), 2) := by decide +kernel
theorem d_Bs_send_37 : decode b_Bs_send 37 = .ok (.ireturn, 1) := by decide +kernel
theorem d_Bs_send_38 : decode b_Bs_send 38 = .ok (.aload_n 0, 1) := by decide +kernel
theorem d_Bs_send_39 : decode b_Bs_send 39 = .ok (.getfield 11, 3) := by decide +kernel
theorem d_Bs_send_42 : decode b_Bs_send 42 = .ok (.iload_n 1, 1) := by decide +kernel
theorem d_Bs_send_43 : decode b_Bs_send 43 = .ok (.aaload, 1) := by decide +kernel
theorem d_Bs_send_44 : decode b_Bs_send 44 = .ok (.iconst 1, 1) := by decide +kernel
theorem d_Bs_send_45 : decode b_Bs_send 45 = .ok (.putfield 76, 3) := by decide +kernel
theorem d_Bs_send_48 : decode b_Bs_send 48 = .ok (.aload_n 0, 1) := by decide +kernel
theorem d_Bs_send_49 : decode b_Bs_send 49 = .ok (.dup, 1) := by decide +kernel
theorem d_Bs_send_50 : decode b_Bs_send 50 = .ok (.getfield 38, 3) := by decide +kernel
theorem d_Bs_send_53 : decode b_Bs_send 53 = .ok (.iconst 1, 1) := by decide +kernel
theorem d_Bs_send_54 : decode b_Bs_send 54 = .ok (.iadd, 1) := by decide +kernel
theorem d_Bs_send_55 : decode b_Bs_send 55 = .ok (.putfield 38, 3) := by decide +kernel
theorem d_Bs_send_58 : decode b_Bs_send 58 = .ok (.aload_n 0, 1) := by decide +kernel
theorem d_Bs_send_59 : decode b_Bs_send 59 = .ok (.iload_n 1, 1) := by decide +kernel
theorem d_Bs_send_60 : decode b_Bs_send 60 = .ok (.iconst 0, 1) := by decide +kernel
theorem d_Bs_send_61 : decode b_Bs_send 61 = .ok (.iconst 0, 1) := by decide +kernel
theorem d_Bs_send_62 : decode b_Bs_send 62 = .ok (.invokevirtual 79, 3) := by decide +kernel
theorem d_Bs_send_65 : decode b_Bs_send 65 = .ok (.iload_n 1, 1) := by decide +kernel
theorem d_Bs_send_66 : decode b_Bs_send 66 = .ok (.ireturn, 1) := by decide +kernel
theorem d_Bs_firstOpenRequest_0 : decode b_Bs_firstOpenRequest 0 = .ok (.iconst 0, 1) := by decide +kernel
theorem d_Bs_firstOpenRequest_1 : decode b_Bs_firstOpenRequest 1 = .ok (.istore_n 1, 1) := by decide +kernel
theorem d_Bs_firstOpenRequest_2 : decode b_Bs_firstOpenRequest 2 = .ok (.iload_n 1, 1) := by decide +kernel
theorem d_Bs_firstOpenRequest_3 : decode b_Bs_firstOpenRequest 3 = .ok (.aload_n 0, 1) := by decide +kernel
theorem d_Bs_firstOpenRequest_4 : decode b_Bs_firstOpenRequest 4 = .ok (.getfield 15, 3) := by decide +kernel
theorem d_Bs_firstOpenRequest_7 : decode b_Bs_firstOpenRequest 7 = .ok (.if_icmp .ge 23, 3) := by decide +kernel
theorem d_Bs_firstOpenRequest_10 : decode b_Bs_firstOpenRequest 10 = .ok (.aload_n 0, 1) := by decide +kernel
theorem d_Bs_firstOpenRequest_11 : decode b_Bs_firstOpenRequest 11 = .ok (.getfield 11, 3) := by decide +kernel
theorem d_Bs_firstOpenRequest_14 : decode b_Bs_firstOpenRequest 14 = .ok (.iload_n 1, 1) := by decide +kernel
theorem d_Bs_firstOpenRequest_15 : decode b_Bs_firstOpenRequest 15 = .ok (.aaload, 1) := by decide +kernel
theorem d_Bs_firstOpenRequest_16 : decode b_Bs_firstOpenRequest 16 = .ok (.getfield 76, 3) := by decide +kernel
theorem d_Bs_firstOpenRequest_19 : decode b_Bs_firstOpenRequest 19 = .ok (.ifCond .ne 5, 3) := by decide +kernel
theorem d_Bs_firstOpenRequest_22 : decode b_Bs_firstOpenRequest 22 = .ok (.iload_n 1, 1) := by decide +kernel
theorem d_Bs_firstOpenRequest_23 : decode b_Bs_firstOpenRequest 23 = .ok (.ireturn, 1) := by decide +kernel
theorem d_Bs_firstOpenRequest_24 : decode b_Bs_firstOpenRequest 24 = .ok (.iinc 1 1, 3) := by decide +kernel
theorem d_Bs_firstOpenRequest_27 : decode b_Bs_firstOpenRequest 27 = .ok (.goto (-25), 3) := by decide +kernel
theorem d_Bs_firstOpenRequest_30 : decode b_Bs_firstOpenRequest 30 = .ok (.bipush (-3), 2) := by decide +kernel
theorem d_Bs_firstOpenRequest_32 : decode b_Bs_firstOpenRequest 32 = .ok (.ireturn, 1) := by decide +kernel
theorem d_Bs_sendUp_0 : decode b_Bs_sendUp 0 = .ok (.aload_n 0, 1) := by decide +kernel
theorem d_Bs_sendUp_1 : decode b_Bs_sendUp 1 = .ok (.getfield 24, 3) := by decide +kernel
theorem d_Bs_sendUp_4 : decode b_Bs_sendUp 4 = .ok (.invokevirtual 183, 3) := by decide +kernel
theorem d_Bs_sendUp_7 : decode b_Bs_sendUp 7 = .ok (.astore 4, 2) := by decide +kernel
theorem d_Bs_sendUp_9 : decode b_Bs_sendUp 9 = .ok (.aload 4, 2) := by decide +kernel
theorem d_Bs_sendUp_11 : decode b_Bs_sendUp 11 = .ok (.ifnull 13, 3) := by decide +kernel
theorem d_Bs_sendUp_14 : decode b_Bs_sendUp 14 = .ok (.aload 4, 2) := by decide +kernel
theorem d_Bs_sendUp_16 : decode b_Bs_sendUp 16 = .ok (.iload_n 1, 1) := by decide +kernel
theorem d_Bs_sendUp_17 : decode b_Bs_sendUp 17 = .ok (.iload_n 2, 1) := by decide +kernel
theorem d_Bs_sendUp_18 : decode b_Bs_sendUp 18 = .ok (.iload_n 3, 1) := by decide +kernel
theorem d_Bs_sendUp_19 : decode b_Bs_sendUp 19 = .ok (.iconst 0, 1) := by decide +kernel
theorem d_Bs_sendUp_20 : decode b_Bs_sendUp 20 = .ok (.iconst 0, 1) := by decide +kernel
theorem d_Bs_sendUp_21 : decode b_Bs_sendUp 21 = .ok (.invokevirtual 186, 3) := by decide +kernel
theorem d_Bs_sendUp_24 : decode b_Bs_sendUp 24 = .ok (.return_, 1) := by decide +kernel
theorem d_Bs_deliver_0 : decode b_Bs_deliver 0 = .ok (.aload_n 0, 1) := by decide +kernel
theorem d_Bs_deliver_1 : decode b_Bs_deliver 1 = .ok (.getfield 31, 3) := by decide +kernel
theorem d_Bs_deliver_4 : decode b_Bs_deliver 4 = .ok (.ifCond .ne 6, 3) := by decide +kernel
theorem d_Bs_deliver_7 : decode b_Bs_deliver 7 = .ok (.bipush (-4), 2) := by decide +kernel
theorem d_Bs_deliver_9 : decode b_Bs_deliver 9 = .ok (.ireturn, 1) := by decide +kernel
theorem d_Bs_deliver_10 : decode b_Bs_deliver 10 = .ok (.aload_n 0, 1) := by decide +kernel
theorem d_Bs_deliver_11 : decode b_Bs_deliver 11 = .ok (.iload_n 1, 1) := by decide +kernel
theorem d_Bs_deliver_12 : decode b_Bs_deliver 12 = .ok (.invokevirtual 83, 3) := by decide +kernel
theorem d_Bs_deliver_15 : decode b_Bs_deliver 15 = .ok (.invokevirtual 87, 3) := by decide +kernel
theorem d_Bs_deliver_18 : decode b_Bs_deliver 18 = .ok (.astore_n 2, 1) := by decide +kernel
theorem d_Bs_deliver_19 : decode b_Bs_deliver 19 = .ok (.aload_n 2, 1) := by decide +kernel
theorem d_Bs_deliver_20 : decode b_Bs_deliver 20 = .ok (.ifnonnull 6, 3) := by decide +kernel
theorem d_Bs_deliver_23 : decode b_Bs_deliver 23 = .ok (.bipush (-3), 2) := by decide +kernel
theorem d_Bs_deliver_25 : decode b_Bs_deliver 25 = .ok (.ireturn, 1) := by decide +kernel
theorem d_Bs_deliver_26 : decode b_Bs_deliver 26 = .ok (.aload_n 2, 1) := by decide +kernel
theorem d_Bs_deliver_27 : decode b_Bs_deliver 27 = .ok (.getfield 91, 3) := by decide +kernel
theorem d_Bs_deliver_30 : decode b_Bs_deliver 30 = .ok (.ifCond .eq 10, 3) := by decide +kernel
theorem d_Bs_deliver_33 : decode b_Bs_deliver 33 = .ok (.aload_n 0, 1) := by decide +kernel
theorem d_Bs_deliver_34 : decode b_Bs_deliver 34 = .ok (.invokevirtual 96, 3) := by decide +kernel
theorem d_Bs_deliver_37 : decode b_Bs_deliver 37 = .ok (.bipush (-5), 2) := by decide +kernel
theorem d_Bs_deliver_39 : decode b_Bs_deliver 39 = .ok (.ireturn, 1) := by decide +kernel
theorem d_Bs_deliver_40 : decode b_Bs_deliver 40 = .ok (.iload_n 1, 1) := by decide +kernel
theorem d_Bs_deliver_41 : decode b_Bs_deliver 41 = .ok (.ifCond .eq 11, 3) := by decide +kernel
theorem d_Bs_deliver_44 : decode b_Bs_deliver 44 = .ok (.aload_n 0, 1) := by decide +kernel
theorem d_Bs_deliver_45 : decode b_Bs_deliver 45 = .ok (.aload_n 2, 1) := by decide +kernel
theorem d_Bs_deliver_46 : decode b_Bs_deliver 46 = .ok (.invokevirtual 99, 3) := by decide +kernel
theorem d_Bs_deliver_49 : decode b_Bs_deliver 49 = .ok (.goto 8, 3) := by decide +kernel
theorem d_Bs_deliver_52 : decode b_Bs_deliver 52 = .ok (.aload_n 0, 1) := by decide +kernel
theorem d_Bs_deliver_53 : decode b_Bs_deliver 53 = .ok (.aload_n 2, 1) := by decide +kernel
theorem d_Bs_deliver_54 : decode b_Bs_deliver 54 = .ok (.invokevirtual 103, 3) := by decide +kernel
theorem d_Bs_deliver_57 : decode b_Bs_deliver 57 = .ok (.aload_n 2, 1) := by decide +kernel
theorem d_Bs_deliver_58 : decode b_Bs_deliver 58 = .ok (.getfield 106, 3) := by decide +kernel
theorem d_Bs_deliver_61 : decode b_Bs_deliver 61 = .ok (.ireturn, 1) := by decide +kernel
theorem d_Bs_lineOf_0 : decode b_Bs_lineOf 0 = .ok (.iload_n 1, 1) := by decide +kernel
theorem d_Bs_lineOf_1 : decode b_Bs_lineOf 1 = .ok (.ifCond .eq 10, 3) := by decide +kernel
theorem d_Bs_lineOf_4 : decode b_Bs_lineOf 4 = .ok (.aload_n 0, 1) := by decide +kernel
theorem d_Bs_lineOf_5 : decode b_Bs_lineOf 5 = .ok (.getfield 24, 3) := by decide +kernel
theorem d_Bs_lineOf_8 : decode b_Bs_lineOf 8 = .ok (.goto 7, 3) := by decide +kernel
theorem d_Bs_lineOf_11 : decode b_Bs_lineOf 11 = .ok (.aload_n 0, 1) := by decide +kernel
theorem d_Bs_lineOf_12 : decode b_Bs_lineOf 12 = .ok (.getfield 28, 3) := by decide +kernel
theorem d_Bs_lineOf_15 : decode b_Bs_lineOf 15 = .ok (.areturn, 1) := by decide +kernel
theorem d_Bs_breakSession_0 : decode b_Bs_breakSession 0 = .ok (.aload_n 0, 1) := by decide +kernel
theorem d_Bs_breakSession_1 : decode b_Bs_breakSession 1 = .ok (.getfield 24, 3) := by decide +kernel
theorem d_Bs_breakSession_4 : decode b_Bs_breakSession 4 = .ok (.invokevirtual 177, 3) := by decide +kernel
theorem d_Bs_breakSession_7 : decode b_Bs_breakSession 7 = .ok (.aload_n 0, 1) := by decide +kernel
theorem d_Bs_breakSession_8 : decode b_Bs_breakSession 8 = .ok (.getfield 28, 3) := by decide +kernel
theorem d_Bs_breakSession_11 : decode b_Bs_breakSession 11 = .ok (.invokevirtual 177, 3) := by decide +kernel
theorem d_Bs_breakSession_14 : decode b_Bs_breakSession 14 = .ok (.aload_n 0, 1) := by decide +kernel
theorem d_Bs_breakSession_15 : decode b_Bs_breakSession 15 = .ok (.iconst 0, 1) := by decide +kernel
theorem d_Bs_breakSession_16 : decode b_Bs_breakSession 16 = .ok (.putfield 31, 3) := by decide +kernel
theorem d_Bs_breakSession_19 : decode b_Bs_breakSession 19 = .ok (.aload_n 0, 1) := by decide +kernel
theorem d_Bs_breakSession_20 : decode b_Bs_breakSession 20 = .ok (.iconst 0, 1) := by decide +kernel
theorem d_Bs_breakSession_21 : decode b_Bs_breakSession 21 = .ok (.putfield 38, 3) := by decide +kernel
theorem d_Bs_breakSession_24 : decode b_Bs_breakSession 24 = .ok (.aload_n 0, 1) := by decide +kernel
theorem d_Bs_breakSession_25 : decode b_Bs_breakSession 25 = .ok (.iconst 0, 1) := by decide +kernel
theorem d_Bs_breakSession_26 : decode b_Bs_breakSession 26 = .ok (.putfield 41, 3) := by decide +kernel
theorem d_Bs_breakSession_29 : decode b_Bs_breakSession 29 = .ok (.aload_n 0, 1) := by decide +kernel
theorem d_Bs_breakSession_30 : decode b_Bs_breakSession 30 = .ok (.iconst 0, 1) := by decide +kernel
theorem d_Bs_breakSession_31 : decode b_Bs_breakSession 31 = .ok (.putfield 44, 3) := by decide +kernel
theorem d_Bs_breakSession_34 : decode b_Bs_breakSession 34 = .ok (.iconst 0, 1) := by decide +kernel
theorem d_Bs_breakSession_35 : decode b_Bs_breakSession 35 = .ok (.istore_n 1, 1) := by decide +kernel
theorem d_Bs_breakSession_36 : decode b_Bs_breakSession 36 = .ok (.iload_n 1, 1) := by decide +kernel
theorem d_Bs_breakSession_37 : decode b_Bs_breakSession 37 = .ok (.aload_n 0, 1) := by decide +kernel
theorem d_Bs_breakSession_38 : decode b_Bs_breakSession 38 = .ok (.getfield 15, 3) := by decide +kernel
theorem d_Bs_breakSession_41 : decode b_Bs_breakSession 41 = .ok (.if_icmp .ge 31, 3) := by decide +kernel
theorem d_Bs_breakSession_44 : decode b_Bs_breakSession 44 = .ok (.aload_n 0, 1) := by decide +kernel
theorem d_Bs_breakSession_45 : decode b_Bs_breakSession 45 = .ok (.getfield 11, 3) := by decide +kernel
theorem d_Bs_breakSession_48 : decode b_Bs_breakSession 48 = .ok (.iload_n 1, 1) := by decide +kernel
theorem d_Bs_breakSession_49 : decode b_Bs_breakSession 49 = .ok (.aaload, 1) := by decide +kernel
theorem d_Bs_breakSession_50 : decode b_Bs_breakSession 50 = .ok (.getfield 76, 3) := by decide +kernel
theorem d_Bs_breakSession_53 : decode b_Bs_breakSession 53 = .ok (.iconst 1, 1) := by decide +kernel
theorem d_Bs_breakSession_54 : decode b_Bs_breakSession 54 = .ok (.if_icmp .ne 12, 3) := by decide +kernel
theorem d_Bs_breakSession_57 : decode b_Bs_breakSession 57 = .ok (.aload_n 0, 1) := by decide +kernel
theorem d_Bs_breakSession_58 : decode b_Bs_breakSession 58 = .ok (.getfield 11, 3) := by decide +kernel
theorem d_Bs_breakSession_61 : decode b_Bs_breakSession 61 = .ok (.iload_n 1, 1) := by decide +kernel
theorem d_Bs_breakSession_62 : decode b_Bs_breakSession 62 = .ok (.aaload, 1) := by decide +kernel
theorem d_Bs_breakSession_63 : decode b_Bs_breakSession 63 = .ok (.invokevirtual 180, 3) := by decide +kernel
theorem d_Bs_breakSession_66 : decode b_Bs_breakSession 66 = .ok (.iinc 1 1, 3) := by decide +kernel
theorem d_Bs_breakSession_69 : decode b_Bs_breakSession 69 = .ok (.goto (-33), 3) := by decide +kernel
theorem d_Bs_breakSession_72 : decode b_Bs_breakSession 72 = .ok (.return_, 1) := by decide +kernel
theorem d_Bs_workAtTarget_0 : decode b_Bs_workAtTarget 0 = .ok (.aload_n 0, 1) := by decide +kernel
theorem d_Bs_workAtTarget_1 : decode b_Bs_workAtTarget 1 = .ok (.aload_n 1, 1) := by decide +kernel
theorem d_Bs_workAtTarget_2 : decode b_Bs_workAtTarget 2 = .ok (.getfield 150, 3) := by decide +kernel
theorem d_Bs_workAtTarget_5 : decode b_Bs_workAtTarget 5 = .ok (.invokevirtual 123, 3) := by decide +kernel
theorem d_Bs_workAtTarget_8 : decode b_Bs_workAtTarget 8 = .ok (.astore_n 2, 1) := by decide +kernel
theorem d_Bs_workAtTarget_9 : decode b_Bs_workAtTarget 9 = .ok (.aload_n 2, 1) := by decide +kernel
theorem d_Bs_workAtTarget_10 : decode b_Bs_workAtTarget 10 = .ok (.ifnonnull 4, 3) := by decide +kernel
theorem d_Bs_workAtTarget_13 : decode b_Bs_workAtTarget 13 = .ok (.return_, 1) := by decide +kernel
theorem d_Bs_workAtTarget_14 : decode b_Bs_workAtTarget 14 = .ok (.aload_n 2, 1) := by decide +kernel
theorem d_Bs_workAtTarget_15 : decode b_Bs_workAtTarget 15 = .ok (.getfield 127, 3) := by decide +kernel
theorem d_Bs_workAtTarget_18 : decode b_Bs_workAtTarget 18 = .ok (.ifCond .ne 31, 3) := by decide +kernel
theorem d_Bs_workAtTarget_21 : decode b_Bs_workAtTarget 21 = .ok (.aload_n 0, 1) := by decide +kernel
theorem d_Bs_workAtTarget_22 : decode b_Bs_workAtTarget 22 = .ok (.aload_n 1, 1) := by decide +kernel
theorem d_Bs_workAtTarget_23 : decode b_Bs_workAtTarget 23 = .ok (.getfield 150, 3) := by decide +kernel
theorem d_Bs_workAtTarget_26 : decode b_Bs_workAtTarget 26 = .ok (.aload_n 2, 1) := by decide +kernel
theorem d_Bs_workAtTarget_27 : decode b_Bs_workAtTarget 27 = .ok (.aload_n 1, 1) := by decide +kernel
theorem d_Bs_workAtTarget_28 : decode b_Bs_workAtTarget 28 = .ok (.getfield 106, 3) := by decide +kernel
theorem d_Bs_workAtTarget_31 : decode b_Bs_workAtTarget 31 = .ok (.iconst 1, 1) := by decide +kernel
theorem d_Bs_workAtTarget_32 : decode b_Bs_workAtTarget 32 = .ok (.if_icmp .ne 10, 3) := by decide +kernel
theorem d_Bs_workAtTarget_35 : decode b_Bs_workAtTarget 35 = .ok (.aload_n 1, 1) := by decide +kernel
theorem d_Bs_workAtTarget_36 : decode b_Bs_workAtTarget 36 = .ok (.getfield 153, 3) := by decide +kernel
theorem d_Bs_workAtTarget_39 : decode b_Bs_workAtTarget 39 = .ok (.goto 4, 3) := by decide +kernel
theorem d_Bs_workAtTarget_42 : decode b_Bs_workAtTarget 42 = .ok (.iconst 0, 1) := by decide +kernel
theorem d_Bs_workAtTarget_43 : decode b_Bs_workAtTarget 43 = .ok (.invokevirtual 190, 3) := by decide +kernel
theorem d_Bs_workAtTarget_46 : decode b_Bs_workAtTarget 46 = .ok (.goto 31, 3) := by decide +kernel
theorem d_Bs_workAtTarget_49 : decode b_Bs_workAtTarget 49 = .ok (.aload_n 2, 1) := by decide +kernel
theorem d_Bs_workAtTarget_50 : decode b_Bs_workAtTarget 50 = .ok (.getfield 127, 3) := by decide +kernel
theorem d_Bs_workAtTarget_53 : decode b_Bs_workAtTarget 53 = .ok (.iconst 1, 1) := by decide +kernel
theorem d_Bs_workAtTarget_54 : decode b_Bs_workAtTarget 54 = .ok (.if_icmp .ne 15, 3) := by decide +kernel
theorem d_Bs_workAtTarget_57 : decode b_Bs_workAtTarget 57 = .ok (.aload_n 0, 1) := by decide +kernel
theorem d_Bs_workAtTarget_58 : decode b_Bs_workAtTarget 58 = .ok (.aload_n 1, 1) := by decide +kernel
theorem d_Bs_workAtTarget_59 : decode b_Bs_workAtTarget 59 = .ok (.getfield 150, 3) := by decide +kernel
theorem d_Bs_workAtTarget_62 : decode b_Bs_workAtTarget 62 = .ok (.aload_n 2, 1) := by decide +kernel
theorem d_Bs_workAtTarget_63 : decode b_Bs_workAtTarget 63 = .ok (.invokevirtual 194, 3) := by decide +kernel
theorem d_Bs_workAtTarget_66 : decode b_Bs_workAtTarget 66 = .ok (.goto 11, 3) := by decide +kernel
theorem d_Bs_workAtTarget_69 : decode b_Bs_workAtTarget 69 = .ok (.aload_n 0, 1) := by decide +kernel
theorem d_Bs_workAtTarget_70 : decode b_Bs_workAtTarget 70 = .ok (.aload_n 1, 1) := by decide +kernel
theorem d_Bs_workAtTarget_71 : decode b_Bs_workAtTarget 71 = .ok (.getfield 150, 3) := by decide +kernel
theorem d_Bs_workAtTarget_74 : decode b_Bs_workAtTarget 74 = .ok (.invokevirtual 198, 3) := by decide +kernel
theorem d_Bs_workAtTarget_77 : decode b_Bs_workAtTarget 77 = .ok (.return_, 1) := by decide +kernel
theorem d_Bs_requestAt_0 : decode b_Bs_requestAt 0 = .ok (.iload_n 1, 1) := by decide +kernel
theorem d_Bs_requestAt_1 : decode b_Bs_requestAt 1 = .ok (.ifCond .lt 20, 3) := by decide +kernel
theorem d_Bs_requestAt_4 : decode b_Bs_requestAt 4 = .ok (.iload_n 1, 1) := by decide +kernel
theorem d_Bs_requestAt_5 : decode b_Bs_requestAt 5 = .ok (.aload_n 0, 1) := by decide +kernel
theorem d_Bs_requestAt_6 : decode b_Bs_requestAt 6 = .ok (.getfield 15, 3) := by decide +kernel
theorem d_Bs_requestAt_9 : decode b_Bs_requestAt 9 = .ok (.if_icmp .ge 12, 3) := by decide +kernel
theorem d_Bs_requestAt_12 : decode b_Bs_requestAt 12 = .ok (.aload_n 0, 1) := by decide +kernel
theorem d_Bs_requestAt_13 : decode b_Bs_requestAt 13 = .ok (.getfield 11, 3) := by decide +kernel
theorem d_Bs_requestAt_16 : decode b_Bs_requestAt 16 = .ok (.iload_n 1, 1) := by decide +kernel
theorem d_Bs_requestAt_17 : decode b_Bs_requestAt 17 = .ok (.aaload, 1) := by decide +kernel
theorem d_Bs_requestAt_18 : decode b_Bs_requestAt 18 = .ok (.goto 4, 3) := by decide +kernel
theorem d_Bs_requestAt_21 : decode b_Bs_requestAt 21 = .ok (.aconst_null, 1) := by decide +kernel
theorem d_Bs_requestAt_22 : decode b_Bs_requestAt 22 = .ok (.areturn, 1) := by decide +kernel
theorem d_Bs_workPartOfWrite_0 : decode b_Bs_workPartOfWrite 0 = .ok (.iload_n 3, 1) := by decide +kernel
theorem d_Bs_workPartOfWrite_1 : decode b_Bs_workPartOfWrite 1 = .ok (.aload_n 2, 1) := by decide +kernel
theorem d_Bs_workPartOfWrite_2 : decode b_Bs_workPartOfWrite 2 = .ok (.getfield 130, 3) := by decide +kernel
theorem d_Bs_workPartOfWrite_5 : decode b_Bs_workPartOfWrite 5 = .ok (.iconst 1, 1) := by decide +kernel
theorem d_Bs_workPartOfWrite_6 : decode b_Bs_workPartOfWrite 6 = .ok (.isub, 1) := by decide +kernel
theorem d_Bs_workPartOfWrite_7 : decode b_Bs_workPartOfWrite 7 = .ok (.if_icmp .ge 14, 3) := by decide +kernel
theorem d_Bs_workPartOfWrite_10 : decode b_Bs_workPartOfWrite 10 = .ok (.aload_n 0, 1) := by decide +kernel
theorem d_Bs_workPartOfWrite_11 : decode b_Bs_workPartOfWrite 11 = .ok (.iload_n 1, 1) := by decide +kernel
theorem d_Bs_workPartOfWrite_12 : decode b_Bs_workPartOfWrite 12 = .ok (.iconst 2, 1) := by decide +kernel
theorem d_Bs_workPartOfWrite_13 : decode b_Bs_workPartOfWrite 13 = .ok (.iload_n 3, 1) := by decide +kernel
theorem d_Bs_workPartOfWrite_14 : decode b_Bs_workPartOfWrite 14 = .ok (.iconst 1, 1) := by decide +kernel
theorem d_Bs_workPartOfWrite_15 : decode b_Bs_workPartOfWrite 15 = .ok (.iadd, 1) := by decide +kernel
theorem d_Bs_workPartOfWrite_16 : decode b_Bs_workPartOfWrite 16 = .ok (.iconst 0, 1) := by decide +kernel
theorem d_Bs_workPartOfWrite_17 : decode b_Bs_workPartOfWrite 17 = .ok (.invokevirtual 201, 3) := by decide +kernel
theorem d_Bs_workPartOfWrite_20 : decode b_Bs_workPartOfWrite 20 = .ok (.return_, 1) := by decide +kernel
theorem d_Bs_workPartOfWrite_21 : decode b_Bs_workPartOfWrite 21 = .ok (.iconst 0, 1) := by decide +kernel
theorem d_Bs_workPartOfWrite_22 : decode b_Bs_workPartOfWrite 22 = .ok (.istore 4, 2) := by decide +kernel
theorem d_Bs_workPartOfWrite_24 : decode b_Bs_workPartOfWrite 24 = .ok (.iload 4, 2) := by decide +kernel
theorem d_Bs_workPartOfWrite_26 : decode b_Bs_workPartOfWrite 26 = .ok (.aload_n 2, 1) := by decide +kernel
theorem d_Bs_workPartOfWrite_27 : decode b_Bs_workPartOfWrite 27 = .ok (.getfield 130, 3) := by decide +kernel
theorem d_Bs_workPartOfWrite_30 : decode b_Bs_workPartOfWrite 30 = .ok (.if_icmp .ge 30, 3) := by decide +kernel
theorem d_Bs_workPartOfWrite_33 : decode b_Bs_workPartOfWrite 33 = .ok (.aload_n 0, 1) := by decide +kernel
theorem d_Bs_workPartOfWrite_34 : decode b_Bs_workPartOfWrite 34 = .ok (.getfield 57, 3) := by decide +kernel
theorem d_Bs_workPartOfWrite_37 : decode b_Bs_workPartOfWrite 37 = .ok (.aload_n 2, 1) := by decide +kernel
theorem d_Bs_workPartOfWrite_38 : decode b_Bs_workPartOfWrite 38 = .ok (.getfield 204, 3) := by decide +kernel
theorem d_Bs_workPartOfWrite_41 : decode b_Bs_workPartOfWrite 41 = .ok (.iload 4, 2) := by decide +kernel
theorem d_Bs_workPartOfWrite_43 : decode b_Bs_workPartOfWrite 43 = .ok (.iadd, 1) := by decide +kernel
theorem d_Bs_workPartOfWrite_44 : decode b_Bs_workPartOfWrite 44 = .ok (.aload_n 2, 1) := by decide +kernel
