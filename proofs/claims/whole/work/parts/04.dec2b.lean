theorem d_Bs_workPartOfWrite_45 : decode b_Bs_workPartOfWrite 45 = .ok (.getfield 207, 3) := by decide +kernel
theorem d_Bs_workPartOfWrite_48 : decode b_Bs_workPartOfWrite 48 = .ok (.iload 4, 2) := by decide +kernel
theorem d_Bs_workPartOfWrite_50 : decode b_Bs_workPartOfWrite 50 = .ok (.iadd, 1) := by decide +kernel
theorem d_Bs_workPartOfWrite_51 : decode b_Bs_workPartOfWrite 51 = .ok (.invokevirtual 210, 3) := by decide +kernel
theorem d_Bs_workPartOfWrite_54 : decode b_Bs_workPartOfWrite 54 = .ok (.iinc 4 1, 3) := by decide +kernel
theorem d_Bs_workPartOfWrite_57 : decode b_Bs_workPartOfWrite 57 = .ok (.goto (-33), 3) := by decide +kernel
theorem d_Bs_workPartOfWrite_60 : decode b_Bs_workPartOfWrite 60 = .ok (.aload_n 0, 1) := by decide +kernel
theorem d_Bs_workPartOfWrite_61 : decode b_Bs_workPartOfWrite 61 = .ok (.iload_n 1, 1) := by decide +kernel
theorem d_Bs_workPartOfWrite_62 : decode b_Bs_workPartOfWrite 62 = .ok (.invokevirtual 214, 3) := by decide +kernel
theorem d_Bs_workPartOfWrite_65 : decode b_Bs_workPartOfWrite 65 = .ok (.return_, 1) := by decide +kernel
theorem d_Bs_sendDown_0 : decode b_Bs_sendDown 0 = .ok (.aload_n 0, 1) := by decide +kernel
theorem d_Bs_sendDown_1 : decode b_Bs_sendDown 1 = .ok (.getfield 28, 3) := by decide +kernel
theorem d_Bs_sendDown_4 : decode b_Bs_sendDown 4 = .ok (.invokevirtual 183, 3) := by decide +kernel
theorem d_Bs_sendDown_7 : decode b_Bs_sendDown 7 = .ok (.astore 5, 2) := by decide +kernel
theorem d_Bs_sendDown_9 : decode b_Bs_sendDown 9 = .ok (.aload 5, 2) := by decide +kernel
theorem d_Bs_sendDown_11 : decode b_Bs_sendDown 11 = .ok (.ifnull 22, 3) := by decide +kernel
theorem d_Bs_sendDown_14 : decode b_Bs_sendDown 14 = .ok (.aload 5, 2) := by decide +kernel
theorem d_Bs_sendDown_16 : decode b_Bs_sendDown 16 = .ok (.iload_n 1, 1) := by decide +kernel
theorem d_Bs_sendDown_17 : decode b_Bs_sendDown 17 = .ok (.iload_n 2, 1) := by decide +kernel
theorem d_Bs_sendDown_18 : decode b_Bs_sendDown 18 = .ok (.iload_n 3, 1) := by decide +kernel
theorem d_Bs_sendDown_19 : decode b_Bs_sendDown 19 = .ok (.iload 4, 2) := by decide +kernel
theorem d_Bs_sendDown_21 : decode b_Bs_sendDown 21 = .ok (.aload_n 0, 1) := by decide +kernel
theorem d_Bs_sendDown_22 : decode b_Bs_sendDown 22 = .ok (.getfield 41, 3) := by decide +kernel
theorem d_Bs_sendDown_25 : decode b_Bs_sendDown 25 = .ok (.aload_n 0, 1) := by decide +kernel
theorem d_Bs_sendDown_26 : decode b_Bs_sendDown 26 = .ok (.getfield 51, 3) := by decide +kernel
theorem d_Bs_sendDown_29 : decode b_Bs_sendDown 29 = .ok (.iadd, 1) := by decide +kernel
theorem d_Bs_sendDown_30 : decode b_Bs_sendDown 30 = .ok (.invokevirtual 186, 3) := by decide +kernel
theorem d_Bs_sendDown_33 : decode b_Bs_sendDown 33 = .ok (.return_, 1) := by decide +kernel
theorem d_Bs_finish_0 : decode b_Bs_finish 0 = .ok (.aload_n 0, 1) := by decide +kernel
theorem d_Bs_finish_1 : decode b_Bs_finish 1 = .ok (.dup, 1) := by decide +kernel
theorem d_Bs_finish_2 : decode b_Bs_finish 2 = .ok (.getfield 41, 3) := by decide +kernel
theorem d_Bs_finish_5 : decode b_Bs_finish 5 = .ok (.iconst 1, 1) := by decide +kernel
theorem d_Bs_finish_6 : decode b_Bs_finish 6 = .ok (.iadd, 1) := by decide +kernel
theorem d_Bs_finish_7 : decode b_Bs_finish 7 = .ok (.putfield 41, 3) := by decide +kernel
theorem d_Bs_finish_10 : decode b_Bs_finish 10 = .ok (.aload_n 0, 1) := by decide +kernel
theorem d_Bs_finish_11 : decode b_Bs_finish 11 = .ok (.iload_n 1, 1) := by decide +kernel
theorem d_Bs_finish_12 : decode b_Bs_finish 12 = .ok (.iconst 4, 1) := by decide +kernel
theorem d_Bs_finish_13 : decode b_Bs_finish 13 = .ok (.iconst 0, 1) := by decide +kernel
theorem d_Bs_finish_14 : decode b_Bs_finish 14 = .ok (.iconst 0, 1) := by decide +kernel
theorem d_Bs_finish_15 : decode b_Bs_finish 15 = .ok (.invokevirtual 201, 3) := by decide +kernel
theorem d_Bs_finish_18 : decode b_Bs_finish 18 = .ok (.return_, 1) := by decide +kernel
theorem d_Bs_workRead_0 : decode b_Bs_workRead 0 = .ok (.iconst 0, 1) := by decide +kernel
theorem d_Bs_workRead_1 : decode b_Bs_workRead 1 = .ok (.istore_n 3, 1) := by decide +kernel
theorem d_Bs_workRead_2 : decode b_Bs_workRead 2 = .ok (.iload_n 3, 1) := by decide +kernel
theorem d_Bs_workRead_3 : decode b_Bs_workRead 3 = .ok (.aload_n 2, 1) := by decide +kernel
theorem d_Bs_workRead_4 : decode b_Bs_workRead 4 = .ok (.getfield 130, 3) := by decide +kernel
theorem d_Bs_workRead_7 : decode b_Bs_workRead 7 = .ok (.if_icmp .ge 29, 3) := by decide +kernel
theorem d_Bs_workRead_10 : decode b_Bs_workRead 10 = .ok (.aload_n 0, 1) := by decide +kernel
theorem d_Bs_workRead_11 : decode b_Bs_workRead 11 = .ok (.iload_n 1, 1) := by decide +kernel
theorem d_Bs_workRead_12 : decode b_Bs_workRead 12 = .ok (.iconst 3, 1) := by decide +kernel
theorem d_Bs_workRead_13 : decode b_Bs_workRead 13 = .ok (.iload_n 3, 1) := by decide +kernel
theorem d_Bs_workRead_14 : decode b_Bs_workRead 14 = .ok (.aload_n 0, 1) := by decide +kernel
theorem d_Bs_workRead_15 : decode b_Bs_workRead 15 = .ok (.getfield 57, 3) := by decide +kernel
theorem d_Bs_workRead_18 : decode b_Bs_workRead 18 = .ok (.aload_n 2, 1) := by decide +kernel
theorem d_Bs_workRead_19 : decode b_Bs_workRead 19 = .ok (.getfield 204, 3) := by decide +kernel
theorem d_Bs_workRead_22 : decode b_Bs_workRead 22 = .ok (.iload_n 3, 1) := by decide +kernel
theorem d_Bs_workRead_23 : decode b_Bs_workRead 23 = .ok (.iadd, 1) := by decide +kernel
theorem d_Bs_workRead_24 : decode b_Bs_workRead 24 = .ok (.invokevirtual 141, 3) := by decide +kernel
theorem d_Bs_workRead_27 : decode b_Bs_workRead 27 = .ok (.invokevirtual 201, 3) := by decide +kernel
theorem d_Bs_workRead_30 : decode b_Bs_workRead 30 = .ok (.iinc 3 1, 3) := by decide +kernel
theorem d_Bs_workRead_33 : decode b_Bs_workRead 33 = .ok (.goto (-31), 3) := by decide +kernel
theorem d_Bs_workRead_36 : decode b_Bs_workRead 36 = .ok (.aload_n 0, 1) := by decide +kernel
theorem d_Bs_workRead_37 : decode b_Bs_workRead 37 = .ok (.iload_n 1, 1) := by decide +kernel
theorem d_Bs_workRead_38 : decode b_Bs_workRead 38 = .ok (.invokevirtual 214, 3) := by decide +kernel
theorem d_Bs_workRead_41 : decode b_Bs_workRead 41 = .ok (.return_, 1) := by decide +kernel
theorem d_Bs_workSync_0 : decode b_Bs_workSync 0 = .ok (.aload_n 0, 1) := by decide +kernel
theorem d_Bs_workSync_1 : decode b_Bs_workSync 1 = .ok (.getfield 57, 3) := by decide +kernel
theorem d_Bs_workSync_4 : decode b_Bs_workSync 4 = .ok (.invokevirtual 217, 3) := by decide +kernel
theorem d_Bs_workSync_7 : decode b_Bs_workSync 7 = .ok (.aload_n 0, 1) := by decide +kernel
theorem d_Bs_workSync_8 : decode b_Bs_workSync 8 = .ok (.iload_n 1, 1) := by decide +kernel
theorem d_Bs_workSync_9 : decode b_Bs_workSync 9 = .ok (.invokevirtual 214, 3) := by decide +kernel
theorem d_Bs_workSync_12 : decode b_Bs_workSync 12 = .ok (.return_, 1) := by decide +kernel
theorem d_Bs_takeAtInitiator_0 : decode b_Bs_takeAtInitiator 0 = .ok (.aload_n 0, 1) := by decide +kernel
theorem d_Bs_takeAtInitiator_1 : decode b_Bs_takeAtInitiator 1 = .ok (.aload_n 0, 1) := by decide +kernel
theorem d_Bs_takeAtInitiator_2 : decode b_Bs_takeAtInitiator 2 = .ok (.getfield 44, 3) := by decide +kernel
theorem d_Bs_takeAtInitiator_5 : decode b_Bs_takeAtInitiator 5 = .ok (.aload_n 1, 1) := by decide +kernel
theorem d_Bs_takeAtInitiator_6 : decode b_Bs_takeAtInitiator 6 = .ok (.getfield 156, 3) := by decide +kernel
theorem d_Bs_takeAtInitiator_9 : decode b_Bs_takeAtInitiator 9 = .ok (.invokestatic 171, 3) := by decide +kernel
theorem d_Bs_takeAtInitiator_12 : decode b_Bs_takeAtInitiator 12 = .ok (.putfield 44, 3) := by decide +kernel
theorem d_Bs_takeAtInitiator_15 : decode b_Bs_takeAtInitiator 15 = .ok (.aload_n 0, 1) := by decide +kernel
theorem d_Bs_takeAtInitiator_16 : decode b_Bs_takeAtInitiator 16 = .ok (.aload_n 1, 1) := by decide +kernel
theorem d_Bs_takeAtInitiator_17 : decode b_Bs_takeAtInitiator 17 = .ok (.getfield 150, 3) := by decide +kernel
theorem d_Bs_takeAtInitiator_20 : decode b_Bs_takeAtInitiator 20 = .ok (.invokevirtual 123, 3) := by decide +kernel
theorem d_Bs_takeAtInitiator_23 : decode b_Bs_takeAtInitiator 23 = .ok (.astore_n 2, 1) := by decide +kernel
theorem d_Bs_takeAtInitiator_24 : decode b_Bs_takeAtInitiator 24 = .ok (.aload_n 2, 1) := by decide +kernel
theorem d_Bs_takeAtInitiator_25 : decode b_Bs_takeAtInitiator 25 = .ok (.ifnonnull 4, 3) := by decide +kernel
theorem d_Bs_takeAtInitiator_28 : decode b_Bs_takeAtInitiator 28 = .ok (.return_, 1) := by decide +kernel
theorem d_Bs_takeAtInitiator_29 : decode b_Bs_takeAtInitiator 29 = .ok (.aload_n 1, 1) := by decide +kernel
theorem d_Bs_takeAtInitiator_30 : decode b_Bs_takeAtInitiator 30 = .ok (.getfield 106, 3) := by decide +kernel
theorem d_Bs_takeAtInitiator_33 : decode b_Bs_takeAtInitiator 33 = .ok (.iconst 2, 1) := by decide +kernel
theorem d_Bs_takeAtInitiator_34 : decode b_Bs_takeAtInitiator 34 = .ok (.if_icmp .ne 19, 3) := by decide +kernel
theorem d_Bs_takeAtInitiator_37 : decode b_Bs_takeAtInitiator 37 = .ok (.aload_n 0, 1) := by decide +kernel
theorem d_Bs_takeAtInitiator_38 : decode b_Bs_takeAtInitiator 38 = .ok (.aload_n 1, 1) := by decide +kernel
theorem d_Bs_takeAtInitiator_39 : decode b_Bs_takeAtInitiator 39 = .ok (.getfield 150, 3) := by decide +kernel
theorem d_Bs_takeAtInitiator_42 : decode b_Bs_takeAtInitiator 42 = .ok (.iconst 1, 1) := by decide +kernel
theorem d_Bs_takeAtInitiator_43 : decode b_Bs_takeAtInitiator 43 = .ok (.aload_n 1, 1) := by decide +kernel
theorem d_Bs_takeAtInitiator_44 : decode b_Bs_takeAtInitiator 44 = .ok (.getfield 153, 3) := by decide +kernel
theorem d_Bs_takeAtInitiator_47 : decode b_Bs_takeAtInitiator 47 = .ok (.invokevirtual 79, 3) := by decide +kernel
theorem d_Bs_takeAtInitiator_50 : decode b_Bs_takeAtInitiator 50 = .ok (.goto 31, 3) := by decide +kernel
theorem d_Bs_takeAtInitiator_53 : decode b_Bs_takeAtInitiator 53 = .ok (.aload_n 1, 1) := by decide +kernel
theorem d_Bs_takeAtInitiator_54 : decode b_Bs_takeAtInitiator 54 = .ok (.getfield 106, 3) := by decide +kernel
theorem d_Bs_takeAtInitiator_57 : decode b_Bs_takeAtInitiator 57 = .ok (.iconst 3, 1) := by decide +kernel
theorem d_Bs_takeAtInitiator_58 : decode b_Bs_takeAtInitiator 58 = .ok (.if_icmp .ne 18, 3) := by decide +kernel
theorem d_Bs_takeAtInitiator_61 : decode b_Bs_takeAtInitiator 61 = .ok (.aload_n 2, 1) := by decide +kernel
theorem d_Bs_takeAtInitiator_62 : decode b_Bs_takeAtInitiator 62 = .ok (.aload_n 1, 1) := by decide +kernel
theorem d_Bs_takeAtInitiator_63 : decode b_Bs_takeAtInitiator 63 = .ok (.getfield 153, 3) := by decide +kernel
theorem d_Bs_takeAtInitiator_66 : decode b_Bs_takeAtInitiator 66 = .ok (.aload_n 1, 1) := by decide +kernel
theorem d_Bs_takeAtInitiator_67 : decode b_Bs_takeAtInitiator 67 = .ok (.getfield 220, 3) := by decide +kernel
theorem d_Bs_takeAtInitiator_70 : decode b_Bs_takeAtInitiator 70 = .ok (.invokevirtual 221, 3) := by decide +kernel
theorem d_Bs_takeAtInitiator_73 : decode b_Bs_takeAtInitiator 73 = .ok (.goto 8, 3) := by decide +kernel
theorem d_Bs_takeAtInitiator_76 : decode b_Bs_takeAtInitiator 76 = .ok (.aload_n 2, 1) := by decide +kernel
theorem d_Bs_takeAtInitiator_77 : decode b_Bs_takeAtInitiator 77 = .ok (.iconst 2, 1) := by decide +kernel
theorem d_Bs_takeAtInitiator_78 : decode b_Bs_takeAtInitiator 78 = .ok (.putfield 76, 3) := by decide +kernel
theorem d_Bs_takeAtInitiator_81 : decode b_Bs_takeAtInitiator 81 = .ok (.return_, 1) := by decide +kernel
theorem d_Bs_damage_0 : decode b_Bs_damage 0 = .ok (.aload_n 0, 1) := by decide +kernel
theorem d_Bs_damage_1 : decode b_Bs_damage 1 = .ok (.iload_n 1, 1) := by decide +kernel
theorem d_Bs_damage_2 : decode b_Bs_damage 2 = .ok (.invokevirtual 83, 3) := by decide +kernel
theorem d_Bs_damage_5 : decode b_Bs_damage 5 = .ok (.iload_n 2, 1) := by decide +kernel
theorem d_Bs_damage_6 : decode b_Bs_damage 6 = .ok (.invokevirtual 109, 3) := by decide +kernel
theorem d_Bs_damage_9 : decode b_Bs_damage 9 = .ok (.astore_n 3, 1) := by decide +kernel
theorem d_Bs_damage_10 : decode b_Bs_damage 10 = .ok (.aload_n 3, 1) := by decide +kernel
theorem d_Bs_damage_11 : decode b_Bs_damage 11 = .ok (.ifnonnull 6, 3) := by decide +kernel
theorem d_Bs_damage_14 : decode b_Bs_damage 14 = .ok (.bipush (-3), 2) := by decide +kernel
theorem d_Bs_damage_16 : decode b_Bs_damage 16 = .ok (.ireturn, 1) := by decide +kernel
theorem d_Bs_damage_17 : decode b_Bs_damage 17 = .ok (.aload_n 3, 1) := by decide +kernel
theorem d_Bs_damage_18 : decode b_Bs_damage 18 = .ok (.iconst 1, 1) := by decide +kernel
theorem d_Bs_damage_19 : decode b_Bs_damage 19 = .ok (.putfield 91, 3) := by decide +kernel
theorem d_Bs_damage_22 : decode b_Bs_damage 22 = .ok (.iconst 0, 1) := by decide +kernel
theorem d_Bs_damage_23 : decode b_Bs_damage 23 = .ok (.ireturn, 1) := by decide +kernel
theorem d_Bs_drop_0 : decode b_Bs_drop 0 = .ok (.aload_n 0, 1) := by decide +kernel
theorem d_Bs_drop_1 : decode b_Bs_drop 1 = .ok (.getfield 31, 3) := by decide +kernel
theorem d_Bs_drop_4 : decode b_Bs_drop 4 = .ok (.ifCond .ne 6, 3) := by decide +kernel
theorem d_Bs_drop_7 : decode b_Bs_drop 7 = .ok (.bipush (-4), 2) := by decide +kernel
theorem d_Bs_drop_9 : decode b_Bs_drop 9 = .ok (.ireturn, 1) := by decide +kernel
theorem d_Bs_drop_10 : decode b_Bs_drop 10 = .ok (.aload_n 0, 1) := by decide +kernel
theorem d_Bs_drop_11 : decode b_Bs_drop 11 = .ok (.invokevirtual 96, 3) := by decide +kernel
theorem d_Bs_drop_14 : decode b_Bs_drop 14 = .ok (.iconst 0, 1) := by decide +kernel
theorem d_Bs_drop_15 : decode b_Bs_drop 15 = .ok (.ireturn, 1) := by decide +kernel
theorem d_Bs_crash_0 : decode b_Bs_crash 0 = .ok (.aload_n 0, 1) := by decide +kernel
theorem d_Bs_crash_1 : decode b_Bs_crash 1 = .ok (.getfield 31, 3) := by decide +kernel
theorem d_Bs_crash_4 : decode b_Bs_crash 4 = .ok (.ifCond .eq 7, 3) := by decide +kernel
theorem d_Bs_crash_7 : decode b_Bs_crash 7 = .ok (.aload_n 0, 1) := by decide +kernel
theorem d_Bs_crash_8 : decode b_Bs_crash 8 = .ok (.invokevirtual 96, 3) := by decide +kernel
theorem d_Bs_crash_11 : decode b_Bs_crash 11 = .ok (.aload_n 0, 1) := by decide +kernel
theorem d_Bs_crash_12 : decode b_Bs_crash 12 = .ok (.getfield 57, 3) := by decide +kernel
theorem d_Bs_crash_15 : decode b_Bs_crash 15 = .ok (.invokevirtual 113, 3) := by decide +kernel
theorem d_Bs_crash_18 : decode b_Bs_crash 18 = .ok (.iconst 0, 1) := by decide +kernel
theorem d_Bs_crash_19 : decode b_Bs_crash 19 = .ok (.ireturn, 1) := by decide +kernel
theorem d_Bs_login_0 : decode b_Bs_login 0 = .ok (.aload_n 0, 1) := by decide +kernel
theorem d_Bs_login_1 : decode b_Bs_login 1 = .ok (.getfield 31, 3) := by decide +kernel
theorem d_Bs_login_4 : decode b_Bs_login 4 = .ok (.ifCond .eq 5, 3) := by decide +kernel
theorem d_Bs_login_7 : decode b_Bs_login 7 = .ok (.iconst (-1), 1) := by decide +kernel
theorem d_Bs_login_8 : decode b_Bs_login 8 = .ok (.ireturn, 1) := by decide +kernel
theorem d_Bs_login_9 : decode b_Bs_login 9 = .ok (.aload_n 0, 1) := by decide +kernel
theorem d_Bs_login_10 : decode b_Bs_login 10 = .ok (.invokevirtual 61, 3) := by decide +kernel
theorem d_Bs_login_13 : decode b_Bs_login 13 = .ok (.aload_n 0, 1) := by decide +kernel
theorem d_Bs_login_14 : decode b_Bs_login 14 = .ok (.iconst 0, 1) := by decide +kernel
theorem d_Bs_login_15 : decode b_Bs_login 15 = .ok (.invokevirtual 116, 3) := by decide +kernel
theorem d_Bs_login_18 : decode b_Bs_login 18 = .ok (.ireturn, 1) := by decide +kernel
theorem d_Bs_requestsIn_0 : decode b_Bs_requestsIn 0 = .ok (.iconst 0, 1) := by decide +kernel
theorem d_Bs_requestsIn_1 : decode b_Bs_requestsIn 1 = .ok (.istore_n 2, 1) := by decide +kernel
theorem d_Bs_requestsIn_2 : decode b_Bs_requestsIn 2 = .ok (.iconst 0, 1) := by decide +kernel
theorem d_Bs_requestsIn_3 : decode b_Bs_requestsIn 3 = .ok (.istore_n 3, 1) := by decide +kernel
theorem d_Bs_requestsIn_4 : decode b_Bs_requestsIn 4 = .ok (.iload_n 3, 1) := by decide +kernel
theorem d_Bs_requestsIn_5 : decode b_Bs_requestsIn 5 = .ok (.aload_n 0, 1) := by decide +kernel
theorem d_Bs_requestsIn_6 : decode b_Bs_requestsIn 6 = .ok (.getfield 15, 3) := by decide +kernel
theorem d_Bs_requestsIn_9 : decode b_Bs_requestsIn 9 = .ok (.if_icmp .ge 25, 3) := by decide +kernel
theorem d_Bs_requestsIn_12 : decode b_Bs_requestsIn 12 = .ok (.aload_n 0, 1) := by decide +kernel
theorem d_Bs_requestsIn_13 : decode b_Bs_requestsIn 13 = .ok (.getfield 11, 3) := by decide +kernel
theorem d_Bs_requestsIn_16 : decode b_Bs_requestsIn 16 = .ok (.iload_n 3, 1) := by decide +kernel
theorem d_Bs_requestsIn_17 : decode b_Bs_requestsIn 17 = .ok (.aaload, 1) := by decide +kernel
theorem d_Bs_requestsIn_18 : decode b_Bs_requestsIn 18 = .ok (.getfield 76, 3) := by decide +kernel
theorem d_Bs_requestsIn_21 : decode b_Bs_requestsIn 21 = .ok (.iload_n 1, 1) := by decide +kernel
theorem d_Bs_requestsIn_22 : decode b_Bs_requestsIn 22 = .ok (.if_icmp .ne 6, 3) := by decide +kernel
theorem d_Bs_requestsIn_25 : decode b_Bs_requestsIn 25 = .ok (.iinc 2 1, 3) := by decide +kernel
theorem d_Bs_requestsIn_28 : decode b_Bs_requestsIn 28 = .ok (.iinc 3 1, 3) := by decide +kernel
theorem d_Bs_requestsIn_31 : decode b_Bs_requestsIn 31 = .ok (.goto (-27), 3) := by decide +kernel
theorem d_Bs_requestsIn_34 : decode b_Bs_requestsIn 34 = .ok (.iload_n 2, 1) := by decide +kernel
theorem d_Bs_requestsIn_35 : decode b_Bs_requestsIn 35 = .ok (.ireturn, 1) := by decide +kernel
theorem d_Bs_flush_0 : decode b_Bs_flush 0 = .ok (.aload_n 0, 1) := by decide +kernel
theorem d_Bs_flush_1 : decode b_Bs_flush 1 = .ok (.getfield 57, 3) := by decide +kernel
theorem d_Bs_flush_4 : decode b_Bs_flush 4 = .ok (.invokevirtual 120, 3) := by decide +kernel
theorem d_Bs_flush_7 : decode b_Bs_flush 7 = .ok (.ireturn, 1) := by decide +kernel
theorem d_Bs_state_0 : decode b_Bs_state 0 = .ok (.aload_n 0, 1) := by decide +kernel
theorem d_Bs_state_1 : decode b_Bs_state 1 = .ok (.iload_n 1, 1) := by decide +kernel
theorem d_Bs_state_2 : decode b_Bs_state 2 = .ok (.invokevirtual 123, 3) := by decide +kernel
theorem d_Bs_state_5 : decode b_Bs_state 5 = .ok (.astore_n 2, 1) := by decide +kernel
theorem d_Bs_state_6 : decode b_Bs_state 6 = .ok (.aload_n 2, 1) := by decide +kernel
theorem d_Bs_state_7 : decode b_Bs_state 7 = .ok (.ifnonnull 7, 3) := by decide +kernel
theorem d_Bs_state_10 : decode b_Bs_state 10 = .ok (.iconst (-1), 1) := by decide +kernel
theorem d_Bs_state_11 : decode b_Bs_state 11 = .ok (.goto 7, 3) := by decide +kernel
theorem d_Bs_state_14 : decode b_Bs_state 14 = .ok (.aload_n 2, 1) := by decide +kernel
theorem d_Bs_state_15 : decode b_Bs_state 15 = .ok (.getfield 76, 3) := by decide +kernel
theorem d_Bs_state_18 : decode b_Bs_state 18 = .ok (.ireturn, 1) := by decide +kernel
theorem d_Bs_result_0 : decode b_Bs_result 0 = .ok (.aload_n 0, 1) := by decide +kernel
theorem d_Bs_result_1 : decode b_Bs_result 1 = .ok (.iload_n 1, 1) := by decide +kernel
theorem d_Bs_result_2 : decode b_Bs_result 2 = .ok (.invokevirtual 123, 3) := by decide +kernel
theorem d_Bs_result_5 : decode b_Bs_result 5 = .ok (.astore_n 3, 1) := by decide +kernel
theorem d_Bs_result_6 : decode b_Bs_result 6 = .ok (.aload_n 3, 1) := by decide +kernel
theorem d_Bs_result_7 : decode b_Bs_result 7 = .ok (.ifnull 19, 3) := by decide +kernel
theorem d_Bs_result_10 : decode b_Bs_result 10 = .ok (.aload_n 3, 1) := by decide +kernel
theorem d_Bs_result_11 : decode b_Bs_result 11 = .ok (.getfield 127, 3) := by decide +kernel
theorem d_Bs_result_14 : decode b_Bs_result 14 = .ok (.iconst 1, 1) := by decide +kernel
theorem d_Bs_result_15 : decode b_Bs_result 15 = .ok (.if_icmp .ne 11, 3) := by decide +kernel
theorem d_Bs_result_18 : decode b_Bs_result 18 = .ok (.aload_n 3, 1) := by decide +kernel
theorem d_Bs_result_19 : decode b_Bs_result 19 = .ok (.getfield 76, 3) := by decide +kernel
theorem d_Bs_result_22 : decode b_Bs_result 22 = .ok (.iconst 2, 1) := by decide +kernel
theorem d_Bs_result_23 : decode b_Bs_result 23 = .ok (.if_icmp .eq 7, 3) := by decide +kernel
theorem d_Bs_result_26 : decode b_Bs_result 26 = .ok (.ldc2_w 128, 3) := by decide +kernel
theorem d_Bs_result_29 : decode b_Bs_result 29 = .ok (.lreturn, 1) := by decide +kernel
theorem d_Bs_result_30 : decode b_Bs_result 30 = .ok (.iload_n 2, 1) := by decide +kernel
theorem d_Bs_result_31 : decode b_Bs_result 31 = .ok (.ifCond .lt 11, 3) := by decide +kernel
theorem d_Bs_result_34 : decode b_Bs_result 34 = .ok (.iload_n 2, 1) := by decide +kernel
theorem d_Bs_result_35 : decode b_Bs_result 35 = .ok (.aload_n 3, 1) := by decide +kernel
theorem d_Bs_result_36 : decode b_Bs_result 36 = .ok (.getfield 130, 3) := by decide +kernel
theorem d_Bs_result_39 : decode b_Bs_result 39 = .ok (.if_icmp .lt 7, 3) := by decide +kernel
theorem d_Bs_result_42 : decode b_Bs_result 42 = .ok (.ldc2_w 128, 3) := by decide +kernel
theorem d_Bs_result_45 : decode b_Bs_result 45 = .ok (.lreturn, 1) := by decide +kernel
theorem d_Bs_result_46 : decode b_Bs_result 46 = .ok (.aload_n 3, 1) := by decide +kernel
theorem d_Bs_result_47 : decode b_Bs_result 47 = .ok (.getfield 133, 3) := by decide +kernel
theorem d_Bs_result_50 : decode b_Bs_result 50 = .ok (.iload_n 2, 1) := by decide +kernel
theorem d_Bs_result_51 : decode b_Bs_result 51 = .ok (.iaload, 1) := by decide +kernel
theorem d_Bs_result_52 : decode b_Bs_result 52 = .ok (.i2l, 1) := by decide +kernel
theorem d_Bs_result_53 : decode b_Bs_result 53 = .ok (.lreturn, 1) := by decide +kernel
theorem d_Bs_present_0 : decode b_Bs_present 0 = .ok (.iload_n 1, 1) := by decide +kernel
theorem d_Bs_present_1 : decode b_Bs_present 1 = .ok (.invokestatic 137, 3) := by decide +kernel
theorem d_Bs_present_4 : decode b_Bs_present 4 = .ok (.ifCond .eq 15, 3) := by decide +kernel
theorem d_Bs_present_7 : decode b_Bs_present 7 = .ok (.aload_n 0, 1) := by decide +kernel
theorem d_Bs_present_8 : decode b_Bs_present 8 = .ok (.getfield 57, 3) := by decide +kernel
theorem d_Bs_present_11 : decode b_Bs_present 11 = .ok (.iload_n 1, 1) := by decide +kernel
theorem d_Bs_present_12 : decode b_Bs_present 12 = .ok (.invokevirtual 141, 3) := by decide +kernel
theorem d_Bs_present_15 : decode b_Bs_present 15 = .ok (.i2l, 1) := by decide +kernel
theorem d_Bs_present_16 : decode b_Bs_present 16 = .ok (.goto 6, 3) := by decide +kernel
theorem d_Bs_present_19 : decode b_Bs_present 19 = .ok (.ldc2_w 128, 3) := by decide +kernel
theorem d_Bs_present_22 : decode b_Bs_present 22 = .ok (.lreturn, 1) := by decide +kernel
theorem d_Bs_disk_0 : decode b_Bs_disk 0 = .ok (.iload_n 1, 1) := by decide +kernel
theorem d_Bs_disk_1 : decode b_Bs_disk 1 = .ok (.invokestatic 137, 3) := by decide +kernel
theorem d_Bs_disk_4 : decode b_Bs_disk 4 = .ok (.ifCond .eq 16, 3) := by decide +kernel
theorem d_Bs_disk_7 : decode b_Bs_disk 7 = .ok (.aload_n 0, 1) := by decide +kernel
theorem d_Bs_disk_8 : decode b_Bs_disk 8 = .ok (.getfield 57, 3) := by decide +kernel
theorem d_Bs_disk_11 : decode b_Bs_disk 11 = .ok (.getfield 144, 3) := by decide +kernel
theorem d_Bs_disk_14 : decode b_Bs_disk 14 = .ok (.iload_n 1, 1) := by decide +kernel
theorem d_Bs_disk_15 : decode b_Bs_disk 15 = .ok (.iaload, 1) := by decide +kernel
theorem d_Bs_disk_16 : decode b_Bs_disk 16 = .ok (.i2l, 1) := by decide +kernel
theorem d_Bs_disk_17 : decode b_Bs_disk 17 = .ok (.goto 6, 3) := by decide +kernel
theorem d_Bs_disk_20 : decode b_Bs_disk 20 = .ok (.ldc2_w 128, 3) := by decide +kernel
theorem d_Bs_disk_23 : decode b_Bs_disk 23 = .ok (.lreturn, 1) := by decide +kernel
theorem d_Bs_cached_0 : decode b_Bs_cached 0 = .ok (.aload_n 0, 1) := by decide +kernel
theorem d_Bs_cached_1 : decode b_Bs_cached 1 = .ok (.getfield 57, 3) := by decide +kernel
theorem d_Bs_cached_4 : decode b_Bs_cached 4 = .ok (.iload_n 1, 1) := by decide +kernel
theorem d_Bs_cached_5 : decode b_Bs_cached 5 = .ok (.invokevirtual 147, 3) := by decide +kernel
theorem d_Bs_cached_8 : decode b_Bs_cached 8 = .ok (.ireturn, 1) := by decide +kernel
theorem d_Bs_message_0 : decode b_Bs_message 0 = .ok (.aload_n 0, 1) := by decide +kernel
theorem d_Bs_message_1 : decode b_Bs_message 1 = .ok (.iload_n 1, 1) := by decide +kernel
theorem d_Bs_message_2 : decode b_Bs_message 2 = .ok (.invokevirtual 83, 3) := by decide +kernel
theorem d_Bs_message_5 : decode b_Bs_message 5 = .ok (.iload_n 2, 1) := by decide +kernel
theorem d_Bs_message_6 : decode b_Bs_message 6 = .ok (.invokevirtual 109, 3) := by decide +kernel
theorem d_Bs_message_9 : decode b_Bs_message 9 = .ok (.astore 4, 2) := by decide +kernel
theorem d_Bs_message_11 : decode b_Bs_message 11 = .ok (.aload 4, 2) := by decide +kernel
theorem d_Bs_message_13 : decode b_Bs_message 13 = .ok (.ifnonnull 5, 3) := by decide +kernel
theorem d_Bs_message_16 : decode b_Bs_message 16 = .ok (.iconst (-1), 1) := by decide +kernel
theorem d_Bs_message_17 : decode b_Bs_message 17 = .ok (.ireturn, 1) := by decide +kernel
theorem d_Bs_message_18 : decode b_Bs_message 18 = .ok (.iload_n 3, 1) := by decide +kernel
theorem d_Bs_message_19 : decode b_Bs_message 19 = .ok (.tableswitch 71 0 4 #[33, 39, 45, 51, 57], 33) := by decide +kernel
theorem d_Bs_message_52 : decode b_Bs_message 52 = .ok (.aload 4, 2) := by decide +kernel
theorem d_Bs_message_54 : decode b_Bs_message 54 = .ok (.getfield 150, 3) := by decide +kernel
theorem d_Bs_message_57 : decode b_Bs_message 57 = .ok (.ireturn, 1) := by decide +kernel
theorem d_Bs_message_58 : decode b_Bs_message 58 = .ok (.aload 4, 2) := by decide +kernel
theorem d_Bs_message_60 : decode b_Bs_message 60 = .ok (.getfield 106, 3) := by decide +kernel
theorem d_Bs_message_63 : decode b_Bs_message 63 = .ok (.ireturn, 1) := by decide +kernel
theorem d_Bs_message_64 : decode b_Bs_message 64 = .ok (.aload 4, 2) := by decide +kernel
theorem d_Bs_message_66 : decode b_Bs_message 66 = .ok (.getfield 153, 3) := by decide +kernel
theorem d_Bs_message_69 : decode b_Bs_message 69 = .ok (.ireturn, 1) := by decide +kernel
theorem d_Bs_message_70 : decode b_Bs_message 70 = .ok (.aload 4, 2) := by decide +kernel
theorem d_Bs_message_72 : decode b_Bs_message 72 = .ok (.getfield 156, 3) := by decide +kernel
theorem d_Bs_message_75 : decode b_Bs_message 75 = .ok (.ireturn, 1) := by decide +kernel
theorem d_Bs_message_76 : decode b_Bs_message 76 = .ok (.aload 4, 2) := by decide +kernel
theorem d_Bs_message_78 : decode b_Bs_message 78 = .ok (.getfield 91, 3) := by decide +kernel
theorem d_Bs_message_81 : decode b_Bs_message 81 = .ok (.ifCond .eq 7, 3) := by decide +kernel
theorem d_Bs_message_84 : decode b_Bs_message 84 = .ok (.iconst 1, 1) := by decide +kernel
theorem d_Bs_message_85 : decode b_Bs_message 85 = .ok (.goto 4, 3) := by decide +kernel
theorem d_Bs_message_88 : decode b_Bs_message 88 = .ok (.iconst 0, 1) := by decide +kernel
theorem d_Bs_message_89 : decode b_Bs_message 89 = .ok (.ireturn, 1) := by decide +kernel
theorem d_Bs_message_90 : decode b_Bs_message 90 = .ok (.iconst (-1), 1) := by decide +kernel
theorem d_Bs_message_91 : decode b_Bs_message 91 = .ok (.ireturn, 1) := by decide +kernel
theorem d_Bs_waiting_0 : decode b_Bs_waiting 0 = .ok (.aload_n 0, 1) := by decide +kernel
theorem d_Bs_waiting_1 : decode b_Bs_waiting 1 = .ok (.iload_n 1, 1) := by decide +kernel
theorem d_Bs_waiting_2 : decode b_Bs_waiting 2 = .ok (.invokevirtual 83, 3) := by decide +kernel
theorem d_Bs_waiting_5 : decode b_Bs_waiting 5 = .ok (.getfield 159, 3) := by decide +kernel
theorem d_Bs_waiting_8 : decode b_Bs_waiting 8 = .ok (.ireturn, 1) := by decide +kernel
theorem d_Bs_count_0 : decode b_Bs_count 0 = .ok (.iload_n 1, 1) := by decide +kernel
theorem d_Bs_count_1 : decode b_Bs_count 1 = .ok (.tableswitch 102 0 8 #[51, 56, 62, 68, 74, 82, 87, 92, 97], 51) := by decide +kernel
theorem d_Bs_count_52 : decode b_Bs_count 52 = .ok (.aload_n 0, 1) := by decide +kernel
theorem d_Bs_count_53 : decode b_Bs_count 53 = .ok (.getfield 15, 3) := by decide +kernel
theorem d_Bs_count_56 : decode b_Bs_count 56 = .ok (.ireturn, 1) := by decide +kernel
theorem d_Bs_count_57 : decode b_Bs_count 57 = .ok (.aload_n 0, 1) := by decide +kernel
theorem d_Bs_count_58 : decode b_Bs_count 58 = .ok (.iconst 0, 1) := by decide +kernel
theorem d_Bs_count_59 : decode b_Bs_count 59 = .ok (.invokevirtual 116, 3) := by decide +kernel
theorem d_Bs_count_62 : decode b_Bs_count 62 = .ok (.ireturn, 1) := by decide +kernel
theorem d_Bs_count_63 : decode b_Bs_count 63 = .ok (.aload_n 0, 1) := by decide +kernel
theorem d_Bs_count_64 : decode b_Bs_count 64 = .ok (.iconst 1, 1) := by decide +kernel
theorem d_Bs_count_65 : decode b_Bs_count 65 = .ok (.invokevirtual 116, 3) := by decide +kernel
theorem d_Bs_count_68 : decode b_Bs_count 68 = .ok (.ireturn, 1) := by decide +kernel
theorem d_Bs_count_69 : decode b_Bs_count 69 = .ok (.aload_n 0, 1) := by decide +kernel
theorem d_Bs_count_70 : decode b_Bs_count 70 = .ok (.iconst 2, 1) := by decide +kernel
theorem d_Bs_count_71 : decode b_Bs_count 71 = .ok (.invokevirtual 116, 3) := by decide +kernel
theorem d_Bs_count_74 : decode b_Bs_count 74 = .ok (.ireturn, 1) := by decide +kernel
theorem d_Bs_count_75 : decode b_Bs_count 75 = .ok (.aload_n 0, 1) := by decide +kernel
theorem d_Bs_count_76 : decode b_Bs_count 76 = .ok (.getfield 57, 3) := by decide +kernel
theorem d_Bs_count_79 : decode b_Bs_count 79 = .ok (.getfield 162, 3) := by decide +kernel
theorem d_Bs_count_82 : decode b_Bs_count 82 = .ok (.ireturn, 1) := by decide +kernel
theorem d_Bs_count_83 : decode b_Bs_count 83 = .ok (.aload_n 0, 1) := by decide +kernel
theorem d_Bs_count_84 : decode b_Bs_count 84 = .ok (.getfield 38, 3) := by decide +kernel
theorem d_Bs_count_87 : decode b_Bs_count 87 = .ok (.ireturn, 1) := by decide +kernel
theorem d_Bs_count_88 : decode b_Bs_count 88 = .ok (.aload_n 0, 1) := by decide +kernel
theorem d_Bs_count_89 : decode b_Bs_count 89 = .ok (.getfield 41, 3) := by decide +kernel
theorem d_Bs_count_92 : decode b_Bs_count 92 = .ok (.ireturn, 1) := by decide +kernel
theorem d_Bs_count_93 : decode b_Bs_count 93 = .ok (.aload_n 0, 1) := by decide +kernel
theorem d_Bs_count_94 : decode b_Bs_count 94 = .ok (.getfield 44, 3) := by decide +kernel
theorem d_Bs_count_97 : decode b_Bs_count 97 = .ok (.ireturn, 1) := by decide +kernel
theorem d_Bs_count_98 : decode b_Bs_count 98 = .ok (.aload_n 0, 1) := by decide +kernel
theorem d_Bs_count_99 : decode b_Bs_count 99 = .ok (.getfield 35, 3) := by decide +kernel
theorem d_Bs_count_102 : decode b_Bs_count 102 = .ok (.ireturn, 1) := by decide +kernel
theorem d_Bs_count_103 : decode b_Bs_count 103 = .ok (.iconst (-1), 1) := by decide +kernel
theorem d_Bs_count_104 : decode b_Bs_count 104 = .ok (.ireturn, 1) := by decide +kernel
