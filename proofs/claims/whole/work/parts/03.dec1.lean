theorem d_Ar_fill_0 : decode b_Ar_fill 0 = .ok (.iconst 0, 1) := by decide +kernel
theorem d_Ar_fill_1 : decode b_Ar_fill 1 = .ok (.istore_n 2, 1) := by decide +kernel
theorem d_Ar_fill_2 : decode b_Ar_fill 2 = .ok (.aload_n 0, 1) := by decide +kernel
theorem d_Ar_fill_3 : decode b_Ar_fill 3 = .ok (.arraylength, 1) := by decide +kernel
theorem d_Ar_fill_4 : decode b_Ar_fill 4 = .ok (.istore_n 3, 1) := by decide +kernel
theorem d_Ar_fill_5 : decode b_Ar_fill 5 = .ok (.iload_n 2, 1) := by decide +kernel
theorem d_Ar_fill_6 : decode b_Ar_fill 6 = .ok (.iload_n 3, 1) := by decide +kernel
theorem d_Ar_fill_7 : decode b_Ar_fill 7 = .ok (.if_icmp .ge 13, 3) := by decide +kernel
theorem d_Ar_fill_10 : decode b_Ar_fill 10 = .ok (.aload_n 0, 1) := by decide +kernel
theorem d_Ar_fill_11 : decode b_Ar_fill 11 = .ok (.iload_n 2, 1) := by decide +kernel
theorem d_Ar_fill_12 : decode b_Ar_fill 12 = .ok (.iload_n 1, 1) := by decide +kernel
theorem d_Ar_fill_13 : decode b_Ar_fill 13 = .ok (.iastore, 1) := by decide +kernel
theorem d_Ar_fill_14 : decode b_Ar_fill 14 = .ok (.iinc 2 1, 3) := by decide +kernel
theorem d_Ar_fill_17 : decode b_Ar_fill 17 = .ok (.goto (-12), 3) := by decide +kernel
theorem d_Ar_fill_20 : decode b_Ar_fill 20 = .ok (.return_, 1) := by decide +kernel
theorem d_Ln_init_0 : decode b_Ln_init 0 = .ok (.aload_n 0, 1) := by decide +kernel
theorem d_Ln_init_1 : decode b_Ln_init 1 = .ok (.invokespecial 1, 3) := by decide +kernel
theorem d_Ln_init_4 : decode b_Ln_init 4 = .ok (.aload_n 0, 1) := by decide +kernel
theorem d_Ln_init_5 : decode b_Ln_init 5 = .ok (.iconst 0, 1) := by decide +kernel
theorem d_Ln_init_6 : decode b_Ln_init 6 = .ok (.putfield 7, 3) := by decide +kernel
theorem d_Ln_init_9 : decode b_Ln_init 9 = .ok (.aload_n 0, 1) := by decide +kernel
theorem d_Ln_init_10 : decode b_Ln_init 10 = .ok (.iload_n 1, 1) := by decide +kernel
theorem d_Ln_init_11 : decode b_Ln_init 11 = .ok (.anewarray 13, 3) := by decide +kernel
theorem d_Ln_init_14 : decode b_Ln_init 14 = .ok (.putfield 15, 3) := by decide +kernel
theorem d_Ln_init_17 : decode b_Ln_init 17 = .ok (.iconst 0, 1) := by decide +kernel
theorem d_Ln_init_18 : decode b_Ln_init 18 = .ok (.istore_n 2, 1) := by decide +kernel
theorem d_Ln_init_19 : decode b_Ln_init 19 = .ok (.iload_n 2, 1) := by decide +kernel
theorem d_Ln_init_20 : decode b_Ln_init 20 = .ok (.iload_n 1, 1) := by decide +kernel
theorem d_Ln_init_21 : decode b_Ln_init 21 = .ok (.if_icmp .ge 22, 3) := by decide +kernel
theorem d_Ln_init_24 : decode b_Ln_init 24 = .ok (.aload_n 0, 1) := by decide +kernel
theorem d_Ln_init_25 : decode b_Ln_init 25 = .ok (.getfield 15, 3) := by decide +kernel
theorem d_Ln_init_28 : decode b_Ln_init 28 = .ok (.iload_n 2, 1) := by decide +kernel
theorem d_Ln_init_29 : decode b_Ln_init 29 = .ok (.new 13, 3) := by decide +kernel
theorem d_Ln_init_32 : decode b_Ln_init 32 = .ok (.dup, 1) := by decide +kernel
theorem d_Ln_init_33 : decode b_Ln_init 33 = .ok (.invokespecial 19, 3) := by decide +kernel
theorem d_Ln_init_36 : decode b_Ln_init 36 = .ok (.aastore, 1) := by decide +kernel
theorem d_Ln_init_37 : decode b_Ln_init 37 = .ok (.iinc 2 1, 3) := by decide +kernel
theorem d_Ln_init_40 : decode b_Ln_init 40 = .ok (.goto (-21), 3) := by decide +kernel
theorem d_Ln_init_43 : decode b_Ln_init 43 = .ok (.return_, 1) := by decide +kernel
theorem d_Ln_putNewest_0 : decode b_Ln_putNewest 0 = .ok (.aload_n 0, 1) := by decide +kernel
theorem d_Ln_putNewest_1 : decode b_Ln_putNewest 1 = .ok (.getfield 7, 3) := by decide +kernel
theorem d_Ln_putNewest_4 : decode b_Ln_putNewest 4 = .ok (.aload_n 0, 1) := by decide +kernel
theorem d_Ln_putNewest_5 : decode b_Ln_putNewest 5 = .ok (.getfield 15, 3) := by decide +kernel
theorem d_Ln_putNewest_8 : decode b_Ln_putNewest 8 = .ok (.arraylength, 1) := by decide +kernel
theorem d_Ln_putNewest_9 : decode b_Ln_putNewest 9 = .ok (.if_icmp .lt 5, 3) := by decide +kernel
theorem d_Ln_putNewest_12 : decode b_Ln_putNewest 12 = .ok (.aconst_null, 1) := by decide +kernel
theorem d_Ln_putNewest_13 : decode b_Ln_putNewest 13 = .ok (.areturn, 1) := by decide +kernel
theorem d_Ln_putNewest_14 : decode b_Ln_putNewest 14 = .ok (.aload_n 0, 1) := by decide +kernel
theorem d_Ln_putNewest_15 : decode b_Ln_putNewest 15 = .ok (.dup, 1) := by decide +kernel
theorem d_Ln_putNewest_16 : decode b_Ln_putNewest 16 = .ok (.getfield 7, 3) := by decide +kernel
theorem d_Ln_putNewest_19 : decode b_Ln_putNewest 19 = .ok (.iconst 1, 1) := by decide +kernel
theorem d_Ln_putNewest_20 : decode b_Ln_putNewest 20 = .ok (.iadd, 1) := by decide +kernel
theorem d_Ln_putNewest_21 : decode b_Ln_putNewest 21 = .ok (.putfield 7, 3) := by decide +kernel
theorem d_Ln_putNewest_24 : decode b_Ln_putNewest 24 = .ok (.aload_n 0, 1) := by decide +kernel
theorem d_Ln_putNewest_25 : decode b_Ln_putNewest 25 = .ok (.getfield 15, 3) := by decide +kernel
theorem d_Ln_putNewest_28 : decode b_Ln_putNewest 28 = .ok (.aload_n 0, 1) := by decide +kernel
theorem d_Ln_putNewest_29 : decode b_Ln_putNewest 29 = .ok (.getfield 7, 3) := by decide +kernel
theorem d_Ln_putNewest_32 : decode b_Ln_putNewest 32 = .ok (.iconst 1, 1) := by decide +kernel
theorem d_Ln_putNewest_33 : decode b_Ln_putNewest 33 = .ok (.isub, 1) := by decide +kernel
theorem d_Ln_putNewest_34 : decode b_Ln_putNewest 34 = .ok (.aaload, 1) := by decide +kernel
theorem d_Ln_putNewest_35 : decode b_Ln_putNewest 35 = .ok (.areturn, 1) := by decide +kernel
theorem d_Ln_takeOldest_0 : decode b_Ln_takeOldest 0 = .ok (.aload_n 0, 1) := by decide +kernel
theorem d_Ln_takeOldest_1 : decode b_Ln_takeOldest 1 = .ok (.getfield 7, 3) := by decide +kernel
theorem d_Ln_takeOldest_4 : decode b_Ln_takeOldest 4 = .ok (.ifCond .ne 5, 3) := by decide +kernel
theorem d_Ln_takeOldest_7 : decode b_Ln_takeOldest 7 = .ok (.aconst_null, 1) := by decide +kernel
theorem d_Ln_takeOldest_8 : decode b_Ln_takeOldest 8 = .ok (.areturn, 1) := by decide +kernel
theorem d_Ln_takeOldest_9 : decode b_Ln_takeOldest 9 = .ok (.aload_n 0, 1) := by decide +kernel
theorem d_Ln_takeOldest_10 : decode b_Ln_takeOldest 10 = .ok (.getfield 15, 3) := by decide +kernel
theorem d_Ln_takeOldest_13 : decode b_Ln_takeOldest 13 = .ok (.iconst 0, 1) := by decide +kernel
theorem d_Ln_takeOldest_14 : decode b_Ln_takeOldest 14 = .ok (.aaload, 1) := by decide +kernel
theorem d_Ln_takeOldest_15 : decode b_Ln_takeOldest 15 = .ok (.astore_n 1, 1) := by decide +kernel
theorem d_Ln_takeOldest_16 : decode b_Ln_takeOldest 16 = .ok (.aload_n 0, 1) := by decide +kernel
theorem d_Ln_takeOldest_17 : decode b_Ln_takeOldest 17 = .ok (.dup, 1) := by decide +kernel
theorem d_Ln_takeOldest_18 : decode b_Ln_takeOldest 18 = .ok (.getfield 7, 3) := by decide +kernel
theorem d_Ln_takeOldest_21 : decode b_Ln_takeOldest 21 = .ok (.iconst 1, 1) := by decide +kernel
theorem d_Ln_takeOldest_22 : decode b_Ln_takeOldest 22 = .ok (.isub, 1) := by decide +kernel
theorem d_Ln_takeOldest_23 : decode b_Ln_takeOldest 23 = .ok (.putfield 7, 3) := by decide +kernel
theorem d_Ln_takeOldest_26 : decode b_Ln_takeOldest 26 = .ok (.iconst 0, 1) := by decide +kernel
theorem d_Ln_takeOldest_27 : decode b_Ln_takeOldest 27 = .ok (.istore_n 2, 1) := by decide +kernel
theorem d_Ln_takeOldest_28 : decode b_Ln_takeOldest 28 = .ok (.iload_n 2, 1) := by decide +kernel
theorem d_Ln_takeOldest_29 : decode b_Ln_takeOldest 29 = .ok (.aload_n 0, 1) := by decide +kernel
theorem d_Ln_takeOldest_30 : decode b_Ln_takeOldest 30 = .ok (.getfield 7, 3) := by decide +kernel
theorem d_Ln_takeOldest_33 : decode b_Ln_takeOldest 33 = .ok (.if_icmp .ge 23, 3) := by decide +kernel
theorem d_Ln_takeOldest_36 : decode b_Ln_takeOldest 36 = .ok (.aload_n 0, 1) := by decide +kernel
theorem d_Ln_takeOldest_37 : decode b_Ln_takeOldest 37 = .ok (.getfield 15, 3) := by decide +kernel
theorem d_Ln_takeOldest_40 : decode b_Ln_takeOldest 40 = .ok (.iload_n 2, 1) := by decide +kernel
theorem d_Ln_takeOldest_41 : decode b_Ln_takeOldest 41 = .ok (.aload_n 0, 1) := by decide +kernel
theorem d_Ln_takeOldest_42 : decode b_Ln_takeOldest 42 = .ok (.getfield 15, 3) := by decide +kernel
theorem d_Ln_takeOldest_45 : decode b_Ln_takeOldest 45 = .ok (.iload_n 2, 1) := by decide +kernel
theorem d_Ln_takeOldest_46 : decode b_Ln_takeOldest 46 = .ok (.iconst 1, 1) := by decide +kernel
theorem d_Ln_takeOldest_47 : decode b_Ln_takeOldest 47 = .ok (.iadd, 1) := by decide +kernel
theorem d_Ln_takeOldest_48 : decode b_Ln_takeOldest 48 = .ok (.aaload, 1) := by decide +kernel
theorem d_Ln_takeOldest_49 : decode b_Ln_takeOldest 49 = .ok (.aastore, 1) := by decide +kernel
theorem d_Ln_takeOldest_50 : decode b_Ln_takeOldest 50 = .ok (.iinc 2 1, 3) := by decide +kernel
theorem d_Ln_takeOldest_53 : decode b_Ln_takeOldest 53 = .ok (.goto (-25), 3) := by decide +kernel
theorem d_Ln_takeOldest_56 : decode b_Ln_takeOldest 56 = .ok (.aload_n 0, 1) := by decide +kernel
theorem d_Ln_takeOldest_57 : decode b_Ln_takeOldest 57 = .ok (.getfield 15, 3) := by decide +kernel
theorem d_Ln_takeOldest_60 : decode b_Ln_takeOldest 60 = .ok (.aload_n 0, 1) := by decide +kernel
theorem d_Ln_takeOldest_61 : decode b_Ln_takeOldest 61 = .ok (.getfield 7, 3) := by decide +kernel
theorem d_Ln_takeOldest_64 : decode b_Ln_takeOldest 64 = .ok (.aload_n 1, 1) := by decide +kernel
theorem d_Ln_takeOldest_65 : decode b_Ln_takeOldest 65 = .ok (.aastore, 1) := by decide +kernel
theorem d_Ln_takeOldest_66 : decode b_Ln_takeOldest 66 = .ok (.aload_n 1, 1) := by decide +kernel
theorem d_Ln_takeOldest_67 : decode b_Ln_takeOldest 67 = .ok (.areturn, 1) := by decide +kernel
theorem d_Ln_clear_0 : decode b_Ln_clear 0 = .ok (.aload_n 0, 1) := by decide +kernel
theorem d_Ln_clear_1 : decode b_Ln_clear 1 = .ok (.iconst 0, 1) := by decide +kernel
theorem d_Ln_clear_2 : decode b_Ln_clear 2 = .ok (.putfield 7, 3) := by decide +kernel
theorem d_Ln_clear_5 : decode b_Ln_clear 5 = .ok (.return_, 1) := by decide +kernel
theorem d_Ln_messageAt_0 : decode b_Ln_messageAt 0 = .ok (.iload_n 1, 1) := by decide +kernel
theorem d_Ln_messageAt_1 : decode b_Ln_messageAt 1 = .ok (.ifCond .lt 20, 3) := by decide +kernel
theorem d_Ln_messageAt_4 : decode b_Ln_messageAt 4 = .ok (.iload_n 1, 1) := by decide +kernel
theorem d_Ln_messageAt_5 : decode b_Ln_messageAt 5 = .ok (.aload_n 0, 1) := by decide +kernel
theorem d_Ln_messageAt_6 : decode b_Ln_messageAt 6 = .ok (.getfield 7, 3) := by decide +kernel
theorem d_Ln_messageAt_9 : decode b_Ln_messageAt 9 = .ok (.if_icmp .ge 12, 3) := by decide +kernel
theorem d_Ln_messageAt_12 : decode b_Ln_messageAt 12 = .ok (.aload_n 0, 1) := by decide +kernel
theorem d_Ln_messageAt_13 : decode b_Ln_messageAt 13 = .ok (.getfield 15, 3) := by decide +kernel
theorem d_Ln_messageAt_16 : decode b_Ln_messageAt 16 = .ok (.iload_n 1, 1) := by decide +kernel
theorem d_Ln_messageAt_17 : decode b_Ln_messageAt 17 = .ok (.aaload, 1) := by decide +kernel
theorem d_Ln_messageAt_18 : decode b_Ln_messageAt 18 = .ok (.goto 4, 3) := by decide +kernel
theorem d_Ln_messageAt_21 : decode b_Ln_messageAt 21 = .ok (.aconst_null, 1) := by decide +kernel
theorem d_Ln_messageAt_22 : decode b_Ln_messageAt 22 = .ok (.areturn, 1) := by decide +kernel
theorem d_Ms_init_0 : decode b_Ms_init 0 = .ok (.aload_n 0, 1) := by decide +kernel
theorem d_Ms_init_1 : decode b_Ms_init 1 = .ok (.invokespecial 3, 3) := by decide +kernel
theorem d_Ms_init_4 : decode b_Ms_init 4 = .ok (.aload_n 0, 1) := by decide +kernel
theorem d_Ms_init_5 : decode b_Ms_init 5 = .ok (.iconst 0, 1) := by decide +kernel
theorem d_Ms_init_6 : decode b_Ms_init 6 = .ok (.putfield 9, 3) := by decide +kernel
theorem d_Ms_init_9 : decode b_Ms_init 9 = .ok (.aload_n 0, 1) := by decide +kernel
theorem d_Ms_init_10 : decode b_Ms_init 10 = .ok (.iconst 0, 1) := by decide +kernel
theorem d_Ms_init_11 : decode b_Ms_init 11 = .ok (.putfield 15, 3) := by decide +kernel
theorem d_Ms_init_14 : decode b_Ms_init 14 = .ok (.aload_n 0, 1) := by decide +kernel
theorem d_Ms_init_15 : decode b_Ms_init 15 = .ok (.iconst 0, 1) := by decide +kernel
theorem d_Ms_init_16 : decode b_Ms_init 16 = .ok (.putfield 18, 3) := by decide +kernel
theorem d_Ms_init_19 : decode b_Ms_init 19 = .ok (.aload_n 0, 1) := by decide +kernel
theorem d_Ms_init_20 : decode b_Ms_init 20 = .ok (.iconst 0, 1) := by decide +kernel
theorem d_Ms_init_21 : decode b_Ms_init 21 = .ok (.putfield 21, 3) := by decide +kernel
theorem d_Ms_init_24 : decode b_Ms_init 24 = .ok (.aload_n 0, 1) := by decide +kernel
theorem d_Ms_init_25 : decode b_Ms_init 25 = .ok (.iconst 0, 1) := by decide +kernel
theorem d_Ms_init_26 : decode b_Ms_init 26 = .ok (.putfield 24, 3) := by decide +kernel
theorem d_Ms_init_29 : decode b_Ms_init 29 = .ok (.aload_n 0, 1) := by decide +kernel
theorem d_Ms_init_30 : decode b_Ms_init 30 = .ok (.iconst 0, 1) := by decide +kernel
theorem d_Ms_init_31 : decode b_Ms_init 31 = .ok (.putfield 27, 3) := by decide +kernel
theorem d_Ms_init_34 : decode b_Ms_init 34 = .ok (.return_, 1) := by decide +kernel
theorem d_Ms_fill_0 : decode b_Ms_fill 0 = .ok (.aload_n 0, 1) := by decide +kernel
theorem d_Ms_fill_1 : decode b_Ms_fill 1 = .ok (.iload_n 1, 1) := by decide +kernel
theorem d_Ms_fill_2 : decode b_Ms_fill 2 = .ok (.putfield 9, 3) := by decide +kernel
theorem d_Ms_fill_5 : decode b_Ms_fill 5 = .ok (.aload_n 0, 1) := by decide +kernel
theorem d_Ms_fill_6 : decode b_Ms_fill 6 = .ok (.iload_n 2, 1) := by decide +kernel
theorem d_Ms_fill_7 : decode b_Ms_fill 7 = .ok (.putfield 15, 3) := by decide +kernel
theorem d_Ms_fill_10 : decode b_Ms_fill 10 = .ok (.aload_n 0, 1) := by decide +kernel
theorem d_Ms_fill_11 : decode b_Ms_fill 11 = .ok (.iload_n 3, 1) := by decide +kernel
theorem d_Ms_fill_12 : decode b_Ms_fill 12 = .ok (.putfield 18, 3) := by decide +kernel
theorem d_Ms_fill_15 : decode b_Ms_fill 15 = .ok (.aload_n 0, 1) := by decide +kernel
theorem d_Ms_fill_16 : decode b_Ms_fill 16 = .ok (.iload 4, 2) := by decide +kernel
theorem d_Ms_fill_18 : decode b_Ms_fill 18 = .ok (.putfield 21, 3) := by decide +kernel
theorem d_Ms_fill_21 : decode b_Ms_fill 21 = .ok (.aload_n 0, 1) := by decide +kernel
theorem d_Ms_fill_22 : decode b_Ms_fill 22 = .ok (.iload 5, 2) := by decide +kernel
theorem d_Ms_fill_24 : decode b_Ms_fill 24 = .ok (.putfield 24, 3) := by decide +kernel
theorem d_Ms_fill_27 : decode b_Ms_fill 27 = .ok (.aload_n 0, 1) := by decide +kernel
theorem d_Ms_fill_28 : decode b_Ms_fill 28 = .ok (.iconst 0, 1) := by decide +kernel
theorem d_Ms_fill_29 : decode b_Ms_fill 29 = .ok (.putfield 27, 3) := by decide +kernel
theorem d_Ms_fill_32 : decode b_Ms_fill 32 = .ok (.return_, 1) := by decide +kernel
theorem d_Rq_init_0 : decode b_Rq_init 0 = .ok (.aload_n 0, 1) := by decide +kernel
theorem d_Rq_init_1 : decode b_Rq_init 1 = .ok (.invokespecial 3, 3) := by decide +kernel
theorem d_Rq_init_4 : decode b_Rq_init 4 = .ok (.aload_n 0, 1) := by decide +kernel
theorem d_Rq_init_5 : decode b_Rq_init 5 = .ok (.iconst 0, 1) := by decide +kernel
theorem d_Rq_init_6 : decode b_Rq_init 6 = .ok (.putfield 9, 3) := by decide +kernel
theorem d_Rq_init_9 : decode b_Rq_init 9 = .ok (.aload_n 0, 1) := by decide +kernel
theorem d_Rq_init_10 : decode b_Rq_init 10 = .ok (.iload_n 1, 1) := by decide +kernel
theorem d_Rq_init_11 : decode b_Rq_init 11 = .ok (.putfield 15, 3) := by decide +kernel
theorem d_Rq_init_14 : decode b_Rq_init 14 = .ok (.aload_n 0, 1) := by decide +kernel
theorem d_Rq_init_15 : decode b_Rq_init 15 = .ok (.iload_n 2, 1) := by decide +kernel
theorem d_Rq_init_16 : decode b_Rq_init 16 = .ok (.putfield 18, 3) := by decide +kernel
theorem d_Rq_init_19 : decode b_Rq_init 19 = .ok (.aload_n 0, 1) := by decide +kernel
theorem d_Rq_init_20 : decode b_Rq_init 20 = .ok (.iload_n 3, 1) := by decide +kernel
theorem d_Rq_init_21 : decode b_Rq_init 21 = .ok (.putfield 21, 3) := by decide +kernel
theorem d_Rq_init_24 : decode b_Rq_init 24 = .ok (.aload_n 0, 1) := by decide +kernel
theorem d_Rq_init_25 : decode b_Rq_init 25 = .ok (.iload 4, 2) := by decide +kernel
theorem d_Rq_init_27 : decode b_Rq_init 27 = .ok (.putfield 24, 3) := by decide +kernel
theorem d_Rq_init_30 : decode b_Rq_init 30 = .ok (.aload_n 0, 1) := by decide +kernel
theorem d_Rq_init_31 : decode b_Rq_init 31 = .ok (.iload_n 1, 1) := by decide +kernel
theorem d_Rq_init_32 : decode b_Rq_init 32 = .ok (.iconst 1, 1) := by decide +kernel
theorem d_Rq_init_33 : decode b_Rq_init 33 = .ok (.if_icmp .ne 7, 3) := by decide +kernel
theorem d_Rq_init_36 : decode b_Rq_init 36 = .ok (.iload_n 3, 1) := by decide +kernel
theorem d_Rq_init_37 : decode b_Rq_init 37 = .ok (.goto 4, 3) := by decide +kernel
theorem d_Rq_init_40 : decode b_Rq_init 40 = .ok (.iconst 0, 1) := by decide +kernel
theorem d_Rq_init_41 : decode b_Rq_init 41 = .ok (.newarray .int, 2) := by decide +kernel
theorem d_Rq_init_43 : decode b_Rq_init 43 = .ok (.putfield 27, 3) := by decide +kernel
theorem d_Rq_init_46 : decode b_Rq_init 46 = .ok (.return_, 1) := by decide +kernel
theorem d_Rq_reopen_0 : decode b_Rq_reopen 0 = .ok (.aload_n 0, 1) := by decide +kernel
theorem d_Rq_reopen_1 : decode b_Rq_reopen 1 = .ok (.iconst 0, 1) := by decide +kernel
theorem d_Rq_reopen_2 : decode b_Rq_reopen 2 = .ok (.putfield 9, 3) := by decide +kernel
theorem d_Rq_reopen_5 : decode b_Rq_reopen 5 = .ok (.aload_n 0, 1) := by decide +kernel
theorem d_Rq_reopen_6 : decode b_Rq_reopen 6 = .ok (.getfield 27, 3) := by decide +kernel
theorem d_Rq_reopen_9 : decode b_Rq_reopen 9 = .ok (.iconst 0, 1) := by decide +kernel
theorem d_Rq_reopen_10 : decode b_Rq_reopen 10 = .ok (.invokestatic 31, 3) := by decide +kernel
theorem d_Rq_reopen_13 : decode b_Rq_reopen 13 = .ok (.return_, 1) := by decide +kernel
theorem d_Rq_keepResult_0 : decode b_Rq_keepResult 0 = .ok (.iload_n 1, 1) := by decide +kernel
theorem d_Rq_keepResult_1 : decode b_Rq_keepResult 1 = .ok (.ifCond .lt 19, 3) := by decide +kernel
theorem d_Rq_keepResult_4 : decode b_Rq_keepResult 4 = .ok (.iload_n 1, 1) := by decide +kernel
theorem d_Rq_keepResult_5 : decode b_Rq_keepResult 5 = .ok (.aload_n 0, 1) := by decide +kernel
theorem d_Rq_keepResult_6 : decode b_Rq_keepResult 6 = .ok (.getfield 27, 3) := by decide +kernel
theorem d_Rq_keepResult_9 : decode b_Rq_keepResult 9 = .ok (.arraylength, 1) := by decide +kernel
theorem d_Rq_keepResult_10 : decode b_Rq_keepResult 10 = .ok (.if_icmp .ge 10, 3) := by decide +kernel
theorem d_Rq_keepResult_13 : decode b_Rq_keepResult 13 = .ok (.aload_n 0, 1) := by decide +kernel
theorem d_Rq_keepResult_14 : decode b_Rq_keepResult 14 = .ok (.getfield 27, 3) := by decide +kernel
theorem d_Rq_keepResult_17 : decode b_Rq_keepResult 17 = .ok (.iload_n 1, 1) := by decide +kernel
theorem d_Rq_keepResult_18 : decode b_Rq_keepResult 18 = .ok (.iload_n 2, 1) := by decide +kernel
theorem d_Rq_keepResult_19 : decode b_Rq_keepResult 19 = .ok (.iastore, 1) := by decide +kernel
theorem d_Rq_keepResult_20 : decode b_Rq_keepResult 20 = .ok (.return_, 1) := by decide +kernel
theorem d_St_init_0 : decode b_St_init 0 = .ok (.aload_n 0, 1) := by decide +kernel
theorem d_St_init_1 : decode b_St_init 1 = .ok (.invokespecial 3, 3) := by decide +kernel
theorem d_St_init_4 : decode b_St_init 4 = .ok (.aload_n 0, 1) := by decide +kernel
theorem d_St_init_5 : decode b_St_init 5 = .ok (.bipush 16, 2) := by decide +kernel
theorem d_St_init_7 : decode b_St_init 7 = .ok (.newarray .int, 2) := by decide +kernel
theorem d_St_init_9 : decode b_St_init 9 = .ok (.putfield 9, 3) := by decide +kernel
theorem d_St_init_12 : decode b_St_init 12 = .ok (.aload_n 0, 1) := by decide +kernel
theorem d_St_init_13 : decode b_St_init 13 = .ok (.iconst 0, 1) := by decide +kernel
theorem d_St_init_14 : decode b_St_init 14 = .ok (.putfield 15, 3) := by decide +kernel
theorem d_St_init_17 : decode b_St_init 17 = .ok (.aload_n 0, 1) := by decide +kernel
theorem d_St_init_18 : decode b_St_init 18 = .ok (.iload_n 1, 1) := by decide +kernel
theorem d_St_init_19 : decode b_St_init 19 = .ok (.putfield 19, 3) := by decide +kernel
theorem d_St_init_22 : decode b_St_init 22 = .ok (.aload_n 0, 1) := by decide +kernel
theorem d_St_init_23 : decode b_St_init 23 = .ok (.iload_n 1, 1) := by decide +kernel
theorem d_St_init_24 : decode b_St_init 24 = .ok (.iconst 1, 1) := by decide +kernel
theorem d_St_init_25 : decode b_St_init 25 = .ok (.iadd, 1) := by decide +kernel
theorem d_St_init_26 : decode b_St_init 26 = .ok (.newarray .int, 2) := by decide +kernel
theorem d_St_init_28 : decode b_St_init 28 = .ok (.putfield 22, 3) := by decide +kernel
theorem d_St_init_31 : decode b_St_init 31 = .ok (.aload_n 0, 1) := by decide +kernel
theorem d_St_init_32 : decode b_St_init 32 = .ok (.iload_n 1, 1) := by decide +kernel
theorem d_St_init_33 : decode b_St_init 33 = .ok (.iconst 1, 1) := by decide +kernel
theorem d_St_init_34 : decode b_St_init 34 = .ok (.iadd, 1) := by decide +kernel
theorem d_St_init_35 : decode b_St_init 35 = .ok (.newarray .int, 2) := by decide +kernel
theorem d_St_init_37 : decode b_St_init 37 = .ok (.putfield 25, 3) := by decide +kernel
theorem d_St_init_40 : decode b_St_init 40 = .ok (.return_, 1) := by decide +kernel
theorem d_St_put_0 : decode b_St_put 0 = .ok (.aload_n 0, 1) := by decide +kernel
theorem d_St_put_1 : decode b_St_put 1 = .ok (.iload_n 1, 1) := by decide +kernel
theorem d_St_put_2 : decode b_St_put 2 = .ok (.invokevirtual 28, 3) := by decide +kernel
theorem d_St_put_5 : decode b_St_put 5 = .ok (.istore_n 3, 1) := by decide +kernel
theorem d_St_put_6 : decode b_St_put 6 = .ok (.iload_n 3, 1) := by decide +kernel
theorem d_St_put_7 : decode b_St_put 7 = .ok (.bipush (-3), 2) := by decide +kernel
theorem d_St_put_9 : decode b_St_put 9 = .ok (.if_icmp .eq 11, 3) := by decide +kernel
theorem d_St_put_12 : decode b_St_put 12 = .ok (.aload_n 0, 1) := by decide +kernel
theorem d_St_put_13 : decode b_St_put 13 = .ok (.getfield 25, 3) := by decide +kernel
theorem d_St_put_16 : decode b_St_put 16 = .ok (.iload_n 3, 1) := by decide +kernel
theorem d_St_put_17 : decode b_St_put 17 = .ok (.iload_n 2, 1) := by decide +kernel
theorem d_St_put_18 : decode b_St_put 18 = .ok (.iastore, 1) := by decide +kernel
theorem d_St_put_19 : decode b_St_put 19 = .ok (.return_, 1) := by decide +kernel
theorem d_St_put_20 : decode b_St_put 20 = .ok (.aload_n 0, 1) := by decide +kernel
theorem d_St_put_21 : decode b_St_put 21 = .ok (.getfield 22, 3) := by decide +kernel
theorem d_St_put_24 : decode b_St_put 24 = .ok (.aload_n 0, 1) := by decide +kernel
theorem d_St_put_25 : decode b_St_put 25 = .ok (.getfield 15, 3) := by decide +kernel
theorem d_St_put_28 : decode b_St_put 28 = .ok (.iload_n 1, 1) := by decide +kernel
theorem d_St_put_29 : decode b_St_put 29 = .ok (.iastore, 1) := by decide +kernel
theorem d_St_put_30 : decode b_St_put 30 = .ok (.aload_n 0, 1) := by decide +kernel
theorem d_St_put_31 : decode b_St_put 31 = .ok (.getfield 25, 3) := by decide +kernel
theorem d_St_put_34 : decode b_St_put 34 = .ok (.aload_n 0, 1) := by decide +kernel
theorem d_St_put_35 : decode b_St_put 35 = .ok (.getfield 15, 3) := by decide +kernel
theorem d_St_put_38 : decode b_St_put 38 = .ok (.iload_n 2, 1) := by decide +kernel
theorem d_St_put_39 : decode b_St_put 39 = .ok (.iastore, 1) := by decide +kernel
theorem d_St_put_40 : decode b_St_put 40 = .ok (.aload_n 0, 1) := by decide +kernel
theorem d_St_put_41 : decode b_St_put 41 = .ok (.dup, 1) := by decide +kernel
theorem d_St_put_42 : decode b_St_put 42 = .ok (.getfield 15, 3) := by decide +kernel
theorem d_St_put_45 : decode b_St_put 45 = .ok (.iconst 1, 1) := by decide +kernel
theorem d_St_put_46 : decode b_St_put 46 = .ok (.iadd, 1) := by decide +kernel
theorem d_St_put_47 : decode b_St_put 47 = .ok (.putfield 15, 3) := by decide +kernel
theorem d_St_put_50 : decode b_St_put 50 = .ok (.aload_n 0, 1) := by decide +kernel
theorem d_St_put_51 : decode b_St_put 51 = .ok (.getfield 15, 3) := by decide +kernel
theorem d_St_put_54 : decode b_St_put 54 = .ok (.aload_n 0, 1) := by decide +kernel
theorem d_St_put_55 : decode b_St_put 55 = .ok (.getfield 19, 3) := by decide +kernel
theorem d_St_put_58 : decode b_St_put 58 = .ok (.if_icmp .le 8, 3) := by decide +kernel
theorem d_St_put_61 : decode b_St_put 61 = .ok (.aload_n 0, 1) := by decide +kernel
theorem d_St_put_62 : decode b_St_put 62 = .ok (.invokevirtual 32, 3) := by decide +kernel
theorem d_St_put_65 : decode b_St_put 65 = .ok (.pop, 1) := by decide +kernel
theorem d_St_put_66 : decode b_St_put 66 = .ok (.return_, 1) := by decide +kernel
theorem d_St_placeOf_0 : decode b_St_placeOf 0 = .ok (.iconst 0, 1) := by decide +kernel
theorem d_St_placeOf_1 : decode b_St_placeOf 1 = .ok (.istore_n 2, 1) := by decide +kernel
theorem d_St_placeOf_2 : decode b_St_placeOf 2 = .ok (.iload_n 2, 1) := by decide +kernel
theorem d_St_placeOf_3 : decode b_St_placeOf 3 = .ok (.aload_n 0, 1) := by decide +kernel
theorem d_St_placeOf_4 : decode b_St_placeOf 4 = .ok (.getfield 15, 3) := by decide +kernel
theorem d_St_placeOf_7 : decode b_St_placeOf 7 = .ok (.if_icmp .ge 21, 3) := by decide +kernel
theorem d_St_placeOf_10 : decode b_St_placeOf 10 = .ok (.aload_n 0, 1) := by decide +kernel
theorem d_St_placeOf_11 : decode b_St_placeOf 11 = .ok (.getfield 22, 3) := by decide +kernel
theorem d_St_placeOf_14 : decode b_St_placeOf 14 = .ok (.iload_n 2, 1) := by decide +kernel
theorem d_St_placeOf_15 : decode b_St_placeOf 15 = .ok (.iaload, 1) := by decide +kernel
theorem d_St_placeOf_16 : decode b_St_placeOf 16 = .ok (.iload_n 1, 1) := by decide +kernel
theorem d_St_placeOf_17 : decode b_St_placeOf 17 = .ok (.if_icmp .ne 5, 3) := by decide +kernel
theorem d_St_placeOf_20 : decode b_St_placeOf 20 = .ok (.iload_n 2, 1) := by decide +kernel
theorem d_St_placeOf_21 : decode b_St_placeOf 21 = .ok (.ireturn, 1) := by decide +kernel
theorem d_St_placeOf_22 : decode b_St_placeOf 22 = .ok (.iinc 2 1, 3) := by decide +kernel
theorem d_St_placeOf_25 : decode b_St_placeOf 25 = .ok (.goto (-23), 3) := by decide +kernel
theorem d_St_placeOf_28 : decode b_St_placeOf 28 = .ok (.bipush (-3), 2) := by decide +kernel
theorem d_St_placeOf_30 : decode b_St_placeOf 30 = .ok (.ireturn, 1) := by decide +kernel
theorem d_St_writeBackFirst_0 : decode b_St_writeBackFirst 0 = .ok (.aload_n 0, 1) := by decide +kernel
theorem d_St_writeBackFirst_1 : decode b_St_writeBackFirst 1 = .ok (.getfield 15, 3) := by decide +kernel
theorem d_St_writeBackFirst_4 : decode b_St_writeBackFirst 4 = .ok (.ifCond .ne 6, 3) := by decide +kernel
theorem d_St_writeBackFirst_7 : decode b_St_writeBackFirst 7 = .ok (.bipush (-3), 2) := by decide +kernel
theorem d_St_writeBackFirst_9 : decode b_St_writeBackFirst 9 = .ok (.ireturn, 1) := by decide +kernel
theorem d_St_writeBackFirst_10 : decode b_St_writeBackFirst 10 = .ok (.aload_n 0, 1) := by decide +kernel
theorem d_St_writeBackFirst_11 : decode b_St_writeBackFirst 11 = .ok (.getfield 22, 3) := by decide +kernel
theorem d_St_writeBackFirst_14 : decode b_St_writeBackFirst 14 = .ok (.iconst 0, 1) := by decide +kernel
theorem d_St_writeBackFirst_15 : decode b_St_writeBackFirst 15 = .ok (.iaload, 1) := by decide +kernel
theorem d_St_writeBackFirst_16 : decode b_St_writeBackFirst 16 = .ok (.istore_n 1, 1) := by decide +kernel
theorem d_St_writeBackFirst_17 : decode b_St_writeBackFirst 17 = .ok (.aload_n 0, 1) := by decide +kernel
theorem d_St_writeBackFirst_18 : decode b_St_writeBackFirst 18 = .ok (.getfield 9, 3) := by decide +kernel
theorem d_St_writeBackFirst_21 : decode b_St_writeBackFirst 21 = .ok (.iload_n 1, 1) := by decide +kernel
theorem d_St_writeBackFirst_22 : decode b_St_writeBackFirst 22 = .ok (.aload_n 0, 1) := by decide +kernel
theorem d_St_writeBackFirst_23 : decode b_St_writeBackFirst 23 = .ok (.getfield 25, 3) := by decide +kernel
theorem d_St_writeBackFirst_26 : decode b_St_writeBackFirst 26 = .ok (.iconst 0, 1) := by decide +kernel
theorem d_St_writeBackFirst_27 : decode b_St_writeBackFirst 27 = .ok (.iaload, 1) := by decide +kernel
theorem d_St_writeBackFirst_28 : decode b_St_writeBackFirst 28 = .ok (.iastore, 1) := by decide +kernel
theorem d_St_writeBackFirst_29 : decode b_St_writeBackFirst 29 = .ok (.aload_n 0, 1) := by decide +kernel
theorem d_St_writeBackFirst_30 : decode b_St_writeBackFirst 30 = .ok (.dup, 1) := by decide +kernel
theorem d_St_writeBackFirst_31 : decode b_St_writeBackFirst 31 = .ok (.getfield 15, 3) := by decide +kernel
theorem d_St_writeBackFirst_34 : decode b_St_writeBackFirst 34 = .ok (.iconst 1, 1) := by decide +kernel
theorem d_St_writeBackFirst_35 : decode b_St_writeBackFirst 35 = .ok (.isub, 1) := by decide +kernel
theorem d_St_writeBackFirst_36 : decode b_St_writeBackFirst 36 = .ok (.putfield 15, 3) := by decide +kernel
theorem d_St_writeBackFirst_39 : decode b_St_writeBackFirst 39 = .ok (.iconst 0, 1) := by decide +kernel
theorem d_St_writeBackFirst_40 : decode b_St_writeBackFirst 40 = .ok (.istore_n 2, 1) := by decide +kernel
theorem d_St_writeBackFirst_41 : decode b_St_writeBackFirst 41 = .ok (.iload_n 2, 1) := by decide +kernel
theorem d_St_writeBackFirst_42 : decode b_St_writeBackFirst 42 = .ok (.aload_n 0, 1) := by decide +kernel
theorem d_St_writeBackFirst_43 : decode b_St_writeBackFirst 43 = .ok (.getfield 15, 3) := by decide +kernel
theorem d_St_writeBackFirst_46 : decode b_St_writeBackFirst 46 = .ok (.if_icmp .ge 37, 3) := by decide +kernel
theorem d_St_writeBackFirst_49 : decode b_St_writeBackFirst 49 = .ok (.aload_n 0, 1) := by decide +kernel
theorem d_St_writeBackFirst_50 : decode b_St_writeBackFirst 50 = .ok (.getfield 22, 3) := by decide +kernel
theorem d_St_writeBackFirst_53 : decode b_St_writeBackFirst 53 = .ok (.iload_n 2, 1) := by decide +kernel
theorem d_St_writeBackFirst_54 : decode b_St_writeBackFirst 54 = .ok (.aload_n 0, 1) := by decide +kernel
theorem d_St_writeBackFirst_55 : decode b_St_writeBackFirst 55 = .ok (.getfield 22, 3) := by decide +kernel
theorem d_St_writeBackFirst_58 : decode b_St_writeBackFirst 58 = .ok (.iload_n 2, 1) := by decide +kernel
theorem d_St_writeBackFirst_59 : decode b_St_writeBackFirst 59 = .ok (.iconst 1, 1) := by decide +kernel
theorem d_St_writeBackFirst_60 : decode b_St_writeBackFirst 60 = .ok (.iadd, 1) := by decide +kernel
theorem d_St_writeBackFirst_61 : decode b_St_writeBackFirst 61 = .ok (.iaload, 1) := by decide +kernel
theorem d_St_writeBackFirst_62 : decode b_St_writeBackFirst 62 = .ok (.iastore, 1) := by decide +kernel
theorem d_St_writeBackFirst_63 : decode b_St_writeBackFirst 63 = .ok (.aload_n 0, 1) := by decide +kernel
theorem d_St_writeBackFirst_64 : decode b_St_writeBackFirst 64 = .ok (.getfield 25, 3) := by decide +kernel
theorem d_St_writeBackFirst_67 : decode b_St_writeBackFirst 67 = .ok (.iload_n 2, 1) := by decide +kernel
theorem d_St_writeBackFirst_68 : decode b_St_writeBackFirst 68 = .ok (.aload_n 0, 1) := by decide +kernel
theorem d_St_writeBackFirst_69 : decode b_St_writeBackFirst 69 = .ok (.getfield 25, 3) := by decide +kernel
theorem d_St_writeBackFirst_72 : decode b_St_writeBackFirst 72 = .ok (.iload_n 2, 1) := by decide +kernel
theorem d_St_writeBackFirst_73 : decode b_St_writeBackFirst 73 = .ok (.iconst 1, 1) := by decide +kernel
theorem d_St_writeBackFirst_74 : decode b_St_writeBackFirst 74 = .ok (.iadd, 1) := by decide +kernel
theorem d_St_writeBackFirst_75 : decode b_St_writeBackFirst 75 = .ok (.iaload, 1) := by decide +kernel
theorem d_St_writeBackFirst_76 : decode b_St_writeBackFirst 76 = .ok (.iastore, 1) := by decide +kernel
theorem d_St_writeBackFirst_77 : decode b_St_writeBackFirst 77 = .ok (.iinc 2 1, 3) := by decide +kernel
theorem d_St_writeBackFirst_80 : decode b_St_writeBackFirst 80 = .ok (.goto (-39), 3) := by decide +kernel
theorem d_St_writeBackFirst_83 : decode b_St_writeBackFirst 83 = .ok (.iload_n 1, 1) := by decide +kernel
theorem d_St_writeBackFirst_84 : decode b_St_writeBackFirst 84 = .ok (.ireturn, 1) := by decide +kernel
theorem d_St_presentInt_0 : decode b_St_presentInt 0 = .ok (.aload_n 0, 1) := by decide +kernel
theorem d_St_presentInt_1 : decode b_St_presentInt 1 = .ok (.iload_n 1, 1) := by decide +kernel
theorem d_St_presentInt_2 : decode b_St_presentInt 2 = .ok (.invokevirtual 28, 3) := by decide +kernel
theorem d_St_presentInt_5 : decode b_St_presentInt 5 = .ok (.istore_n 2, 1) := by decide +kernel
theorem d_St_presentInt_6 : decode b_St_presentInt 6 = .ok (.iload_n 2, 1) := by decide +kernel
theorem d_St_presentInt_7 : decode b_St_presentInt 7 = .ok (.bipush (-3), 2) := by decide +kernel
theorem d_St_presentInt_9 : decode b_St_presentInt 9 = .ok (.if_icmp .ne 12, 3) := by decide +kernel
theorem d_St_presentInt_12 : decode b_St_presentInt 12 = .ok (.aload_n 0, 1) := by decide +kernel
theorem d_St_presentInt_13 : decode b_St_presentInt 13 = .ok (.getfield 9, 3) := by decide +kernel
theorem d_St_presentInt_16 : decode b_St_presentInt 16 = .ok (.iload_n 1, 1) := by decide +kernel
theorem d_St_presentInt_17 : decode b_St_presentInt 17 = .ok (.iaload, 1) := by decide +kernel
theorem d_St_presentInt_18 : decode b_St_presentInt 18 = .ok (.goto 9, 3) := by decide +kernel
theorem d_St_presentInt_21 : decode b_St_presentInt 21 = .ok (.aload_n 0, 1) := by decide +kernel
theorem d_St_presentInt_22 : decode b_St_presentInt 22 = .ok (.getfield 25, 3) := by decide +kernel
theorem d_St_presentInt_25 : decode b_St_presentInt 25 = .ok (.iload_n 2, 1) := by decide +kernel
theorem d_St_presentInt_26 : decode b_St_presentInt 26 = .ok (.iaload, 1) := by decide +kernel
theorem d_St_presentInt_27 : decode b_St_presentInt 27 = .ok (.ireturn, 1) := by decide +kernel
theorem d_St_writeBackAll_0 : decode b_St_writeBackAll 0 = .ok (.aload_n 0, 1) := by decide +kernel
theorem d_St_writeBackAll_1 : decode b_St_writeBackAll 1 = .ok (.getfield 15, 3) := by decide +kernel
theorem d_St_writeBackAll_4 : decode b_St_writeBackAll 4 = .ok (.istore_n 1, 1) := by decide +kernel
theorem d_St_writeBackAll_5 : decode b_St_writeBackAll 5 = .ok (.iload_n 1, 1) := by decide +kernel
theorem d_St_writeBackAll_6 : decode b_St_writeBackAll 6 = .ok (.ifCond .le 14, 3) := by decide +kernel
theorem d_St_writeBackAll_9 : decode b_St_writeBackAll 9 = .ok (.aload_n 0, 1) := by decide +kernel
theorem d_St_writeBackAll_10 : decode b_St_writeBackAll 10 = .ok (.invokevirtual 32, 3) := by decide +kernel
theorem d_St_writeBackAll_13 : decode b_St_writeBackAll 13 = .ok (.pop, 1) := by decide +kernel
theorem d_St_writeBackAll_14 : decode b_St_writeBackAll 14 = .ok (.iinc 1 (-1), 3) := by decide +kernel
theorem d_St_writeBackAll_17 : decode b_St_writeBackAll 17 = .ok (.goto (-12), 3) := by decide +kernel
theorem d_St_writeBackAll_20 : decode b_St_writeBackAll 20 = .ok (.return_, 1) := by decide +kernel
theorem d_St_loseCache_0 : decode b_St_loseCache 0 = .ok (.aload_n 0, 1) := by decide +kernel
theorem d_St_loseCache_1 : decode b_St_loseCache 1 = .ok (.iconst 0, 1) := by decide +kernel
theorem d_St_loseCache_2 : decode b_St_loseCache 2 = .ok (.putfield 15, 3) := by decide +kernel
theorem d_St_loseCache_5 : decode b_St_loseCache 5 = .ok (.return_, 1) := by decide +kernel
theorem d_St_blockAt_0 : decode b_St_blockAt 0 = .ok (.iload_n 1, 1) := by decide +kernel
theorem d_St_blockAt_1 : decode b_St_blockAt 1 = .ok (.ifCond .lt 20, 3) := by decide +kernel
theorem d_St_blockAt_4 : decode b_St_blockAt 4 = .ok (.iload_n 1, 1) := by decide +kernel
theorem d_St_blockAt_5 : decode b_St_blockAt 5 = .ok (.aload_n 0, 1) := by decide +kernel
theorem d_St_blockAt_6 : decode b_St_blockAt 6 = .ok (.getfield 15, 3) := by decide +kernel
theorem d_St_blockAt_9 : decode b_St_blockAt 9 = .ok (.if_icmp .ge 12, 3) := by decide +kernel
theorem d_St_blockAt_12 : decode b_St_blockAt 12 = .ok (.aload_n 0, 1) := by decide +kernel
theorem d_St_blockAt_13 : decode b_St_blockAt 13 = .ok (.getfield 22, 3) := by decide +kernel
theorem d_St_blockAt_16 : decode b_St_blockAt 16 = .ok (.iload_n 1, 1) := by decide +kernel
theorem d_St_blockAt_17 : decode b_St_blockAt 17 = .ok (.iaload, 1) := by decide +kernel
theorem d_St_blockAt_18 : decode b_St_blockAt 18 = .ok (.goto 5, 3) := by decide +kernel
theorem d_St_blockAt_21 : decode b_St_blockAt 21 = .ok (.bipush (-3), 2) := by decide +kernel
theorem d_St_blockAt_23 : decode b_St_blockAt 23 = .ok (.ireturn, 1) := by decide +kernel
