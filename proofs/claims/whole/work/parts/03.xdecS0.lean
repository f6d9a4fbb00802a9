theorem dS_init_0 : decode cS_init 0 = .ok (.aload_n 0, 1) := by decide +kernel
theorem dS_init_1 : decode cS_init 1 = .ok (.invokespecial 1, 3) := by decide +kernel
theorem dS_init_4 : decode cS_init 4 = .ok (.aload_n 0, 1) := by decide +kernel
theorem dS_init_5 : decode cS_init 5 = .ok (.iload_n 1, 1) := by decide +kernel
theorem dS_init_6 : decode cS_init 6 = .ok (.iconst 1, 1) := by decide +kernel
theorem dS_init_7 : decode cS_init 7 = .ok (.if_icmp .eq 8, 3) := by decide +kernel
theorem dS_init_10 : decode cS_init 10 = .ok (.iload_n 1, 1) := by decide +kernel
theorem dS_init_11 : decode cS_init 11 = .ok (.iconst 2, 1) := by decide +kernel
theorem dS_init_12 : decode cS_init 12 = .ok (.if_icmp .ne 7, 3) := by decide +kernel
theorem dS_init_15 : decode cS_init 15 = .ok (.iload_n 1, 1) := by decide +kernel
theorem dS_init_16 : decode cS_init 16 = .ok (.goto 4, 3) := by decide +kernel
theorem dS_init_19 : decode cS_init 19 = .ok (.iconst 0, 1) := by decide +kernel
theorem dS_init_20 : decode cS_init 20 = .ok (.putfield 9, 3) := by decide +kernel
theorem dS_init_23 : decode cS_init 23 = .ok (.aload_n 0, 1) := by decide +kernel
theorem dS_init_24 : decode cS_init 24 = .ok (.bipush 21, 2) := by decide +kernel
theorem dS_init_26 : decode cS_init 26 = .ok (.anewarray 13, 3) := by decide +kernel
theorem dS_init_29 : decode cS_init 29 = .ok (.putfield 15, 3) := by decide +kernel
theorem dS_init_32 : decode cS_init 32 = .ok (.iconst 0, 1) := by decide +kernel
theorem dS_init_33 : decode cS_init 33 = .ok (.istore_n 2, 1) := by decide +kernel
theorem dS_init_34 : decode cS_init 34 = .ok (.iload_n 2, 1) := by decide +kernel
theorem dS_init_35 : decode cS_init 35 = .ok (.bipush 20, 2) := by decide +kernel
theorem dS_init_37 : decode cS_init 37 = .ok (.if_icmp .gt 22, 3) := by decide +kernel
theorem dS_init_40 : decode cS_init 40 = .ok (.aload_n 0, 1) := by decide +kernel
theorem dS_init_41 : decode cS_init 41 = .ok (.getfield 15, 3) := by decide +kernel
theorem dS_init_44 : decode cS_init 44 = .ok (.iload_n 2, 1) := by decide +kernel
theorem dS_init_45 : decode cS_init 45 = .ok (.new 13, 3) := by decide +kernel
theorem dS_init_48 : decode cS_init 48 = .ok (.dup, 1) := by decide +kernel
theorem dS_init_49 : decode cS_init 49 = .ok (.invokespecial 19, 3) := by decide +kernel
theorem dS_init_52 : decode cS_init 52 = .ok (.aastore, 1) := by decide +kernel
theorem dS_init_53 : decode cS_init 53 = .ok (.iinc 2 1, 3) := by decide +kernel
theorem dS_init_56 : decode cS_init 56 = .ok (.goto (-22), 3) := by decide +kernel
theorem dS_init_59 : decode cS_init 59 = .ok (.aload_n 0, 1) := by decide +kernel
theorem dS_init_60 : decode cS_init 60 = .ok (.iconst 4, 1) := by decide +kernel
theorem dS_init_61 : decode cS_init 61 = .ok (.anewarray 20, 3) := by decide +kernel
theorem dS_init_64 : decode cS_init 64 = .ok (.putfield 22, 3) := by decide +kernel
theorem dS_init_67 : decode cS_init 67 = .ok (.iconst 0, 1) := by decide +kernel
theorem dS_init_68 : decode cS_init 68 = .ok (.istore_n 2, 1) := by decide +kernel
theorem dS_init_69 : decode cS_init 69 = .ok (.iload_n 2, 1) := by decide +kernel
theorem dS_init_70 : decode cS_init 70 = .ok (.iconst 4, 1) := by decide +kernel
theorem dS_init_71 : decode cS_init 71 = .ok (.if_icmp .ge 23, 3) := by decide +kernel
theorem dS_init_74 : decode cS_init 74 = .ok (.aload_n 0, 1) := by decide +kernel
theorem dS_init_75 : decode cS_init 75 = .ok (.getfield 22, 3) := by decide +kernel
theorem dS_init_78 : decode cS_init 78 = .ok (.iload_n 2, 1) := by decide +kernel
theorem dS_init_79 : decode cS_init 79 = .ok (.new 20, 3) := by decide +kernel
theorem dS_init_82 : decode cS_init 82 = .ok (.dup, 1) := by decide +kernel
theorem dS_init_83 : decode cS_init 83 = .ok (.iload_n 2, 1) := by decide +kernel
theorem dS_init_84 : decode cS_init 84 = .ok (.invokespecial 26, 3) := by decide +kernel
theorem dS_init_87 : decode cS_init 87 = .ok (.aastore, 1) := by decide +kernel
theorem dS_init_88 : decode cS_init 88 = .ok (.iinc 2 1, 3) := by decide +kernel
theorem dS_init_91 : decode cS_init 91 = .ok (.goto (-22), 3) := by decide +kernel
theorem dS_init_94 : decode cS_init 94 = .ok (.return_, 1) := by decide +kernel
theorem dS_begin_0 : decode cS_begin 0 = .ok (.aload_n 0, 1) := by decide +kernel
theorem dS_begin_1 : decode cS_begin 1 = .ok (.iload_n 1, 1) := by decide +kernel
theorem dS_begin_2 : decode cS_begin 2 = .ok (.invokevirtual 29, 3) := by decide +kernel
theorem dS_begin_5 : decode cS_begin 5 = .ok (.astore 4, 2) := by decide +kernel
theorem dS_begin_7 : decode cS_begin 7 = .ok (.iload_n 2, 1) := by decide +kernel
theorem dS_begin_8 : decode cS_begin 8 = .ok (.ifCond .lt 8, 3) := by decide +kernel
theorem dS_begin_11 : decode cS_begin 11 = .ok (.iload_n 2, 1) := by decide +kernel
theorem dS_begin_12 : decode cS_begin 12 = .ok (.iconst 2, 1) := by decide +kernel
theorem dS_begin_13 : decode cS_begin 13 = .ok (.if_icmp .le 13, 3) := by decide +kernel
theorem dS_begin_16 : decode cS_begin 16 = .ok (.new 33, 3) := by decide +kernel
theorem dS_begin_19 : decode cS_begin 19 = .ok (.dup, 1) := by decide +kernel
theorem dS_begin_20 : decode cS_begin 20 = .ok (.ldc 35, 2) := by decide +kernel
theorem dS_begin_22 : decode cS_begin 22 = .ok (.invokespecial 37, 3) := by decide +kernel
theorem dS_begin_25 : decode cS_begin 25 = .ok (.athrow, 1) := by decide +kernel
theorem dS_begin_26 : decode cS_begin 26 = .ok (.iload_n 3, 1) := by decide +kernel
theorem dS_begin_27 : decode cS_begin 27 = .ok (.ifCond .lt 9, 3) := by decide +kernel
theorem dS_begin_30 : decode cS_begin 30 = .ok (.iload_n 3, 1) := by decide +kernel
theorem dS_begin_31 : decode cS_begin 31 = .ok (.bipush 32, 2) := by decide +kernel
theorem dS_begin_33 : decode cS_begin 33 = .ok (.if_icmp .lt 13, 3) := by decide +kernel
theorem dS_begin_36 : decode cS_begin 36 = .ok (.new 33, 3) := by decide +kernel
theorem dS_begin_39 : decode cS_begin 39 = .ok (.dup, 1) := by decide +kernel
theorem dS_begin_40 : decode cS_begin 40 = .ok (.ldc 40, 2) := by decide +kernel
theorem dS_begin_42 : decode cS_begin 42 = .ok (.invokespecial 37, 3) := by decide +kernel
theorem dS_begin_45 : decode cS_begin 45 = .ok (.athrow, 1) := by decide +kernel
theorem dS_begin_46 : decode cS_begin 46 = .ok (.aload 4, 2) := by decide +kernel
theorem dS_begin_48 : decode cS_begin 48 = .ok (.getfield 42, 3) := by decide +kernel
theorem dS_begin_51 : decode cS_begin 51 = .ok (.ifCond .eq 13, 3) := by decide +kernel
theorem dS_begin_54 : decode cS_begin 54 = .ok (.new 45, 3) := by decide +kernel
theorem dS_begin_57 : decode cS_begin 57 = .ok (.dup, 1) := by decide +kernel
theorem dS_begin_58 : decode cS_begin 58 = .ok (.ldc 47, 2) := by decide +kernel
theorem dS_begin_60 : decode cS_begin 60 = .ok (.invokespecial 49, 3) := by decide +kernel
theorem dS_begin_63 : decode cS_begin 63 = .ok (.athrow, 1) := by decide +kernel
theorem dS_begin_64 : decode cS_begin 64 = .ok (.aload 4, 2) := by decide +kernel
theorem dS_begin_66 : decode cS_begin 66 = .ok (.invokevirtual 50, 3) := by decide +kernel
theorem dS_begin_69 : decode cS_begin 69 = .ok (.aload 4, 2) := by decide +kernel
theorem dS_begin_71 : decode cS_begin 71 = .ok (.iload_n 2, 1) := by decide +kernel
theorem dS_begin_72 : decode cS_begin 72 = .ok (.putfield 53, 3) := by decide +kernel
theorem dS_begin_75 : decode cS_begin 75 = .ok (.aload 4, 2) := by decide +kernel
theorem dS_begin_77 : decode cS_begin 77 = .ok (.iload_n 3, 1) := by decide +kernel
theorem dS_begin_78 : decode cS_begin 78 = .ok (.putfield 56, 3) := by decide +kernel
theorem dS_begin_81 : decode cS_begin 81 = .ok (.aload 4, 2) := by decide +kernel
theorem dS_begin_83 : decode cS_begin 83 = .ok (.iconst 1, 1) := by decide +kernel
theorem dS_begin_84 : decode cS_begin 84 = .ok (.putfield 42, 3) := by decide +kernel
theorem dS_begin_87 : decode cS_begin 87 = .ok (.return_, 1) := by decide +kernel
theorem dS_step_0 : decode cS_step 0 = .ok (.aload_n 0, 1) := by decide +kernel
theorem dS_step_1 : decode cS_step 1 = .ok (.iload_n 1, 1) := by decide +kernel
theorem dS_step_2 : decode cS_step 2 = .ok (.invokevirtual 59, 3) := by decide +kernel
theorem dS_step_5 : decode cS_step 5 = .ok (.astore_n 2, 1) := by decide +kernel
theorem dS_step_6 : decode cS_step 6 = .ok (.aload_n 0, 1) := by decide +kernel
theorem dS_step_7 : decode cS_step 7 = .ok (.aload_n 2, 1) := by decide +kernel
theorem dS_step_8 : decode cS_step 8 = .ok (.invokevirtual 62, 3) := by decide +kernel
theorem dS_step_11 : decode cS_step 11 = .ok (.aload_n 2, 1) := by decide +kernel
theorem dS_step_12 : decode cS_step 12 = .ok (.getfield 42, 3) := by decide +kernel
theorem dS_step_15 : decode cS_step 15 = .ok (.ireturn, 1) := by decide +kernel
theorem dS_finish_0 : decode cS_finish 0 = .ok (.aload_n 0, 1) := by decide +kernel
theorem dS_finish_1 : decode cS_finish 1 = .ok (.iload_n 1, 1) := by decide +kernel
theorem dS_finish_2 : decode cS_finish 2 = .ok (.invokevirtual 59, 3) := by decide +kernel
theorem dS_finish_5 : decode cS_finish 5 = .ok (.astore_n 2, 1) := by decide +kernel
theorem dS_finish_6 : decode cS_finish 6 = .ok (.iconst 0, 1) := by decide +kernel
theorem dS_finish_7 : decode cS_finish 7 = .ok (.istore_n 3, 1) := by decide +kernel
theorem dS_finish_8 : decode cS_finish 8 = .ok (.iload_n 3, 1) := by decide +kernel
theorem dS_finish_9 : decode cS_finish 9 = .ok (.sipush 300, 3) := by decide +kernel
theorem dS_finish_12 : decode cS_finish 12 = .ok (.if_icmp .ge 21, 3) := by decide +kernel
theorem dS_finish_15 : decode cS_finish 15 = .ok (.aload_n 2, 1) := by decide +kernel
theorem dS_finish_16 : decode cS_finish 16 = .ok (.getfield 42, 3) := by decide +kernel
theorem dS_finish_19 : decode cS_finish 19 = .ok (.ifCond .eq 14, 3) := by decide +kernel
theorem dS_finish_22 : decode cS_finish 22 = .ok (.aload_n 0, 1) := by decide +kernel
theorem dS_finish_23 : decode cS_finish 23 = .ok (.aload_n 2, 1) := by decide +kernel
theorem dS_finish_24 : decode cS_finish 24 = .ok (.invokevirtual 62, 3) := by decide +kernel
theorem dS_finish_27 : decode cS_finish 27 = .ok (.iinc 3 1, 3) := by decide +kernel
theorem dS_finish_30 : decode cS_finish 30 = .ok (.goto (-22), 3) := by decide +kernel
theorem dS_finish_33 : decode cS_finish 33 = .ok (.iload_n 3, 1) := by decide +kernel
theorem dS_finish_34 : decode cS_finish 34 = .ok (.ireturn, 1) := by decide +kernel
theorem dS_result_0 : decode cS_result 0 = .ok (.aload_n 0, 1) := by decide +kernel
theorem dS_result_1 : decode cS_result 1 = .ok (.iload_n 1, 1) := by decide +kernel
theorem dS_result_2 : decode cS_result 2 = .ok (.invokevirtual 29, 3) := by decide +kernel
theorem dS_result_5 : decode cS_result 5 = .ok (.astore_n 2, 1) := by decide +kernel
theorem dS_result_6 : decode cS_result 6 = .ok (.aload_n 2, 1) := by decide +kernel
theorem dS_result_7 : decode cS_result 7 = .ok (.getfield 66, 3) := by decide +kernel
theorem dS_result_10 : decode cS_result 10 = .ok (.iconst (-1), 1) := by decide +kernel
theorem dS_result_11 : decode cS_result 11 = .ok (.if_icmp .ne 13, 3) := by decide +kernel
theorem dS_result_14 : decode cS_result 14 = .ok (.new 69, 3) := by decide +kernel
theorem dS_result_17 : decode cS_result 17 = .ok (.dup, 1) := by decide +kernel
theorem dS_result_18 : decode cS_result 18 = .ok (.ldc 71, 2) := by decide +kernel
theorem dS_result_20 : decode cS_result 20 = .ok (.invokespecial 73, 3) := by decide +kernel
theorem dS_result_23 : decode cS_result 23 = .ok (.athrow, 1) := by decide +kernel
theorem dS_result_24 : decode cS_result 24 = .ok (.aload_n 2, 1) := by decide +kernel
theorem dS_result_25 : decode cS_result 25 = .ok (.getfield 66, 3) := by decide +kernel
theorem dS_result_28 : decode cS_result 28 = .ok (.ireturn, 1) := by decide +kernel
theorem dS_at_0 : decode cS_at 0 = .ok (.aload_n 0, 1) := by decide +kernel
theorem dS_at_1 : decode cS_at 1 = .ok (.iload_n 1, 1) := by decide +kernel
theorem dS_at_2 : decode cS_at 2 = .ok (.invokevirtual 29, 3) := by decide +kernel
theorem dS_at_5 : decode cS_at 5 = .ok (.getfield 42, 3) := by decide +kernel
theorem dS_at_8 : decode cS_at 8 = .ok (.ireturn, 1) := by decide +kernel
theorem dS_known_0 : decode cS_known 0 = .ok (.aload_n 0, 1) := by decide +kernel
theorem dS_known_1 : decode cS_known 1 = .ok (.iload_n 1, 1) := by decide +kernel
theorem dS_known_2 : decode cS_known 2 = .ok (.invokevirtual 29, 3) := by decide +kernel
theorem dS_known_5 : decode cS_known 5 = .ok (.astore_n 3, 1) := by decide +kernel
theorem dS_known_6 : decode cS_known 6 = .ok (.iload_n 2, 1) := by decide +kernel
theorem dS_known_7 : decode cS_known 7 = .ok (.tableswitch 49 0 3 #[29, 34, 39, 44], 29) := by decide +kernel
theorem dS_known_36 : decode cS_known 36 = .ok (.aload_n 3, 1) := by decide +kernel
theorem dS_known_37 : decode cS_known 37 = .ok (.getfield 74, 3) := by decide +kernel
theorem dS_known_40 : decode cS_known 40 = .ok (.ireturn, 1) := by decide +kernel
theorem dS_known_41 : decode cS_known 41 = .ok (.aload_n 3, 1) := by decide +kernel
theorem dS_known_42 : decode cS_known 42 = .ok (.getfield 77, 3) := by decide +kernel
theorem dS_known_45 : decode cS_known 45 = .ok (.ireturn, 1) := by decide +kernel
theorem dS_known_46 : decode cS_known 46 = .ok (.aload_n 3, 1) := by decide +kernel
theorem dS_known_47 : decode cS_known 47 = .ok (.getfield 80, 3) := by decide +kernel
theorem dS_known_50 : decode cS_known 50 = .ok (.ireturn, 1) := by decide +kernel
theorem dS_known_51 : decode cS_known 51 = .ok (.aload_n 3, 1) := by decide +kernel
theorem dS_known_52 : decode cS_known 52 = .ok (.getfield 83, 3) := by decide +kernel
theorem dS_known_55 : decode cS_known 55 = .ok (.ireturn, 1) := by decide +kernel
theorem dS_known_56 : decode cS_known 56 = .ok (.new 86, 3) := by decide +kernel
theorem dS_known_59 : decode cS_known 59 = .ok (.dup, 1) := by decide +kernel
theorem dS_known_60 : decode cS_known 60 = .ok (.ldc 88, 2) := by decide +kernel
theorem dS_known_62 : decode cS_known 62 = .ok (.invokespecial 90, 3) := by decide +kernel
theorem dS_known_65 : decode cS_known 65 = .ok (.athrow, 1) := by decide +kernel
theorem dS_says_0 : decode cS_says 0 = .ok (.aload_n 0, 1) := by decide +kernel
theorem dS_says_1 : decode cS_says 1 = .ok (.iload_n 1, 1) := by decide +kernel
theorem dS_says_2 : decode cS_says 2 = .ok (.invokevirtual 29, 3) := by decide +kernel
theorem dS_says_5 : decode cS_says 5 = .ok (.astore_n 3, 1) := by decide +kernel
theorem dS_says_6 : decode cS_says 6 = .ok (.iload_n 2, 1) := by decide +kernel
theorem dS_says_7 : decode cS_says 7 = .ok (.tableswitch 40 0 2 #[25, 30, 35], 25) := by decide +kernel
theorem dS_says_32 : decode cS_says 32 = .ok (.aload_n 3, 1) := by decide +kernel
theorem dS_says_33 : decode cS_says 33 = .ok (.getfield 91, 3) := by decide +kernel
theorem dS_says_36 : decode cS_says 36 = .ok (.ireturn, 1) := by decide +kernel
theorem dS_says_37 : decode cS_says 37 = .ok (.aload_n 3, 1) := by decide +kernel
theorem dS_says_38 : decode cS_says 38 = .ok (.getfield 94, 3) := by decide +kernel
theorem dS_says_41 : decode cS_says 41 = .ok (.ireturn, 1) := by decide +kernel
theorem dS_says_42 : decode cS_says 42 = .ok (.aload_n 3, 1) := by decide +kernel
theorem dS_says_43 : decode cS_says 43 = .ok (.getfield 97, 3) := by decide +kernel
theorem dS_says_46 : decode cS_says 46 = .ok (.ireturn, 1) := by decide +kernel
theorem dS_says_47 : decode cS_says 47 = .ok (.new 86, 3) := by decide +kernel
theorem dS_says_50 : decode cS_says 50 = .ok (.dup, 1) := by decide +kernel
theorem dS_says_51 : decode cS_says 51 = .ok (.ldc 100, 2) := by decide +kernel
theorem dS_says_53 : decode cS_says 53 = .ok (.invokespecial 90, 3) := by decide +kernel
theorem dS_says_56 : decode cS_says 56 = .ok (.athrow, 1) := by decide +kernel
theorem dS_advance_0 : decode cS_advance 0 = .ok (.aload_n 0, 1) := by decide +kernel
theorem dS_advance_1 : decode cS_advance 1 = .ok (.getfield 9, 3) := by decide +kernel
theorem dS_advance_4 : decode cS_advance 4 = .ok (.ifCond .eq 13, 3) := by decide +kernel
theorem dS_advance_7 : decode cS_advance 7 = .ok (.new 102, 3) := by decide +kernel
theorem dS_advance_10 : decode cS_advance 10 = .ok (.dup, 1) := by decide +kernel
theorem dS_advance_11 : decode cS_advance 11 = .ok (.ldc 104, 2) := by decide +kernel
theorem dS_advance_13 : decode cS_advance 13 = .ok (.invokespecial 106, 3) := by decide +kernel
theorem dS_advance_16 : decode cS_advance 16 = .ok (.athrow, 1) := by decide +kernel
theorem dS_advance_17 : decode cS_advance 17 = .ok (.aload_n 0, 1) := by decide +kernel
theorem dS_advance_18 : decode cS_advance 18 = .ok (.invokevirtual 107, 3) := by decide +kernel
theorem dS_advance_21 : decode cS_advance 21 = .ok (.ifCond .ne 5, 3) := by decide +kernel
theorem dS_advance_24 : decode cS_advance 24 = .ok (.iconst 0, 1) := by decide +kernel
theorem dS_advance_25 : decode cS_advance 25 = .ok (.ireturn, 1) := by decide +kernel
theorem dS_advance_26 : decode cS_advance 26 = .ok (.aload_n 0, 1) := by decide +kernel
theorem dS_advance_27 : decode cS_advance 27 = .ok (.dup, 1) := by decide +kernel
theorem dS_advance_28 : decode cS_advance 28 = .ok (.getfield 111, 3) := by decide +kernel
theorem dS_advance_31 : decode cS_advance 31 = .ok (.iconst 1, 1) := by decide +kernel
theorem dS_advance_32 : decode cS_advance 32 = .ok (.iadd, 1) := by decide +kernel
theorem dS_advance_33 : decode cS_advance 33 = .ok (.putfield 111, 3) := by decide +kernel
theorem dS_advance_36 : decode cS_advance 36 = .ok (.aload_n 0, 1) := by decide +kernel
theorem dS_advance_37 : decode cS_advance 37 = .ok (.invokevirtual 114, 3) := by decide +kernel
theorem dS_advance_40 : decode cS_advance 40 = .ok (.iconst 1, 1) := by decide +kernel
theorem dS_advance_41 : decode cS_advance 41 = .ok (.ireturn, 1) := by decide +kernel
theorem dS_scan_0 : decode cS_scan 0 = .ok (.aload_n 0, 1) := by decide +kernel
theorem dS_scan_1 : decode cS_scan 1 = .ok (.iload_n 1, 1) := by decide +kernel
theorem dS_scan_2 : decode cS_scan 2 = .ok (.invokevirtual 29, 3) := by decide +kernel
theorem dS_scan_5 : decode cS_scan 5 = .ok (.astore_n 2, 1) := by decide +kernel
theorem dS_scan_6 : decode cS_scan 6 = .ok (.aload_n 0, 1) := by decide +kernel
theorem dS_scan_7 : decode cS_scan 7 = .ok (.getfield 9, 3) := by decide +kernel
theorem dS_scan_10 : decode cS_scan 10 = .ok (.iconst 1, 1) := by decide +kernel
theorem dS_scan_11 : decode cS_scan 11 = .ok (.if_icmp .eq 13, 3) := by decide +kernel
theorem dS_scan_14 : decode cS_scan 14 = .ok (.new 102, 3) := by decide +kernel
theorem dS_scan_17 : decode cS_scan 17 = .ok (.dup, 1) := by decide +kernel
theorem dS_scan_18 : decode cS_scan 18 = .ok (.ldc 117, 2) := by decide +kernel
theorem dS_scan_20 : decode cS_scan 20 = .ok (.invokespecial 106, 3) := by decide +kernel
theorem dS_scan_23 : decode cS_scan 23 = .ok (.athrow, 1) := by decide +kernel
theorem dS_scan_24 : decode cS_scan 24 = .ok (.aload_n 0, 1) := by decide +kernel
theorem dS_scan_25 : decode cS_scan 25 = .ok (.aload_n 2, 1) := by decide +kernel
theorem dS_scan_26 : decode cS_scan 26 = .ok (.invokevirtual 119, 3) := by decide +kernel
theorem dS_scan_29 : decode cS_scan 29 = .ok (.ireturn, 1) := by decide +kernel
theorem dS_block_0 : decode cS_block 0 = .ok (.iload_n 1, 1) := by decide +kernel
theorem dS_block_1 : decode cS_block 1 = .ok (.ifCond .lt 9, 3) := by decide +kernel
theorem dS_block_4 : decode cS_block 4 = .ok (.iload_n 1, 1) := by decide +kernel
theorem dS_block_5 : decode cS_block 5 = .ok (.bipush 20, 2) := by decide +kernel
theorem dS_block_7 : decode cS_block 7 = .ok (.if_icmp .le 13, 3) := by decide +kernel
theorem dS_block_10 : decode cS_block 10 = .ok (.new 86, 3) := by decide +kernel
theorem dS_block_13 : decode cS_block 13 = .ok (.dup, 1) := by decide +kernel
theorem dS_block_14 : decode cS_block 14 = .ok (.ldc 123, 2) := by decide +kernel
theorem dS_block_16 : decode cS_block 16 = .ok (.invokespecial 90, 3) := by decide +kernel
theorem dS_block_19 : decode cS_block 19 = .ok (.athrow, 1) := by decide +kernel
theorem dS_block_20 : decode cS_block 20 = .ok (.iload_n 2, 1) := by decide +kernel
theorem dS_block_21 : decode cS_block 21 = .ok (.ifCond .lt 8, 3) := by decide +kernel
theorem dS_block_24 : decode cS_block 24 = .ok (.iload_n 2, 1) := by decide +kernel
theorem dS_block_25 : decode cS_block 25 = .ok (.iconst 5, 1) := by decide +kernel
theorem dS_block_26 : decode cS_block 26 = .ok (.if_icmp .le 13, 3) := by decide +kernel
theorem dS_block_29 : decode cS_block 29 = .ok (.new 86, 3) := by decide +kernel
theorem dS_block_32 : decode cS_block 32 = .ok (.dup, 1) := by decide +kernel
theorem dS_block_33 : decode cS_block 33 = .ok (.ldc 125, 2) := by decide +kernel
theorem dS_block_35 : decode cS_block 35 = .ok (.invokespecial 90, 3) := by decide +kernel
theorem dS_block_38 : decode cS_block 38 = .ok (.athrow, 1) := by decide +kernel
theorem dS_block_39 : decode cS_block 39 = .ok (.iload_n 1, 1) := by decide +kernel
theorem dS_block_40 : decode cS_block 40 = .ok (.ifCond .ne 10, 3) := by decide +kernel
theorem dS_block_43 : decode cS_block 43 = .ok (.iload_n 2, 1) := by decide +kernel
theorem dS_block_44 : decode cS_block 44 = .ok (.iconst 2, 1) := by decide +kernel
theorem dS_block_45 : decode cS_block 45 = .ok (.if_icmp .eq 5, 3) := by decide +kernel
theorem dS_block_48 : decode cS_block 48 = .ok (.iconst (-1), 1) := by decide +kernel
theorem dS_block_49 : decode cS_block 49 = .ok (.ireturn, 1) := by decide +kernel
theorem dS_block_50 : decode cS_block 50 = .ok (.aload_n 0, 1) := by decide +kernel
theorem dS_block_51 : decode cS_block 51 = .ok (.getfield 15, 3) := by decide +kernel
theorem dS_block_54 : decode cS_block 54 = .ok (.iload_n 1, 1) := by decide +kernel
theorem dS_block_55 : decode cS_block 55 = .ok (.aaload, 1) := by decide +kernel
theorem dS_block_56 : decode cS_block 56 = .ok (.iload_n 2, 1) := by decide +kernel
theorem dS_block_57 : decode cS_block 57 = .ok (.invokevirtual 127, 3) := by decide +kernel
theorem dS_block_60 : decode cS_block 60 = .ok (.ireturn, 1) := by decide +kernel
theorem dS_size_0 : decode cS_size 0 = .ok (.iconst 0, 1) := by decide +kernel
theorem dS_size_1 : decode cS_size 1 = .ok (.istore_n 1, 1) := by decide +kernel
theorem dS_size_2 : decode cS_size 2 = .ok (.aload_n 0, 1) := by decide +kernel
theorem dS_size_3 : decode cS_size 3 = .ok (.getfield 15, 3) := by decide +kernel
theorem dS_size_6 : decode cS_size 6 = .ok (.iconst 0, 1) := by decide +kernel
theorem dS_size_7 : decode cS_size 7 = .ok (.aaload, 1) := by decide +kernel
theorem dS_size_8 : decode cS_size 8 = .ok (.getfield 131, 3) := by decide +kernel
theorem dS_size_11 : decode cS_size 11 = .ok (.istore_n 2, 1) := by decide +kernel
theorem dS_size_12 : decode cS_size 12 = .ok (.iconst 0, 1) := by decide +kernel
theorem dS_size_13 : decode cS_size 13 = .ok (.istore_n 3, 1) := by decide +kernel
theorem dS_size_14 : decode cS_size 14 = .ok (.iload_n 3, 1) := by decide +kernel
theorem dS_size_15 : decode cS_size 15 = .ok (.bipush 20, 2) := by decide +kernel
theorem dS_size_17 : decode cS_size 17 = .ok (.if_icmp .ge 38, 3) := by decide +kernel
theorem dS_size_20 : decode cS_size 20 = .ok (.iload_n 2, 1) := by decide +kernel
theorem dS_size_21 : decode cS_size 21 = .ok (.ifCond .eq 34, 3) := by decide +kernel
theorem dS_size_24 : decode cS_size 24 = .ok (.aload_n 0, 1) := by decide +kernel
theorem dS_size_25 : decode cS_size 25 = .ok (.getfield 15, 3) := by decide +kernel
theorem dS_size_28 : decode cS_size 28 = .ok (.iload_n 2, 1) := by decide +kernel
theorem dS_size_29 : decode cS_size 29 = .ok (.aaload, 1) := by decide +kernel
theorem dS_size_30 : decode cS_size 30 = .ok (.getfield 134, 3) := by decide +kernel
theorem dS_size_33 : decode cS_size 33 = .ok (.ifCond .ne 6, 3) := by decide +kernel
theorem dS_size_36 : decode cS_size 36 = .ok (.iinc 1 1, 3) := by decide +kernel
theorem dS_size_39 : decode cS_size 39 = .ok (.aload_n 0, 1) := by decide +kernel
theorem dS_size_40 : decode cS_size 40 = .ok (.getfield 15, 3) := by decide +kernel
theorem dS_size_43 : decode cS_size 43 = .ok (.iload_n 2, 1) := by decide +kernel
theorem dS_size_44 : decode cS_size 44 = .ok (.aaload, 1) := by decide +kernel
theorem dS_size_45 : decode cS_size 45 = .ok (.getfield 131, 3) := by decide +kernel
theorem dS_size_48 : decode cS_size 48 = .ok (.istore_n 2, 1) := by decide +kernel
theorem dS_size_49 : decode cS_size 49 = .ok (.iinc 3 1, 3) := by decide +kernel
theorem dS_size_52 : decode cS_size 52 = .ok (.goto (-38), 3) := by decide +kernel
theorem dS_size_55 : decode cS_size 55 = .ok (.iload_n 1, 1) := by decide +kernel
theorem dS_size_56 : decode cS_size 56 = .ok (.ireturn, 1) := by decide +kernel
theorem dS_has_0 : decode cS_has 0 = .ok (.aload_n 0, 1) := by decide +kernel
theorem dS_has_1 : decode cS_has 1 = .ok (.getfield 15, 3) := by decide +kernel
theorem dS_has_4 : decode cS_has 4 = .ok (.iconst 0, 1) := by decide +kernel
theorem dS_has_5 : decode cS_has 5 = .ok (.aaload, 1) := by decide +kernel
theorem dS_has_6 : decode cS_has 6 = .ok (.getfield 131, 3) := by decide +kernel
theorem dS_has_9 : decode cS_has 9 = .ok (.istore_n 2, 1) := by decide +kernel
theorem dS_has_10 : decode cS_has 10 = .ok (.iconst 0, 1) := by decide +kernel
theorem dS_has_11 : decode cS_has 11 = .ok (.istore_n 3, 1) := by decide +kernel
theorem dS_has_12 : decode cS_has 12 = .ok (.iload_n 3, 1) := by decide +kernel
theorem dS_has_13 : decode cS_has 13 = .ok (.bipush 20, 2) := by decide +kernel
theorem dS_has_15 : decode cS_has 15 = .ok (.if_icmp .ge 50, 3) := by decide +kernel
theorem dS_has_18 : decode cS_has 18 = .ok (.iload_n 2, 1) := by decide +kernel
theorem dS_has_19 : decode cS_has 19 = .ok (.ifCond .eq 46, 3) := by decide +kernel
theorem dS_has_22 : decode cS_has 22 = .ok (.aload_n 0, 1) := by decide +kernel
theorem dS_has_23 : decode cS_has 23 = .ok (.getfield 15, 3) := by decide +kernel
theorem dS_has_26 : decode cS_has 26 = .ok (.iload_n 2, 1) := by decide +kernel
theorem dS_has_27 : decode cS_has 27 = .ok (.aaload, 1) := by decide +kernel
theorem dS_has_28 : decode cS_has 28 = .ok (.getfield 134, 3) := by decide +kernel
theorem dS_has_31 : decode cS_has 31 = .ok (.ifCond .ne 18, 3) := by decide +kernel
theorem dS_has_34 : decode cS_has 34 = .ok (.aload_n 0, 1) := by decide +kernel
theorem dS_has_35 : decode cS_has 35 = .ok (.getfield 15, 3) := by decide +kernel
theorem dS_has_38 : decode cS_has 38 = .ok (.iload_n 2, 1) := by decide +kernel
theorem dS_has_39 : decode cS_has 39 = .ok (.aaload, 1) := by decide +kernel
theorem dS_has_40 : decode cS_has 40 = .ok (.getfield 138, 3) := by decide +kernel
theorem dS_has_43 : decode cS_has 43 = .ok (.iload_n 1, 1) := by decide +kernel
theorem dS_has_44 : decode cS_has 44 = .ok (.if_icmp .ne 5, 3) := by decide +kernel
theorem dS_has_47 : decode cS_has 47 = .ok (.iconst 1, 1) := by decide +kernel
theorem dS_has_48 : decode cS_has 48 = .ok (.ireturn, 1) := by decide +kernel
theorem dS_has_49 : decode cS_has 49 = .ok (.aload_n 0, 1) := by decide +kernel
theorem dS_has_50 : decode cS_has 50 = .ok (.getfield 15, 3) := by decide +kernel
theorem dS_has_53 : decode cS_has 53 = .ok (.iload_n 2, 1) := by decide +kernel
theorem dS_has_54 : decode cS_has 54 = .ok (.aaload, 1) := by decide +kernel
theorem dS_has_55 : decode cS_has 55 = .ok (.getfield 131, 3) := by decide +kernel
theorem dS_has_58 : decode cS_has 58 = .ok (.istore_n 2, 1) := by decide +kernel
theorem dS_has_59 : decode cS_has 59 = .ok (.iinc 3 1, 3) := by decide +kernel
theorem dS_has_62 : decode cS_has 62 = .ok (.goto (-50), 3) := by decide +kernel
theorem dS_has_65 : decode cS_has 65 = .ok (.iconst 0, 1) := by decide +kernel
theorem dS_has_66 : decode cS_has 66 = .ok (.ireturn, 1) := by decide +kernel
theorem dS_faults_0 : decode cS_faults 0 = .ok (.aload_n 0, 1) := by decide +kernel
theorem dS_faults_1 : decode cS_faults 1 = .ok (.getfield 139, 3) := by decide +kernel
theorem dS_faults_4 : decode cS_faults 4 = .ok (.ireturn, 1) := by decide +kernel
theorem dS_epoch_0 : decode cS_epoch 0 = .ok (.aload_n 0, 1) := by decide +kernel
theorem dS_epoch_1 : decode cS_epoch 1 = .ok (.getfield 111, 3) := by decide +kernel
theorem dS_epoch_4 : decode cS_epoch 4 = .ok (.ireturn, 1) := by decide +kernel
theorem dS_workerOf_0 : decode cS_workerOf 0 = .ok (.iload_n 1, 1) := by decide +kernel
theorem dS_workerOf_1 : decode cS_workerOf 1 = .ok (.ifCond .lt 8, 3) := by decide +kernel
theorem dS_workerOf_4 : decode cS_workerOf 4 = .ok (.iload_n 1, 1) := by decide +kernel
theorem dS_workerOf_5 : decode cS_workerOf 5 = .ok (.iconst 4, 1) := by decide +kernel
theorem dS_workerOf_6 : decode cS_workerOf 6 = .ok (.if_icmp .lt 13, 3) := by decide +kernel
theorem dS_workerOf_9 : decode cS_workerOf 9 = .ok (.new 86, 3) := by decide +kernel
theorem dS_workerOf_12 : decode cS_workerOf 12 = .ok (.dup, 1) := by decide +kernel
theorem dS_workerOf_13 : decode cS_workerOf 13 = .ok (.ldc 142, 2) := by decide +kernel
theorem dS_workerOf_15 : decode cS_workerOf 15 = .ok (.invokespecial 90, 3) := by decide +kernel
theorem dS_workerOf_18 : decode cS_workerOf 18 = .ok (.athrow, 1) := by decide +kernel
theorem dS_workerOf_19 : decode cS_workerOf 19 = .ok (.aload_n 0, 1) := by decide +kernel
theorem dS_workerOf_20 : decode cS_workerOf 20 = .ok (.getfield 22, 3) := by decide +kernel
theorem dS_workerOf_23 : decode cS_workerOf 23 = .ok (.iload_n 1, 1) := by decide +kernel
theorem dS_workerOf_24 : decode cS_workerOf 24 = .ok (.aaload, 1) := by decide +kernel
theorem dS_workerOf_25 : decode cS_workerOf 25 = .ok (.areturn, 1) := by decide +kernel
theorem dS_busyWorkerOf_0 : decode cS_busyWorkerOf 0 = .ok (.aload_n 0, 1) := by decide +kernel
theorem dS_busyWorkerOf_1 : decode cS_busyWorkerOf 1 = .ok (.iload_n 1, 1) := by decide +kernel
theorem dS_busyWorkerOf_2 : decode cS_busyWorkerOf 2 = .ok (.invokevirtual 29, 3) := by decide +kernel
theorem dS_busyWorkerOf_5 : decode cS_busyWorkerOf 5 = .ok (.astore_n 2, 1) := by decide +kernel
theorem dS_busyWorkerOf_6 : decode cS_busyWorkerOf 6 = .ok (.aload_n 2, 1) := by decide +kernel
theorem dS_busyWorkerOf_7 : decode cS_busyWorkerOf 7 = .ok (.getfield 42, 3) := by decide +kernel
theorem dS_busyWorkerOf_10 : decode cS_busyWorkerOf 10 = .ok (.ifCond .ne 13, 3) := by decide +kernel
theorem dS_busyWorkerOf_13 : decode cS_busyWorkerOf 13 = .ok (.new 45, 3) := by decide +kernel
theorem dS_busyWorkerOf_16 : decode cS_busyWorkerOf 16 = .ok (.dup, 1) := by decide +kernel
theorem dS_busyWorkerOf_17 : decode cS_busyWorkerOf 17 = .ok (.ldc 144, 2) := by decide +kernel
theorem dS_busyWorkerOf_19 : decode cS_busyWorkerOf 19 = .ok (.invokespecial 49, 3) := by decide +kernel
theorem dS_busyWorkerOf_22 : decode cS_busyWorkerOf 22 = .ok (.athrow, 1) := by decide +kernel
theorem dS_busyWorkerOf_23 : decode cS_busyWorkerOf 23 = .ok (.aload_n 2, 1) := by decide +kernel
theorem dS_busyWorkerOf_24 : decode cS_busyWorkerOf 24 = .ok (.areturn, 1) := by decide +kernel
theorem dS_perform_0 : decode cS_perform 0 = .ok (.aload_n 1, 1) := by decide +kernel
theorem dS_perform_1 : decode cS_perform 1 = .ok (.getfield 42, 3) := by decide +kernel
theorem dS_perform_4 : decode cS_perform 4 = .ok (.tableswitch 136 1 10 #[56, 64, 72, 80, 88, 96, 104, 112, 120, 128], 56) := by decide +kernel
theorem dS_perform_60 : decode cS_perform 60 = .ok (.aload_n 0, 1) := by decide +kernel
theorem dS_perform_61 : decode cS_perform 61 = .ok (.aload_n 1, 1) := by decide +kernel
theorem dS_perform_62 : decode cS_perform 62 = .ok (.invokevirtual 146, 3) := by decide +kernel
theorem dS_perform_65 : decode cS_perform 65 = .ok (.goto 75, 3) := by decide +kernel
theorem dS_perform_68 : decode cS_perform 68 = .ok (.aload_n 0, 1) := by decide +kernel
theorem dS_perform_69 : decode cS_perform 69 = .ok (.aload_n 1, 1) := by decide +kernel
theorem dS_perform_70 : decode cS_perform 70 = .ok (.invokevirtual 149, 3) := by decide +kernel
theorem dS_perform_73 : decode cS_perform 73 = .ok (.goto 67, 3) := by decide +kernel
theorem dS_perform_76 : decode cS_perform 76 = .ok (.aload_n 0, 1) := by decide +kernel
theorem dS_perform_77 : decode cS_perform 77 = .ok (.aload_n 1, 1) := by decide +kernel
theorem dS_perform_78 : decode cS_perform 78 = .ok (.invokevirtual 152, 3) := by decide +kernel
theorem dS_perform_81 : decode cS_perform 81 = .ok (.goto 59, 3) := by decide +kernel
theorem dS_perform_84 : decode cS_perform 84 = .ok (.aload_n 0, 1) := by decide +kernel
theorem dS_perform_85 : decode cS_perform 85 = .ok (.aload_n 1, 1) := by decide +kernel
theorem dS_perform_86 : decode cS_perform 86 = .ok (.invokevirtual 155, 3) := by decide +kernel
theorem dS_perform_89 : decode cS_perform 89 = .ok (.goto 51, 3) := by decide +kernel
theorem dS_perform_92 : decode cS_perform 92 = .ok (.aload_n 0, 1) := by decide +kernel
theorem dS_perform_93 : decode cS_perform 93 = .ok (.aload_n 1, 1) := by decide +kernel
theorem dS_perform_94 : decode cS_perform 94 = .ok (.invokevirtual 158, 3) := by decide +kernel
theorem dS_perform_97 : decode cS_perform 97 = .ok (.goto 43, 3) := by decide +kernel
theorem dS_perform_100 : decode cS_perform 100 = .ok (.aload_n 0, 1) := by decide +kernel
theorem dS_perform_101 : decode cS_perform 101 = .ok (.aload_n 1, 1) := by decide +kernel
theorem dS_perform_102 : decode cS_perform 102 = .ok (.invokevirtual 161, 3) := by decide +kernel
theorem dS_perform_105 : decode cS_perform 105 = .ok (.goto 35, 3) := by decide +kernel
theorem dS_perform_108 : decode cS_perform 108 = .ok (.aload_n 0, 1) := by decide +kernel
theorem dS_perform_109 : decode cS_perform 109 = .ok (.aload_n 1, 1) := by decide +kernel
theorem dS_perform_110 : decode cS_perform 110 = .ok (.invokevirtual 164, 3) := by decide +kernel
theorem dS_perform_113 : decode cS_perform 113 = .ok (.goto 27, 3) := by decide +kernel
theorem dS_perform_116 : decode cS_perform 116 = .ok (.aload_n 0, 1) := by decide +kernel
theorem dS_perform_117 : decode cS_perform 117 = .ok (.aload_n 1, 1) := by decide +kernel
