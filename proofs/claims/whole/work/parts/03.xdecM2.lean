theorem dM_insert_137 : decode cM_insert 137 = .ok (.iaload, 1) := by decide +kernel
theorem dM_insert_138 : decode cM_insert 138 = .ok (.iastore, 1) := by decide +kernel
theorem dM_insert_139 : decode cM_insert 139 = .ok (.aload_n 0, 1) := by decide +kernel
theorem dM_insert_140 : decode cM_insert 140 = .ok (.aload_n 0, 1) := by decide +kernel
theorem dM_insert_141 : decode cM_insert 141 = .ok (.getfield 56, 3) := by decide +kernel
theorem dM_insert_144 : decode cM_insert 144 = .ok (.iload_n 1, 1) := by decide +kernel
theorem dM_insert_145 : decode cM_insert 145 = .ok (.iaload, 1) := by decide +kernel
theorem dM_insert_146 : decode cM_insert 146 = .ok (.aload_n 0, 1) := by decide +kernel
theorem dM_insert_147 : decode cM_insert 147 = .ok (.getfield 44, 3) := by decide +kernel
theorem dM_insert_150 : decode cM_insert 150 = .ok (.iload_n 1, 1) := by decide +kernel
theorem dM_insert_151 : decode cM_insert 151 = .ok (.iaload, 1) := by decide +kernel
theorem dM_insert_152 : decode cM_insert 152 = .ok (.iconst 0, 1) := by decide +kernel
theorem dM_insert_153 : decode cM_insert 153 = .ok (.invokevirtual 110, 3) := by decide +kernel
theorem dM_insert_156 : decode cM_insert 156 = .ok (.bipush 8, 2) := by decide +kernel
theorem dM_insert_158 : decode cM_insert 158 = .ok (.ireturn, 1) := by decide +kernel
theorem dM_remove_0 : decode cM_remove 0 = .ok (.aload_n 0, 1) := by decide +kernel
theorem dM_remove_1 : decode cM_remove 1 = .ok (.getfield 53, 3) := by decide +kernel
theorem dM_remove_4 : decode cM_remove 4 = .ok (.iload_n 1, 1) := by decide +kernel
theorem dM_remove_5 : decode cM_remove 5 = .ok (.baload, 1) := by decide +kernel
theorem dM_remove_6 : decode cM_remove 6 = .ok (.ifCond .ne 13, 3) := by decide +kernel
theorem dM_remove_9 : decode cM_remove 9 = .ok (.aload_n 0, 1) := by decide +kernel
theorem dM_remove_10 : decode cM_remove 10 = .ok (.getfield 59, 3) := by decide +kernel
theorem dM_remove_13 : decode cM_remove 13 = .ok (.iload_n 1, 1) := by decide +kernel
theorem dM_remove_14 : decode cM_remove 14 = .ok (.iconst 0, 1) := by decide +kernel
theorem dM_remove_15 : decode cM_remove 15 = .ok (.iastore, 1) := by decide +kernel
theorem dM_remove_16 : decode cM_remove 16 = .ok (.bipush 9, 2) := by decide +kernel
theorem dM_remove_18 : decode cM_remove 18 = .ok (.ireturn, 1) := by decide +kernel
theorem dM_remove_19 : decode cM_remove 19 = .ok (.aload_n 0, 1) := by decide +kernel
theorem dM_remove_20 : decode cM_remove 20 = .ok (.getfield 44, 3) := by decide +kernel
theorem dM_remove_23 : decode cM_remove 23 = .ok (.iload_n 1, 1) := by decide +kernel
theorem dM_remove_24 : decode cM_remove 24 = .ok (.iaload, 1) := by decide +kernel
theorem dM_remove_25 : decode cM_remove 25 = .ok (.istore_n 2, 1) := by decide +kernel
theorem dM_remove_26 : decode cM_remove 26 = .ok (.aload_n 0, 1) := by decide +kernel
theorem dM_remove_27 : decode cM_remove 27 = .ok (.iload_n 2, 1) := by decide +kernel
theorem dM_remove_28 : decode cM_remove 28 = .ok (.aload_n 0, 1) := by decide +kernel
theorem dM_remove_29 : decode cM_remove 29 = .ok (.getfield 47, 3) := by decide +kernel
theorem dM_remove_32 : decode cM_remove 32 = .ok (.iload_n 1, 1) := by decide +kernel
theorem dM_remove_33 : decode cM_remove 33 = .ok (.iaload, 1) := by decide +kernel
theorem dM_remove_34 : decode cM_remove 34 = .ok (.invokevirtual 95, 3) := by decide +kernel
theorem dM_remove_37 : decode cM_remove 37 = .ok (.aload_n 0, 1) := by decide +kernel
theorem dM_remove_38 : decode cM_remove 38 = .ok (.getfield 16, 3) := by decide +kernel
theorem dM_remove_41 : decode cM_remove 41 = .ok (.iload_n 2, 1) := by decide +kernel
theorem dM_remove_42 : decode cM_remove 42 = .ok (.iaload, 1) := by decide +kernel
theorem dM_remove_43 : decode cM_remove 43 = .ok (.aload_n 0, 1) := by decide +kernel
theorem dM_remove_44 : decode cM_remove 44 = .ok (.getfield 50, 3) := by decide +kernel
theorem dM_remove_47 : decode cM_remove 47 = .ok (.iload_n 1, 1) := by decide +kernel
theorem dM_remove_48 : decode cM_remove 48 = .ok (.iaload, 1) := by decide +kernel
theorem dM_remove_49 : decode cM_remove 49 = .ok (.if_icmp .ne 12, 3) := by decide +kernel
theorem dM_remove_52 : decode cM_remove 52 = .ok (.aload_n 0, 1) := by decide +kernel
theorem dM_remove_53 : decode cM_remove 53 = .ok (.getfield 19, 3) := by decide +kernel
theorem dM_remove_56 : decode cM_remove 56 = .ok (.iload_n 2, 1) := by decide +kernel
theorem dM_remove_57 : decode cM_remove 57 = .ok (.baload, 1) := by decide +kernel
theorem dM_remove_58 : decode cM_remove 58 = .ok (.ifCond .eq 5, 3) := by decide +kernel
theorem dM_remove_61 : decode cM_remove 61 = .ok (.iconst 2, 1) := by decide +kernel
theorem dM_remove_62 : decode cM_remove 62 = .ok (.ireturn, 1) := by decide +kernel
theorem dM_remove_63 : decode cM_remove 63 = .ok (.aload_n 0, 1) := by decide +kernel
theorem dM_remove_64 : decode cM_remove 64 = .ok (.getfield 19, 3) := by decide +kernel
theorem dM_remove_67 : decode cM_remove 67 = .ok (.iload_n 2, 1) := by decide +kernel
theorem dM_remove_68 : decode cM_remove 68 = .ok (.iconst 1, 1) := by decide +kernel
theorem dM_remove_69 : decode cM_remove 69 = .ok (.bastore, 1) := by decide +kernel
theorem dM_remove_70 : decode cM_remove 70 = .ok (.bipush 10, 2) := by decide +kernel
theorem dM_remove_72 : decode cM_remove 72 = .ok (.ireturn, 1) := by decide +kernel
theorem dM_act_0 : decode cM_act 0 = .ok (.aload_n 0, 1) := by decide +kernel
theorem dM_act_1 : decode cM_act 1 = .ok (.getfield 32, 3) := by decide +kernel
theorem dM_act_4 : decode cM_act 4 = .ok (.iload_n 1, 1) := by decide +kernel
theorem dM_act_5 : decode cM_act 5 = .ok (.iaload, 1) := by decide +kernel
theorem dM_act_6 : decode cM_act 6 = .ok (.ifCond .ne 26, 3) := by decide +kernel
theorem dM_act_9 : decode cM_act 9 = .ok (.aload_n 0, 1) := by decide +kernel
theorem dM_act_10 : decode cM_act 10 = .ok (.getfield 59, 3) := by decide +kernel
theorem dM_act_13 : decode cM_act 13 = .ok (.iload_n 1, 1) := by decide +kernel
theorem dM_act_14 : decode cM_act 14 = .ok (.aload_n 0, 1) := by decide +kernel
theorem dM_act_15 : decode cM_act 15 = .ok (.getfield 53, 3) := by decide +kernel
theorem dM_act_18 : decode cM_act 18 = .ok (.iload_n 1, 1) := by decide +kernel
theorem dM_act_19 : decode cM_act 19 = .ok (.baload, 1) := by decide +kernel
theorem dM_act_20 : decode cM_act 20 = .ok (.ifCond .eq 7, 3) := by decide +kernel
theorem dM_act_23 : decode cM_act 23 = .ok (.iconst 1, 1) := by decide +kernel
theorem dM_act_24 : decode cM_act 24 = .ok (.goto 4, 3) := by decide +kernel
theorem dM_act_27 : decode cM_act 27 = .ok (.iconst 0, 1) := by decide +kernel
theorem dM_act_28 : decode cM_act 28 = .ok (.iastore, 1) := by decide +kernel
theorem dM_act_29 : decode cM_act 29 = .ok (.bipush 9, 2) := by decide +kernel
theorem dM_act_31 : decode cM_act 31 = .ok (.ireturn, 1) := by decide +kernel
theorem dM_act_32 : decode cM_act 32 = .ok (.aload_n 0, 1) := by decide +kernel
theorem dM_act_33 : decode cM_act 33 = .ok (.getfield 32, 3) := by decide +kernel
theorem dM_act_36 : decode cM_act 36 = .ok (.iload_n 1, 1) := by decide +kernel
theorem dM_act_37 : decode cM_act 37 = .ok (.iaload, 1) := by decide +kernel
theorem dM_act_38 : decode cM_act 38 = .ok (.iconst 1, 1) := by decide +kernel
theorem dM_act_39 : decode cM_act 39 = .ok (.if_icmp .ne 11, 3) := by decide +kernel
theorem dM_act_42 : decode cM_act 42 = .ok (.aload_n 0, 1) := by decide +kernel
theorem dM_act_43 : decode cM_act 43 = .ok (.iload_n 1, 1) := by decide +kernel
theorem dM_act_44 : decode cM_act 44 = .ok (.invokevirtual 117, 3) := by decide +kernel
theorem dM_act_47 : decode cM_act 47 = .ok (.goto 8, 3) := by decide +kernel
theorem dM_act_50 : decode cM_act 50 = .ok (.aload_n 0, 1) := by decide +kernel
theorem dM_act_51 : decode cM_act 51 = .ok (.iload_n 1, 1) := by decide +kernel
theorem dM_act_52 : decode cM_act 52 = .ok (.invokevirtual 120, 3) := by decide +kernel
theorem dM_act_55 : decode cM_act 55 = .ok (.ireturn, 1) := by decide +kernel
theorem dM_hang_0 : decode cM_hang 0 = .ok (.aload_n 0, 1) := by decide +kernel
theorem dM_hang_1 : decode cM_hang 1 = .ok (.iload_n 1, 1) := by decide +kernel
theorem dM_hang_2 : decode cM_hang 2 = .ok (.invokevirtual 103, 3) := by decide +kernel
theorem dM_hang_5 : decode cM_hang 5 = .ok (.aload_n 0, 1) := by decide +kernel
theorem dM_hang_6 : decode cM_hang 6 = .ok (.iload_n 1, 1) := by decide +kernel
theorem dM_hang_7 : decode cM_hang 7 = .ok (.invokevirtual 107, 3) := by decide +kernel
theorem dM_hang_10 : decode cM_hang 10 = .ok (.ifCond .ne 5, 3) := by decide +kernel
theorem dM_hang_13 : decode cM_hang 13 = .ok (.iconst 2, 1) := by decide +kernel
theorem dM_hang_14 : decode cM_hang 14 = .ok (.ireturn, 1) := by decide +kernel
theorem dM_hang_15 : decode cM_hang 15 = .ok (.aload_n 0, 1) := by decide +kernel
theorem dM_hang_16 : decode cM_hang 16 = .ok (.aload_n 0, 1) := by decide +kernel
theorem dM_hang_17 : decode cM_hang 17 = .ok (.getfield 38, 3) := by decide +kernel
theorem dM_hang_20 : decode cM_hang 20 = .ok (.iload_n 1, 1) := by decide +kernel
theorem dM_hang_21 : decode cM_hang 21 = .ok (.iaload, 1) := by decide +kernel
theorem dM_hang_22 : decode cM_hang 22 = .ok (.aload_n 0, 1) := by decide +kernel
theorem dM_hang_23 : decode cM_hang 23 = .ok (.getfield 56, 3) := by decide +kernel
theorem dM_hang_26 : decode cM_hang 26 = .ok (.iload_n 1, 1) := by decide +kernel
theorem dM_hang_27 : decode cM_hang 27 = .ok (.iaload, 1) := by decide +kernel
theorem dM_hang_28 : decode cM_hang 28 = .ok (.iconst 0, 1) := by decide +kernel
theorem dM_hang_29 : decode cM_hang 29 = .ok (.invokevirtual 110, 3) := by decide +kernel
theorem dM_hang_32 : decode cM_hang 32 = .ok (.aload_n 0, 1) := by decide +kernel
theorem dM_hang_33 : decode cM_hang 33 = .ok (.getfield 59, 3) := by decide +kernel
theorem dM_hang_36 : decode cM_hang 36 = .ok (.iload_n 1, 1) := by decide +kernel
theorem dM_hang_37 : decode cM_hang 37 = .ok (.iconst 1, 1) := by decide +kernel
theorem dM_hang_38 : decode cM_hang 38 = .ok (.iastore, 1) := by decide +kernel
theorem dM_hang_39 : decode cM_hang 39 = .ok (.bipush 9, 2) := by decide +kernel
theorem dM_hang_41 : decode cM_hang 41 = .ok (.ireturn, 1) := by decide +kernel
theorem dM_end_0 : decode cM_end 0 = .ok (.aload_n 0, 1) := by decide +kernel
theorem dM_end_1 : decode cM_end 1 = .ok (.getfield 62, 3) := by decide +kernel
theorem dM_end_4 : decode cM_end 4 = .ok (.iload_n 1, 1) := by decide +kernel
theorem dM_end_5 : decode cM_end 5 = .ok (.aload_n 0, 1) := by decide +kernel
theorem dM_end_6 : decode cM_end 6 = .ok (.getfield 59, 3) := by decide +kernel
theorem dM_end_9 : decode cM_end 9 = .ok (.iload_n 1, 1) := by decide +kernel
theorem dM_end_10 : decode cM_end 10 = .ok (.iaload, 1) := by decide +kernel
theorem dM_end_11 : decode cM_end 11 = .ok (.iastore, 1) := by decide +kernel
theorem dM_end_12 : decode cM_end 12 = .ok (.aload_n 0, 1) := by decide +kernel
theorem dM_end_13 : decode cM_end 13 = .ok (.getfield 65, 3) := by decide +kernel
theorem dM_end_16 : decode cM_end 16 = .ok (.iload_n 1, 1) := by decide +kernel
theorem dM_end_17 : decode cM_end 17 = .ok (.iconst (-1), 1) := by decide +kernel
theorem dM_end_18 : decode cM_end 18 = .ok (.iastore, 1) := by decide +kernel
theorem dM_end_19 : decode cM_end 19 = .ok (.aload_n 0, 1) := by decide +kernel
theorem dM_end_20 : decode cM_end 20 = .ok (.getfield 68, 3) := by decide +kernel
theorem dM_end_23 : decode cM_end 23 = .ok (.iconst 2, 1) := by decide +kernel
theorem dM_end_24 : decode cM_end 24 = .ok (.iload_n 1, 1) := by decide +kernel
theorem dM_end_25 : decode cM_end 25 = .ok (.imul, 1) := by decide +kernel
theorem dM_end_26 : decode cM_end 26 = .ok (.iconst 0, 1) := by decide +kernel
theorem dM_end_27 : decode cM_end 27 = .ok (.iastore, 1) := by decide +kernel
theorem dM_end_28 : decode cM_end 28 = .ok (.aload_n 0, 1) := by decide +kernel
theorem dM_end_29 : decode cM_end 29 = .ok (.getfield 68, 3) := by decide +kernel
theorem dM_end_32 : decode cM_end 32 = .ok (.iconst 2, 1) := by decide +kernel
theorem dM_end_33 : decode cM_end 33 = .ok (.iload_n 1, 1) := by decide +kernel
theorem dM_end_34 : decode cM_end 34 = .ok (.imul, 1) := by decide +kernel
theorem dM_end_35 : decode cM_end 35 = .ok (.iconst 1, 1) := by decide +kernel
theorem dM_end_36 : decode cM_end 36 = .ok (.iadd, 1) := by decide +kernel
theorem dM_end_37 : decode cM_end 37 = .ok (.iconst 0, 1) := by decide +kernel
theorem dM_end_38 : decode cM_end 38 = .ok (.iastore, 1) := by decide +kernel
theorem dM_end_39 : decode cM_end 39 = .ok (.iconst 0, 1) := by decide +kernel
theorem dM_end_40 : decode cM_end 40 = .ok (.ireturn, 1) := by decide +kernel
theorem dM_unhang_0 : decode cM_unhang 0 = .ok (.aload_n 0, 1) := by decide +kernel
theorem dM_unhang_1 : decode cM_unhang 1 = .ok (.iload_n 1, 1) := by decide +kernel
theorem dM_unhang_2 : decode cM_unhang 2 = .ok (.invokevirtual 103, 3) := by decide +kernel
theorem dM_unhang_5 : decode cM_unhang 5 = .ok (.aload_n 0, 1) := by decide +kernel
theorem dM_unhang_6 : decode cM_unhang 6 = .ok (.getfield 59, 3) := by decide +kernel
theorem dM_unhang_9 : decode cM_unhang 9 = .ok (.iload_n 1, 1) := by decide +kernel
theorem dM_unhang_10 : decode cM_unhang 10 = .ok (.iconst 1, 1) := by decide +kernel
theorem dM_unhang_11 : decode cM_unhang 11 = .ok (.iastore, 1) := by decide +kernel
theorem dM_unhang_12 : decode cM_unhang 12 = .ok (.aload_n 0, 1) := by decide +kernel
theorem dM_unhang_13 : decode cM_unhang 13 = .ok (.iload_n 1, 1) := by decide +kernel
theorem dM_unhang_14 : decode cM_unhang 14 = .ok (.invokevirtual 107, 3) := by decide +kernel
theorem dM_unhang_17 : decode cM_unhang 17 = .ok (.ifCond .eq 31, 3) := by decide +kernel
theorem dM_unhang_20 : decode cM_unhang 20 = .ok (.aload_n 0, 1) := by decide +kernel
theorem dM_unhang_21 : decode cM_unhang 21 = .ok (.aload_n 0, 1) := by decide +kernel
theorem dM_unhang_22 : decode cM_unhang 22 = .ok (.getfield 38, 3) := by decide +kernel
theorem dM_unhang_25 : decode cM_unhang 25 = .ok (.iload_n 1, 1) := by decide +kernel
theorem dM_unhang_26 : decode cM_unhang 26 = .ok (.iaload, 1) := by decide +kernel
theorem dM_unhang_27 : decode cM_unhang 27 = .ok (.aload_n 0, 1) := by decide +kernel
theorem dM_unhang_28 : decode cM_unhang 28 = .ok (.getfield 50, 3) := by decide +kernel
theorem dM_unhang_31 : decode cM_unhang 31 = .ok (.iload_n 1, 1) := by decide +kernel
theorem dM_unhang_32 : decode cM_unhang 32 = .ok (.iaload, 1) := by decide +kernel
theorem dM_unhang_33 : decode cM_unhang 33 = .ok (.iconst 0, 1) := by decide +kernel
theorem dM_unhang_34 : decode cM_unhang 34 = .ok (.invokevirtual 110, 3) := by decide +kernel
theorem dM_unhang_37 : decode cM_unhang 37 = .ok (.aload_n 0, 1) := by decide +kernel
theorem dM_unhang_38 : decode cM_unhang 38 = .ok (.iload_n 1, 1) := by decide +kernel
theorem dM_unhang_39 : decode cM_unhang 39 = .ok (.aload_n 0, 1) := by decide +kernel
theorem dM_unhang_40 : decode cM_unhang 40 = .ok (.getfield 44, 3) := by decide +kernel
theorem dM_unhang_43 : decode cM_unhang 43 = .ok (.iload_n 1, 1) := by decide +kernel
theorem dM_unhang_44 : decode cM_unhang 44 = .ok (.iaload, 1) := by decide +kernel
theorem dM_unhang_45 : decode cM_unhang 45 = .ok (.invokevirtual 114, 3) := by decide +kernel
theorem dM_unhang_48 : decode cM_unhang 48 = .ok (.bipush 9, 2) := by decide +kernel
theorem dM_unhang_50 : decode cM_unhang 50 = .ok (.ireturn, 1) := by decide +kernel
theorem dM_advanceThread_0 : decode cM_advanceThread 0 = .ok (.aload_n 0, 1) := by decide +kernel
theorem dM_advanceThread_1 : decode cM_advanceThread 1 = .ok (.getfield 29, 3) := by decide +kernel
theorem dM_advanceThread_4 : decode cM_advanceThread 4 = .ok (.iload_n 1, 1) := by decide +kernel
theorem dM_advanceThread_5 : decode cM_advanceThread 5 = .ok (.iaload, 1) := by decide +kernel
theorem dM_advanceThread_6 : decode cM_advanceThread 6 = .ok (.tableswitch 148 1 9 #[50, 76, 85, 94, 103, 112, 121, 130, 139], 50) := by decide +kernel
theorem dM_advanceThread_56 : decode cM_advanceThread 56 = .ok (.aload_n 0, 1) := by decide +kernel
theorem dM_advanceThread_57 : decode cM_advanceThread 57 = .ok (.getfield 65, 3) := by decide +kernel
theorem dM_advanceThread_60 : decode cM_advanceThread 60 = .ok (.iload_n 1, 1) := by decide +kernel
theorem dM_advanceThread_61 : decode cM_advanceThread 61 = .ok (.aload_n 0, 1) := by decide +kernel
theorem dM_advanceThread_62 : decode cM_advanceThread 62 = .ok (.getfield 71, 3) := by decide +kernel
theorem dM_advanceThread_65 : decode cM_advanceThread 65 = .ok (.ifCond .ne 10, 3) := by decide +kernel
theorem dM_advanceThread_68 : decode cM_advanceThread 68 = .ok (.aload_n 0, 1) := by decide +kernel
theorem dM_advanceThread_69 : decode cM_advanceThread 69 = .ok (.getfield 85, 3) := by decide +kernel
theorem dM_advanceThread_72 : decode cM_advanceThread 72 = .ok (.goto 4, 3) := by decide +kernel
theorem dM_advanceThread_75 : decode cM_advanceThread 75 = .ok (.iconst (-1), 1) := by decide +kernel
theorem dM_advanceThread_76 : decode cM_advanceThread 76 = .ok (.iastore, 1) := by decide +kernel
theorem dM_advanceThread_77 : decode cM_advanceThread 77 = .ok (.iconst 2, 1) := by decide +kernel
theorem dM_advanceThread_78 : decode cM_advanceThread 78 = .ok (.istore_n 2, 1) := by decide +kernel
theorem dM_advanceThread_79 : decode cM_advanceThread 79 = .ok (.goto 81, 3) := by decide +kernel
theorem dM_advanceThread_82 : decode cM_advanceThread 82 = .ok (.aload_n 0, 1) := by decide +kernel
theorem dM_advanceThread_83 : decode cM_advanceThread 83 = .ok (.iload_n 1, 1) := by decide +kernel
theorem dM_advanceThread_84 : decode cM_advanceThread 84 = .ok (.invokevirtual 123, 3) := by decide +kernel
theorem dM_advanceThread_87 : decode cM_advanceThread 87 = .ok (.istore_n 2, 1) := by decide +kernel
theorem dM_advanceThread_88 : decode cM_advanceThread 88 = .ok (.goto 72, 3) := by decide +kernel
theorem dM_advanceThread_91 : decode cM_advanceThread 91 = .ok (.aload_n 0, 1) := by decide +kernel
theorem dM_advanceThread_92 : decode cM_advanceThread 92 = .ok (.iload_n 1, 1) := by decide +kernel
theorem dM_advanceThread_93 : decode cM_advanceThread 93 = .ok (.invokevirtual 126, 3) := by decide +kernel
theorem dM_advanceThread_96 : decode cM_advanceThread 96 = .ok (.istore_n 2, 1) := by decide +kernel
theorem dM_advanceThread_97 : decode cM_advanceThread 97 = .ok (.goto 63, 3) := by decide +kernel
theorem dM_advanceThread_100 : decode cM_advanceThread 100 = .ok (.aload_n 0, 1) := by decide +kernel
theorem dM_advanceThread_101 : decode cM_advanceThread 101 = .ok (.iload_n 1, 1) := by decide +kernel
theorem dM_advanceThread_102 : decode cM_advanceThread 102 = .ok (.invokevirtual 129, 3) := by decide +kernel
theorem dM_advanceThread_105 : decode cM_advanceThread 105 = .ok (.istore_n 2, 1) := by decide +kernel
theorem dM_advanceThread_106 : decode cM_advanceThread 106 = .ok (.goto 54, 3) := by decide +kernel
theorem dM_advanceThread_109 : decode cM_advanceThread 109 = .ok (.aload_n 0, 1) := by decide +kernel
theorem dM_advanceThread_110 : decode cM_advanceThread 110 = .ok (.iload_n 1, 1) := by decide +kernel
theorem dM_advanceThread_111 : decode cM_advanceThread 111 = .ok (.invokevirtual 132, 3) := by decide +kernel
theorem dM_advanceThread_114 : decode cM_advanceThread 114 = .ok (.istore_n 2, 1) := by decide +kernel
theorem dM_advanceThread_115 : decode cM_advanceThread 115 = .ok (.goto 45, 3) := by decide +kernel
theorem dM_advanceThread_118 : decode cM_advanceThread 118 = .ok (.aload_n 0, 1) := by decide +kernel
theorem dM_advanceThread_119 : decode cM_advanceThread 119 = .ok (.iload_n 1, 1) := by decide +kernel
theorem dM_advanceThread_120 : decode cM_advanceThread 120 = .ok (.invokevirtual 135, 3) := by decide +kernel
theorem dM_advanceThread_123 : decode cM_advanceThread 123 = .ok (.istore_n 2, 1) := by decide +kernel
theorem dM_advanceThread_124 : decode cM_advanceThread 124 = .ok (.goto 36, 3) := by decide +kernel
theorem dM_advanceThread_127 : decode cM_advanceThread 127 = .ok (.aload_n 0, 1) := by decide +kernel
theorem dM_advanceThread_128 : decode cM_advanceThread 128 = .ok (.iload_n 1, 1) := by decide +kernel
theorem dM_advanceThread_129 : decode cM_advanceThread 129 = .ok (.invokevirtual 138, 3) := by decide +kernel
theorem dM_advanceThread_132 : decode cM_advanceThread 132 = .ok (.istore_n 2, 1) := by decide +kernel
theorem dM_advanceThread_133 : decode cM_advanceThread 133 = .ok (.goto 27, 3) := by decide +kernel
theorem dM_advanceThread_136 : decode cM_advanceThread 136 = .ok (.aload_n 0, 1) := by decide +kernel
theorem dM_advanceThread_137 : decode cM_advanceThread 137 = .ok (.iload_n 1, 1) := by decide +kernel
theorem dM_advanceThread_138 : decode cM_advanceThread 138 = .ok (.invokevirtual 141, 3) := by decide +kernel
theorem dM_advanceThread_141 : decode cM_advanceThread 141 = .ok (.istore_n 2, 1) := by decide +kernel
theorem dM_advanceThread_142 : decode cM_advanceThread 142 = .ok (.goto 18, 3) := by decide +kernel
theorem dM_advanceThread_145 : decode cM_advanceThread 145 = .ok (.aload_n 0, 1) := by decide +kernel
theorem dM_advanceThread_146 : decode cM_advanceThread 146 = .ok (.iload_n 1, 1) := by decide +kernel
theorem dM_advanceThread_147 : decode cM_advanceThread 147 = .ok (.invokevirtual 144, 3) := by decide +kernel
theorem dM_advanceThread_150 : decode cM_advanceThread 150 = .ok (.istore_n 2, 1) := by decide +kernel
theorem dM_advanceThread_151 : decode cM_advanceThread 151 = .ok (.goto 9, 3) := by decide +kernel
theorem dM_advanceThread_154 : decode cM_advanceThread 154 = .ok (.aload_n 0, 1) := by decide +kernel
theorem dM_advanceThread_155 : decode cM_advanceThread 155 = .ok (.iload_n 1, 1) := by decide +kernel
theorem dM_advanceThread_156 : decode cM_advanceThread 156 = .ok (.invokevirtual 147, 3) := by decide +kernel
theorem dM_advanceThread_159 : decode cM_advanceThread 159 = .ok (.istore_n 2, 1) := by decide +kernel
theorem dM_advanceThread_160 : decode cM_advanceThread 160 = .ok (.aload_n 0, 1) := by decide +kernel
theorem dM_advanceThread_161 : decode cM_advanceThread 161 = .ok (.getfield 29, 3) := by decide +kernel
theorem dM_advanceThread_164 : decode cM_advanceThread 164 = .ok (.iload_n 1, 1) := by decide +kernel
theorem dM_advanceThread_165 : decode cM_advanceThread 165 = .ok (.iload_n 2, 1) := by decide +kernel
theorem dM_advanceThread_166 : decode cM_advanceThread 166 = .ok (.iastore, 1) := by decide +kernel
theorem dM_advanceThread_167 : decode cM_advanceThread 167 = .ok (.return_, 1) := by decide +kernel
theorem dM_step_0 : decode cM_step 0 = .ok (.aload_n 0, 1) := by decide +kernel
theorem dM_step_1 : decode cM_step 1 = .ok (.iload_n 1, 1) := by decide +kernel
theorem dM_step_2 : decode cM_step 2 = .ok (.invokestatic 78, 3) := by decide +kernel
theorem dM_step_5 : decode cM_step 5 = .ok (.ifCond .ne 7, 3) := by decide +kernel
theorem dM_step_8 : decode cM_step 8 = .ok (.iconst 1, 1) := by decide +kernel
theorem dM_step_9 : decode cM_step 9 = .ok (.goto 17, 3) := by decide +kernel
theorem dM_step_12 : decode cM_step 12 = .ok (.aload_n 0, 1) := by decide +kernel
theorem dM_step_13 : decode cM_step 13 = .ok (.getfield 29, 3) := by decide +kernel
theorem dM_step_16 : decode cM_step 16 = .ok (.iload_n 1, 1) := by decide +kernel
theorem dM_step_17 : decode cM_step 17 = .ok (.iaload, 1) := by decide +kernel
theorem dM_step_18 : decode cM_step 18 = .ok (.ifCond .ne 7, 3) := by decide +kernel
theorem dM_step_21 : decode cM_step 21 = .ok (.iconst 2, 1) := by decide +kernel
theorem dM_step_22 : decode cM_step 22 = .ok (.goto 4, 3) := by decide +kernel
theorem dM_step_25 : decode cM_step 25 = .ok (.iconst 0, 1) := by decide +kernel
theorem dM_step_26 : decode cM_step 26 = .ok (.putfield 75, 3) := by decide +kernel
theorem dM_step_29 : decode cM_step 29 = .ok (.aload_n 0, 1) := by decide +kernel
theorem dM_step_30 : decode cM_step 30 = .ok (.getfield 75, 3) := by decide +kernel
theorem dM_step_33 : decode cM_step 33 = .ok (.ifCond .le 5, 3) := by decide +kernel
theorem dM_step_36 : decode cM_step 36 = .ok (.iconst 0, 1) := by decide +kernel
theorem dM_step_37 : decode cM_step 37 = .ok (.ireturn, 1) := by decide +kernel
theorem dM_step_38 : decode cM_step 38 = .ok (.aload_n 0, 1) := by decide +kernel
theorem dM_step_39 : decode cM_step 39 = .ok (.iload_n 1, 1) := by decide +kernel
theorem dM_step_40 : decode cM_step 40 = .ok (.invokevirtual 150, 3) := by decide +kernel
theorem dM_step_43 : decode cM_step 43 = .ok (.aload_n 0, 1) := by decide +kernel
theorem dM_step_44 : decode cM_step 44 = .ok (.getfield 29, 3) := by decide +kernel
theorem dM_step_47 : decode cM_step 47 = .ok (.iload_n 1, 1) := by decide +kernel
theorem dM_step_48 : decode cM_step 48 = .ok (.iaload, 1) := by decide +kernel
theorem dM_step_49 : decode cM_step 49 = .ok (.ireturn, 1) := by decide +kernel
theorem dM_finish_0 : decode cM_finish 0 = .ok (.aload_n 0, 1) := by decide +kernel
theorem dM_finish_1 : decode cM_finish 1 = .ok (.iload_n 1, 1) := by decide +kernel
theorem dM_finish_2 : decode cM_finish 2 = .ok (.invokestatic 78, 3) := by decide +kernel
theorem dM_finish_5 : decode cM_finish 5 = .ok (.ifCond .ne 7, 3) := by decide +kernel
theorem dM_finish_8 : decode cM_finish 8 = .ok (.iconst 1, 1) := by decide +kernel
theorem dM_finish_9 : decode cM_finish 9 = .ok (.goto 17, 3) := by decide +kernel
theorem dM_finish_12 : decode cM_finish 12 = .ok (.aload_n 0, 1) := by decide +kernel
theorem dM_finish_13 : decode cM_finish 13 = .ok (.getfield 29, 3) := by decide +kernel
theorem dM_finish_16 : decode cM_finish 16 = .ok (.iload_n 1, 1) := by decide +kernel
theorem dM_finish_17 : decode cM_finish 17 = .ok (.iaload, 1) := by decide +kernel
theorem dM_finish_18 : decode cM_finish 18 = .ok (.ifCond .ne 7, 3) := by decide +kernel
theorem dM_finish_21 : decode cM_finish 21 = .ok (.iconst 2, 1) := by decide +kernel
theorem dM_finish_22 : decode cM_finish 22 = .ok (.goto 4, 3) := by decide +kernel
theorem dM_finish_25 : decode cM_finish 25 = .ok (.iconst 0, 1) := by decide +kernel
theorem dM_finish_26 : decode cM_finish 26 = .ok (.putfield 75, 3) := by decide +kernel
theorem dM_finish_29 : decode cM_finish 29 = .ok (.aload_n 0, 1) := by decide +kernel
theorem dM_finish_30 : decode cM_finish 30 = .ok (.getfield 75, 3) := by decide +kernel
theorem dM_finish_33 : decode cM_finish 33 = .ok (.ifCond .le 5, 3) := by decide +kernel
theorem dM_finish_36 : decode cM_finish 36 = .ok (.iconst 0, 1) := by decide +kernel
theorem dM_finish_37 : decode cM_finish 37 = .ok (.ireturn, 1) := by decide +kernel
theorem dM_finish_38 : decode cM_finish 38 = .ok (.iconst 0, 1) := by decide +kernel
theorem dM_finish_39 : decode cM_finish 39 = .ok (.istore_n 2, 1) := by decide +kernel
theorem dM_finish_40 : decode cM_finish 40 = .ok (.aload_n 0, 1) := by decide +kernel
theorem dM_finish_41 : decode cM_finish 41 = .ok (.getfield 29, 3) := by decide +kernel
theorem dM_finish_44 : decode cM_finish 44 = .ok (.iload_n 1, 1) := by decide +kernel
theorem dM_finish_45 : decode cM_finish 45 = .ok (.iaload, 1) := by decide +kernel
theorem dM_finish_46 : decode cM_finish 46 = .ok (.ifCond .eq 21, 3) := by decide +kernel
theorem dM_finish_49 : decode cM_finish 49 = .ok (.iload_n 2, 1) := by decide +kernel
theorem dM_finish_50 : decode cM_finish 50 = .ok (.sipush 300, 3) := by decide +kernel
theorem dM_finish_53 : decode cM_finish 53 = .ok (.if_icmp .ge 14, 3) := by decide +kernel
theorem dM_finish_56 : decode cM_finish 56 = .ok (.aload_n 0, 1) := by decide +kernel
theorem dM_finish_57 : decode cM_finish 57 = .ok (.iload_n 1, 1) := by decide +kernel
theorem dM_finish_58 : decode cM_finish 58 = .ok (.invokevirtual 150, 3) := by decide +kernel
theorem dM_finish_61 : decode cM_finish 61 = .ok (.iinc 2 1, 3) := by decide +kernel
theorem dM_finish_64 : decode cM_finish 64 = .ok (.goto (-24), 3) := by decide +kernel
theorem dM_finish_67 : decode cM_finish 67 = .ok (.iload_n 2, 1) := by decide +kernel
theorem dM_finish_68 : decode cM_finish 68 = .ok (.ireturn, 1) := by decide +kernel
theorem dM_result_0 : decode cM_result 0 = .ok (.aload_n 0, 1) := by decide +kernel
theorem dM_result_1 : decode cM_result 1 = .ok (.iload_n 1, 1) := by decide +kernel
theorem dM_result_2 : decode cM_result 2 = .ok (.invokestatic 78, 3) := by decide +kernel
theorem dM_result_5 : decode cM_result 5 = .ok (.ifCond .ne 7, 3) := by decide +kernel
theorem dM_result_8 : decode cM_result 8 = .ok (.iconst 1, 1) := by decide +kernel
theorem dM_result_9 : decode cM_result 9 = .ok (.goto 17, 3) := by decide +kernel
theorem dM_result_12 : decode cM_result 12 = .ok (.aload_n 0, 1) := by decide +kernel
theorem dM_result_13 : decode cM_result 13 = .ok (.getfield 62, 3) := by decide +kernel
theorem dM_result_16 : decode cM_result 16 = .ok (.iload_n 1, 1) := by decide +kernel
theorem dM_result_17 : decode cM_result 17 = .ok (.iaload, 1) := by decide +kernel
theorem dM_result_18 : decode cM_result 18 = .ok (.ifCond .ge 7, 3) := by decide +kernel
theorem dM_result_21 : decode cM_result 21 = .ok (.iconst 2, 1) := by decide +kernel
theorem dM_result_22 : decode cM_result 22 = .ok (.goto 4, 3) := by decide +kernel
theorem dM_result_25 : decode cM_result 25 = .ok (.iconst 0, 1) := by decide +kernel
theorem dM_result_26 : decode cM_result 26 = .ok (.putfield 75, 3) := by decide +kernel
theorem dM_result_29 : decode cM_result 29 = .ok (.aload_n 0, 1) := by decide +kernel
theorem dM_result_30 : decode cM_result 30 = .ok (.getfield 75, 3) := by decide +kernel
theorem dM_result_33 : decode cM_result 33 = .ok (.ifCond .le 7, 3) := by decide +kernel
theorem dM_result_36 : decode cM_result 36 = .ok (.iconst 0, 1) := by decide +kernel
theorem dM_result_37 : decode cM_result 37 = .ok (.goto 9, 3) := by decide +kernel
theorem dM_result_40 : decode cM_result 40 = .ok (.aload_n 0, 1) := by decide +kernel
theorem dM_result_41 : decode cM_result 41 = .ok (.getfield 62, 3) := by decide +kernel
theorem dM_result_44 : decode cM_result 44 = .ok (.iload_n 1, 1) := by decide +kernel
theorem dM_result_45 : decode cM_result 45 = .ok (.iaload, 1) := by decide +kernel
theorem dM_result_46 : decode cM_result 46 = .ok (.ireturn, 1) := by decide +kernel
theorem dM_at_0 : decode cM_at 0 = .ok (.aload_n 0, 1) := by decide +kernel
theorem dM_at_1 : decode cM_at 1 = .ok (.iload_n 1, 1) := by decide +kernel
theorem dM_at_2 : decode cM_at 2 = .ok (.invokestatic 78, 3) := by decide +kernel
theorem dM_at_5 : decode cM_at 5 = .ok (.ifCond .eq 7, 3) := by decide +kernel
theorem dM_at_8 : decode cM_at 8 = .ok (.iconst 0, 1) := by decide +kernel
theorem dM_at_9 : decode cM_at 9 = .ok (.goto 4, 3) := by decide +kernel
theorem dM_at_12 : decode cM_at 12 = .ok (.iconst 1, 1) := by decide +kernel
theorem dM_at_13 : decode cM_at 13 = .ok (.putfield 75, 3) := by decide +kernel
theorem dM_at_16 : decode cM_at 16 = .ok (.aload_n 0, 1) := by decide +kernel
theorem dM_at_17 : decode cM_at 17 = .ok (.getfield 75, 3) := by decide +kernel
theorem dM_at_20 : decode cM_at 20 = .ok (.ifCond .le 7, 3) := by decide +kernel
theorem dM_at_23 : decode cM_at 23 = .ok (.iconst 0, 1) := by decide +kernel
theorem dM_at_24 : decode cM_at 24 = .ok (.goto 9, 3) := by decide +kernel
theorem dM_at_27 : decode cM_at 27 = .ok (.aload_n 0, 1) := by decide +kernel
theorem dM_at_28 : decode cM_at 28 = .ok (.getfield 29, 3) := by decide +kernel
theorem dM_at_31 : decode cM_at 31 = .ok (.iload_n 1, 1) := by decide +kernel
theorem dM_at_32 : decode cM_at 32 = .ok (.iaload, 1) := by decide +kernel
theorem dM_at_33 : decode cM_at 33 = .ok (.ireturn, 1) := by decide +kernel
theorem dM_known_0 : decode cM_known 0 = .ok (.aload_n 0, 1) := by decide +kernel
theorem dM_known_1 : decode cM_known 1 = .ok (.iload_n 1, 1) := by decide +kernel
theorem dM_known_2 : decode cM_known 2 = .ok (.invokestatic 78, 3) := by decide +kernel
theorem dM_known_5 : decode cM_known 5 = .ok (.ifCond .eq 16, 3) := by decide +kernel
theorem dM_known_8 : decode cM_known 8 = .ok (.iload_n 2, 1) := by decide +kernel
theorem dM_known_9 : decode cM_known 9 = .ok (.ifCond .lt 12, 3) := by decide +kernel
theorem dM_known_12 : decode cM_known 12 = .ok (.iload_n 2, 1) := by decide +kernel
theorem dM_known_13 : decode cM_known 13 = .ok (.iconst 3, 1) := by decide +kernel
theorem dM_known_14 : decode cM_known 14 = .ok (.if_icmp .gt 7, 3) := by decide +kernel
theorem dM_known_17 : decode cM_known 17 = .ok (.iconst 0, 1) := by decide +kernel
theorem dM_known_18 : decode cM_known 18 = .ok (.goto 4, 3) := by decide +kernel
theorem dM_known_21 : decode cM_known 21 = .ok (.iconst 1, 1) := by decide +kernel
theorem dM_known_22 : decode cM_known 22 = .ok (.putfield 75, 3) := by decide +kernel
theorem dM_known_25 : decode cM_known 25 = .ok (.aload_n 0, 1) := by decide +kernel
theorem dM_known_26 : decode cM_known 26 = .ok (.getfield 75, 3) := by decide +kernel
theorem dM_known_29 : decode cM_known 29 = .ok (.ifCond .le 5, 3) := by decide +kernel
theorem dM_known_32 : decode cM_known 32 = .ok (.iconst 0, 1) := by decide +kernel
theorem dM_known_33 : decode cM_known 33 = .ok (.ireturn, 1) := by decide +kernel
theorem dM_known_34 : decode cM_known 34 = .ok (.iload_n 2, 1) := by decide +kernel
theorem dM_known_35 : decode cM_known 35 = .ok (.ifCond .ne 12, 3) := by decide +kernel
theorem dM_known_38 : decode cM_known 38 = .ok (.aload_n 0, 1) := by decide +kernel
theorem dM_known_39 : decode cM_known 39 = .ok (.getfield 38, 3) := by decide +kernel
theorem dM_known_42 : decode cM_known 42 = .ok (.iload_n 1, 1) := by decide +kernel
theorem dM_known_43 : decode cM_known 43 = .ok (.iaload, 1) := by decide +kernel
theorem dM_known_44 : decode cM_known 44 = .ok (.goto 37, 3) := by decide +kernel
theorem dM_known_47 : decode cM_known 47 = .ok (.iload_n 2, 1) := by decide +kernel
theorem dM_known_48 : decode cM_known 48 = .ok (.iconst 1, 1) := by decide +kernel
theorem dM_known_49 : decode cM_known 49 = .ok (.if_icmp .ne 12, 3) := by decide +kernel
theorem dM_known_52 : decode cM_known 52 = .ok (.aload_n 0, 1) := by decide +kernel
theorem dM_known_53 : decode cM_known 53 = .ok (.getfield 44, 3) := by decide +kernel
theorem dM_known_56 : decode cM_known 56 = .ok (.iload_n 1, 1) := by decide +kernel
theorem dM_known_57 : decode cM_known 57 = .ok (.iaload, 1) := by decide +kernel
theorem dM_known_58 : decode cM_known 58 = .ok (.goto 23, 3) := by decide +kernel
theorem dM_known_61 : decode cM_known 61 = .ok (.iload_n 2, 1) := by decide +kernel
theorem dM_known_62 : decode cM_known 62 = .ok (.iconst 2, 1) := by decide +kernel
theorem dM_known_63 : decode cM_known 63 = .ok (.if_icmp .ne 12, 3) := by decide +kernel
theorem dM_known_66 : decode cM_known 66 = .ok (.aload_n 0, 1) := by decide +kernel
theorem dM_known_67 : decode cM_known 67 = .ok (.getfield 50, 3) := by decide +kernel
