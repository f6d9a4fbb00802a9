theorem dM_known_70 : decode cM_known 70 = .ok (.iload_n 1, 1) := by decide +kernel
theorem dM_known_71 : decode cM_known 71 = .ok (.iaload, 1) := by decide +kernel
theorem dM_known_72 : decode cM_known 72 = .ok (.goto 9, 3) := by decide +kernel
theorem dM_known_75 : decode cM_known 75 = .ok (.aload_n 0, 1) := by decide +kernel
theorem dM_known_76 : decode cM_known 76 = .ok (.getfield 56, 3) := by decide +kernel
theorem dM_known_79 : decode cM_known 79 = .ok (.iload_n 1, 1) := by decide +kernel
theorem dM_known_80 : decode cM_known 80 = .ok (.iaload, 1) := by decide +kernel
theorem dM_known_81 : decode cM_known 81 = .ok (.ireturn, 1) := by decide +kernel
theorem dM_says_0 : decode cM_says 0 = .ok (.aload_n 0, 1) := by decide +kernel
theorem dM_says_1 : decode cM_says 1 = .ok (.iload_n 1, 1) := by decide +kernel
theorem dM_says_2 : decode cM_says 2 = .ok (.invokestatic 78, 3) := by decide +kernel
theorem dM_says_5 : decode cM_says 5 = .ok (.ifCond .eq 16, 3) := by decide +kernel
theorem dM_says_8 : decode cM_says 8 = .ok (.iload_n 2, 1) := by decide +kernel
theorem dM_says_9 : decode cM_says 9 = .ok (.ifCond .lt 12, 3) := by decide +kernel
theorem dM_says_12 : decode cM_says 12 = .ok (.iload_n 2, 1) := by decide +kernel
theorem dM_says_13 : decode cM_says 13 = .ok (.iconst 2, 1) := by decide +kernel
theorem dM_says_14 : decode cM_says 14 = .ok (.if_icmp .gt 7, 3) := by decide +kernel
theorem dM_says_17 : decode cM_says 17 = .ok (.iconst 0, 1) := by decide +kernel
theorem dM_says_18 : decode cM_says 18 = .ok (.goto 4, 3) := by decide +kernel
theorem dM_says_21 : decode cM_says 21 = .ok (.iconst 1, 1) := by decide +kernel
theorem dM_says_22 : decode cM_says 22 = .ok (.putfield 75, 3) := by decide +kernel
theorem dM_says_25 : decode cM_says 25 = .ok (.aload_n 0, 1) := by decide +kernel
theorem dM_says_26 : decode cM_says 26 = .ok (.getfield 75, 3) := by decide +kernel
theorem dM_says_29 : decode cM_says 29 = .ok (.ifCond .le 5, 3) := by decide +kernel
theorem dM_says_32 : decode cM_says 32 = .ok (.iconst 0, 1) := by decide +kernel
theorem dM_says_33 : decode cM_says 33 = .ok (.ireturn, 1) := by decide +kernel
theorem dM_says_34 : decode cM_says 34 = .ok (.iload_n 2, 1) := by decide +kernel
theorem dM_says_35 : decode cM_says 35 = .ok (.iconst 2, 1) := by decide +kernel
theorem dM_says_36 : decode cM_says 36 = .ok (.if_icmp .ne 10, 3) := by decide +kernel
theorem dM_says_39 : decode cM_says 39 = .ok (.aload_n 0, 1) := by decide +kernel
theorem dM_says_40 : decode cM_says 40 = .ok (.getfield 65, 3) := by decide +kernel
theorem dM_says_43 : decode cM_says 43 = .ok (.iload_n 1, 1) := by decide +kernel
theorem dM_says_44 : decode cM_says 44 = .ok (.iaload, 1) := by decide +kernel
theorem dM_says_45 : decode cM_says 45 = .ok (.ireturn, 1) := by decide +kernel
theorem dM_says_46 : decode cM_says 46 = .ok (.aload_n 0, 1) := by decide +kernel
theorem dM_says_47 : decode cM_says 47 = .ok (.getfield 68, 3) := by decide +kernel
theorem dM_says_50 : decode cM_says 50 = .ok (.iconst 2, 1) := by decide +kernel
theorem dM_says_51 : decode cM_says 51 = .ok (.iload_n 1, 1) := by decide +kernel
theorem dM_says_52 : decode cM_says 52 = .ok (.imul, 1) := by decide +kernel
theorem dM_says_53 : decode cM_says 53 = .ok (.iload_n 2, 1) := by decide +kernel
theorem dM_says_54 : decode cM_says 54 = .ok (.iadd, 1) := by decide +kernel
theorem dM_says_55 : decode cM_says 55 = .ok (.iaload, 1) := by decide +kernel
theorem dM_says_56 : decode cM_says 56 = .ok (.istore_n 3, 1) := by decide +kernel
theorem dM_says_57 : decode cM_says 57 = .ok (.iload_n 3, 1) := by decide +kernel
theorem dM_says_58 : decode cM_says 58 = .ok (.ifCond .ne 7, 3) := by decide +kernel
theorem dM_says_61 : decode cM_says 61 = .ok (.iconst (-1), 1) := by decide +kernel
theorem dM_says_62 : decode cM_says 62 = .ok (.goto 4, 3) := by decide +kernel
theorem dM_says_65 : decode cM_says 65 = .ok (.iload_n 3, 1) := by decide +kernel
theorem dM_says_66 : decode cM_says 66 = .ok (.ireturn, 1) := by decide +kernel
theorem dM_block_0 : decode cM_block 0 = .ok (.aload_n 0, 1) := by decide +kernel
theorem dM_block_1 : decode cM_block 1 = .ok (.iload_n 1, 1) := by decide +kernel
theorem dM_block_2 : decode cM_block 2 = .ok (.ifCond .lt 22, 3) := by decide +kernel
theorem dM_block_5 : decode cM_block 5 = .ok (.iload_n 1, 1) := by decide +kernel
theorem dM_block_6 : decode cM_block 6 = .ok (.bipush 20, 2) := by decide +kernel
theorem dM_block_8 : decode cM_block 8 = .ok (.if_icmp .gt 16, 3) := by decide +kernel
theorem dM_block_11 : decode cM_block 11 = .ok (.iload_n 2, 1) := by decide +kernel
theorem dM_block_12 : decode cM_block 12 = .ok (.ifCond .lt 12, 3) := by decide +kernel
theorem dM_block_15 : decode cM_block 15 = .ok (.iload_n 2, 1) := by decide +kernel
theorem dM_block_16 : decode cM_block 16 = .ok (.iconst 5, 1) := by decide +kernel
theorem dM_block_17 : decode cM_block 17 = .ok (.if_icmp .gt 7, 3) := by decide +kernel
theorem dM_block_20 : decode cM_block 20 = .ok (.iconst 0, 1) := by decide +kernel
theorem dM_block_21 : decode cM_block 21 = .ok (.goto 4, 3) := by decide +kernel
theorem dM_block_24 : decode cM_block 24 = .ok (.iconst 1, 1) := by decide +kernel
theorem dM_block_25 : decode cM_block 25 = .ok (.putfield 75, 3) := by decide +kernel
theorem dM_block_28 : decode cM_block 28 = .ok (.aload_n 0, 1) := by decide +kernel
theorem dM_block_29 : decode cM_block 29 = .ok (.getfield 75, 3) := by decide +kernel
theorem dM_block_32 : decode cM_block 32 = .ok (.ifCond .le 5, 3) := by decide +kernel
theorem dM_block_35 : decode cM_block 35 = .ok (.iconst 0, 1) := by decide +kernel
theorem dM_block_36 : decode cM_block 36 = .ok (.ireturn, 1) := by decide +kernel
theorem dM_block_37 : decode cM_block 37 = .ok (.iload_n 2, 1) := by decide +kernel
theorem dM_block_38 : decode cM_block 38 = .ok (.iconst 2, 1) := by decide +kernel
theorem dM_block_39 : decode cM_block 39 = .ok (.if_icmp .ne 10, 3) := by decide +kernel
theorem dM_block_42 : decode cM_block 42 = .ok (.aload_n 0, 1) := by decide +kernel
theorem dM_block_43 : decode cM_block 43 = .ok (.getfield 16, 3) := by decide +kernel
theorem dM_block_46 : decode cM_block 46 = .ok (.iload_n 1, 1) := by decide +kernel
theorem dM_block_47 : decode cM_block 47 = .ok (.iaload, 1) := by decide +kernel
theorem dM_block_48 : decode cM_block 48 = .ok (.ireturn, 1) := by decide +kernel
theorem dM_block_49 : decode cM_block 49 = .ok (.iload_n 1, 1) := by decide +kernel
theorem dM_block_50 : decode cM_block 50 = .ok (.ifCond .ne 5, 3) := by decide +kernel
theorem dM_block_53 : decode cM_block 53 = .ok (.iconst (-1), 1) := by decide +kernel
theorem dM_block_54 : decode cM_block 54 = .ok (.ireturn, 1) := by decide +kernel
theorem dM_block_55 : decode cM_block 55 = .ok (.iload_n 2, 1) := by decide +kernel
theorem dM_block_56 : decode cM_block 56 = .ok (.tableswitch 72 0 4 #[36, 43, 72, 50, 65], 36) := by decide +kernel
theorem dM_block_92 : decode cM_block 92 = .ok (.aload_n 0, 1) := by decide +kernel
theorem dM_block_93 : decode cM_block 93 = .ok (.getfield 7, 3) := by decide +kernel
theorem dM_block_96 : decode cM_block 96 = .ok (.iload_n 1, 1) := by decide +kernel
theorem dM_block_97 : decode cM_block 97 = .ok (.iaload, 1) := by decide +kernel
theorem dM_block_98 : decode cM_block 98 = .ok (.ireturn, 1) := by decide +kernel
theorem dM_block_99 : decode cM_block 99 = .ok (.aload_n 0, 1) := by decide +kernel
theorem dM_block_100 : decode cM_block 100 = .ok (.getfield 13, 3) := by decide +kernel
theorem dM_block_103 : decode cM_block 103 = .ok (.iload_n 1, 1) := by decide +kernel
theorem dM_block_104 : decode cM_block 104 = .ok (.iaload, 1) := by decide +kernel
theorem dM_block_105 : decode cM_block 105 = .ok (.ireturn, 1) := by decide +kernel
theorem dM_block_106 : decode cM_block 106 = .ok (.aload_n 0, 1) := by decide +kernel
theorem dM_block_107 : decode cM_block 107 = .ok (.getfield 19, 3) := by decide +kernel
theorem dM_block_110 : decode cM_block 110 = .ok (.iload_n 1, 1) := by decide +kernel
theorem dM_block_111 : decode cM_block 111 = .ok (.baload, 1) := by decide +kernel
theorem dM_block_112 : decode cM_block 112 = .ok (.ifCond .eq 7, 3) := by decide +kernel
theorem dM_block_115 : decode cM_block 115 = .ok (.iconst 1, 1) := by decide +kernel
theorem dM_block_116 : decode cM_block 116 = .ok (.goto 4, 3) := by decide +kernel
theorem dM_block_119 : decode cM_block 119 = .ok (.iconst 0, 1) := by decide +kernel
theorem dM_block_120 : decode cM_block 120 = .ok (.ireturn, 1) := by decide +kernel
theorem dM_block_121 : decode cM_block 121 = .ok (.aload_n 0, 1) := by decide +kernel
theorem dM_block_122 : decode cM_block 122 = .ok (.getfield 23, 3) := by decide +kernel
theorem dM_block_125 : decode cM_block 125 = .ok (.iload_n 1, 1) := by decide +kernel
theorem dM_block_126 : decode cM_block 126 = .ok (.iaload, 1) := by decide +kernel
theorem dM_block_127 : decode cM_block 127 = .ok (.ireturn, 1) := by decide +kernel
theorem dM_block_128 : decode cM_block 128 = .ok (.aload_n 0, 1) := by decide +kernel
theorem dM_block_129 : decode cM_block 129 = .ok (.getfield 7, 3) := by decide +kernel
theorem dM_block_132 : decode cM_block 132 = .ok (.iload_n 1, 1) := by decide +kernel
theorem dM_block_133 : decode cM_block 133 = .ok (.iaload, 1) := by decide +kernel
theorem dM_block_134 : decode cM_block 134 = .ok (.iconst 2, 1) := by decide +kernel
theorem dM_block_135 : decode cM_block 135 = .ok (.if_icmp .ne 12, 3) := by decide +kernel
theorem dM_block_138 : decode cM_block 138 = .ok (.aload_n 0, 1) := by decide +kernel
theorem dM_block_139 : decode cM_block 139 = .ok (.getfield 26, 3) := by decide +kernel
theorem dM_block_142 : decode cM_block 142 = .ok (.iload_n 1, 1) := by decide +kernel
theorem dM_block_143 : decode cM_block 143 = .ok (.iaload, 1) := by decide +kernel
theorem dM_block_144 : decode cM_block 144 = .ok (.goto 4, 3) := by decide +kernel
theorem dM_block_147 : decode cM_block 147 = .ok (.iconst (-1), 1) := by decide +kernel
theorem dM_block_148 : decode cM_block 148 = .ok (.ireturn, 1) := by decide +kernel
theorem dM_count_0 : decode cM_count 0 = .ok (.iconst 0, 1) := by decide +kernel
theorem dM_count_1 : decode cM_count 1 = .ok (.istore_n 3, 1) := by decide +kernel
theorem dM_count_2 : decode cM_count 2 = .ok (.aload_n 0, 1) := by decide +kernel
theorem dM_count_3 : decode cM_count 3 = .ok (.getfield 16, 3) := by decide +kernel
theorem dM_count_6 : decode cM_count 6 = .ok (.iconst 0, 1) := by decide +kernel
theorem dM_count_7 : decode cM_count 7 = .ok (.iaload, 1) := by decide +kernel
theorem dM_count_8 : decode cM_count 8 = .ok (.istore 4, 2) := by decide +kernel
theorem dM_count_10 : decode cM_count 10 = .ok (.iconst 0, 1) := by decide +kernel
theorem dM_count_11 : decode cM_count 11 = .ok (.istore 5, 2) := by decide +kernel
theorem dM_count_13 : decode cM_count 13 = .ok (.iload 5, 2) := by decide +kernel
theorem dM_count_15 : decode cM_count 15 = .ok (.bipush 20, 2) := by decide +kernel
theorem dM_count_17 : decode cM_count 17 = .ok (.if_icmp .ge 63, 3) := by decide +kernel
theorem dM_count_20 : decode cM_count 20 = .ok (.iload 4, 2) := by decide +kernel
theorem dM_count_22 : decode cM_count 22 = .ok (.ifCond .eq 58, 3) := by decide +kernel
theorem dM_count_25 : decode cM_count 25 = .ok (.aload_n 0, 1) := by decide +kernel
theorem dM_count_26 : decode cM_count 26 = .ok (.getfield 19, 3) := by decide +kernel
theorem dM_count_29 : decode cM_count 29 = .ok (.iload 4, 2) := by decide +kernel
theorem dM_count_31 : decode cM_count 31 = .ok (.baload, 1) := by decide +kernel
theorem dM_count_32 : decode cM_count 32 = .ok (.ifCond .ne 31, 3) := by decide +kernel
theorem dM_count_35 : decode cM_count 35 = .ok (.aload_n 0, 1) := by decide +kernel
theorem dM_count_36 : decode cM_count 36 = .ok (.getfield 13, 3) := by decide +kernel
theorem dM_count_39 : decode cM_count 39 = .ok (.iload 4, 2) := by decide +kernel
theorem dM_count_41 : decode cM_count 41 = .ok (.iaload, 1) := by decide +kernel
theorem dM_count_42 : decode cM_count 42 = .ok (.iload_n 1, 1) := by decide +kernel
theorem dM_count_43 : decode cM_count 43 = .ok (.if_icmp .lt 20, 3) := by decide +kernel
theorem dM_count_46 : decode cM_count 46 = .ok (.aload_n 0, 1) := by decide +kernel
theorem dM_count_47 : decode cM_count 47 = .ok (.getfield 13, 3) := by decide +kernel
theorem dM_count_50 : decode cM_count 50 = .ok (.iload 4, 2) := by decide +kernel
theorem dM_count_52 : decode cM_count 52 = .ok (.iaload, 1) := by decide +kernel
theorem dM_count_53 : decode cM_count 53 = .ok (.iload_n 2, 1) := by decide +kernel
theorem dM_count_54 : decode cM_count 54 = .ok (.if_icmp .gt 9, 3) := by decide +kernel
theorem dM_count_57 : decode cM_count 57 = .ok (.iload_n 3, 1) := by decide +kernel
theorem dM_count_58 : decode cM_count 58 = .ok (.iconst 1, 1) := by decide +kernel
theorem dM_count_59 : decode cM_count 59 = .ok (.iadd, 1) := by decide +kernel
theorem dM_count_60 : decode cM_count 60 = .ok (.goto 4, 3) := by decide +kernel
theorem dM_count_63 : decode cM_count 63 = .ok (.iload_n 3, 1) := by decide +kernel
theorem dM_count_64 : decode cM_count 64 = .ok (.istore_n 3, 1) := by decide +kernel
theorem dM_count_65 : decode cM_count 65 = .ok (.aload_n 0, 1) := by decide +kernel
theorem dM_count_66 : decode cM_count 66 = .ok (.getfield 16, 3) := by decide +kernel
theorem dM_count_69 : decode cM_count 69 = .ok (.iload 4, 2) := by decide +kernel
theorem dM_count_71 : decode cM_count 71 = .ok (.iaload, 1) := by decide +kernel
theorem dM_count_72 : decode cM_count 72 = .ok (.istore 4, 2) := by decide +kernel
theorem dM_count_74 : decode cM_count 74 = .ok (.iinc 5 1, 3) := by decide +kernel
theorem dM_count_77 : decode cM_count 77 = .ok (.goto (-64), 3) := by decide +kernel
theorem dM_count_80 : decode cM_count 80 = .ok (.iload_n 3, 1) := by decide +kernel
theorem dM_count_81 : decode cM_count 81 = .ok (.ireturn, 1) := by decide +kernel
theorem dM_size_0 : decode cM_size 0 = .ok (.aload_n 0, 1) := by decide +kernel
theorem dM_size_1 : decode cM_size 1 = .ok (.iconst 0, 1) := by decide +kernel
theorem dM_size_2 : decode cM_size 2 = .ok (.putfield 75, 3) := by decide +kernel
theorem dM_size_5 : decode cM_size 5 = .ok (.aload_n 0, 1) := by decide +kernel
theorem dM_size_6 : decode cM_size 6 = .ok (.iconst 0, 1) := by decide +kernel
theorem dM_size_7 : decode cM_size 7 = .ok (.bipush 31, 2) := by decide +kernel
theorem dM_size_9 : decode cM_size 9 = .ok (.invokevirtual 153, 3) := by decide +kernel
theorem dM_size_12 : decode cM_size 12 = .ok (.ireturn, 1) := by decide +kernel
theorem dM_has_0 : decode cM_has 0 = .ok (.aload_n 0, 1) := by decide +kernel
theorem dM_has_1 : decode cM_has 1 = .ok (.iconst 0, 1) := by decide +kernel
theorem dM_has_2 : decode cM_has 2 = .ok (.putfield 75, 3) := by decide +kernel
theorem dM_has_5 : decode cM_has 5 = .ok (.aload_n 0, 1) := by decide +kernel
theorem dM_has_6 : decode cM_has 6 = .ok (.iload_n 1, 1) := by decide +kernel
theorem dM_has_7 : decode cM_has 7 = .ok (.iload_n 1, 1) := by decide +kernel
theorem dM_has_8 : decode cM_has 8 = .ok (.invokevirtual 153, 3) := by decide +kernel
theorem dM_has_11 : decode cM_has 11 = .ok (.ifCond .le 7, 3) := by decide +kernel
theorem dM_has_14 : decode cM_has 14 = .ok (.iconst 1, 1) := by decide +kernel
theorem dM_has_15 : decode cM_has 15 = .ok (.goto 4, 3) := by decide +kernel
theorem dM_has_18 : decode cM_has 18 = .ok (.iconst 0, 1) := by decide +kernel
theorem dM_has_19 : decode cM_has 19 = .ok (.ireturn, 1) := by decide +kernel
theorem dM_faults_0 : decode cM_faults 0 = .ok (.aload_n 0, 1) := by decide +kernel
theorem dM_faults_1 : decode cM_faults 1 = .ok (.iconst 0, 1) := by decide +kernel
theorem dM_faults_2 : decode cM_faults 2 = .ok (.putfield 75, 3) := by decide +kernel
theorem dM_faults_5 : decode cM_faults 5 = .ok (.aload_n 0, 1) := by decide +kernel
theorem dM_faults_6 : decode cM_faults 6 = .ok (.getfield 92, 3) := by decide +kernel
theorem dM_faults_9 : decode cM_faults 9 = .ok (.ireturn, 1) := by decide +kernel
theorem dM_epoch_0 : decode cM_epoch 0 = .ok (.aload_n 0, 1) := by decide +kernel
theorem dM_epoch_1 : decode cM_epoch 1 = .ok (.iconst 0, 1) := by decide +kernel
theorem dM_epoch_2 : decode cM_epoch 2 = .ok (.putfield 75, 3) := by decide +kernel
theorem dM_epoch_5 : decode cM_epoch 5 = .ok (.aload_n 0, 1) := by decide +kernel
theorem dM_epoch_6 : decode cM_epoch 6 = .ok (.getfield 85, 3) := by decide +kernel
theorem dM_epoch_9 : decode cM_epoch 9 = .ok (.ireturn, 1) := by decide +kernel
