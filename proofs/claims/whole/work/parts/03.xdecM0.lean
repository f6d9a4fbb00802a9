theorem dM_init_0 : decode cM_init 0 = .ok (.aload_n 0, 1) := by decide +kernel
theorem dM_init_1 : decode cM_init 1 = .ok (.invokespecial 1, 3) := by decide +kernel
theorem dM_init_4 : decode cM_init 4 = .ok (.aload_n 0, 1) := by decide +kernel
theorem dM_init_5 : decode cM_init 5 = .ok (.bipush 21, 2) := by decide +kernel
theorem dM_init_7 : decode cM_init 7 = .ok (.newarray .int, 2) := by decide +kernel
theorem dM_init_9 : decode cM_init 9 = .ok (.putfield 7, 3) := by decide +kernel
theorem dM_init_12 : decode cM_init 12 = .ok (.aload_n 0, 1) := by decide +kernel
theorem dM_init_13 : decode cM_init 13 = .ok (.bipush 21, 2) := by decide +kernel
theorem dM_init_15 : decode cM_init 15 = .ok (.newarray .int, 2) := by decide +kernel
theorem dM_init_17 : decode cM_init 17 = .ok (.putfield 13, 3) := by decide +kernel
theorem dM_init_20 : decode cM_init 20 = .ok (.aload_n 0, 1) := by decide +kernel
theorem dM_init_21 : decode cM_init 21 = .ok (.bipush 21, 2) := by decide +kernel
theorem dM_init_23 : decode cM_init 23 = .ok (.newarray .int, 2) := by decide +kernel
theorem dM_init_25 : decode cM_init 25 = .ok (.putfield 16, 3) := by decide +kernel
theorem dM_init_28 : decode cM_init 28 = .ok (.aload_n 0, 1) := by decide +kernel
theorem dM_init_29 : decode cM_init 29 = .ok (.bipush 21, 2) := by decide +kernel
theorem dM_init_31 : decode cM_init 31 = .ok (.newarray .boolean, 2) := by decide +kernel
theorem dM_init_33 : decode cM_init 33 = .ok (.putfield 19, 3) := by decide +kernel
theorem dM_init_36 : decode cM_init 36 = .ok (.aload_n 0, 1) := by decide +kernel
theorem dM_init_37 : decode cM_init 37 = .ok (.bipush 21, 2) := by decide +kernel
theorem dM_init_39 : decode cM_init 39 = .ok (.newarray .int, 2) := by decide +kernel
theorem dM_init_41 : decode cM_init 41 = .ok (.putfield 23, 3) := by decide +kernel
theorem dM_init_44 : decode cM_init 44 = .ok (.aload_n 0, 1) := by decide +kernel
theorem dM_init_45 : decode cM_init 45 = .ok (.bipush 21, 2) := by decide +kernel
theorem dM_init_47 : decode cM_init 47 = .ok (.newarray .int, 2) := by decide +kernel
theorem dM_init_49 : decode cM_init 49 = .ok (.putfield 26, 3) := by decide +kernel
theorem dM_init_52 : decode cM_init 52 = .ok (.aload_n 0, 1) := by decide +kernel
theorem dM_init_53 : decode cM_init 53 = .ok (.iconst 4, 1) := by decide +kernel
theorem dM_init_54 : decode cM_init 54 = .ok (.newarray .int, 2) := by decide +kernel
theorem dM_init_56 : decode cM_init 56 = .ok (.putfield 29, 3) := by decide +kernel
theorem dM_init_59 : decode cM_init 59 = .ok (.aload_n 0, 1) := by decide +kernel
theorem dM_init_60 : decode cM_init 60 = .ok (.iconst 4, 1) := by decide +kernel
theorem dM_init_61 : decode cM_init 61 = .ok (.newarray .int, 2) := by decide +kernel
theorem dM_init_63 : decode cM_init 63 = .ok (.putfield 32, 3) := by decide +kernel
theorem dM_init_66 : decode cM_init 66 = .ok (.aload_n 0, 1) := by decide +kernel
theorem dM_init_67 : decode cM_init 67 = .ok (.iconst 4, 1) := by decide +kernel
theorem dM_init_68 : decode cM_init 68 = .ok (.newarray .int, 2) := by decide +kernel
theorem dM_init_70 : decode cM_init 70 = .ok (.putfield 35, 3) := by decide +kernel
theorem dM_init_73 : decode cM_init 73 = .ok (.aload_n 0, 1) := by decide +kernel
theorem dM_init_74 : decode cM_init 74 = .ok (.iconst 4, 1) := by decide +kernel
theorem dM_init_75 : decode cM_init 75 = .ok (.newarray .int, 2) := by decide +kernel
theorem dM_init_77 : decode cM_init 77 = .ok (.putfield 38, 3) := by decide +kernel
theorem dM_init_80 : decode cM_init 80 = .ok (.aload_n 0, 1) := by decide +kernel
theorem dM_init_81 : decode cM_init 81 = .ok (.iconst 4, 1) := by decide +kernel
theorem dM_init_82 : decode cM_init 82 = .ok (.newarray .int, 2) := by decide +kernel
theorem dM_init_84 : decode cM_init 84 = .ok (.putfield 41, 3) := by decide +kernel
theorem dM_init_87 : decode cM_init 87 = .ok (.aload_n 0, 1) := by decide +kernel
theorem dM_init_88 : decode cM_init 88 = .ok (.iconst 4, 1) := by decide +kernel
theorem dM_init_89 : decode cM_init 89 = .ok (.newarray .int, 2) := by decide +kernel
theorem dM_init_91 : decode cM_init 91 = .ok (.putfield 44, 3) := by decide +kernel
theorem dM_init_94 : decode cM_init 94 = .ok (.aload_n 0, 1) := by decide +kernel
theorem dM_init_95 : decode cM_init 95 = .ok (.iconst 4, 1) := by decide +kernel
theorem dM_init_96 : decode cM_init 96 = .ok (.newarray .int, 2) := by decide +kernel
theorem dM_init_98 : decode cM_init 98 = .ok (.putfield 47, 3) := by decide +kernel
theorem dM_init_101 : decode cM_init 101 = .ok (.aload_n 0, 1) := by decide +kernel
theorem dM_init_102 : decode cM_init 102 = .ok (.iconst 4, 1) := by decide +kernel
theorem dM_init_103 : decode cM_init 103 = .ok (.newarray .int, 2) := by decide +kernel
theorem dM_init_105 : decode cM_init 105 = .ok (.putfield 50, 3) := by decide +kernel
theorem dM_init_108 : decode cM_init 108 = .ok (.aload_n 0, 1) := by decide +kernel
theorem dM_init_109 : decode cM_init 109 = .ok (.iconst 4, 1) := by decide +kernel
theorem dM_init_110 : decode cM_init 110 = .ok (.newarray .boolean, 2) := by decide +kernel
theorem dM_init_112 : decode cM_init 112 = .ok (.putfield 53, 3) := by decide +kernel
theorem dM_init_115 : decode cM_init 115 = .ok (.aload_n 0, 1) := by decide +kernel
theorem dM_init_116 : decode cM_init 116 = .ok (.iconst 4, 1) := by decide +kernel
theorem dM_init_117 : decode cM_init 117 = .ok (.newarray .int, 2) := by decide +kernel
theorem dM_init_119 : decode cM_init 119 = .ok (.putfield 56, 3) := by decide +kernel
theorem dM_init_122 : decode cM_init 122 = .ok (.aload_n 0, 1) := by decide +kernel
theorem dM_init_123 : decode cM_init 123 = .ok (.iconst 4, 1) := by decide +kernel
theorem dM_init_124 : decode cM_init 124 = .ok (.newarray .int, 2) := by decide +kernel
theorem dM_init_126 : decode cM_init 126 = .ok (.putfield 59, 3) := by decide +kernel
theorem dM_init_129 : decode cM_init 129 = .ok (.aload_n 0, 1) := by decide +kernel
theorem dM_init_130 : decode cM_init 130 = .ok (.iconst 4, 1) := by decide +kernel
theorem dM_init_131 : decode cM_init 131 = .ok (.newarray .int, 2) := by decide +kernel
theorem dM_init_133 : decode cM_init 133 = .ok (.putfield 62, 3) := by decide +kernel
theorem dM_init_136 : decode cM_init 136 = .ok (.aload_n 0, 1) := by decide +kernel
theorem dM_init_137 : decode cM_init 137 = .ok (.iconst 4, 1) := by decide +kernel
theorem dM_init_138 : decode cM_init 138 = .ok (.newarray .int, 2) := by decide +kernel
theorem dM_init_140 : decode cM_init 140 = .ok (.putfield 65, 3) := by decide +kernel
theorem dM_init_143 : decode cM_init 143 = .ok (.aload_n 0, 1) := by decide +kernel
theorem dM_init_144 : decode cM_init 144 = .ok (.bipush 8, 2) := by decide +kernel
theorem dM_init_146 : decode cM_init 146 = .ok (.newarray .int, 2) := by decide +kernel
theorem dM_init_148 : decode cM_init 148 = .ok (.putfield 68, 3) := by decide +kernel
theorem dM_init_151 : decode cM_init 151 = .ok (.aload_n 0, 1) := by decide +kernel
theorem dM_init_152 : decode cM_init 152 = .ok (.iload_n 1, 1) := by decide +kernel
theorem dM_init_153 : decode cM_init 153 = .ok (.iconst 1, 1) := by decide +kernel
theorem dM_init_154 : decode cM_init 154 = .ok (.if_icmp .eq 8, 3) := by decide +kernel
theorem dM_init_157 : decode cM_init 157 = .ok (.iload_n 1, 1) := by decide +kernel
theorem dM_init_158 : decode cM_init 158 = .ok (.iconst 2, 1) := by decide +kernel
theorem dM_init_159 : decode cM_init 159 = .ok (.if_icmp .ne 7, 3) := by decide +kernel
theorem dM_init_162 : decode cM_init 162 = .ok (.iload_n 1, 1) := by decide +kernel
theorem dM_init_163 : decode cM_init 163 = .ok (.goto 4, 3) := by decide +kernel
theorem dM_init_166 : decode cM_init 166 = .ok (.iconst 0, 1) := by decide +kernel
theorem dM_init_167 : decode cM_init 167 = .ok (.putfield 71, 3) := by decide +kernel
theorem dM_init_170 : decode cM_init 170 = .ok (.iconst 0, 1) := by decide +kernel
theorem dM_init_171 : decode cM_init 171 = .ok (.istore_n 2, 1) := by decide +kernel
theorem dM_init_172 : decode cM_init 172 = .ok (.iload_n 2, 1) := by decide +kernel
theorem dM_init_173 : decode cM_init 173 = .ok (.iconst 4, 1) := by decide +kernel
theorem dM_init_174 : decode cM_init 174 = .ok (.if_icmp .ge 23, 3) := by decide +kernel
theorem dM_init_177 : decode cM_init 177 = .ok (.aload_n 0, 1) := by decide +kernel
theorem dM_init_178 : decode cM_init 178 = .ok (.getfield 62, 3) := by decide +kernel
theorem dM_init_181 : decode cM_init 181 = .ok (.iload_n 2, 1) := by decide +kernel
theorem dM_init_182 : decode cM_init 182 = .ok (.iconst (-1), 1) := by decide +kernel
theorem dM_init_183 : decode cM_init 183 = .ok (.iastore, 1) := by decide +kernel
theorem dM_init_184 : decode cM_init 184 = .ok (.aload_n 0, 1) := by decide +kernel
theorem dM_init_185 : decode cM_init 185 = .ok (.getfield 65, 3) := by decide +kernel
theorem dM_init_188 : decode cM_init 188 = .ok (.iload_n 2, 1) := by decide +kernel
theorem dM_init_189 : decode cM_init 189 = .ok (.iconst (-1), 1) := by decide +kernel
theorem dM_init_190 : decode cM_init 190 = .ok (.iastore, 1) := by decide +kernel
theorem dM_init_191 : decode cM_init 191 = .ok (.iinc 2 1, 3) := by decide +kernel
theorem dM_init_194 : decode cM_init 194 = .ok (.goto (-22), 3) := by decide +kernel
theorem dM_init_197 : decode cM_init 197 = .ok (.return_, 1) := by decide +kernel
theorem dM_thrown_0 : decode cM_thrown 0 = .ok (.aload_n 0, 1) := by decide +kernel
theorem dM_thrown_1 : decode cM_thrown 1 = .ok (.getfield 75, 3) := by decide +kernel
theorem dM_thrown_4 : decode cM_thrown 4 = .ok (.ireturn, 1) := by decide +kernel
theorem dM_isThread_0 : decode cM_isThread 0 = .ok (.iload_n 0, 1) := by decide +kernel
theorem dM_isThread_1 : decode cM_isThread 1 = .ok (.ifCond .lt 12, 3) := by decide +kernel
theorem dM_isThread_4 : decode cM_isThread 4 = .ok (.iload_n 0, 1) := by decide +kernel
theorem dM_isThread_5 : decode cM_isThread 5 = .ok (.iconst 3, 1) := by decide +kernel
theorem dM_isThread_6 : decode cM_isThread 6 = .ok (.if_icmp .gt 7, 3) := by decide +kernel
theorem dM_isThread_9 : decode cM_isThread 9 = .ok (.iconst 1, 1) := by decide +kernel
theorem dM_isThread_10 : decode cM_isThread 10 = .ok (.goto 4, 3) := by decide +kernel
theorem dM_isThread_13 : decode cM_isThread 13 = .ok (.iconst 0, 1) := by decide +kernel
theorem dM_isThread_14 : decode cM_isThread 14 = .ok (.ireturn, 1) := by decide +kernel
theorem dM_begin_0 : decode cM_begin 0 = .ok (.aload_n 0, 1) := by decide +kernel
theorem dM_begin_1 : decode cM_begin 1 = .ok (.iload_n 1, 1) := by decide +kernel
theorem dM_begin_2 : decode cM_begin 2 = .ok (.invokestatic 78, 3) := by decide +kernel
theorem dM_begin_5 : decode cM_begin 5 = .ok (.ifCond .ne 7, 3) := by decide +kernel
theorem dM_begin_8 : decode cM_begin 8 = .ok (.iconst 1, 1) := by decide +kernel
theorem dM_begin_9 : decode cM_begin 9 = .ok (.goto 40, 3) := by decide +kernel
theorem dM_begin_12 : decode cM_begin 12 = .ok (.iload_n 2, 1) := by decide +kernel
theorem dM_begin_13 : decode cM_begin 13 = .ok (.ifCond .lt 18, 3) := by decide +kernel
theorem dM_begin_16 : decode cM_begin 16 = .ok (.iload_n 2, 1) := by decide +kernel
theorem dM_begin_17 : decode cM_begin 17 = .ok (.iconst 2, 1) := by decide +kernel
theorem dM_begin_18 : decode cM_begin 18 = .ok (.if_icmp .gt 13, 3) := by decide +kernel
theorem dM_begin_21 : decode cM_begin 21 = .ok (.iload_n 3, 1) := by decide +kernel
theorem dM_begin_22 : decode cM_begin 22 = .ok (.ifCond .lt 9, 3) := by decide +kernel
theorem dM_begin_25 : decode cM_begin 25 = .ok (.iload_n 3, 1) := by decide +kernel
theorem dM_begin_26 : decode cM_begin 26 = .ok (.bipush 31, 2) := by decide +kernel
theorem dM_begin_28 : decode cM_begin 28 = .ok (.if_icmp .le 7, 3) := by decide +kernel
theorem dM_begin_31 : decode cM_begin 31 = .ok (.iconst 2, 1) := by decide +kernel
theorem dM_begin_32 : decode cM_begin 32 = .ok (.goto 17, 3) := by decide +kernel
theorem dM_begin_35 : decode cM_begin 35 = .ok (.aload_n 0, 1) := by decide +kernel
theorem dM_begin_36 : decode cM_begin 36 = .ok (.getfield 29, 3) := by decide +kernel
theorem dM_begin_39 : decode cM_begin 39 = .ok (.iload_n 1, 1) := by decide +kernel
theorem dM_begin_40 : decode cM_begin 40 = .ok (.iaload, 1) := by decide +kernel
theorem dM_begin_41 : decode cM_begin 41 = .ok (.ifCond .eq 7, 3) := by decide +kernel
theorem dM_begin_44 : decode cM_begin 44 = .ok (.iconst 3, 1) := by decide +kernel
theorem dM_begin_45 : decode cM_begin 45 = .ok (.goto 4, 3) := by decide +kernel
theorem dM_begin_48 : decode cM_begin 48 = .ok (.iconst 0, 1) := by decide +kernel
theorem dM_begin_49 : decode cM_begin 49 = .ok (.putfield 75, 3) := by decide +kernel
theorem dM_begin_52 : decode cM_begin 52 = .ok (.aload_n 0, 1) := by decide +kernel
theorem dM_begin_53 : decode cM_begin 53 = .ok (.getfield 75, 3) := by decide +kernel
theorem dM_begin_56 : decode cM_begin 56 = .ok (.ifCond .le 4, 3) := by decide +kernel
theorem dM_begin_59 : decode cM_begin 59 = .ok (.return_, 1) := by decide +kernel
theorem dM_begin_60 : decode cM_begin 60 = .ok (.aload_n 0, 1) := by decide +kernel
theorem dM_begin_61 : decode cM_begin 61 = .ok (.getfield 32, 3) := by decide +kernel
theorem dM_begin_64 : decode cM_begin 64 = .ok (.iload_n 1, 1) := by decide +kernel
theorem dM_begin_65 : decode cM_begin 65 = .ok (.iload_n 2, 1) := by decide +kernel
theorem dM_begin_66 : decode cM_begin 66 = .ok (.iastore, 1) := by decide +kernel
theorem dM_begin_67 : decode cM_begin 67 = .ok (.aload_n 0, 1) := by decide +kernel
theorem dM_begin_68 : decode cM_begin 68 = .ok (.getfield 35, 3) := by decide +kernel
theorem dM_begin_71 : decode cM_begin 71 = .ok (.iload_n 1, 1) := by decide +kernel
theorem dM_begin_72 : decode cM_begin 72 = .ok (.iload_n 3, 1) := by decide +kernel
theorem dM_begin_73 : decode cM_begin 73 = .ok (.iastore, 1) := by decide +kernel
theorem dM_begin_74 : decode cM_begin 74 = .ok (.aload_n 0, 1) := by decide +kernel
theorem dM_begin_75 : decode cM_begin 75 = .ok (.getfield 38, 3) := by decide +kernel
theorem dM_begin_78 : decode cM_begin 78 = .ok (.iload_n 1, 1) := by decide +kernel
theorem dM_begin_79 : decode cM_begin 79 = .ok (.iconst 0, 1) := by decide +kernel
theorem dM_begin_80 : decode cM_begin 80 = .ok (.iastore, 1) := by decide +kernel
theorem dM_begin_81 : decode cM_begin 81 = .ok (.aload_n 0, 1) := by decide +kernel
theorem dM_begin_82 : decode cM_begin 82 = .ok (.getfield 44, 3) := by decide +kernel
theorem dM_begin_85 : decode cM_begin 85 = .ok (.iload_n 1, 1) := by decide +kernel
theorem dM_begin_86 : decode cM_begin 86 = .ok (.iconst 0, 1) := by decide +kernel
theorem dM_begin_87 : decode cM_begin 87 = .ok (.iastore, 1) := by decide +kernel
theorem dM_begin_88 : decode cM_begin 88 = .ok (.aload_n 0, 1) := by decide +kernel
theorem dM_begin_89 : decode cM_begin 89 = .ok (.getfield 50, 3) := by decide +kernel
theorem dM_begin_92 : decode cM_begin 92 = .ok (.iload_n 1, 1) := by decide +kernel
theorem dM_begin_93 : decode cM_begin 93 = .ok (.iconst 0, 1) := by decide +kernel
theorem dM_begin_94 : decode cM_begin 94 = .ok (.iastore, 1) := by decide +kernel
theorem dM_begin_95 : decode cM_begin 95 = .ok (.aload_n 0, 1) := by decide +kernel
theorem dM_begin_96 : decode cM_begin 96 = .ok (.getfield 53, 3) := by decide +kernel
theorem dM_begin_99 : decode cM_begin 99 = .ok (.iload_n 1, 1) := by decide +kernel
theorem dM_begin_100 : decode cM_begin 100 = .ok (.iconst 0, 1) := by decide +kernel
theorem dM_begin_101 : decode cM_begin 101 = .ok (.bastore, 1) := by decide +kernel
theorem dM_begin_102 : decode cM_begin 102 = .ok (.aload_n 0, 1) := by decide +kernel
theorem dM_begin_103 : decode cM_begin 103 = .ok (.getfield 56, 3) := by decide +kernel
theorem dM_begin_106 : decode cM_begin 106 = .ok (.iload_n 1, 1) := by decide +kernel
theorem dM_begin_107 : decode cM_begin 107 = .ok (.iconst 0, 1) := by decide +kernel
theorem dM_begin_108 : decode cM_begin 108 = .ok (.iastore, 1) := by decide +kernel
theorem dM_begin_109 : decode cM_begin 109 = .ok (.aload_n 0, 1) := by decide +kernel
theorem dM_begin_110 : decode cM_begin 110 = .ok (.getfield 29, 3) := by decide +kernel
theorem dM_begin_113 : decode cM_begin 113 = .ok (.iload_n 1, 1) := by decide +kernel
theorem dM_begin_114 : decode cM_begin 114 = .ok (.iconst 1, 1) := by decide +kernel
theorem dM_begin_115 : decode cM_begin 115 = .ok (.iastore, 1) := by decide +kernel
theorem dM_begin_116 : decode cM_begin 116 = .ok (.return_, 1) := by decide +kernel
theorem dM_isNamed_0 : decode cM_isNamed 0 = .ok (.iconst 0, 1) := by decide +kernel
theorem dM_isNamed_1 : decode cM_isNamed 1 = .ok (.istore_n 2, 1) := by decide +kernel
theorem dM_isNamed_2 : decode cM_isNamed 2 = .ok (.iconst 0, 1) := by decide +kernel
theorem dM_isNamed_3 : decode cM_isNamed 3 = .ok (.istore_n 3, 1) := by decide +kernel
theorem dM_isNamed_4 : decode cM_isNamed 4 = .ok (.iload_n 3, 1) := by decide +kernel
theorem dM_isNamed_5 : decode cM_isNamed 5 = .ok (.bipush 8, 2) := by decide +kernel
theorem dM_isNamed_7 : decode cM_isNamed 7 = .ok (.if_icmp .ge 29, 3) := by decide +kernel
theorem dM_isNamed_10 : decode cM_isNamed 10 = .ok (.iload_n 2, 1) := by decide +kernel
theorem dM_isNamed_11 : decode cM_isNamed 11 = .ok (.ifCond .ne 13, 3) := by decide +kernel
theorem dM_isNamed_14 : decode cM_isNamed 14 = .ok (.aload_n 0, 1) := by decide +kernel
theorem dM_isNamed_15 : decode cM_isNamed 15 = .ok (.getfield 68, 3) := by decide +kernel
theorem dM_isNamed_18 : decode cM_isNamed 18 = .ok (.iload_n 3, 1) := by decide +kernel
theorem dM_isNamed_19 : decode cM_isNamed 19 = .ok (.iaload, 1) := by decide +kernel
theorem dM_isNamed_20 : decode cM_isNamed 20 = .ok (.iload_n 1, 1) := by decide +kernel
theorem dM_isNamed_21 : decode cM_isNamed 21 = .ok (.if_icmp .ne 7, 3) := by decide +kernel
theorem dM_isNamed_24 : decode cM_isNamed 24 = .ok (.iconst 1, 1) := by decide +kernel
theorem dM_isNamed_25 : decode cM_isNamed 25 = .ok (.goto 4, 3) := by decide +kernel
theorem dM_isNamed_28 : decode cM_isNamed 28 = .ok (.iconst 0, 1) := by decide +kernel
theorem dM_isNamed_29 : decode cM_isNamed 29 = .ok (.istore_n 2, 1) := by decide +kernel
theorem dM_isNamed_30 : decode cM_isNamed 30 = .ok (.iinc 3 1, 3) := by decide +kernel
theorem dM_isNamed_33 : decode cM_isNamed 33 = .ok (.goto (-29), 3) := by decide +kernel
theorem dM_isNamed_36 : decode cM_isNamed 36 = .ok (.iload_n 2, 1) := by decide +kernel
theorem dM_isNamed_37 : decode cM_isNamed 37 = .ok (.ireturn, 1) := by decide +kernel
theorem dM_sweep_0 : decode cM_sweep 0 = .ok (.iconst 0, 1) := by decide +kernel
theorem dM_sweep_1 : decode cM_sweep 1 = .ok (.istore_n 2, 1) := by decide +kernel
theorem dM_sweep_2 : decode cM_sweep 2 = .ok (.iconst 1, 1) := by decide +kernel
theorem dM_sweep_3 : decode cM_sweep 3 = .ok (.istore_n 3, 1) := by decide +kernel
theorem dM_sweep_4 : decode cM_sweep 4 = .ok (.iload_n 3, 1) := by decide +kernel
theorem dM_sweep_5 : decode cM_sweep 5 = .ok (.bipush 20, 2) := by decide +kernel
theorem dM_sweep_7 : decode cM_sweep 7 = .ok (.if_icmp .gt 47, 3) := by decide +kernel
theorem dM_sweep_10 : decode cM_sweep 10 = .ok (.aload_n 0, 1) := by decide +kernel
theorem dM_sweep_11 : decode cM_sweep 11 = .ok (.getfield 7, 3) := by decide +kernel
theorem dM_sweep_14 : decode cM_sweep 14 = .ok (.iload_n 3, 1) := by decide +kernel
theorem dM_sweep_15 : decode cM_sweep 15 = .ok (.iaload, 1) := by decide +kernel
theorem dM_sweep_16 : decode cM_sweep 16 = .ok (.iconst 2, 1) := by decide +kernel
theorem dM_sweep_17 : decode cM_sweep 17 = .ok (.if_icmp .ne 31, 3) := by decide +kernel
theorem dM_sweep_20 : decode cM_sweep 20 = .ok (.aload_n 0, 1) := by decide +kernel
theorem dM_sweep_21 : decode cM_sweep 21 = .ok (.getfield 26, 3) := by decide +kernel
theorem dM_sweep_24 : decode cM_sweep 24 = .ok (.iload_n 3, 1) := by decide +kernel
theorem dM_sweep_25 : decode cM_sweep 25 = .ok (.iaload, 1) := by decide +kernel
theorem dM_sweep_26 : decode cM_sweep 26 = .ok (.iload_n 1, 1) := by decide +kernel
theorem dM_sweep_27 : decode cM_sweep 27 = .ok (.if_icmp .ne 21, 3) := by decide +kernel
theorem dM_sweep_30 : decode cM_sweep 30 = .ok (.aload_n 0, 1) := by decide +kernel
theorem dM_sweep_31 : decode cM_sweep 31 = .ok (.iload_n 3, 1) := by decide +kernel
theorem dM_sweep_32 : decode cM_sweep 32 = .ok (.invokevirtual 82, 3) := by decide +kernel
theorem dM_sweep_35 : decode cM_sweep 35 = .ok (.ifCond .ne 13, 3) := by decide +kernel
theorem dM_sweep_38 : decode cM_sweep 38 = .ok (.aload_n 0, 1) := by decide +kernel
theorem dM_sweep_39 : decode cM_sweep 39 = .ok (.getfield 7, 3) := by decide +kernel
theorem dM_sweep_42 : decode cM_sweep 42 = .ok (.iload_n 3, 1) := by decide +kernel
theorem dM_sweep_43 : decode cM_sweep 43 = .ok (.iconst 0, 1) := by decide +kernel
theorem dM_sweep_44 : decode cM_sweep 44 = .ok (.iastore, 1) := by decide +kernel
theorem dM_sweep_45 : decode cM_sweep 45 = .ok (.iinc 2 1, 3) := by decide +kernel
theorem dM_sweep_48 : decode cM_sweep 48 = .ok (.iinc 3 1, 3) := by decide +kernel
theorem dM_sweep_51 : decode cM_sweep 51 = .ok (.goto (-47), 3) := by decide +kernel
theorem dM_sweep_54 : decode cM_sweep 54 = .ok (.iload_n 2, 1) := by decide +kernel
theorem dM_sweep_55 : decode cM_sweep 55 = .ok (.ireturn, 1) := by decide +kernel
theorem dM_retire_0 : decode cM_retire 0 = .ok (.aload_n 0, 1) := by decide +kernel
theorem dM_retire_1 : decode cM_retire 1 = .ok (.getfield 7, 3) := by decide +kernel
theorem dM_retire_4 : decode cM_retire 4 = .ok (.iload_n 2, 1) := by decide +kernel
theorem dM_retire_5 : decode cM_retire 5 = .ok (.aload_n 0, 1) := by decide +kernel
theorem dM_retire_6 : decode cM_retire 6 = .ok (.getfield 71, 3) := by decide +kernel
theorem dM_retire_9 : decode cM_retire 9 = .ok (.iconst 2, 1) := by decide +kernel
theorem dM_retire_10 : decode cM_retire 10 = .ok (.if_icmp .ne 7, 3) := by decide +kernel
theorem dM_retire_13 : decode cM_retire 13 = .ok (.iconst 0, 1) := by decide +kernel
theorem dM_retire_14 : decode cM_retire 14 = .ok (.goto 4, 3) := by decide +kernel
theorem dM_retire_17 : decode cM_retire 17 = .ok (.iconst 2, 1) := by decide +kernel
theorem dM_retire_18 : decode cM_retire 18 = .ok (.iastore, 1) := by decide +kernel
theorem dM_retire_19 : decode cM_retire 19 = .ok (.aload_n 0, 1) := by decide +kernel
theorem dM_retire_20 : decode cM_retire 20 = .ok (.getfield 26, 3) := by decide +kernel
theorem dM_retire_23 : decode cM_retire 23 = .ok (.iload_n 2, 1) := by decide +kernel
theorem dM_retire_24 : decode cM_retire 24 = .ok (.aload_n 0, 1) := by decide +kernel
theorem dM_retire_25 : decode cM_retire 25 = .ok (.getfield 71, 3) := by decide +kernel
theorem dM_retire_28 : decode cM_retire 28 = .ok (.ifCond .ne 10, 3) := by decide +kernel
theorem dM_retire_31 : decode cM_retire 31 = .ok (.aload_n 0, 1) := by decide +kernel
theorem dM_retire_32 : decode cM_retire 32 = .ok (.getfield 85, 3) := by decide +kernel
theorem dM_retire_35 : decode cM_retire 35 = .ok (.goto 4, 3) := by decide +kernel
theorem dM_retire_38 : decode cM_retire 38 = .ok (.iload_n 1, 1) := by decide +kernel
theorem dM_retire_39 : decode cM_retire 39 = .ok (.iastore, 1) := by decide +kernel
theorem dM_retire_40 : decode cM_retire 40 = .ok (.iconst 0, 1) := by decide +kernel
theorem dM_retire_41 : decode cM_retire 41 = .ok (.istore_n 3, 1) := by decide +kernel
theorem dM_retire_42 : decode cM_retire 42 = .ok (.iconst 1, 1) := by decide +kernel
theorem dM_retire_43 : decode cM_retire 43 = .ok (.istore 4, 2) := by decide +kernel
theorem dM_retire_45 : decode cM_retire 45 = .ok (.iload 4, 2) := by decide +kernel
theorem dM_retire_47 : decode cM_retire 47 = .ok (.bipush 20, 2) := by decide +kernel
theorem dM_retire_49 : decode cM_retire 49 = .ok (.if_icmp .gt 39, 3) := by decide +kernel
theorem dM_retire_52 : decode cM_retire 52 = .ok (.aload_n 0, 1) := by decide +kernel
theorem dM_retire_53 : decode cM_retire 53 = .ok (.getfield 7, 3) := by decide +kernel
theorem dM_retire_56 : decode cM_retire 56 = .ok (.iload 4, 2) := by decide +kernel
theorem dM_retire_58 : decode cM_retire 58 = .ok (.iaload, 1) := by decide +kernel
theorem dM_retire_59 : decode cM_retire 59 = .ok (.iconst 2, 1) := by decide +kernel
theorem dM_retire_60 : decode cM_retire 60 = .ok (.if_icmp .ne 20, 3) := by decide +kernel
theorem dM_retire_63 : decode cM_retire 63 = .ok (.aload_n 0, 1) := by decide +kernel
theorem dM_retire_64 : decode cM_retire 64 = .ok (.getfield 26, 3) := by decide +kernel
theorem dM_retire_67 : decode cM_retire 67 = .ok (.iload 4, 2) := by decide +kernel
theorem dM_retire_69 : decode cM_retire 69 = .ok (.iaload, 1) := by decide +kernel
theorem dM_retire_70 : decode cM_retire 70 = .ok (.iload_n 1, 1) := by decide +kernel
theorem dM_retire_71 : decode cM_retire 71 = .ok (.if_icmp .ne 9, 3) := by decide +kernel
theorem dM_retire_74 : decode cM_retire 74 = .ok (.iload_n 3, 1) := by decide +kernel
theorem dM_retire_75 : decode cM_retire 75 = .ok (.iconst 1, 1) := by decide +kernel
theorem dM_retire_76 : decode cM_retire 76 = .ok (.iadd, 1) := by decide +kernel
theorem dM_retire_77 : decode cM_retire 77 = .ok (.goto 4, 3) := by decide +kernel
theorem dM_retire_80 : decode cM_retire 80 = .ok (.iload_n 3, 1) := by decide +kernel
theorem dM_retire_81 : decode cM_retire 81 = .ok (.istore_n 3, 1) := by decide +kernel
theorem dM_retire_82 : decode cM_retire 82 = .ok (.iinc 4 1, 3) := by decide +kernel
theorem dM_retire_85 : decode cM_retire 85 = .ok (.goto (-40), 3) := by decide +kernel
theorem dM_retire_88 : decode cM_retire 88 = .ok (.aload_n 0, 1) := by decide +kernel
theorem dM_retire_89 : decode cM_retire 89 = .ok (.getfield 71, 3) := by decide +kernel
theorem dM_retire_92 : decode cM_retire 92 = .ok (.iconst 1, 1) := by decide +kernel
theorem dM_retire_93 : decode cM_retire 93 = .ok (.if_icmp .ne 14, 3) := by decide +kernel
theorem dM_retire_96 : decode cM_retire 96 = .ok (.iload_n 3, 1) := by decide +kernel
theorem dM_retire_97 : decode cM_retire 97 = .ok (.iconst 4, 1) := by decide +kernel
theorem dM_retire_98 : decode cM_retire 98 = .ok (.if_icmp .lt 9, 3) := by decide +kernel
theorem dM_retire_101 : decode cM_retire 101 = .ok (.aload_n 0, 1) := by decide +kernel
theorem dM_retire_102 : decode cM_retire 102 = .ok (.iload_n 1, 1) := by decide +kernel
theorem dM_retire_103 : decode cM_retire 103 = .ok (.invokevirtual 88, 3) := by decide +kernel
theorem dM_retire_106 : decode cM_retire 106 = .ok (.pop, 1) := by decide +kernel
theorem dM_retire_107 : decode cM_retire 107 = .ok (.return_, 1) := by decide +kernel
theorem dM_advance_0 : decode cM_advance 0 = .ok (.aload_n 0, 1) := by decide +kernel
theorem dM_advance_1 : decode cM_advance 1 = .ok (.aload_n 0, 1) := by decide +kernel
theorem dM_advance_2 : decode cM_advance 2 = .ok (.getfield 71, 3) := by decide +kernel
theorem dM_advance_5 : decode cM_advance 5 = .ok (.ifCond .ne 7, 3) := by decide +kernel
theorem dM_advance_8 : decode cM_advance 8 = .ok (.iconst 0, 1) := by decide +kernel
theorem dM_advance_9 : decode cM_advance 9 = .ok (.goto 4, 3) := by decide +kernel
theorem dM_advance_12 : decode cM_advance 12 = .ok (.iconst 1, 1) := by decide +kernel
theorem dM_advance_13 : decode cM_advance 13 = .ok (.putfield 75, 3) := by decide +kernel
theorem dM_advance_16 : decode cM_advance 16 = .ok (.aload_n 0, 1) := by decide +kernel
theorem dM_advance_17 : decode cM_advance 17 = .ok (.getfield 75, 3) := by decide +kernel
theorem dM_advance_20 : decode cM_advance 20 = .ok (.ifCond .ne 7, 3) := by decide +kernel
theorem dM_advance_23 : decode cM_advance 23 = .ok (.iconst 1, 1) := by decide +kernel
theorem dM_advance_24 : decode cM_advance 24 = .ok (.goto 4, 3) := by decide +kernel
theorem dM_advance_27 : decode cM_advance 27 = .ok (.iconst 0, 1) := by decide +kernel
theorem dM_advance_28 : decode cM_advance 28 = .ok (.istore_n 1, 1) := by decide +kernel
theorem dM_advance_29 : decode cM_advance 29 = .ok (.iconst 0, 1) := by decide +kernel
theorem dM_advance_30 : decode cM_advance 30 = .ok (.istore_n 2, 1) := by decide +kernel
theorem dM_advance_31 : decode cM_advance 31 = .ok (.iload_n 2, 1) := by decide +kernel
theorem dM_advance_32 : decode cM_advance 32 = .ok (.iconst 4, 1) := by decide +kernel
theorem dM_advance_33 : decode cM_advance 33 = .ok (.if_icmp .ge 41, 3) := by decide +kernel
theorem dM_advance_36 : decode cM_advance 36 = .ok (.iload_n 1, 1) := by decide +kernel
theorem dM_advance_37 : decode cM_advance 37 = .ok (.ifCond .eq 29, 3) := by decide +kernel
theorem dM_advance_40 : decode cM_advance 40 = .ok (.aload_n 0, 1) := by decide +kernel
theorem dM_advance_41 : decode cM_advance 41 = .ok (.getfield 65, 3) := by decide +kernel
theorem dM_advance_44 : decode cM_advance 44 = .ok (.iload_n 2, 1) := by decide +kernel
theorem dM_advance_45 : decode cM_advance 45 = .ok (.iaload, 1) := by decide +kernel
theorem dM_advance_46 : decode cM_advance 46 = .ok (.ifCond .lt 16, 3) := by decide +kernel
theorem dM_advance_49 : decode cM_advance 49 = .ok (.aload_n 0, 1) := by decide +kernel
theorem dM_advance_50 : decode cM_advance 50 = .ok (.getfield 65, 3) := by decide +kernel
theorem dM_advance_53 : decode cM_advance 53 = .ok (.iload_n 2, 1) := by decide +kernel
theorem dM_advance_54 : decode cM_advance 54 = .ok (.iaload, 1) := by decide +kernel
theorem dM_advance_55 : decode cM_advance 55 = .ok (.aload_n 0, 1) := by decide +kernel
theorem dM_advance_56 : decode cM_advance 56 = .ok (.getfield 85, 3) := by decide +kernel
theorem dM_advance_59 : decode cM_advance 59 = .ok (.if_icmp .ne 7, 3) := by decide +kernel
theorem dM_advance_62 : decode cM_advance 62 = .ok (.iconst 1, 1) := by decide +kernel
theorem dM_advance_63 : decode cM_advance 63 = .ok (.goto 4, 3) := by decide +kernel
theorem dM_advance_66 : decode cM_advance 66 = .ok (.iconst 0, 1) := by decide +kernel
theorem dM_advance_67 : decode cM_advance 67 = .ok (.istore_n 1, 1) := by decide +kernel
theorem dM_advance_68 : decode cM_advance 68 = .ok (.iinc 2 1, 3) := by decide +kernel
theorem dM_advance_71 : decode cM_advance 71 = .ok (.goto (-40), 3) := by decide +kernel
theorem dM_advance_74 : decode cM_advance 74 = .ok (.iload_n 1, 1) := by decide +kernel
theorem dM_advance_75 : decode cM_advance 75 = .ok (.ifCond .ne 5, 3) := by decide +kernel
theorem dM_advance_78 : decode cM_advance 78 = .ok (.iconst 0, 1) := by decide +kernel
theorem dM_advance_79 : decode cM_advance 79 = .ok (.ireturn, 1) := by decide +kernel
theorem dM_advance_80 : decode cM_advance 80 = .ok (.aload_n 0, 1) := by decide +kernel
theorem dM_advance_81 : decode cM_advance 81 = .ok (.dup, 1) := by decide +kernel
theorem dM_advance_82 : decode cM_advance 82 = .ok (.getfield 85, 3) := by decide +kernel
theorem dM_advance_85 : decode cM_advance 85 = .ok (.iconst 1, 1) := by decide +kernel
theorem dM_advance_86 : decode cM_advance 86 = .ok (.iadd, 1) := by decide +kernel
theorem dM_advance_87 : decode cM_advance 87 = .ok (.putfield 85, 3) := by decide +kernel
theorem dM_advance_90 : decode cM_advance 90 = .ok (.iconst 1, 1) := by decide +kernel
theorem dM_advance_91 : decode cM_advance 91 = .ok (.istore_n 2, 1) := by decide +kernel
theorem dM_advance_92 : decode cM_advance 92 = .ok (.iload_n 2, 1) := by decide +kernel
theorem dM_advance_93 : decode cM_advance 93 = .ok (.bipush 20, 2) := by decide +kernel
theorem dM_advance_95 : decode cM_advance 95 = .ok (.if_icmp .gt 50, 3) := by decide +kernel
theorem dM_advance_98 : decode cM_advance 98 = .ok (.aload_n 0, 1) := by decide +kernel
theorem dM_advance_99 : decode cM_advance 99 = .ok (.getfield 7, 3) := by decide +kernel
theorem dM_advance_102 : decode cM_advance 102 = .ok (.iload_n 2, 1) := by decide +kernel
theorem dM_advance_103 : decode cM_advance 103 = .ok (.aload_n 0, 1) := by decide +kernel
theorem dM_advance_104 : decode cM_advance 104 = .ok (.getfield 7, 3) := by decide +kernel
theorem dM_advance_107 : decode cM_advance 107 = .ok (.iload_n 2, 1) := by decide +kernel
theorem dM_advance_108 : decode cM_advance 108 = .ok (.iaload, 1) := by decide +kernel
theorem dM_advance_109 : decode cM_advance 109 = .ok (.iconst 2, 1) := by decide +kernel
theorem dM_advance_110 : decode cM_advance 110 = .ok (.if_icmp .ne 22, 3) := by decide +kernel
theorem dM_advance_113 : decode cM_advance 113 = .ok (.aload_n 0, 1) := by decide +kernel
theorem dM_advance_114 : decode cM_advance 114 = .ok (.getfield 26, 3) := by decide +kernel
theorem dM_advance_117 : decode cM_advance 117 = .ok (.iload_n 2, 1) := by decide +kernel
theorem dM_advance_118 : decode cM_advance 118 = .ok (.iaload, 1) := by decide +kernel
theorem dM_advance_119 : decode cM_advance 119 = .ok (.aload_n 0, 1) := by decide +kernel
theorem dM_advance_120 : decode cM_advance 120 = .ok (.getfield 85, 3) := by decide +kernel
theorem dM_advance_123 : decode cM_advance 123 = .ok (.iconst 2, 1) := by decide +kernel
theorem dM_advance_124 : decode cM_advance 124 = .ok (.isub, 1) := by decide +kernel
theorem dM_advance_125 : decode cM_advance 125 = .ok (.if_icmp .gt 7, 3) := by decide +kernel
theorem dM_advance_128 : decode cM_advance 128 = .ok (.iconst 0, 1) := by decide +kernel
theorem dM_advance_129 : decode cM_advance 129 = .ok (.goto 9, 3) := by decide +kernel
theorem dM_advance_132 : decode cM_advance 132 = .ok (.aload_n 0, 1) := by decide +kernel
theorem dM_advance_133 : decode cM_advance 133 = .ok (.getfield 7, 3) := by decide +kernel
theorem dM_advance_136 : decode cM_advance 136 = .ok (.iload_n 2, 1) := by decide +kernel
theorem dM_advance_137 : decode cM_advance 137 = .ok (.iaload, 1) := by decide +kernel
theorem dM_advance_138 : decode cM_advance 138 = .ok (.iastore, 1) := by decide +kernel
theorem dM_advance_139 : decode cM_advance 139 = .ok (.iinc 2 1, 3) := by decide +kernel
theorem dM_advance_142 : decode cM_advance 142 = .ok (.goto (-50), 3) := by decide +kernel
theorem dM_advance_145 : decode cM_advance 145 = .ok (.iconst 1, 1) := by decide +kernel
theorem dM_advance_146 : decode cM_advance 146 = .ok (.ireturn, 1) := by decide +kernel
theorem dM_scan_0 : decode cM_scan 0 = .ok (.aload_n 0, 1) := by decide +kernel
theorem dM_scan_1 : decode cM_scan 1 = .ok (.iload_n 1, 1) := by decide +kernel
theorem dM_scan_2 : decode cM_scan 2 = .ok (.invokestatic 78, 3) := by decide +kernel
theorem dM_scan_5 : decode cM_scan 5 = .ok (.ifCond .ne 7, 3) := by decide +kernel
