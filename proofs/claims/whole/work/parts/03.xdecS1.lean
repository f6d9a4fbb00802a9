theorem dS_perform_118 : decode cS_perform 118 = .ok (.invokevirtual 167, 3) := by decide +kernel
theorem dS_perform_121 : decode cS_perform 121 = .ok (.goto 19, 3) := by decide +kernel
theorem dS_perform_124 : decode cS_perform 124 = .ok (.aload_n 0, 1) := by decide +kernel
theorem dS_perform_125 : decode cS_perform 125 = .ok (.aload_n 1, 1) := by decide +kernel
theorem dS_perform_126 : decode cS_perform 126 = .ok (.invokevirtual 170, 3) := by decide +kernel
theorem dS_perform_129 : decode cS_perform 129 = .ok (.goto 11, 3) := by decide +kernel
theorem dS_perform_132 : decode cS_perform 132 = .ok (.aload_n 0, 1) := by decide +kernel
theorem dS_perform_133 : decode cS_perform 133 = .ok (.aload_n 1, 1) := by decide +kernel
theorem dS_perform_134 : decode cS_perform 134 = .ok (.invokevirtual 173, 3) := by decide +kernel
theorem dS_perform_137 : decode cS_perform 137 = .ok (.goto 3, 3) := by decide +kernel
theorem dS_perform_140 : decode cS_perform 140 = .ok (.return_, 1) := by decide +kernel
theorem dS_startWork_0 : decode cS_startWork 0 = .ok (.aload_n 0, 1) := by decide +kernel
theorem dS_startWork_1 : decode cS_startWork 1 = .ok (.getfield 9, 3) := by decide +kernel
theorem dS_startWork_4 : decode cS_startWork 4 = .ok (.ifCond .ne 11, 3) := by decide +kernel
theorem dS_startWork_7 : decode cS_startWork 7 = .ok (.aload_n 1, 1) := by decide +kernel
theorem dS_startWork_8 : decode cS_startWork 8 = .ok (.aload_n 0, 1) := by decide +kernel
theorem dS_startWork_9 : decode cS_startWork 9 = .ok (.getfield 111, 3) := by decide +kernel
theorem dS_startWork_12 : decode cS_startWork 12 = .ok (.putfield 97, 3) := by decide +kernel
theorem dS_startWork_15 : decode cS_startWork 15 = .ok (.aload_n 1, 1) := by decide +kernel
theorem dS_startWork_16 : decode cS_startWork 16 = .ok (.iconst 2, 1) := by decide +kernel
theorem dS_startWork_17 : decode cS_startWork 17 = .ok (.putfield 42, 3) := by decide +kernel
theorem dS_startWork_20 : decode cS_startWork 20 = .ok (.return_, 1) := by decide +kernel
theorem dS_goToHead_0 : decode cS_goToHead 0 = .ok (.aload_n 1, 1) := by decide +kernel
theorem dS_goToHead_1 : decode cS_goToHead 1 = .ok (.iconst 0, 1) := by decide +kernel
theorem dS_goToHead_2 : decode cS_goToHead 2 = .ok (.putfield 74, 3) := by decide +kernel
theorem dS_goToHead_5 : decode cS_goToHead 5 = .ok (.aload_n 1, 1) := by decide +kernel
theorem dS_goToHead_6 : decode cS_goToHead 6 = .ok (.iconst 0, 1) := by decide +kernel
theorem dS_goToHead_7 : decode cS_goToHead 7 = .ok (.putfield 176, 3) := by decide +kernel
theorem dS_goToHead_10 : decode cS_goToHead 10 = .ok (.aload_n 0, 1) := by decide +kernel
theorem dS_goToHead_11 : decode cS_goToHead 11 = .ok (.aload_n 1, 1) := by decide +kernel
theorem dS_goToHead_12 : decode cS_goToHead 12 = .ok (.aload_n 0, 1) := by decide +kernel
theorem dS_goToHead_13 : decode cS_goToHead 13 = .ok (.getfield 15, 3) := by decide +kernel
theorem dS_goToHead_16 : decode cS_goToHead 16 = .ok (.iconst 0, 1) := by decide +kernel
theorem dS_goToHead_17 : decode cS_goToHead 17 = .ok (.aaload, 1) := by decide +kernel
theorem dS_goToHead_18 : decode cS_goToHead 18 = .ok (.getfield 131, 3) := by decide +kernel
theorem dS_goToHead_21 : decode cS_goToHead 21 = .ok (.invokevirtual 179, 3) := by decide +kernel
theorem dS_goToHead_24 : decode cS_goToHead 24 = .ok (.return_, 1) := by decide +kernel
theorem dS_nameHere_0 : decode cS_nameHere 0 = .ok (.aload_n 1, 1) := by decide +kernel
theorem dS_nameHere_1 : decode cS_nameHere 1 = .ok (.getfield 74, 3) := by decide +kernel
theorem dS_nameHere_4 : decode cS_nameHere 4 = .ok (.ifCond .eq 25, 3) := by decide +kernel
theorem dS_nameHere_7 : decode cS_nameHere 7 = .ok (.aload_n 1, 1) := by decide +kernel
theorem dS_nameHere_8 : decode cS_nameHere 8 = .ok (.getfield 91, 3) := by decide +kernel
theorem dS_nameHere_11 : decode cS_nameHere 11 = .ok (.aload_n 1, 1) := by decide +kernel
theorem dS_nameHere_12 : decode cS_nameHere 12 = .ok (.getfield 74, 3) := by decide +kernel
theorem dS_nameHere_15 : decode cS_nameHere 15 = .ok (.if_icmp .ne 14, 3) := by decide +kernel
theorem dS_nameHere_18 : decode cS_nameHere 18 = .ok (.aload_n 1, 1) := by decide +kernel
theorem dS_nameHere_19 : decode cS_nameHere 19 = .ok (.aload_n 1, 1) := by decide +kernel
theorem dS_nameHere_20 : decode cS_nameHere 20 = .ok (.getfield 77, 3) := by decide +kernel
theorem dS_nameHere_23 : decode cS_nameHere 23 = .ok (.putfield 94, 3) := by decide +kernel
theorem dS_nameHere_26 : decode cS_nameHere 26 = .ok (.goto 11, 3) := by decide +kernel
theorem dS_nameHere_29 : decode cS_nameHere 29 = .ok (.aload_n 1, 1) := by decide +kernel
theorem dS_nameHere_30 : decode cS_nameHere 30 = .ok (.aload_n 1, 1) := by decide +kernel
theorem dS_nameHere_31 : decode cS_nameHere 31 = .ok (.getfield 77, 3) := by decide +kernel
theorem dS_nameHere_34 : decode cS_nameHere 34 = .ok (.putfield 91, 3) := by decide +kernel
theorem dS_nameHere_37 : decode cS_nameHere 37 = .ok (.aload_n 1, 1) := by decide +kernel
theorem dS_nameHere_38 : decode cS_nameHere 38 = .ok (.iconst 4, 1) := by decide +kernel
theorem dS_nameHere_39 : decode cS_nameHere 39 = .ok (.putfield 42, 3) := by decide +kernel
theorem dS_nameHere_42 : decode cS_nameHere 42 = .ok (.return_, 1) := by decide +kernel
theorem dS_checkBack_0 : decode cS_checkBack 0 = .ok (.aload_n 0, 1) := by decide +kernel
theorem dS_checkBack_1 : decode cS_checkBack 1 = .ok (.aload_n 1, 1) := by decide +kernel
theorem dS_checkBack_2 : decode cS_checkBack 2 = .ok (.invokevirtual 183, 3) := by decide +kernel
theorem dS_checkBack_5 : decode cS_checkBack 5 = .ok (.aload_n 0, 1) := by decide +kernel
theorem dS_checkBack_6 : decode cS_checkBack 6 = .ok (.getfield 15, 3) := by decide +kernel
theorem dS_checkBack_9 : decode cS_checkBack 9 = .ok (.aload_n 1, 1) := by decide +kernel
theorem dS_checkBack_10 : decode cS_checkBack 10 = .ok (.getfield 74, 3) := by decide +kernel
theorem dS_checkBack_13 : decode cS_checkBack 13 = .ok (.aaload, 1) := by decide +kernel
theorem dS_checkBack_14 : decode cS_checkBack 14 = .ok (.aload_n 1, 1) := by decide +kernel
theorem dS_checkBack_15 : decode cS_checkBack 15 = .ok (.getfield 77, 3) := by decide +kernel
theorem dS_checkBack_18 : decode cS_checkBack 18 = .ok (.invokevirtual 186, 3) := by decide +kernel
theorem dS_checkBack_21 : decode cS_checkBack 21 = .ok (.ifCond .ne 11, 3) := by decide +kernel
theorem dS_checkBack_24 : decode cS_checkBack 24 = .ok (.aload_n 1, 1) := by decide +kernel
theorem dS_checkBack_25 : decode cS_checkBack 25 = .ok (.iconst 2, 1) := by decide +kernel
theorem dS_checkBack_26 : decode cS_checkBack 26 = .ok (.putfield 42, 3) := by decide +kernel
theorem dS_checkBack_29 : decode cS_checkBack 29 = .ok (.goto 29, 3) := by decide +kernel
theorem dS_checkBack_32 : decode cS_checkBack 32 = .ok (.aload_n 1, 1) := by decide +kernel
theorem dS_checkBack_33 : decode cS_checkBack 33 = .ok (.getfield 77, 3) := by decide +kernel
theorem dS_checkBack_36 : decode cS_checkBack 36 = .ok (.ifCond .ne 17, 3) := by decide +kernel
theorem dS_checkBack_39 : decode cS_checkBack 39 = .ok (.aload_n 1, 1) := by decide +kernel
theorem dS_checkBack_40 : decode cS_checkBack 40 = .ok (.iconst 0, 1) := by decide +kernel
theorem dS_checkBack_41 : decode cS_checkBack 41 = .ok (.putfield 190, 3) := by decide +kernel
theorem dS_checkBack_44 : decode cS_checkBack 44 = .ok (.aload_n 1, 1) := by decide +kernel
theorem dS_checkBack_45 : decode cS_checkBack 45 = .ok (.bipush 7, 2) := by decide +kernel
theorem dS_checkBack_47 : decode cS_checkBack 47 = .ok (.putfield 42, 3) := by decide +kernel
theorem dS_checkBack_50 : decode cS_checkBack 50 = .ok (.goto 8, 3) := by decide +kernel
theorem dS_checkBack_53 : decode cS_checkBack 53 = .ok (.aload_n 1, 1) := by decide +kernel
theorem dS_checkBack_54 : decode cS_checkBack 54 = .ok (.iconst 5, 1) := by decide +kernel
theorem dS_checkBack_55 : decode cS_checkBack 55 = .ok (.putfield 42, 3) := by decide +kernel
theorem dS_checkBack_58 : decode cS_checkBack 58 = .ok (.return_, 1) := by decide +kernel
theorem dS_readHere_0 : decode cS_readHere 0 = .ok (.aload_n 0, 1) := by decide +kernel
theorem dS_readHere_1 : decode cS_readHere 1 = .ok (.aload_n 1, 1) := by decide +kernel
theorem dS_readHere_2 : decode cS_readHere 2 = .ok (.invokevirtual 193, 3) := by decide +kernel
theorem dS_readHere_5 : decode cS_readHere 5 = .ok (.aload_n 0, 1) := by decide +kernel
theorem dS_readHere_6 : decode cS_readHere 6 = .ok (.getfield 15, 3) := by decide +kernel
theorem dS_readHere_9 : decode cS_readHere 9 = .ok (.aload_n 1, 1) := by decide +kernel
theorem dS_readHere_10 : decode cS_readHere 10 = .ok (.getfield 77, 3) := by decide +kernel
theorem dS_readHere_13 : decode cS_readHere 13 = .ok (.aaload, 1) := by decide +kernel
theorem dS_readHere_14 : decode cS_readHere 14 = .ok (.astore_n 2, 1) := by decide +kernel
theorem dS_readHere_15 : decode cS_readHere 15 = .ok (.aload_n 1, 1) := by decide +kernel
theorem dS_readHere_16 : decode cS_readHere 16 = .ok (.aload_n 2, 1) := by decide +kernel
theorem dS_readHere_17 : decode cS_readHere 17 = .ok (.getfield 131, 3) := by decide +kernel
theorem dS_readHere_20 : decode cS_readHere 20 = .ok (.putfield 80, 3) := by decide +kernel
theorem dS_readHere_23 : decode cS_readHere 23 = .ok (.aload_n 2, 1) := by decide +kernel
theorem dS_readHere_24 : decode cS_readHere 24 = .ok (.getfield 134, 3) := by decide +kernel
theorem dS_readHere_27 : decode cS_readHere 27 = .ok (.ifCond .eq 12, 3) := by decide +kernel
theorem dS_readHere_30 : decode cS_readHere 30 = .ok (.aload_n 1, 1) := by decide +kernel
theorem dS_readHere_31 : decode cS_readHere 31 = .ok (.bipush 6, 2) := by decide +kernel
theorem dS_readHere_33 : decode cS_readHere 33 = .ok (.putfield 42, 3) := by decide +kernel
theorem dS_readHere_36 : decode cS_readHere 36 = .ok (.goto 68, 3) := by decide +kernel
theorem dS_readHere_39 : decode cS_readHere 39 = .ok (.aload_n 2, 1) := by decide +kernel
theorem dS_readHere_40 : decode cS_readHere 40 = .ok (.getfield 138, 3) := by decide +kernel
theorem dS_readHere_43 : decode cS_readHere 43 = .ok (.aload_n 1, 1) := by decide +kernel
theorem dS_readHere_44 : decode cS_readHere 44 = .ok (.getfield 56, 3) := by decide +kernel
theorem dS_readHere_47 : decode cS_readHere 47 = .ok (.if_icmp .lt 32, 3) := by decide +kernel
theorem dS_readHere_50 : decode cS_readHere 50 = .ok (.aload_n 1, 1) := by decide +kernel
theorem dS_readHere_51 : decode cS_readHere 51 = .ok (.aload_n 2, 1) := by decide +kernel
theorem dS_readHere_52 : decode cS_readHere 52 = .ok (.getfield 138, 3) := by decide +kernel
theorem dS_readHere_55 : decode cS_readHere 55 = .ok (.aload_n 1, 1) := by decide +kernel
theorem dS_readHere_56 : decode cS_readHere 56 = .ok (.getfield 56, 3) := by decide +kernel
theorem dS_readHere_59 : decode cS_readHere 59 = .ok (.if_icmp .ne 7, 3) := by decide +kernel
theorem dS_readHere_62 : decode cS_readHere 62 = .ok (.iconst 1, 1) := by decide +kernel
theorem dS_readHere_63 : decode cS_readHere 63 = .ok (.goto 4, 3) := by decide +kernel
theorem dS_readHere_66 : decode cS_readHere 66 = .ok (.iconst 0, 1) := by decide +kernel
theorem dS_readHere_67 : decode cS_readHere 67 = .ok (.putfield 190, 3) := by decide +kernel
theorem dS_readHere_70 : decode cS_readHere 70 = .ok (.aload_n 1, 1) := by decide +kernel
theorem dS_readHere_71 : decode cS_readHere 71 = .ok (.bipush 7, 2) := by decide +kernel
theorem dS_readHere_73 : decode cS_readHere 73 = .ok (.putfield 42, 3) := by decide +kernel
theorem dS_readHere_76 : decode cS_readHere 76 = .ok (.goto 28, 3) := by decide +kernel
theorem dS_readHere_79 : decode cS_readHere 79 = .ok (.aload_n 1, 1) := by decide +kernel
theorem dS_readHere_80 : decode cS_readHere 80 = .ok (.aload_n 1, 1) := by decide +kernel
theorem dS_readHere_81 : decode cS_readHere 81 = .ok (.getfield 77, 3) := by decide +kernel
theorem dS_readHere_84 : decode cS_readHere 84 = .ok (.putfield 74, 3) := by decide +kernel
theorem dS_readHere_87 : decode cS_readHere 87 = .ok (.aload_n 1, 1) := by decide +kernel
theorem dS_readHere_88 : decode cS_readHere 88 = .ok (.aload_n 1, 1) := by decide +kernel
theorem dS_readHere_89 : decode cS_readHere 89 = .ok (.getfield 196, 3) := by decide +kernel
theorem dS_readHere_92 : decode cS_readHere 92 = .ok (.putfield 176, 3) := by decide +kernel
theorem dS_readHere_95 : decode cS_readHere 95 = .ok (.aload_n 0, 1) := by decide +kernel
theorem dS_readHere_96 : decode cS_readHere 96 = .ok (.aload_n 1, 1) := by decide +kernel
theorem dS_readHere_97 : decode cS_readHere 97 = .ok (.aload_n 1, 1) := by decide +kernel
theorem dS_readHere_98 : decode cS_readHere 98 = .ok (.getfield 80, 3) := by decide +kernel
theorem dS_readHere_101 : decode cS_readHere 101 = .ok (.invokevirtual 179, 3) := by decide +kernel
theorem dS_readHere_104 : decode cS_readHere 104 = .ok (.return_, 1) := by decide +kernel
theorem dS_cutHere_0 : decode cS_cutHere 0 = .ok (.aload_n 0, 1) := by decide +kernel
theorem dS_cutHere_1 : decode cS_cutHere 1 = .ok (.aload_n 1, 1) := by decide +kernel
theorem dS_cutHere_2 : decode cS_cutHere 2 = .ok (.invokevirtual 199, 3) := by decide +kernel
theorem dS_cutHere_5 : decode cS_cutHere 5 = .ok (.ifCond .eq 15, 3) := by decide +kernel
theorem dS_cutHere_8 : decode cS_cutHere 8 = .ok (.aload_n 0, 1) := by decide +kernel
theorem dS_cutHere_9 : decode cS_cutHere 9 = .ok (.aload_n 1, 1) := by decide +kernel
theorem dS_cutHere_10 : decode cS_cutHere 10 = .ok (.aload_n 1, 1) := by decide +kernel
theorem dS_cutHere_11 : decode cS_cutHere 11 = .ok (.getfield 80, 3) := by decide +kernel
theorem dS_cutHere_14 : decode cS_cutHere 14 = .ok (.invokevirtual 179, 3) := by decide +kernel
theorem dS_cutHere_17 : decode cS_cutHere 17 = .ok (.goto 8, 3) := by decide +kernel
theorem dS_cutHere_20 : decode cS_cutHere 20 = .ok (.aload_n 1, 1) := by decide +kernel
theorem dS_cutHere_21 : decode cS_cutHere 21 = .ok (.iconst 2, 1) := by decide +kernel
theorem dS_cutHere_22 : decode cS_cutHere 22 = .ok (.putfield 42, 3) := by decide +kernel
theorem dS_cutHere_25 : decode cS_cutHere 25 = .ok (.return_, 1) := by decide +kernel
theorem dS_doOperation_0 : decode cS_doOperation 0 = .ok (.aload_n 1, 1) := by decide +kernel
theorem dS_doOperation_1 : decode cS_doOperation 1 = .ok (.getfield 53, 3) := by decide +kernel
theorem dS_doOperation_4 : decode cS_doOperation 4 = .ok (.lookupswitch 44 #[(1, 28), (2, 36)], 28) := by decide +kernel
theorem dS_doOperation_32 : decode cS_doOperation 32 = .ok (.aload_n 0, 1) := by decide +kernel
theorem dS_doOperation_33 : decode cS_doOperation 33 = .ok (.aload_n 1, 1) := by decide +kernel
theorem dS_doOperation_34 : decode cS_doOperation 34 = .ok (.invokevirtual 203, 3) := by decide +kernel
theorem dS_doOperation_37 : decode cS_doOperation 37 = .ok (.goto 28, 3) := by decide +kernel
theorem dS_doOperation_40 : decode cS_doOperation 40 = .ok (.aload_n 0, 1) := by decide +kernel
theorem dS_doOperation_41 : decode cS_doOperation 41 = .ok (.aload_n 1, 1) := by decide +kernel
theorem dS_doOperation_42 : decode cS_doOperation 42 = .ok (.invokevirtual 206, 3) := by decide +kernel
theorem dS_doOperation_45 : decode cS_doOperation 45 = .ok (.goto 20, 3) := by decide +kernel
theorem dS_doOperation_48 : decode cS_doOperation 48 = .ok (.aload_n 0, 1) := by decide +kernel
theorem dS_doOperation_49 : decode cS_doOperation 49 = .ok (.aload_n 1, 1) := by decide +kernel
theorem dS_doOperation_50 : decode cS_doOperation 50 = .ok (.aload_n 1, 1) := by decide +kernel
theorem dS_doOperation_51 : decode cS_doOperation 51 = .ok (.getfield 190, 3) := by decide +kernel
theorem dS_doOperation_54 : decode cS_doOperation 54 = .ok (.ifCond .eq 7, 3) := by decide +kernel
theorem dS_doOperation_57 : decode cS_doOperation 57 = .ok (.iconst 1, 1) := by decide +kernel
theorem dS_doOperation_58 : decode cS_doOperation 58 = .ok (.goto 4, 3) := by decide +kernel
theorem dS_doOperation_61 : decode cS_doOperation 61 = .ok (.iconst 0, 1) := by decide +kernel
theorem dS_doOperation_62 : decode cS_doOperation 62 = .ok (.invokevirtual 209, 3) := by decide +kernel
theorem dS_doOperation_65 : decode cS_doOperation 65 = .ok (.return_, 1) := by decide +kernel
theorem dS_prepareInsert_0 : decode cS_prepareInsert 0 = .ok (.aload_n 1, 1) := by decide +kernel
theorem dS_prepareInsert_1 : decode cS_prepareInsert 1 = .ok (.getfield 190, 3) := by decide +kernel
theorem dS_prepareInsert_4 : decode cS_prepareInsert 4 = .ok (.ifCond .eq 15, 3) := by decide +kernel
theorem dS_prepareInsert_7 : decode cS_prepareInsert 7 = .ok (.aload_n 0, 1) := by decide +kernel
theorem dS_prepareInsert_8 : decode cS_prepareInsert 8 = .ok (.aload_n 1, 1) := by decide +kernel
theorem dS_prepareInsert_9 : decode cS_prepareInsert 9 = .ok (.invokevirtual 212, 3) := by decide +kernel
theorem dS_prepareInsert_12 : decode cS_prepareInsert 12 = .ok (.aload_n 0, 1) := by decide +kernel
theorem dS_prepareInsert_13 : decode cS_prepareInsert 13 = .ok (.aload_n 1, 1) := by decide +kernel
theorem dS_prepareInsert_14 : decode cS_prepareInsert 14 = .ok (.iconst 0, 1) := by decide +kernel
theorem dS_prepareInsert_15 : decode cS_prepareInsert 15 = .ok (.invokevirtual 209, 3) := by decide +kernel
theorem dS_prepareInsert_18 : decode cS_prepareInsert 18 = .ok (.return_, 1) := by decide +kernel
theorem dS_prepareInsert_19 : decode cS_prepareInsert 19 = .ok (.aload_n 1, 1) := by decide +kernel
theorem dS_prepareInsert_20 : decode cS_prepareInsert 20 = .ok (.getfield 83, 3) := by decide +kernel
theorem dS_prepareInsert_23 : decode cS_prepareInsert 23 = .ok (.ifCond .ne 11, 3) := by decide +kernel
theorem dS_prepareInsert_26 : decode cS_prepareInsert 26 = .ok (.aload_n 1, 1) := by decide +kernel
theorem dS_prepareInsert_27 : decode cS_prepareInsert 27 = .ok (.aload_n 0, 1) := by decide +kernel
theorem dS_prepareInsert_28 : decode cS_prepareInsert 28 = .ok (.invokevirtual 215, 3) := by decide +kernel
theorem dS_prepareInsert_31 : decode cS_prepareInsert 31 = .ok (.putfield 83, 3) := by decide +kernel
theorem dS_prepareInsert_34 : decode cS_prepareInsert 34 = .ok (.aload_n 1, 1) := by decide +kernel
theorem dS_prepareInsert_35 : decode cS_prepareInsert 35 = .ok (.getfield 83, 3) := by decide +kernel
theorem dS_prepareInsert_38 : decode cS_prepareInsert 38 = .ok (.ifCond .ne 10, 3) := by decide +kernel
theorem dS_prepareInsert_41 : decode cS_prepareInsert 41 = .ok (.aload_n 0, 1) := by decide +kernel
theorem dS_prepareInsert_42 : decode cS_prepareInsert 42 = .ok (.aload_n 1, 1) := by decide +kernel
theorem dS_prepareInsert_43 : decode cS_prepareInsert 43 = .ok (.iconst 2, 1) := by decide +kernel
theorem dS_prepareInsert_44 : decode cS_prepareInsert 44 = .ok (.invokevirtual 209, 3) := by decide +kernel
theorem dS_prepareInsert_47 : decode cS_prepareInsert 47 = .ok (.return_, 1) := by decide +kernel
theorem dS_prepareInsert_48 : decode cS_prepareInsert 48 = .ok (.aload_n 0, 1) := by decide +kernel
theorem dS_prepareInsert_49 : decode cS_prepareInsert 49 = .ok (.getfield 15, 3) := by decide +kernel
theorem dS_prepareInsert_52 : decode cS_prepareInsert 52 = .ok (.aload_n 1, 1) := by decide +kernel
theorem dS_prepareInsert_53 : decode cS_prepareInsert 53 = .ok (.getfield 83, 3) := by decide +kernel
theorem dS_prepareInsert_56 : decode cS_prepareInsert 56 = .ok (.aaload, 1) := by decide +kernel
theorem dS_prepareInsert_57 : decode cS_prepareInsert 57 = .ok (.astore_n 2, 1) := by decide +kernel
theorem dS_prepareInsert_58 : decode cS_prepareInsert 58 = .ok (.aload_n 2, 1) := by decide +kernel
theorem dS_prepareInsert_59 : decode cS_prepareInsert 59 = .ok (.aload_n 1, 1) := by decide +kernel
theorem dS_prepareInsert_60 : decode cS_prepareInsert 60 = .ok (.getfield 56, 3) := by decide +kernel
theorem dS_prepareInsert_63 : decode cS_prepareInsert 63 = .ok (.putfield 138, 3) := by decide +kernel
theorem dS_prepareInsert_66 : decode cS_prepareInsert 66 = .ok (.aload_n 2, 1) := by decide +kernel
theorem dS_prepareInsert_67 : decode cS_prepareInsert 67 = .ok (.aload_n 1, 1) := by decide +kernel
theorem dS_prepareInsert_68 : decode cS_prepareInsert 68 = .ok (.getfield 77, 3) := by decide +kernel
theorem dS_prepareInsert_71 : decode cS_prepareInsert 71 = .ok (.invokevirtual 219, 3) := by decide +kernel
theorem dS_prepareInsert_74 : decode cS_prepareInsert 74 = .ok (.aload_n 1, 1) := by decide +kernel
theorem dS_prepareInsert_75 : decode cS_prepareInsert 75 = .ok (.bipush 8, 2) := by decide +kernel
theorem dS_prepareInsert_77 : decode cS_prepareInsert 77 = .ok (.putfield 42, 3) := by decide +kernel
theorem dS_prepareInsert_80 : decode cS_prepareInsert 80 = .ok (.return_, 1) := by decide +kernel
theorem dS_markForRemoval_0 : decode cS_markForRemoval 0 = .ok (.aload_n 1, 1) := by decide +kernel
theorem dS_markForRemoval_1 : decode cS_markForRemoval 1 = .ok (.getfield 190, 3) := by decide +kernel
theorem dS_markForRemoval_4 : decode cS_markForRemoval 4 = .ok (.ifCond .ne 10, 3) := by decide +kernel
theorem dS_markForRemoval_7 : decode cS_markForRemoval 7 = .ok (.aload_n 0, 1) := by decide +kernel
theorem dS_markForRemoval_8 : decode cS_markForRemoval 8 = .ok (.aload_n 1, 1) := by decide +kernel
theorem dS_markForRemoval_9 : decode cS_markForRemoval 9 = .ok (.iconst 0, 1) := by decide +kernel
theorem dS_markForRemoval_10 : decode cS_markForRemoval 10 = .ok (.invokevirtual 209, 3) := by decide +kernel
theorem dS_markForRemoval_13 : decode cS_markForRemoval 13 = .ok (.return_, 1) := by decide +kernel
theorem dS_markForRemoval_14 : decode cS_markForRemoval 14 = .ok (.aload_n 0, 1) := by decide +kernel
theorem dS_markForRemoval_15 : decode cS_markForRemoval 15 = .ok (.aload_n 1, 1) := by decide +kernel
theorem dS_markForRemoval_16 : decode cS_markForRemoval 16 = .ok (.invokevirtual 193, 3) := by decide +kernel
theorem dS_markForRemoval_19 : decode cS_markForRemoval 19 = .ok (.aload_n 0, 1) := by decide +kernel
theorem dS_markForRemoval_20 : decode cS_markForRemoval 20 = .ok (.getfield 15, 3) := by decide +kernel
theorem dS_markForRemoval_23 : decode cS_markForRemoval 23 = .ok (.aload_n 1, 1) := by decide +kernel
theorem dS_markForRemoval_24 : decode cS_markForRemoval 24 = .ok (.getfield 77, 3) := by decide +kernel
theorem dS_markForRemoval_27 : decode cS_markForRemoval 27 = .ok (.aaload, 1) := by decide +kernel
theorem dS_markForRemoval_28 : decode cS_markForRemoval 28 = .ok (.astore_n 2, 1) := by decide +kernel
theorem dS_markForRemoval_29 : decode cS_markForRemoval 29 = .ok (.aload_n 2, 1) := by decide +kernel
theorem dS_markForRemoval_30 : decode cS_markForRemoval 30 = .ok (.aload_n 1, 1) := by decide +kernel
theorem dS_markForRemoval_31 : decode cS_markForRemoval 31 = .ok (.getfield 80, 3) := by decide +kernel
theorem dS_markForRemoval_34 : decode cS_markForRemoval 34 = .ok (.invokevirtual 186, 3) := by decide +kernel
theorem dS_markForRemoval_37 : decode cS_markForRemoval 37 = .ok (.ifCond .eq 17, 3) := by decide +kernel
theorem dS_markForRemoval_40 : decode cS_markForRemoval 40 = .ok (.aload_n 2, 1) := by decide +kernel
theorem dS_markForRemoval_41 : decode cS_markForRemoval 41 = .ok (.iconst 1, 1) := by decide +kernel
theorem dS_markForRemoval_42 : decode cS_markForRemoval 42 = .ok (.putfield 134, 3) := by decide +kernel
theorem dS_markForRemoval_45 : decode cS_markForRemoval 45 = .ok (.aload_n 1, 1) := by decide +kernel
theorem dS_markForRemoval_46 : decode cS_markForRemoval 46 = .ok (.bipush 10, 2) := by decide +kernel
theorem dS_markForRemoval_48 : decode cS_markForRemoval 48 = .ok (.putfield 42, 3) := by decide +kernel
theorem dS_markForRemoval_51 : decode cS_markForRemoval 51 = .ok (.goto 8, 3) := by decide +kernel
theorem dS_markForRemoval_54 : decode cS_markForRemoval 54 = .ok (.aload_n 1, 1) := by decide +kernel
theorem dS_markForRemoval_55 : decode cS_markForRemoval 55 = .ok (.iconst 2, 1) := by decide +kernel
theorem dS_markForRemoval_56 : decode cS_markForRemoval 56 = .ok (.putfield 42, 3) := by decide +kernel
theorem dS_markForRemoval_59 : decode cS_markForRemoval 59 = .ok (.return_, 1) := by decide +kernel
theorem dS_hangNewBlock_0 : decode cS_hangNewBlock 0 = .ok (.aload_n 0, 1) := by decide +kernel
theorem dS_hangNewBlock_1 : decode cS_hangNewBlock 1 = .ok (.aload_n 1, 1) := by decide +kernel
theorem dS_hangNewBlock_2 : decode cS_hangNewBlock 2 = .ok (.invokevirtual 183, 3) := by decide +kernel
theorem dS_hangNewBlock_5 : decode cS_hangNewBlock 5 = .ok (.aload_n 0, 1) := by decide +kernel
theorem dS_hangNewBlock_6 : decode cS_hangNewBlock 6 = .ok (.getfield 15, 3) := by decide +kernel
theorem dS_hangNewBlock_9 : decode cS_hangNewBlock 9 = .ok (.aload_n 1, 1) := by decide +kernel
theorem dS_hangNewBlock_10 : decode cS_hangNewBlock 10 = .ok (.getfield 74, 3) := by decide +kernel
theorem dS_hangNewBlock_13 : decode cS_hangNewBlock 13 = .ok (.aaload, 1) := by decide +kernel
theorem dS_hangNewBlock_14 : decode cS_hangNewBlock 14 = .ok (.astore_n 2, 1) := by decide +kernel
theorem dS_hangNewBlock_15 : decode cS_hangNewBlock 15 = .ok (.aload_n 2, 1) := by decide +kernel
theorem dS_hangNewBlock_16 : decode cS_hangNewBlock 16 = .ok (.aload_n 1, 1) := by decide +kernel
theorem dS_hangNewBlock_17 : decode cS_hangNewBlock 17 = .ok (.getfield 77, 3) := by decide +kernel
theorem dS_hangNewBlock_20 : decode cS_hangNewBlock 20 = .ok (.invokevirtual 186, 3) := by decide +kernel
theorem dS_hangNewBlock_23 : decode cS_hangNewBlock 23 = .ok (.ifCond .eq 20, 3) := by decide +kernel
theorem dS_hangNewBlock_26 : decode cS_hangNewBlock 26 = .ok (.aload_n 2, 1) := by decide +kernel
theorem dS_hangNewBlock_27 : decode cS_hangNewBlock 27 = .ok (.aload_n 1, 1) := by decide +kernel
theorem dS_hangNewBlock_28 : decode cS_hangNewBlock 28 = .ok (.getfield 83, 3) := by decide +kernel
theorem dS_hangNewBlock_31 : decode cS_hangNewBlock 31 = .ok (.invokevirtual 219, 3) := by decide +kernel
theorem dS_hangNewBlock_34 : decode cS_hangNewBlock 34 = .ok (.aload_n 0, 1) := by decide +kernel
theorem dS_hangNewBlock_35 : decode cS_hangNewBlock 35 = .ok (.aload_n 1, 1) := by decide +kernel
theorem dS_hangNewBlock_36 : decode cS_hangNewBlock 36 = .ok (.iconst 1, 1) := by decide +kernel
theorem dS_hangNewBlock_37 : decode cS_hangNewBlock 37 = .ok (.invokevirtual 209, 3) := by decide +kernel
theorem dS_hangNewBlock_40 : decode cS_hangNewBlock 40 = .ok (.goto 8, 3) := by decide +kernel
theorem dS_hangNewBlock_43 : decode cS_hangNewBlock 43 = .ok (.aload_n 1, 1) := by decide +kernel
theorem dS_hangNewBlock_44 : decode cS_hangNewBlock 44 = .ok (.iconst 2, 1) := by decide +kernel
theorem dS_hangNewBlock_45 : decode cS_hangNewBlock 45 = .ok (.putfield 42, 3) := by decide +kernel
theorem dS_hangNewBlock_48 : decode cS_hangNewBlock 48 = .ok (.return_, 1) := by decide +kernel
theorem dS_unhangHere_0 : decode cS_unhangHere 0 = .ok (.aload_n 0, 1) := by decide +kernel
theorem dS_unhangHere_1 : decode cS_unhangHere 1 = .ok (.aload_n 1, 1) := by decide +kernel
theorem dS_unhangHere_2 : decode cS_unhangHere 2 = .ok (.invokevirtual 199, 3) := by decide +kernel
theorem dS_unhangHere_5 : decode cS_unhangHere 5 = .ok (.pop, 1) := by decide +kernel
theorem dS_unhangHere_6 : decode cS_unhangHere 6 = .ok (.aload_n 0, 1) := by decide +kernel
theorem dS_unhangHere_7 : decode cS_unhangHere 7 = .ok (.aload_n 1, 1) := by decide +kernel
theorem dS_unhangHere_8 : decode cS_unhangHere 8 = .ok (.iconst 1, 1) := by decide +kernel
theorem dS_unhangHere_9 : decode cS_unhangHere 9 = .ok (.invokevirtual 209, 3) := by decide +kernel
theorem dS_unhangHere_12 : decode cS_unhangHere 12 = .ok (.return_, 1) := by decide +kernel
theorem dS_endWork_0 : decode cS_endWork 0 = .ok (.aload_n 1, 1) := by decide +kernel
theorem dS_endWork_1 : decode cS_endWork 1 = .ok (.iconst (-1), 1) := by decide +kernel
theorem dS_endWork_2 : decode cS_endWork 2 = .ok (.putfield 97, 3) := by decide +kernel
theorem dS_endWork_5 : decode cS_endWork 5 = .ok (.aload_n 1, 1) := by decide +kernel
theorem dS_endWork_6 : decode cS_endWork 6 = .ok (.iconst (-1), 1) := by decide +kernel
theorem dS_endWork_7 : decode cS_endWork 7 = .ok (.putfield 91, 3) := by decide +kernel
theorem dS_endWork_10 : decode cS_endWork 10 = .ok (.aload_n 1, 1) := by decide +kernel
theorem dS_endWork_11 : decode cS_endWork 11 = .ok (.iconst (-1), 1) := by decide +kernel
theorem dS_endWork_12 : decode cS_endWork 12 = .ok (.putfield 94, 3) := by decide +kernel
theorem dS_endWork_15 : decode cS_endWork 15 = .ok (.aload_n 1, 1) := by decide +kernel
theorem dS_endWork_16 : decode cS_endWork 16 = .ok (.aload_n 1, 1) := by decide +kernel
theorem dS_endWork_17 : decode cS_endWork 17 = .ok (.getfield 222, 3) := by decide +kernel
theorem dS_endWork_20 : decode cS_endWork 20 = .ok (.putfield 66, 3) := by decide +kernel
theorem dS_endWork_23 : decode cS_endWork 23 = .ok (.aload_n 1, 1) := by decide +kernel
theorem dS_endWork_24 : decode cS_endWork 24 = .ok (.iconst 0, 1) := by decide +kernel
theorem dS_endWork_25 : decode cS_endWork 25 = .ok (.putfield 42, 3) := by decide +kernel
theorem dS_endWork_28 : decode cS_endWork 28 = .ok (.return_, 1) := by decide +kernel
theorem dS_conclude_0 : decode cS_conclude 0 = .ok (.aload_n 1, 1) := by decide +kernel
theorem dS_conclude_1 : decode cS_conclude 1 = .ok (.iload_n 2, 1) := by decide +kernel
theorem dS_conclude_2 : decode cS_conclude 2 = .ok (.putfield 222, 3) := by decide +kernel
theorem dS_conclude_5 : decode cS_conclude 5 = .ok (.aload_n 1, 1) := by decide +kernel
theorem dS_conclude_6 : decode cS_conclude 6 = .ok (.bipush 9, 2) := by decide +kernel
theorem dS_conclude_8 : decode cS_conclude 8 = .ok (.putfield 42, 3) := by decide +kernel
theorem dS_conclude_11 : decode cS_conclude 11 = .ok (.return_, 1) := by decide +kernel
theorem dS_moveHereTo_0 : decode cS_moveHereTo 0 = .ok (.aload_n 1, 1) := by decide +kernel
theorem dS_moveHereTo_1 : decode cS_moveHereTo 1 = .ok (.iload_n 2, 1) := by decide +kernel
theorem dS_moveHereTo_2 : decode cS_moveHereTo 2 = .ok (.putfield 77, 3) := by decide +kernel
theorem dS_moveHereTo_5 : decode cS_moveHereTo 5 = .ok (.aload_n 1, 1) := by decide +kernel
theorem dS_moveHereTo_6 : decode cS_moveHereTo 6 = .ok (.aload_n 0, 1) := by decide +kernel
theorem dS_moveHereTo_7 : decode cS_moveHereTo 7 = .ok (.getfield 15, 3) := by decide +kernel
theorem dS_moveHereTo_10 : decode cS_moveHereTo 10 = .ok (.iload_n 2, 1) := by decide +kernel
theorem dS_moveHereTo_11 : decode cS_moveHereTo 11 = .ok (.aaload, 1) := by decide +kernel
theorem dS_moveHereTo_12 : decode cS_moveHereTo 12 = .ok (.getfield 225, 3) := by decide +kernel
theorem dS_moveHereTo_15 : decode cS_moveHereTo 15 = .ok (.putfield 196, 3) := by decide +kernel
theorem dS_moveHereTo_18 : decode cS_moveHereTo 18 = .ok (.aload_n 1, 1) := by decide +kernel
theorem dS_moveHereTo_19 : decode cS_moveHereTo 19 = .ok (.aload_n 0, 1) := by decide +kernel
theorem dS_moveHereTo_20 : decode cS_moveHereTo 20 = .ok (.getfield 9, 3) := by decide +kernel
theorem dS_moveHereTo_23 : decode cS_moveHereTo 23 = .ok (.iconst 1, 1) := by decide +kernel
theorem dS_moveHereTo_24 : decode cS_moveHereTo 24 = .ok (.if_icmp .ne 11, 3) := by decide +kernel
theorem dS_moveHereTo_27 : decode cS_moveHereTo 27 = .ok (.iload_n 2, 1) := by decide +kernel
theorem dS_moveHereTo_28 : decode cS_moveHereTo 28 = .ok (.ifCond .eq 7, 3) := by decide +kernel
theorem dS_moveHereTo_31 : decode cS_moveHereTo 31 = .ok (.iconst 3, 1) := by decide +kernel
theorem dS_moveHereTo_32 : decode cS_moveHereTo 32 = .ok (.goto 4, 3) := by decide +kernel
theorem dS_moveHereTo_35 : decode cS_moveHereTo 35 = .ok (.iconst 4, 1) := by decide +kernel
theorem dS_moveHereTo_36 : decode cS_moveHereTo 36 = .ok (.putfield 42, 3) := by decide +kernel
theorem dS_moveHereTo_39 : decode cS_moveHereTo 39 = .ok (.return_, 1) := by decide +kernel
theorem dS_takeOutHere_0 : decode cS_takeOutHere 0 = .ok (.aload_n 0, 1) := by decide +kernel
theorem dS_takeOutHere_1 : decode cS_takeOutHere 1 = .ok (.aload_n 1, 1) := by decide +kernel
theorem dS_takeOutHere_2 : decode cS_takeOutHere 2 = .ok (.invokevirtual 183, 3) := by decide +kernel
theorem dS_takeOutHere_5 : decode cS_takeOutHere 5 = .ok (.aload_n 0, 1) := by decide +kernel
theorem dS_takeOutHere_6 : decode cS_takeOutHere 6 = .ok (.getfield 15, 3) := by decide +kernel
theorem dS_takeOutHere_9 : decode cS_takeOutHere 9 = .ok (.aload_n 1, 1) := by decide +kernel
theorem dS_takeOutHere_10 : decode cS_takeOutHere 10 = .ok (.getfield 74, 3) := by decide +kernel
theorem dS_takeOutHere_13 : decode cS_takeOutHere 13 = .ok (.aaload, 1) := by decide +kernel
theorem dS_takeOutHere_14 : decode cS_takeOutHere 14 = .ok (.astore_n 2, 1) := by decide +kernel
theorem dS_takeOutHere_15 : decode cS_takeOutHere 15 = .ok (.aload_n 2, 1) := by decide +kernel
theorem dS_takeOutHere_16 : decode cS_takeOutHere 16 = .ok (.aload_n 1, 1) := by decide +kernel
theorem dS_takeOutHere_17 : decode cS_takeOutHere 17 = .ok (.getfield 77, 3) := by decide +kernel
theorem dS_takeOutHere_20 : decode cS_takeOutHere 20 = .ok (.invokevirtual 186, 3) := by decide +kernel
theorem dS_takeOutHere_23 : decode cS_takeOutHere 23 = .ok (.ifCond .ne 5, 3) := by decide +kernel
theorem dS_takeOutHere_26 : decode cS_takeOutHere 26 = .ok (.iconst 0, 1) := by decide +kernel
theorem dS_takeOutHere_27 : decode cS_takeOutHere 27 = .ok (.ireturn, 1) := by decide +kernel
theorem dS_takeOutHere_28 : decode cS_takeOutHere 28 = .ok (.aload_n 2, 1) := by decide +kernel
theorem dS_takeOutHere_29 : decode cS_takeOutHere 29 = .ok (.aload_n 1, 1) := by decide +kernel
theorem dS_takeOutHere_30 : decode cS_takeOutHere 30 = .ok (.getfield 80, 3) := by decide +kernel
theorem dS_takeOutHere_33 : decode cS_takeOutHere 33 = .ok (.invokevirtual 219, 3) := by decide +kernel
theorem dS_takeOutHere_36 : decode cS_takeOutHere 36 = .ok (.aload_n 0, 1) := by decide +kernel
theorem dS_takeOutHere_37 : decode cS_takeOutHere 37 = .ok (.aload_n 1, 1) := by decide +kernel
theorem dS_takeOutHere_38 : decode cS_takeOutHere 38 = .ok (.invokevirtual 228, 3) := by decide +kernel
theorem dS_takeOutHere_41 : decode cS_takeOutHere 41 = .ok (.iconst 1, 1) := by decide +kernel
theorem dS_takeOutHere_42 : decode cS_takeOutHere 42 = .ok (.ireturn, 1) := by decide +kernel
theorem dS_lookAtBack_0 : decode cS_lookAtBack 0 = .ok (.aload_n 1, 1) := by decide +kernel
theorem dS_lookAtBack_1 : decode cS_lookAtBack 1 = .ok (.getfield 74, 3) := by decide +kernel
theorem dS_lookAtBack_4 : decode cS_lookAtBack 4 = .ok (.ifCond .eq 20, 3) := by decide +kernel
theorem dS_lookAtBack_7 : decode cS_lookAtBack 7 = .ok (.aload_n 0, 1) := by decide +kernel
theorem dS_lookAtBack_8 : decode cS_lookAtBack 8 = .ok (.aload_n 0, 1) := by decide +kernel
theorem dS_lookAtBack_9 : decode cS_lookAtBack 9 = .ok (.getfield 15, 3) := by decide +kernel
theorem dS_lookAtBack_12 : decode cS_lookAtBack 12 = .ok (.aload_n 1, 1) := by decide +kernel
theorem dS_lookAtBack_13 : decode cS_lookAtBack 13 = .ok (.getfield 74, 3) := by decide +kernel
theorem dS_lookAtBack_16 : decode cS_lookAtBack 16 = .ok (.aaload, 1) := by decide +kernel
theorem dS_lookAtBack_17 : decode cS_lookAtBack 17 = .ok (.aload_n 1, 1) := by decide +kernel
theorem dS_lookAtBack_18 : decode cS_lookAtBack 18 = .ok (.getfield 176, 3) := by decide +kernel
theorem dS_lookAtBack_21 : decode cS_lookAtBack 21 = .ok (.invokevirtual 231, 3) := by decide +kernel
theorem dS_lookAtBack_24 : decode cS_lookAtBack 24 = .ok (.return_, 1) := by decide +kernel
theorem dS_lookAtHere_0 : decode cS_lookAtHere 0 = .ok (.aload_n 0, 1) := by decide +kernel
theorem dS_lookAtHere_1 : decode cS_lookAtHere 1 = .ok (.aload_n 0, 1) := by decide +kernel
theorem dS_lookAtHere_2 : decode cS_lookAtHere 2 = .ok (.getfield 15, 3) := by decide +kernel
theorem dS_lookAtHere_5 : decode cS_lookAtHere 5 = .ok (.aload_n 1, 1) := by decide +kernel
theorem dS_lookAtHere_6 : decode cS_lookAtHere 6 = .ok (.getfield 77, 3) := by decide +kernel
theorem dS_lookAtHere_9 : decode cS_lookAtHere 9 = .ok (.aaload, 1) := by decide +kernel
theorem dS_lookAtHere_10 : decode cS_lookAtHere 10 = .ok (.aload_n 1, 1) := by decide +kernel
theorem dS_lookAtHere_11 : decode cS_lookAtHere 11 = .ok (.getfield 196, 3) := by decide +kernel
theorem dS_lookAtHere_14 : decode cS_lookAtHere 14 = .ok (.invokevirtual 231, 3) := by decide +kernel
theorem dS_lookAtHere_17 : decode cS_lookAtHere 17 = .ok (.return_, 1) := by decide +kernel
theorem dS_countFault_0 : decode cS_countFault 0 = .ok (.aload_n 1, 1) := by decide +kernel
theorem dS_countFault_1 : decode cS_countFault 1 = .ok (.getfield 235, 3) := by decide +kernel
theorem dS_countFault_4 : decode cS_countFault 4 = .ok (.ifCond .eq 11, 3) := by decide +kernel
theorem dS_countFault_7 : decode cS_countFault 7 = .ok (.aload_n 1, 1) := by decide +kernel
theorem dS_countFault_8 : decode cS_countFault 8 = .ok (.getfield 225, 3) := by decide +kernel
theorem dS_countFault_11 : decode cS_countFault 11 = .ok (.iload_n 2, 1) := by decide +kernel
theorem dS_countFault_12 : decode cS_countFault 12 = .ok (.if_icmp .eq 13, 3) := by decide +kernel
theorem dS_countFault_15 : decode cS_countFault 15 = .ok (.aload_n 0, 1) := by decide +kernel
theorem dS_countFault_16 : decode cS_countFault 16 = .ok (.dup, 1) := by decide +kernel
theorem dS_countFault_17 : decode cS_countFault 17 = .ok (.getfield 139, 3) := by decide +kernel
theorem dS_countFault_20 : decode cS_countFault 20 = .ok (.iconst 1, 1) := by decide +kernel
theorem dS_countFault_21 : decode cS_countFault 21 = .ok (.iadd, 1) := by decide +kernel
theorem dS_countFault_22 : decode cS_countFault 22 = .ok (.putfield 139, 3) := by decide +kernel
theorem dS_countFault_25 : decode cS_countFault 25 = .ok (.return_, 1) := by decide +kernel
theorem dS_takeFreeBlock_0 : decode cS_takeFreeBlock 0 = .ok (.iconst 1, 1) := by decide +kernel
theorem dS_takeFreeBlock_1 : decode cS_takeFreeBlock 1 = .ok (.istore_n 1, 1) := by decide +kernel
theorem dS_takeFreeBlock_2 : decode cS_takeFreeBlock 2 = .ok (.iload_n 1, 1) := by decide +kernel
