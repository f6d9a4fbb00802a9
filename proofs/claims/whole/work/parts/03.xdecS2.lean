theorem dS_takeFreeBlock_3 : decode cS_takeFreeBlock 3 = .ok (.bipush 20, 2) := by decide +kernel
theorem dS_takeFreeBlock_5 : decode cS_takeFreeBlock 5 = .ok (.if_icmp .gt 48, 3) := by decide +kernel
theorem dS_takeFreeBlock_8 : decode cS_takeFreeBlock 8 = .ok (.aload_n 0, 1) := by decide +kernel
theorem dS_takeFreeBlock_9 : decode cS_takeFreeBlock 9 = .ok (.getfield 15, 3) := by decide +kernel
theorem dS_takeFreeBlock_12 : decode cS_takeFreeBlock 12 = .ok (.iload_n 1, 1) := by decide +kernel
theorem dS_takeFreeBlock_13 : decode cS_takeFreeBlock 13 = .ok (.aaload, 1) := by decide +kernel
theorem dS_takeFreeBlock_14 : decode cS_takeFreeBlock 14 = .ok (.getfield 235, 3) := by decide +kernel
theorem dS_takeFreeBlock_17 : decode cS_takeFreeBlock 17 = .ok (.ifCond .ne 30, 3) := by decide +kernel
theorem dS_takeFreeBlock_20 : decode cS_takeFreeBlock 20 = .ok (.aload_n 0, 1) := by decide +kernel
theorem dS_takeFreeBlock_21 : decode cS_takeFreeBlock 21 = .ok (.getfield 15, 3) := by decide +kernel
theorem dS_takeFreeBlock_24 : decode cS_takeFreeBlock 24 = .ok (.iload_n 1, 1) := by decide +kernel
theorem dS_takeFreeBlock_25 : decode cS_takeFreeBlock 25 = .ok (.aaload, 1) := by decide +kernel
theorem dS_takeFreeBlock_26 : decode cS_takeFreeBlock 26 = .ok (.iconst 1, 1) := by decide +kernel
theorem dS_takeFreeBlock_27 : decode cS_takeFreeBlock 27 = .ok (.putfield 235, 3) := by decide +kernel
theorem dS_takeFreeBlock_30 : decode cS_takeFreeBlock 30 = .ok (.aload_n 0, 1) := by decide +kernel
theorem dS_takeFreeBlock_31 : decode cS_takeFreeBlock 31 = .ok (.getfield 15, 3) := by decide +kernel
theorem dS_takeFreeBlock_34 : decode cS_takeFreeBlock 34 = .ok (.iload_n 1, 1) := by decide +kernel
theorem dS_takeFreeBlock_35 : decode cS_takeFreeBlock 35 = .ok (.aaload, 1) := by decide +kernel
theorem dS_takeFreeBlock_36 : decode cS_takeFreeBlock 36 = .ok (.dup, 1) := by decide +kernel
theorem dS_takeFreeBlock_37 : decode cS_takeFreeBlock 37 = .ok (.getfield 225, 3) := by decide +kernel
theorem dS_takeFreeBlock_40 : decode cS_takeFreeBlock 40 = .ok (.iconst 1, 1) := by decide +kernel
theorem dS_takeFreeBlock_41 : decode cS_takeFreeBlock 41 = .ok (.iadd, 1) := by decide +kernel
theorem dS_takeFreeBlock_42 : decode cS_takeFreeBlock 42 = .ok (.putfield 225, 3) := by decide +kernel
theorem dS_takeFreeBlock_45 : decode cS_takeFreeBlock 45 = .ok (.iload_n 1, 1) := by decide +kernel
theorem dS_takeFreeBlock_46 : decode cS_takeFreeBlock 46 = .ok (.ireturn, 1) := by decide +kernel
theorem dS_takeFreeBlock_47 : decode cS_takeFreeBlock 47 = .ok (.iinc 1 1, 3) := by decide +kernel
theorem dS_takeFreeBlock_50 : decode cS_takeFreeBlock 50 = .ok (.goto (-48), 3) := by decide +kernel
theorem dS_takeFreeBlock_53 : decode cS_takeFreeBlock 53 = .ok (.iconst 0, 1) := by decide +kernel
theorem dS_takeFreeBlock_54 : decode cS_takeFreeBlock 54 = .ok (.ireturn, 1) := by decide +kernel
theorem dS_giveNewBlockBack_0 : decode cS_giveNewBlockBack 0 = .ok (.aload_n 1, 1) := by decide +kernel
theorem dS_giveNewBlockBack_1 : decode cS_giveNewBlockBack 1 = .ok (.getfield 83, 3) := by decide +kernel
theorem dS_giveNewBlockBack_4 : decode cS_giveNewBlockBack 4 = .ok (.ifCond .eq 20, 3) := by decide +kernel
theorem dS_giveNewBlockBack_7 : decode cS_giveNewBlockBack 7 = .ok (.aload_n 0, 1) := by decide +kernel
theorem dS_giveNewBlockBack_8 : decode cS_giveNewBlockBack 8 = .ok (.getfield 15, 3) := by decide +kernel
theorem dS_giveNewBlockBack_11 : decode cS_giveNewBlockBack 11 = .ok (.aload_n 1, 1) := by decide +kernel
theorem dS_giveNewBlockBack_12 : decode cS_giveNewBlockBack 12 = .ok (.getfield 83, 3) := by decide +kernel
theorem dS_giveNewBlockBack_15 : decode cS_giveNewBlockBack 15 = .ok (.aaload, 1) := by decide +kernel
theorem dS_giveNewBlockBack_16 : decode cS_giveNewBlockBack 16 = .ok (.invokevirtual 238, 3) := by decide +kernel
theorem dS_giveNewBlockBack_19 : decode cS_giveNewBlockBack 19 = .ok (.aload_n 1, 1) := by decide +kernel
theorem dS_giveNewBlockBack_20 : decode cS_giveNewBlockBack 20 = .ok (.iconst 0, 1) := by decide +kernel
theorem dS_giveNewBlockBack_21 : decode cS_giveNewBlockBack 21 = .ok (.putfield 83, 3) := by decide +kernel
theorem dS_giveNewBlockBack_24 : decode cS_giveNewBlockBack 24 = .ok (.return_, 1) := by decide +kernel
theorem dS_retireHere_0 : decode cS_retireHere 0 = .ok (.aload_n 0, 1) := by decide +kernel
theorem dS_retireHere_1 : decode cS_retireHere 1 = .ok (.getfield 15, 3) := by decide +kernel
theorem dS_retireHere_4 : decode cS_retireHere 4 = .ok (.aload_n 1, 1) := by decide +kernel
theorem dS_retireHere_5 : decode cS_retireHere 5 = .ok (.getfield 77, 3) := by decide +kernel
theorem dS_retireHere_8 : decode cS_retireHere 8 = .ok (.aaload, 1) := by decide +kernel
theorem dS_retireHere_9 : decode cS_retireHere 9 = .ok (.astore_n 2, 1) := by decide +kernel
theorem dS_retireHere_10 : decode cS_retireHere 10 = .ok (.aload_n 0, 1) := by decide +kernel
theorem dS_retireHere_11 : decode cS_retireHere 11 = .ok (.getfield 9, 3) := by decide +kernel
theorem dS_retireHere_14 : decode cS_retireHere 14 = .ok (.iconst 2, 1) := by decide +kernel
theorem dS_retireHere_15 : decode cS_retireHere 15 = .ok (.if_icmp .ne 10, 3) := by decide +kernel
theorem dS_retireHere_18 : decode cS_retireHere 18 = .ok (.aload_n 2, 1) := by decide +kernel
theorem dS_retireHere_19 : decode cS_retireHere 19 = .ok (.invokevirtual 238, 3) := by decide +kernel
theorem dS_retireHere_22 : decode cS_retireHere 22 = .ok (.goto 44, 3) := by decide +kernel
theorem dS_retireHere_25 : decode cS_retireHere 25 = .ok (.aload_n 0, 1) := by decide +kernel
theorem dS_retireHere_26 : decode cS_retireHere 26 = .ok (.getfield 9, 3) := by decide +kernel
theorem dS_retireHere_29 : decode cS_retireHere 29 = .ok (.ifCond .ne 14, 3) := by decide +kernel
theorem dS_retireHere_32 : decode cS_retireHere 32 = .ok (.aload_n 2, 1) := by decide +kernel
theorem dS_retireHere_33 : decode cS_retireHere 33 = .ok (.aload_n 0, 1) := by decide +kernel
theorem dS_retireHere_34 : decode cS_retireHere 34 = .ok (.getfield 111, 3) := by decide +kernel
theorem dS_retireHere_37 : decode cS_retireHere 37 = .ok (.invokevirtual 241, 3) := by decide +kernel
theorem dS_retireHere_40 : decode cS_retireHere 40 = .ok (.goto 26, 3) := by decide +kernel
theorem dS_retireHere_43 : decode cS_retireHere 43 = .ok (.aload_n 2, 1) := by decide +kernel
theorem dS_retireHere_44 : decode cS_retireHere 44 = .ok (.aload_n 1, 1) := by decide +kernel
theorem dS_retireHere_45 : decode cS_retireHere 45 = .ok (.getfield 244, 3) := by decide +kernel
theorem dS_retireHere_48 : decode cS_retireHere 48 = .ok (.invokevirtual 241, 3) := by decide +kernel
theorem dS_retireHere_51 : decode cS_retireHere 51 = .ok (.aload_n 0, 1) := by decide +kernel
theorem dS_retireHere_52 : decode cS_retireHere 52 = .ok (.aload_n 1, 1) := by decide +kernel
theorem dS_retireHere_53 : decode cS_retireHere 53 = .ok (.invokevirtual 247, 3) := by decide +kernel
theorem dS_retireHere_56 : decode cS_retireHere 56 = .ok (.iconst 4, 1) := by decide +kernel
theorem dS_retireHere_57 : decode cS_retireHere 57 = .ok (.if_icmp .lt 9, 3) := by decide +kernel
theorem dS_retireHere_60 : decode cS_retireHere 60 = .ok (.aload_n 0, 1) := by decide +kernel
theorem dS_retireHere_61 : decode cS_retireHere 61 = .ok (.aload_n 1, 1) := by decide +kernel
theorem dS_retireHere_62 : decode cS_retireHere 62 = .ok (.invokevirtual 119, 3) := by decide +kernel
theorem dS_retireHere_65 : decode cS_retireHere 65 = .ok (.pop, 1) := by decide +kernel
theorem dS_retireHere_66 : decode cS_retireHere 66 = .ok (.return_, 1) := by decide +kernel
theorem dS_allAnnounceCurrentEpoch_0 : decode cS_allAnnounceCurrentEpoch 0 = .ok (.iconst 0, 1) := by decide +kernel
theorem dS_allAnnounceCurrentEpoch_1 : decode cS_allAnnounceCurrentEpoch 1 = .ok (.istore_n 1, 1) := by decide +kernel
theorem dS_allAnnounceCurrentEpoch_2 : decode cS_allAnnounceCurrentEpoch 2 = .ok (.iload_n 1, 1) := by decide +kernel
theorem dS_allAnnounceCurrentEpoch_3 : decode cS_allAnnounceCurrentEpoch 3 = .ok (.iconst 4, 1) := by decide +kernel
theorem dS_allAnnounceCurrentEpoch_4 : decode cS_allAnnounceCurrentEpoch 4 = .ok (.if_icmp .ge 34, 3) := by decide +kernel
theorem dS_allAnnounceCurrentEpoch_7 : decode cS_allAnnounceCurrentEpoch 7 = .ok (.aload_n 0, 1) := by decide +kernel
theorem dS_allAnnounceCurrentEpoch_8 : decode cS_allAnnounceCurrentEpoch 8 = .ok (.getfield 22, 3) := by decide +kernel
theorem dS_allAnnounceCurrentEpoch_11 : decode cS_allAnnounceCurrentEpoch 11 = .ok (.iload_n 1, 1) := by decide +kernel
theorem dS_allAnnounceCurrentEpoch_12 : decode cS_allAnnounceCurrentEpoch 12 = .ok (.aaload, 1) := by decide +kernel
theorem dS_allAnnounceCurrentEpoch_13 : decode cS_allAnnounceCurrentEpoch 13 = .ok (.getfield 97, 3) := by decide +kernel
theorem dS_allAnnounceCurrentEpoch_16 : decode cS_allAnnounceCurrentEpoch 16 = .ok (.istore_n 2, 1) := by decide +kernel
theorem dS_allAnnounceCurrentEpoch_17 : decode cS_allAnnounceCurrentEpoch 17 = .ok (.iload_n 2, 1) := by decide +kernel
theorem dS_allAnnounceCurrentEpoch_18 : decode cS_allAnnounceCurrentEpoch 18 = .ok (.iconst (-1), 1) := by decide +kernel
theorem dS_allAnnounceCurrentEpoch_19 : decode cS_allAnnounceCurrentEpoch 19 = .ok (.if_icmp .eq 13, 3) := by decide +kernel
theorem dS_allAnnounceCurrentEpoch_22 : decode cS_allAnnounceCurrentEpoch 22 = .ok (.iload_n 2, 1) := by decide +kernel
theorem dS_allAnnounceCurrentEpoch_23 : decode cS_allAnnounceCurrentEpoch 23 = .ok (.aload_n 0, 1) := by decide +kernel
theorem dS_allAnnounceCurrentEpoch_24 : decode cS_allAnnounceCurrentEpoch 24 = .ok (.getfield 111, 3) := by decide +kernel
theorem dS_allAnnounceCurrentEpoch_27 : decode cS_allAnnounceCurrentEpoch 27 = .ok (.if_icmp .eq 5, 3) := by decide +kernel
theorem dS_allAnnounceCurrentEpoch_30 : decode cS_allAnnounceCurrentEpoch 30 = .ok (.iconst 0, 1) := by decide +kernel
theorem dS_allAnnounceCurrentEpoch_31 : decode cS_allAnnounceCurrentEpoch 31 = .ok (.ireturn, 1) := by decide +kernel
theorem dS_allAnnounceCurrentEpoch_32 : decode cS_allAnnounceCurrentEpoch 32 = .ok (.iinc 1 1, 3) := by decide +kernel
theorem dS_allAnnounceCurrentEpoch_35 : decode cS_allAnnounceCurrentEpoch 35 = .ok (.goto (-33), 3) := by decide +kernel
theorem dS_allAnnounceCurrentEpoch_38 : decode cS_allAnnounceCurrentEpoch 38 = .ok (.iconst 1, 1) := by decide +kernel
theorem dS_allAnnounceCurrentEpoch_39 : decode cS_allAnnounceCurrentEpoch 39 = .ok (.ireturn, 1) := by decide +kernel
theorem dS_freeOldEpochs_0 : decode cS_freeOldEpochs 0 = .ok (.iconst 1, 1) := by decide +kernel
theorem dS_freeOldEpochs_1 : decode cS_freeOldEpochs 1 = .ok (.istore_n 1, 1) := by decide +kernel
theorem dS_freeOldEpochs_2 : decode cS_freeOldEpochs 2 = .ok (.iload_n 1, 1) := by decide +kernel
theorem dS_freeOldEpochs_3 : decode cS_freeOldEpochs 3 = .ok (.bipush 20, 2) := by decide +kernel
theorem dS_freeOldEpochs_5 : decode cS_freeOldEpochs 5 = .ok (.if_icmp .gt 41, 3) := by decide +kernel
theorem dS_freeOldEpochs_8 : decode cS_freeOldEpochs 8 = .ok (.aload_n 0, 1) := by decide +kernel
theorem dS_freeOldEpochs_9 : decode cS_freeOldEpochs 9 = .ok (.getfield 15, 3) := by decide +kernel
theorem dS_freeOldEpochs_12 : decode cS_freeOldEpochs 12 = .ok (.iload_n 1, 1) := by decide +kernel
theorem dS_freeOldEpochs_13 : decode cS_freeOldEpochs 13 = .ok (.aaload, 1) := by decide +kernel
theorem dS_freeOldEpochs_14 : decode cS_freeOldEpochs 14 = .ok (.astore_n 2, 1) := by decide +kernel
theorem dS_freeOldEpochs_15 : decode cS_freeOldEpochs 15 = .ok (.aload_n 2, 1) := by decide +kernel
theorem dS_freeOldEpochs_16 : decode cS_freeOldEpochs 16 = .ok (.getfield 235, 3) := by decide +kernel
theorem dS_freeOldEpochs_19 : decode cS_freeOldEpochs 19 = .ok (.iconst 2, 1) := by decide +kernel
theorem dS_freeOldEpochs_20 : decode cS_freeOldEpochs 20 = .ok (.if_icmp .ne 20, 3) := by decide +kernel
theorem dS_freeOldEpochs_23 : decode cS_freeOldEpochs 23 = .ok (.aload_n 2, 1) := by decide +kernel
theorem dS_freeOldEpochs_24 : decode cS_freeOldEpochs 24 = .ok (.getfield 250, 3) := by decide +kernel
theorem dS_freeOldEpochs_27 : decode cS_freeOldEpochs 27 = .ok (.aload_n 0, 1) := by decide +kernel
theorem dS_freeOldEpochs_28 : decode cS_freeOldEpochs 28 = .ok (.getfield 111, 3) := by decide +kernel
theorem dS_freeOldEpochs_31 : decode cS_freeOldEpochs 31 = .ok (.iconst 2, 1) := by decide +kernel
theorem dS_freeOldEpochs_32 : decode cS_freeOldEpochs 32 = .ok (.isub, 1) := by decide +kernel
theorem dS_freeOldEpochs_33 : decode cS_freeOldEpochs 33 = .ok (.if_icmp .gt 7, 3) := by decide +kernel
theorem dS_freeOldEpochs_36 : decode cS_freeOldEpochs 36 = .ok (.aload_n 2, 1) := by decide +kernel
theorem dS_freeOldEpochs_37 : decode cS_freeOldEpochs 37 = .ok (.invokevirtual 238, 3) := by decide +kernel
theorem dS_freeOldEpochs_40 : decode cS_freeOldEpochs 40 = .ok (.iinc 1 1, 3) := by decide +kernel
theorem dS_freeOldEpochs_43 : decode cS_freeOldEpochs 43 = .ok (.goto (-41), 3) := by decide +kernel
theorem dS_freeOldEpochs_46 : decode cS_freeOldEpochs 46 = .ok (.return_, 1) := by decide +kernel
theorem dS_countRetiredBy_0 : decode cS_countRetiredBy 0 = .ok (.iconst 0, 1) := by decide +kernel
theorem dS_countRetiredBy_1 : decode cS_countRetiredBy 1 = .ok (.istore_n 2, 1) := by decide +kernel
theorem dS_countRetiredBy_2 : decode cS_countRetiredBy 2 = .ok (.iconst 1, 1) := by decide +kernel
theorem dS_countRetiredBy_3 : decode cS_countRetiredBy 3 = .ok (.istore_n 3, 1) := by decide +kernel
theorem dS_countRetiredBy_4 : decode cS_countRetiredBy 4 = .ok (.iload_n 3, 1) := by decide +kernel
theorem dS_countRetiredBy_5 : decode cS_countRetiredBy 5 = .ok (.bipush 20, 2) := by decide +kernel
theorem dS_countRetiredBy_7 : decode cS_countRetiredBy 7 = .ok (.if_icmp .gt 21, 3) := by decide +kernel
theorem dS_countRetiredBy_10 : decode cS_countRetiredBy 10 = .ok (.aload_n 0, 1) := by decide +kernel
theorem dS_countRetiredBy_11 : decode cS_countRetiredBy 11 = .ok (.aload_n 1, 1) := by decide +kernel
theorem dS_countRetiredBy_12 : decode cS_countRetiredBy 12 = .ok (.iload_n 3, 1) := by decide +kernel
theorem dS_countRetiredBy_13 : decode cS_countRetiredBy 13 = .ok (.invokevirtual 253, 3) := by decide +kernel
theorem dS_countRetiredBy_16 : decode cS_countRetiredBy 16 = .ok (.ifCond .eq 6, 3) := by decide +kernel
theorem dS_countRetiredBy_19 : decode cS_countRetiredBy 19 = .ok (.iinc 2 1, 3) := by decide +kernel
theorem dS_countRetiredBy_22 : decode cS_countRetiredBy 22 = .ok (.iinc 3 1, 3) := by decide +kernel
theorem dS_countRetiredBy_25 : decode cS_countRetiredBy 25 = .ok (.goto (-21), 3) := by decide +kernel
theorem dS_countRetiredBy_28 : decode cS_countRetiredBy 28 = .ok (.iload_n 2, 1) := by decide +kernel
theorem dS_countRetiredBy_29 : decode cS_countRetiredBy 29 = .ok (.ireturn, 1) := by decide +kernel
theorem dS_freeUnnamed_0 : decode cS_freeUnnamed 0 = .ok (.iconst 0, 1) := by decide +kernel
theorem dS_freeUnnamed_1 : decode cS_freeUnnamed 1 = .ok (.istore_n 2, 1) := by decide +kernel
theorem dS_freeUnnamed_2 : decode cS_freeUnnamed 2 = .ok (.iconst 1, 1) := by decide +kernel
theorem dS_freeUnnamed_3 : decode cS_freeUnnamed 3 = .ok (.istore_n 3, 1) := by decide +kernel
theorem dS_freeUnnamed_4 : decode cS_freeUnnamed 4 = .ok (.iload_n 3, 1) := by decide +kernel
theorem dS_freeUnnamed_5 : decode cS_freeUnnamed 5 = .ok (.bipush 20, 2) := by decide +kernel
theorem dS_freeUnnamed_7 : decode cS_freeUnnamed 7 = .ok (.if_icmp .gt 38, 3) := by decide +kernel
theorem dS_freeUnnamed_10 : decode cS_freeUnnamed 10 = .ok (.aload_n 0, 1) := by decide +kernel
theorem dS_freeUnnamed_11 : decode cS_freeUnnamed 11 = .ok (.aload_n 1, 1) := by decide +kernel
theorem dS_freeUnnamed_12 : decode cS_freeUnnamed 12 = .ok (.iload_n 3, 1) := by decide +kernel
theorem dS_freeUnnamed_13 : decode cS_freeUnnamed 13 = .ok (.invokevirtual 253, 3) := by decide +kernel
theorem dS_freeUnnamed_16 : decode cS_freeUnnamed 16 = .ok (.ifCond .eq 23, 3) := by decide +kernel
theorem dS_freeUnnamed_19 : decode cS_freeUnnamed 19 = .ok (.aload_n 0, 1) := by decide +kernel
theorem dS_freeUnnamed_20 : decode cS_freeUnnamed 20 = .ok (.iload_n 3, 1) := by decide +kernel
theorem dS_freeUnnamed_21 : decode cS_freeUnnamed 21 = .ok (.invokevirtual 257, 3) := by decide +kernel
theorem dS_freeUnnamed_24 : decode cS_freeUnnamed 24 = .ok (.ifCond .ne 15, 3) := by decide +kernel
theorem dS_freeUnnamed_27 : decode cS_freeUnnamed 27 = .ok (.aload_n 0, 1) := by decide +kernel
theorem dS_freeUnnamed_28 : decode cS_freeUnnamed 28 = .ok (.getfield 15, 3) := by decide +kernel
theorem dS_freeUnnamed_31 : decode cS_freeUnnamed 31 = .ok (.iload_n 3, 1) := by decide +kernel
theorem dS_freeUnnamed_32 : decode cS_freeUnnamed 32 = .ok (.aaload, 1) := by decide +kernel
theorem dS_freeUnnamed_33 : decode cS_freeUnnamed 33 = .ok (.invokevirtual 238, 3) := by decide +kernel
theorem dS_freeUnnamed_36 : decode cS_freeUnnamed 36 = .ok (.iinc 2 1, 3) := by decide +kernel
theorem dS_freeUnnamed_39 : decode cS_freeUnnamed 39 = .ok (.iinc 3 1, 3) := by decide +kernel
theorem dS_freeUnnamed_42 : decode cS_freeUnnamed 42 = .ok (.goto (-38), 3) := by decide +kernel
theorem dS_freeUnnamed_45 : decode cS_freeUnnamed 45 = .ok (.iload_n 2, 1) := by decide +kernel
theorem dS_freeUnnamed_46 : decode cS_freeUnnamed 46 = .ok (.ireturn, 1) := by decide +kernel
theorem dS_isRetiredBy_0 : decode cS_isRetiredBy 0 = .ok (.aload_n 0, 1) := by decide +kernel
theorem dS_isRetiredBy_1 : decode cS_isRetiredBy 1 = .ok (.getfield 15, 3) := by decide +kernel
theorem dS_isRetiredBy_4 : decode cS_isRetiredBy 4 = .ok (.iload_n 2, 1) := by decide +kernel
theorem dS_isRetiredBy_5 : decode cS_isRetiredBy 5 = .ok (.aaload, 1) := by decide +kernel
theorem dS_isRetiredBy_6 : decode cS_isRetiredBy 6 = .ok (.getfield 235, 3) := by decide +kernel
theorem dS_isRetiredBy_9 : decode cS_isRetiredBy 9 = .ok (.iconst 2, 1) := by decide +kernel
theorem dS_isRetiredBy_10 : decode cS_isRetiredBy 10 = .ok (.if_icmp .ne 23, 3) := by decide +kernel
theorem dS_isRetiredBy_13 : decode cS_isRetiredBy 13 = .ok (.aload_n 0, 1) := by decide +kernel
theorem dS_isRetiredBy_14 : decode cS_isRetiredBy 14 = .ok (.getfield 15, 3) := by decide +kernel
theorem dS_isRetiredBy_17 : decode cS_isRetiredBy 17 = .ok (.iload_n 2, 1) := by decide +kernel
theorem dS_isRetiredBy_18 : decode cS_isRetiredBy 18 = .ok (.aaload, 1) := by decide +kernel
theorem dS_isRetiredBy_19 : decode cS_isRetiredBy 19 = .ok (.getfield 250, 3) := by decide +kernel
theorem dS_isRetiredBy_22 : decode cS_isRetiredBy 22 = .ok (.aload_n 1, 1) := by decide +kernel
theorem dS_isRetiredBy_23 : decode cS_isRetiredBy 23 = .ok (.getfield 244, 3) := by decide +kernel
theorem dS_isRetiredBy_26 : decode cS_isRetiredBy 26 = .ok (.if_icmp .ne 7, 3) := by decide +kernel
theorem dS_isRetiredBy_29 : decode cS_isRetiredBy 29 = .ok (.iconst 1, 1) := by decide +kernel
theorem dS_isRetiredBy_30 : decode cS_isRetiredBy 30 = .ok (.goto 4, 3) := by decide +kernel
theorem dS_isRetiredBy_33 : decode cS_isRetiredBy 33 = .ok (.iconst 0, 1) := by decide +kernel
theorem dS_isRetiredBy_34 : decode cS_isRetiredBy 34 = .ok (.ireturn, 1) := by decide +kernel
theorem dS_isNamed_0 : decode cS_isNamed 0 = .ok (.iconst 0, 1) := by decide +kernel
theorem dS_isNamed_1 : decode cS_isNamed 1 = .ok (.istore_n 2, 1) := by decide +kernel
theorem dS_isNamed_2 : decode cS_isNamed 2 = .ok (.iload_n 2, 1) := by decide +kernel
theorem dS_isNamed_3 : decode cS_isNamed 3 = .ok (.iconst 4, 1) := by decide +kernel
theorem dS_isNamed_4 : decode cS_isNamed 4 = .ok (.if_icmp .ge 37, 3) := by decide +kernel
theorem dS_isNamed_7 : decode cS_isNamed 7 = .ok (.aload_n 0, 1) := by decide +kernel
theorem dS_isNamed_8 : decode cS_isNamed 8 = .ok (.getfield 22, 3) := by decide +kernel
theorem dS_isNamed_11 : decode cS_isNamed 11 = .ok (.iload_n 2, 1) := by decide +kernel
theorem dS_isNamed_12 : decode cS_isNamed 12 = .ok (.aaload, 1) := by decide +kernel
theorem dS_isNamed_13 : decode cS_isNamed 13 = .ok (.getfield 91, 3) := by decide +kernel
theorem dS_isNamed_16 : decode cS_isNamed 16 = .ok (.iload_n 1, 1) := by decide +kernel
theorem dS_isNamed_17 : decode cS_isNamed 17 = .ok (.if_icmp .eq 16, 3) := by decide +kernel
theorem dS_isNamed_20 : decode cS_isNamed 20 = .ok (.aload_n 0, 1) := by decide +kernel
theorem dS_isNamed_21 : decode cS_isNamed 21 = .ok (.getfield 22, 3) := by decide +kernel
theorem dS_isNamed_24 : decode cS_isNamed 24 = .ok (.iload_n 2, 1) := by decide +kernel
theorem dS_isNamed_25 : decode cS_isNamed 25 = .ok (.aaload, 1) := by decide +kernel
theorem dS_isNamed_26 : decode cS_isNamed 26 = .ok (.getfield 94, 3) := by decide +kernel
theorem dS_isNamed_29 : decode cS_isNamed 29 = .ok (.iload_n 1, 1) := by decide +kernel
theorem dS_isNamed_30 : decode cS_isNamed 30 = .ok (.if_icmp .ne 5, 3) := by decide +kernel
theorem dS_isNamed_33 : decode cS_isNamed 33 = .ok (.iconst 1, 1) := by decide +kernel
theorem dS_isNamed_34 : decode cS_isNamed 34 = .ok (.ireturn, 1) := by decide +kernel
theorem dS_isNamed_35 : decode cS_isNamed 35 = .ok (.iinc 2 1, 3) := by decide +kernel
theorem dS_isNamed_38 : decode cS_isNamed 38 = .ok (.goto (-36), 3) := by decide +kernel
theorem dS_isNamed_41 : decode cS_isNamed 41 = .ok (.iconst 0, 1) := by decide +kernel
theorem dS_isNamed_42 : decode cS_isNamed 42 = .ok (.ireturn, 1) := by decide +kernel
