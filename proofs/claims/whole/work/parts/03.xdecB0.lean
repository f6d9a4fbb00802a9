theorem dB_init_0 : decode cB_init 0 = .ok (.aload_n 0, 1) := by decide +kernel
theorem dB_init_1 : decode cB_init 1 = .ok (.invokespecial 3, 3) := by decide +kernel
theorem dB_init_4 : decode cB_init 4 = .ok (.aload_n 0, 1) := by decide +kernel
theorem dB_init_5 : decode cB_init 5 = .ok (.iconst 0, 1) := by decide +kernel
theorem dB_init_6 : decode cB_init 6 = .ok (.putfield 9, 3) := by decide +kernel
theorem dB_init_9 : decode cB_init 9 = .ok (.aload_n 0, 1) := by decide +kernel
theorem dB_init_10 : decode cB_init 10 = .ok (.iconst (-1), 1) := by decide +kernel
theorem dB_init_11 : decode cB_init 11 = .ok (.putfield 15, 3) := by decide +kernel
theorem dB_init_14 : decode cB_init 14 = .ok (.return_, 1) := by decide +kernel
theorem dB_leadsTo_0 : decode cB_leadsTo 0 = .ok (.aload_n 0, 1) := by decide +kernel
theorem dB_leadsTo_1 : decode cB_leadsTo 1 = .ok (.getfield 18, 3) := by decide +kernel
theorem dB_leadsTo_4 : decode cB_leadsTo 4 = .ok (.iload_n 1, 1) := by decide +kernel
theorem dB_leadsTo_5 : decode cB_leadsTo 5 = .ok (.if_icmp .ne 14, 3) := by decide +kernel
theorem dB_leadsTo_8 : decode cB_leadsTo 8 = .ok (.aload_n 0, 1) := by decide +kernel
theorem dB_leadsTo_9 : decode cB_leadsTo 9 = .ok (.getfield 21, 3) := by decide +kernel
theorem dB_leadsTo_12 : decode cB_leadsTo 12 = .ok (.ifCond .ne 7, 3) := by decide +kernel
theorem dB_leadsTo_15 : decode cB_leadsTo 15 = .ok (.iconst 1, 1) := by decide +kernel
theorem dB_leadsTo_16 : decode cB_leadsTo 16 = .ok (.goto 4, 3) := by decide +kernel
theorem dB_leadsTo_19 : decode cB_leadsTo 19 = .ok (.iconst 0, 1) := by decide +kernel
theorem dB_leadsTo_20 : decode cB_leadsTo 20 = .ok (.ireturn, 1) := by decide +kernel
theorem dB_lead_0 : decode cB_lead 0 = .ok (.aload_n 0, 1) := by decide +kernel
theorem dB_lead_1 : decode cB_lead 1 = .ok (.iload_n 1, 1) := by decide +kernel
theorem dB_lead_2 : decode cB_lead 2 = .ok (.putfield 18, 3) := by decide +kernel
theorem dB_lead_5 : decode cB_lead 5 = .ok (.aload_n 0, 1) := by decide +kernel
theorem dB_lead_6 : decode cB_lead 6 = .ok (.iconst 0, 1) := by decide +kernel
theorem dB_lead_7 : decode cB_lead 7 = .ok (.putfield 21, 3) := by decide +kernel
theorem dB_lead_10 : decode cB_lead 10 = .ok (.return_, 1) := by decide +kernel
theorem dB_retireWith_0 : decode cB_retireWith 0 = .ok (.aload_n 0, 1) := by decide +kernel
theorem dB_retireWith_1 : decode cB_retireWith 1 = .ok (.iconst 2, 1) := by decide +kernel
theorem dB_retireWith_2 : decode cB_retireWith 2 = .ok (.putfield 9, 3) := by decide +kernel
theorem dB_retireWith_5 : decode cB_retireWith 5 = .ok (.aload_n 0, 1) := by decide +kernel
theorem dB_retireWith_6 : decode cB_retireWith 6 = .ok (.iload_n 1, 1) := by decide +kernel
theorem dB_retireWith_7 : decode cB_retireWith 7 = .ok (.putfield 15, 3) := by decide +kernel
theorem dB_retireWith_10 : decode cB_retireWith 10 = .ok (.return_, 1) := by decide +kernel
theorem dB_setFree_0 : decode cB_setFree 0 = .ok (.aload_n 0, 1) := by decide +kernel
theorem dB_setFree_1 : decode cB_setFree 1 = .ok (.iconst 0, 1) := by decide +kernel
theorem dB_setFree_2 : decode cB_setFree 2 = .ok (.putfield 9, 3) := by decide +kernel
theorem dB_setFree_5 : decode cB_setFree 5 = .ok (.aload_n 0, 1) := by decide +kernel
theorem dB_setFree_6 : decode cB_setFree 6 = .ok (.iconst (-1), 1) := by decide +kernel
theorem dB_setFree_7 : decode cB_setFree 7 = .ok (.putfield 15, 3) := by decide +kernel
theorem dB_setFree_10 : decode cB_setFree 10 = .ok (.return_, 1) := by decide +kernel
theorem dB_tell_0 : decode cB_tell 0 = .ok (.iload_n 1, 1) := by decide +kernel
theorem dB_tell_1 : decode cB_tell 1 = .ok (.tableswitch 68 0 4 #[35, 40, 45, 50, 63], 35) := by decide +kernel
theorem dB_tell_36 : decode cB_tell 36 = .ok (.aload_n 0, 1) := by decide +kernel
theorem dB_tell_37 : decode cB_tell 37 = .ok (.getfield 9, 3) := by decide +kernel
theorem dB_tell_40 : decode cB_tell 40 = .ok (.ireturn, 1) := by decide +kernel
theorem dB_tell_41 : decode cB_tell 41 = .ok (.aload_n 0, 1) := by decide +kernel
theorem dB_tell_42 : decode cB_tell 42 = .ok (.getfield 25, 3) := by decide +kernel
theorem dB_tell_45 : decode cB_tell 45 = .ok (.ireturn, 1) := by decide +kernel
theorem dB_tell_46 : decode cB_tell 46 = .ok (.aload_n 0, 1) := by decide +kernel
theorem dB_tell_47 : decode cB_tell 47 = .ok (.getfield 18, 3) := by decide +kernel
theorem dB_tell_50 : decode cB_tell 50 = .ok (.ireturn, 1) := by decide +kernel
theorem dB_tell_51 : decode cB_tell 51 = .ok (.aload_n 0, 1) := by decide +kernel
theorem dB_tell_52 : decode cB_tell 52 = .ok (.getfield 21, 3) := by decide +kernel
theorem dB_tell_55 : decode cB_tell 55 = .ok (.ifCond .eq 7, 3) := by decide +kernel
theorem dB_tell_58 : decode cB_tell 58 = .ok (.iconst 1, 1) := by decide +kernel
theorem dB_tell_59 : decode cB_tell 59 = .ok (.goto 4, 3) := by decide +kernel
theorem dB_tell_62 : decode cB_tell 62 = .ok (.iconst 0, 1) := by decide +kernel
theorem dB_tell_63 : decode cB_tell 63 = .ok (.ireturn, 1) := by decide +kernel
theorem dB_tell_64 : decode cB_tell 64 = .ok (.aload_n 0, 1) := by decide +kernel
theorem dB_tell_65 : decode cB_tell 65 = .ok (.getfield 28, 3) := by decide +kernel
theorem dB_tell_68 : decode cB_tell 68 = .ok (.ireturn, 1) := by decide +kernel
theorem dB_tell_69 : decode cB_tell 69 = .ok (.aload_n 0, 1) := by decide +kernel
theorem dB_tell_70 : decode cB_tell 70 = .ok (.getfield 15, 3) := by decide +kernel
theorem dB_tell_73 : decode cB_tell 73 = .ok (.ireturn, 1) := by decide +kernel
