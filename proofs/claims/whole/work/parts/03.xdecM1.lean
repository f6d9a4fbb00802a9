theorem dM_scan_8 : decode cM_scan 8 = .ok (.iconst 1, 1) := by decide +kernel
theorem dM_scan_9 : decode cM_scan 9 = .ok (.goto 16, 3) := by decide +kernel
theorem dM_scan_12 : decode cM_scan 12 = .ok (.aload_n 0, 1) := by decide +kernel
theorem dM_scan_13 : decode cM_scan 13 = .ok (.getfield 71, 3) := by decide +kernel
theorem dM_scan_16 : decode cM_scan 16 = .ok (.iconst 1, 1) := by decide +kernel
theorem dM_scan_17 : decode cM_scan 17 = .ok (.if_icmp .eq 7, 3) := by decide +kernel
theorem dM_scan_20 : decode cM_scan 20 = .ok (.iconst 2, 1) := by decide +kernel
theorem dM_scan_21 : decode cM_scan 21 = .ok (.goto 4, 3) := by decide +kernel
theorem dM_scan_24 : decode cM_scan 24 = .ok (.iconst 0, 1) := by decide +kernel
theorem dM_scan_25 : decode cM_scan 25 = .ok (.putfield 75, 3) := by decide +kernel
theorem dM_scan_28 : decode cM_scan 28 = .ok (.aload_n 0, 1) := by decide +kernel
theorem dM_scan_29 : decode cM_scan 29 = .ok (.getfield 75, 3) := by decide +kernel
theorem dM_scan_32 : decode cM_scan 32 = .ok (.ifCond .le 7, 3) := by decide +kernel
theorem dM_scan_35 : decode cM_scan 35 = .ok (.iconst 0, 1) := by decide +kernel
theorem dM_scan_36 : decode cM_scan 36 = .ok (.goto 8, 3) := by decide +kernel
theorem dM_scan_39 : decode cM_scan 39 = .ok (.aload_n 0, 1) := by decide +kernel
theorem dM_scan_40 : decode cM_scan 40 = .ok (.iload_n 1, 1) := by decide +kernel
theorem dM_scan_41 : decode cM_scan 41 = .ok (.invokevirtual 88, 3) := by decide +kernel
theorem dM_scan_44 : decode cM_scan 44 = .ok (.ireturn, 1) := by decide +kernel
theorem dM_look_0 : decode cM_look 0 = .ok (.aload_n 0, 1) := by decide +kernel
theorem dM_look_1 : decode cM_look 1 = .ok (.iload_n 1, 1) := by decide +kernel
theorem dM_look_2 : decode cM_look 2 = .ok (.ifCond .le 31, 3) := by decide +kernel
theorem dM_look_5 : decode cM_look 5 = .ok (.aload_n 0, 1) := by decide +kernel
theorem dM_look_6 : decode cM_look 6 = .ok (.getfield 7, 3) := by decide +kernel
theorem dM_look_9 : decode cM_look 9 = .ok (.iload_n 1, 1) := by decide +kernel
theorem dM_look_10 : decode cM_look 10 = .ok (.iaload, 1) := by decide +kernel
theorem dM_look_11 : decode cM_look 11 = .ok (.ifCond .eq 13, 3) := by decide +kernel
theorem dM_look_14 : decode cM_look 14 = .ok (.aload_n 0, 1) := by decide +kernel
theorem dM_look_15 : decode cM_look 15 = .ok (.getfield 23, 3) := by decide +kernel
theorem dM_look_18 : decode cM_look 18 = .ok (.iload_n 1, 1) := by decide +kernel
theorem dM_look_19 : decode cM_look 19 = .ok (.iaload, 1) := by decide +kernel
theorem dM_look_20 : decode cM_look 20 = .ok (.iload_n 2, 1) := by decide +kernel
theorem dM_look_21 : decode cM_look 21 = .ok (.if_icmp .eq 12, 3) := by decide +kernel
theorem dM_look_24 : decode cM_look 24 = .ok (.aload_n 0, 1) := by decide +kernel
theorem dM_look_25 : decode cM_look 25 = .ok (.getfield 92, 3) := by decide +kernel
theorem dM_look_28 : decode cM_look 28 = .ok (.iconst 1, 1) := by decide +kernel
theorem dM_look_29 : decode cM_look 29 = .ok (.iadd, 1) := by decide +kernel
theorem dM_look_30 : decode cM_look 30 = .ok (.goto 7, 3) := by decide +kernel
theorem dM_look_33 : decode cM_look 33 = .ok (.aload_n 0, 1) := by decide +kernel
theorem dM_look_34 : decode cM_look 34 = .ok (.getfield 92, 3) := by decide +kernel
theorem dM_look_37 : decode cM_look 37 = .ok (.putfield 92, 3) := by decide +kernel
theorem dM_look_40 : decode cM_look 40 = .ok (.return_, 1) := by decide +kernel
theorem dM_lookBack_0 : decode cM_lookBack 0 = .ok (.aload_n 0, 1) := by decide +kernel
theorem dM_lookBack_1 : decode cM_lookBack 1 = .ok (.aload_n 0, 1) := by decide +kernel
theorem dM_lookBack_2 : decode cM_lookBack 2 = .ok (.getfield 38, 3) := by decide +kernel
theorem dM_lookBack_5 : decode cM_lookBack 5 = .ok (.iload_n 1, 1) := by decide +kernel
theorem dM_lookBack_6 : decode cM_lookBack 6 = .ok (.iaload, 1) := by decide +kernel
theorem dM_lookBack_7 : decode cM_lookBack 7 = .ok (.aload_n 0, 1) := by decide +kernel
theorem dM_lookBack_8 : decode cM_lookBack 8 = .ok (.getfield 41, 3) := by decide +kernel
theorem dM_lookBack_11 : decode cM_lookBack 11 = .ok (.iload_n 1, 1) := by decide +kernel
theorem dM_lookBack_12 : decode cM_lookBack 12 = .ok (.iaload, 1) := by decide +kernel
theorem dM_lookBack_13 : decode cM_lookBack 13 = .ok (.invokevirtual 95, 3) := by decide +kernel
theorem dM_lookBack_16 : decode cM_lookBack 16 = .ok (.return_, 1) := by decide +kernel
theorem dM_linked_0 : decode cM_linked 0 = .ok (.aload_n 0, 1) := by decide +kernel
theorem dM_linked_1 : decode cM_linked 1 = .ok (.getfield 16, 3) := by decide +kernel
theorem dM_linked_4 : decode cM_linked 4 = .ok (.aload_n 0, 1) := by decide +kernel
theorem dM_linked_5 : decode cM_linked 5 = .ok (.getfield 38, 3) := by decide +kernel
theorem dM_linked_8 : decode cM_linked 8 = .ok (.iload_n 1, 1) := by decide +kernel
theorem dM_linked_9 : decode cM_linked 9 = .ok (.iaload, 1) := by decide +kernel
theorem dM_linked_10 : decode cM_linked 10 = .ok (.iaload, 1) := by decide +kernel
theorem dM_linked_11 : decode cM_linked 11 = .ok (.aload_n 0, 1) := by decide +kernel
theorem dM_linked_12 : decode cM_linked 12 = .ok (.getfield 44, 3) := by decide +kernel
theorem dM_linked_15 : decode cM_linked 15 = .ok (.iload_n 1, 1) := by decide +kernel
theorem dM_linked_16 : decode cM_linked 16 = .ok (.iaload, 1) := by decide +kernel
theorem dM_linked_17 : decode cM_linked 17 = .ok (.if_icmp .ne 21, 3) := by decide +kernel
theorem dM_linked_20 : decode cM_linked 20 = .ok (.aload_n 0, 1) := by decide +kernel
theorem dM_linked_21 : decode cM_linked 21 = .ok (.getfield 19, 3) := by decide +kernel
theorem dM_linked_24 : decode cM_linked 24 = .ok (.aload_n 0, 1) := by decide +kernel
theorem dM_linked_25 : decode cM_linked 25 = .ok (.getfield 38, 3) := by decide +kernel
theorem dM_linked_28 : decode cM_linked 28 = .ok (.iload_n 1, 1) := by decide +kernel
theorem dM_linked_29 : decode cM_linked 29 = .ok (.iaload, 1) := by decide +kernel
theorem dM_linked_30 : decode cM_linked 30 = .ok (.baload, 1) := by decide +kernel
theorem dM_linked_31 : decode cM_linked 31 = .ok (.ifCond .ne 7, 3) := by decide +kernel
theorem dM_linked_34 : decode cM_linked 34 = .ok (.iconst 1, 1) := by decide +kernel
theorem dM_linked_35 : decode cM_linked 35 = .ok (.goto 4, 3) := by decide +kernel
theorem dM_linked_38 : decode cM_linked 38 = .ok (.iconst 0, 1) := by decide +kernel
theorem dM_linked_39 : decode cM_linked 39 = .ok (.ireturn, 1) := by decide +kernel
theorem dM_link_0 : decode cM_link 0 = .ok (.aload_n 0, 1) := by decide +kernel
theorem dM_link_1 : decode cM_link 1 = .ok (.getfield 16, 3) := by decide +kernel
theorem dM_link_4 : decode cM_link 4 = .ok (.iload_n 1, 1) := by decide +kernel
theorem dM_link_5 : decode cM_link 5 = .ok (.iload_n 2, 1) := by decide +kernel
theorem dM_link_6 : decode cM_link 6 = .ok (.iastore, 1) := by decide +kernel
theorem dM_link_7 : decode cM_link 7 = .ok (.aload_n 0, 1) := by decide +kernel
theorem dM_link_8 : decode cM_link 8 = .ok (.getfield 19, 3) := by decide +kernel
theorem dM_link_11 : decode cM_link 11 = .ok (.iload_n 1, 1) := by decide +kernel
theorem dM_link_12 : decode cM_link 12 = .ok (.iload_n 3, 1) := by decide +kernel
theorem dM_link_13 : decode cM_link 13 = .ok (.bastore, 1) := by decide +kernel
theorem dM_link_14 : decode cM_link 14 = .ok (.return_, 1) := by decide +kernel
theorem dM_come_0 : decode cM_come 0 = .ok (.aload_n 0, 1) := by decide +kernel
theorem dM_come_1 : decode cM_come 1 = .ok (.getfield 44, 3) := by decide +kernel
theorem dM_come_4 : decode cM_come 4 = .ok (.iload_n 1, 1) := by decide +kernel
theorem dM_come_5 : decode cM_come 5 = .ok (.iload_n 2, 1) := by decide +kernel
theorem dM_come_6 : decode cM_come 6 = .ok (.iastore, 1) := by decide +kernel
theorem dM_come_7 : decode cM_come 7 = .ok (.aload_n 0, 1) := by decide +kernel
theorem dM_come_8 : decode cM_come 8 = .ok (.getfield 47, 3) := by decide +kernel
theorem dM_come_11 : decode cM_come 11 = .ok (.iload_n 1, 1) := by decide +kernel
theorem dM_come_12 : decode cM_come 12 = .ok (.aload_n 0, 1) := by decide +kernel
theorem dM_come_13 : decode cM_come 13 = .ok (.getfield 23, 3) := by decide +kernel
theorem dM_come_16 : decode cM_come 16 = .ok (.iload_n 2, 1) := by decide +kernel
theorem dM_come_17 : decode cM_come 17 = .ok (.iaload, 1) := by decide +kernel
theorem dM_come_18 : decode cM_come 18 = .ok (.iastore, 1) := by decide +kernel
theorem dM_come_19 : decode cM_come 19 = .ok (.aload_n 0, 1) := by decide +kernel
theorem dM_come_20 : decode cM_come 20 = .ok (.getfield 71, 3) := by decide +kernel
theorem dM_come_23 : decode cM_come 23 = .ok (.iconst 1, 1) := by decide +kernel
theorem dM_come_24 : decode cM_come 24 = .ok (.if_icmp .ne 11, 3) := by decide +kernel
theorem dM_come_27 : decode cM_come 27 = .ok (.iload_n 2, 1) := by decide +kernel
theorem dM_come_28 : decode cM_come 28 = .ok (.ifCond .eq 7, 3) := by decide +kernel
theorem dM_come_31 : decode cM_come 31 = .ok (.iconst 3, 1) := by decide +kernel
theorem dM_come_32 : decode cM_come 32 = .ok (.goto 4, 3) := by decide +kernel
theorem dM_come_35 : decode cM_come 35 = .ok (.iconst 4, 1) := by decide +kernel
theorem dM_come_36 : decode cM_come 36 = .ok (.ireturn, 1) := by decide +kernel
theorem dM_head_0 : decode cM_head 0 = .ok (.aload_n 0, 1) := by decide +kernel
theorem dM_head_1 : decode cM_head 1 = .ok (.getfield 38, 3) := by decide +kernel
theorem dM_head_4 : decode cM_head 4 = .ok (.iload_n 1, 1) := by decide +kernel
theorem dM_head_5 : decode cM_head 5 = .ok (.iconst 0, 1) := by decide +kernel
theorem dM_head_6 : decode cM_head 6 = .ok (.iastore, 1) := by decide +kernel
theorem dM_head_7 : decode cM_head 7 = .ok (.aload_n 0, 1) := by decide +kernel
theorem dM_head_8 : decode cM_head 8 = .ok (.getfield 41, 3) := by decide +kernel
theorem dM_head_11 : decode cM_head 11 = .ok (.iload_n 1, 1) := by decide +kernel
theorem dM_head_12 : decode cM_head 12 = .ok (.iconst 0, 1) := by decide +kernel
theorem dM_head_13 : decode cM_head 13 = .ok (.iastore, 1) := by decide +kernel
theorem dM_head_14 : decode cM_head 14 = .ok (.aload_n 0, 1) := by decide +kernel
theorem dM_head_15 : decode cM_head 15 = .ok (.iload_n 1, 1) := by decide +kernel
theorem dM_head_16 : decode cM_head 16 = .ok (.aload_n 0, 1) := by decide +kernel
theorem dM_head_17 : decode cM_head 17 = .ok (.getfield 16, 3) := by decide +kernel
theorem dM_head_20 : decode cM_head 20 = .ok (.iconst 0, 1) := by decide +kernel
theorem dM_head_21 : decode cM_head 21 = .ok (.iaload, 1) := by decide +kernel
theorem dM_head_22 : decode cM_head 22 = .ok (.invokevirtual 99, 3) := by decide +kernel
theorem dM_head_25 : decode cM_head 25 = .ok (.ireturn, 1) := by decide +kernel
theorem dM_name_0 : decode cM_name 0 = .ok (.aload_n 0, 1) := by decide +kernel
theorem dM_name_1 : decode cM_name 1 = .ok (.getfield 38, 3) := by decide +kernel
theorem dM_name_4 : decode cM_name 4 = .ok (.iload_n 1, 1) := by decide +kernel
theorem dM_name_5 : decode cM_name 5 = .ok (.iaload, 1) := by decide +kernel
theorem dM_name_6 : decode cM_name 6 = .ok (.ifCond .eq 24, 3) := by decide +kernel
theorem dM_name_9 : decode cM_name 9 = .ok (.aload_n 0, 1) := by decide +kernel
theorem dM_name_10 : decode cM_name 10 = .ok (.getfield 68, 3) := by decide +kernel
theorem dM_name_13 : decode cM_name 13 = .ok (.iconst 2, 1) := by decide +kernel
theorem dM_name_14 : decode cM_name 14 = .ok (.iload_n 1, 1) := by decide +kernel
theorem dM_name_15 : decode cM_name 15 = .ok (.imul, 1) := by decide +kernel
theorem dM_name_16 : decode cM_name 16 = .ok (.iaload, 1) := by decide +kernel
theorem dM_name_17 : decode cM_name 17 = .ok (.aload_n 0, 1) := by decide +kernel
theorem dM_name_18 : decode cM_name 18 = .ok (.getfield 38, 3) := by decide +kernel
theorem dM_name_21 : decode cM_name 21 = .ok (.iload_n 1, 1) := by decide +kernel
theorem dM_name_22 : decode cM_name 22 = .ok (.iaload, 1) := by decide +kernel
theorem dM_name_23 : decode cM_name 23 = .ok (.if_icmp .ne 7, 3) := by decide +kernel
theorem dM_name_26 : decode cM_name 26 = .ok (.iconst 1, 1) := by decide +kernel
theorem dM_name_27 : decode cM_name 27 = .ok (.goto 4, 3) := by decide +kernel
theorem dM_name_30 : decode cM_name 30 = .ok (.iconst 0, 1) := by decide +kernel
theorem dM_name_31 : decode cM_name 31 = .ok (.istore_n 2, 1) := by decide +kernel
theorem dM_name_32 : decode cM_name 32 = .ok (.aload_n 0, 1) := by decide +kernel
theorem dM_name_33 : decode cM_name 33 = .ok (.getfield 68, 3) := by decide +kernel
theorem dM_name_36 : decode cM_name 36 = .ok (.iload_n 2, 1) := by decide +kernel
theorem dM_name_37 : decode cM_name 37 = .ok (.ifCond .eq 11, 3) := by decide +kernel
theorem dM_name_40 : decode cM_name 40 = .ok (.iconst 2, 1) := by decide +kernel
theorem dM_name_41 : decode cM_name 41 = .ok (.iload_n 1, 1) := by decide +kernel
theorem dM_name_42 : decode cM_name 42 = .ok (.imul, 1) := by decide +kernel
theorem dM_name_43 : decode cM_name 43 = .ok (.iconst 1, 1) := by decide +kernel
theorem dM_name_44 : decode cM_name 44 = .ok (.iadd, 1) := by decide +kernel
theorem dM_name_45 : decode cM_name 45 = .ok (.goto 6, 3) := by decide +kernel
theorem dM_name_48 : decode cM_name 48 = .ok (.iconst 2, 1) := by decide +kernel
theorem dM_name_49 : decode cM_name 49 = .ok (.iload_n 1, 1) := by decide +kernel
theorem dM_name_50 : decode cM_name 50 = .ok (.imul, 1) := by decide +kernel
theorem dM_name_51 : decode cM_name 51 = .ok (.aload_n 0, 1) := by decide +kernel
theorem dM_name_52 : decode cM_name 52 = .ok (.getfield 44, 3) := by decide +kernel
theorem dM_name_55 : decode cM_name 55 = .ok (.iload_n 1, 1) := by decide +kernel
theorem dM_name_56 : decode cM_name 56 = .ok (.iaload, 1) := by decide +kernel
theorem dM_name_57 : decode cM_name 57 = .ok (.iastore, 1) := by decide +kernel
theorem dM_name_58 : decode cM_name 58 = .ok (.iconst 4, 1) := by decide +kernel
theorem dM_name_59 : decode cM_name 59 = .ok (.ireturn, 1) := by decide +kernel
theorem dM_check_0 : decode cM_check 0 = .ok (.aload_n 0, 1) := by decide +kernel
theorem dM_check_1 : decode cM_check 1 = .ok (.iload_n 1, 1) := by decide +kernel
theorem dM_check_2 : decode cM_check 2 = .ok (.invokevirtual 103, 3) := by decide +kernel
theorem dM_check_5 : decode cM_check 5 = .ok (.aload_n 0, 1) := by decide +kernel
theorem dM_check_6 : decode cM_check 6 = .ok (.iload_n 1, 1) := by decide +kernel
theorem dM_check_7 : decode cM_check 7 = .ok (.invokevirtual 107, 3) := by decide +kernel
theorem dM_check_10 : decode cM_check 10 = .ok (.ifCond .ne 5, 3) := by decide +kernel
theorem dM_check_13 : decode cM_check 13 = .ok (.iconst 2, 1) := by decide +kernel
theorem dM_check_14 : decode cM_check 14 = .ok (.ireturn, 1) := by decide +kernel
theorem dM_check_15 : decode cM_check 15 = .ok (.aload_n 0, 1) := by decide +kernel
theorem dM_check_16 : decode cM_check 16 = .ok (.getfield 53, 3) := by decide +kernel
theorem dM_check_19 : decode cM_check 19 = .ok (.iload_n 1, 1) := by decide +kernel
theorem dM_check_20 : decode cM_check 20 = .ok (.aload_n 0, 1) := by decide +kernel
theorem dM_check_21 : decode cM_check 21 = .ok (.getfield 44, 3) := by decide +kernel
theorem dM_check_24 : decode cM_check 24 = .ok (.iload_n 1, 1) := by decide +kernel
theorem dM_check_25 : decode cM_check 25 = .ok (.iaload, 1) := by decide +kernel
theorem dM_check_26 : decode cM_check 26 = .ok (.ifCond .eq 16, 3) := by decide +kernel
theorem dM_check_29 : decode cM_check 29 = .ok (.aload_n 0, 1) := by decide +kernel
theorem dM_check_30 : decode cM_check 30 = .ok (.getfield 53, 3) := by decide +kernel
theorem dM_check_33 : decode cM_check 33 = .ok (.iload_n 1, 1) := by decide +kernel
theorem dM_check_34 : decode cM_check 34 = .ok (.baload, 1) := by decide +kernel
theorem dM_check_35 : decode cM_check 35 = .ok (.ifCond .eq 7, 3) := by decide +kernel
theorem dM_check_38 : decode cM_check 38 = .ok (.iconst 1, 1) := by decide +kernel
theorem dM_check_39 : decode cM_check 39 = .ok (.goto 4, 3) := by decide +kernel
theorem dM_check_42 : decode cM_check 42 = .ok (.iconst 0, 1) := by decide +kernel
theorem dM_check_43 : decode cM_check 43 = .ok (.bastore, 1) := by decide +kernel
theorem dM_check_44 : decode cM_check 44 = .ok (.aload_n 0, 1) := by decide +kernel
theorem dM_check_45 : decode cM_check 45 = .ok (.getfield 44, 3) := by decide +kernel
theorem dM_check_48 : decode cM_check 48 = .ok (.iload_n 1, 1) := by decide +kernel
theorem dM_check_49 : decode cM_check 49 = .ok (.iaload, 1) := by decide +kernel
theorem dM_check_50 : decode cM_check 50 = .ok (.ifCond .ne 8, 3) := by decide +kernel
theorem dM_check_53 : decode cM_check 53 = .ok (.bipush 7, 2) := by decide +kernel
theorem dM_check_55 : decode cM_check 55 = .ok (.goto 4, 3) := by decide +kernel
theorem dM_check_58 : decode cM_check 58 = .ok (.iconst 5, 1) := by decide +kernel
theorem dM_check_59 : decode cM_check 59 = .ok (.ireturn, 1) := by decide +kernel
theorem dM_read_0 : decode cM_read 0 = .ok (.aload_n 0, 1) := by decide +kernel
theorem dM_read_1 : decode cM_read 1 = .ok (.getfield 44, 3) := by decide +kernel
theorem dM_read_4 : decode cM_read 4 = .ok (.iload_n 1, 1) := by decide +kernel
theorem dM_read_5 : decode cM_read 5 = .ok (.iaload, 1) := by decide +kernel
theorem dM_read_6 : decode cM_read 6 = .ok (.istore_n 2, 1) := by decide +kernel
theorem dM_read_7 : decode cM_read 7 = .ok (.aload_n 0, 1) := by decide +kernel
theorem dM_read_8 : decode cM_read 8 = .ok (.iload_n 2, 1) := by decide +kernel
theorem dM_read_9 : decode cM_read 9 = .ok (.aload_n 0, 1) := by decide +kernel
theorem dM_read_10 : decode cM_read 10 = .ok (.getfield 47, 3) := by decide +kernel
theorem dM_read_13 : decode cM_read 13 = .ok (.iload_n 1, 1) := by decide +kernel
theorem dM_read_14 : decode cM_read 14 = .ok (.iaload, 1) := by decide +kernel
theorem dM_read_15 : decode cM_read 15 = .ok (.invokevirtual 95, 3) := by decide +kernel
theorem dM_read_18 : decode cM_read 18 = .ok (.aload_n 0, 1) := by decide +kernel
theorem dM_read_19 : decode cM_read 19 = .ok (.getfield 50, 3) := by decide +kernel
theorem dM_read_22 : decode cM_read 22 = .ok (.iload_n 1, 1) := by decide +kernel
theorem dM_read_23 : decode cM_read 23 = .ok (.aload_n 0, 1) := by decide +kernel
theorem dM_read_24 : decode cM_read 24 = .ok (.getfield 16, 3) := by decide +kernel
theorem dM_read_27 : decode cM_read 27 = .ok (.iload_n 2, 1) := by decide +kernel
theorem dM_read_28 : decode cM_read 28 = .ok (.iaload, 1) := by decide +kernel
theorem dM_read_29 : decode cM_read 29 = .ok (.iastore, 1) := by decide +kernel
theorem dM_read_30 : decode cM_read 30 = .ok (.aload_n 0, 1) := by decide +kernel
theorem dM_read_31 : decode cM_read 31 = .ok (.getfield 19, 3) := by decide +kernel
theorem dM_read_34 : decode cM_read 34 = .ok (.iload_n 2, 1) := by decide +kernel
theorem dM_read_35 : decode cM_read 35 = .ok (.baload, 1) := by decide +kernel
theorem dM_read_36 : decode cM_read 36 = .ok (.ifCond .eq 6, 3) := by decide +kernel
theorem dM_read_39 : decode cM_read 39 = .ok (.bipush 6, 2) := by decide +kernel
theorem dM_read_41 : decode cM_read 41 = .ok (.ireturn, 1) := by decide +kernel
theorem dM_read_42 : decode cM_read 42 = .ok (.aload_n 0, 1) := by decide +kernel
theorem dM_read_43 : decode cM_read 43 = .ok (.getfield 13, 3) := by decide +kernel
theorem dM_read_46 : decode cM_read 46 = .ok (.iload_n 2, 1) := by decide +kernel
theorem dM_read_47 : decode cM_read 47 = .ok (.iaload, 1) := by decide +kernel
theorem dM_read_48 : decode cM_read 48 = .ok (.aload_n 0, 1) := by decide +kernel
theorem dM_read_49 : decode cM_read 49 = .ok (.getfield 35, 3) := by decide +kernel
theorem dM_read_52 : decode cM_read 52 = .ok (.iload_n 1, 1) := by decide +kernel
theorem dM_read_53 : decode cM_read 53 = .ok (.iaload, 1) := by decide +kernel
theorem dM_read_54 : decode cM_read 54 = .ok (.if_icmp .lt 32, 3) := by decide +kernel
theorem dM_read_57 : decode cM_read 57 = .ok (.aload_n 0, 1) := by decide +kernel
theorem dM_read_58 : decode cM_read 58 = .ok (.getfield 53, 3) := by decide +kernel
theorem dM_read_61 : decode cM_read 61 = .ok (.iload_n 1, 1) := by decide +kernel
theorem dM_read_62 : decode cM_read 62 = .ok (.aload_n 0, 1) := by decide +kernel
theorem dM_read_63 : decode cM_read 63 = .ok (.getfield 13, 3) := by decide +kernel
theorem dM_read_66 : decode cM_read 66 = .ok (.iload_n 2, 1) := by decide +kernel
theorem dM_read_67 : decode cM_read 67 = .ok (.iaload, 1) := by decide +kernel
theorem dM_read_68 : decode cM_read 68 = .ok (.aload_n 0, 1) := by decide +kernel
theorem dM_read_69 : decode cM_read 69 = .ok (.getfield 35, 3) := by decide +kernel
theorem dM_read_72 : decode cM_read 72 = .ok (.iload_n 1, 1) := by decide +kernel
theorem dM_read_73 : decode cM_read 73 = .ok (.iaload, 1) := by decide +kernel
theorem dM_read_74 : decode cM_read 74 = .ok (.if_icmp .ne 7, 3) := by decide +kernel
theorem dM_read_77 : decode cM_read 77 = .ok (.iconst 1, 1) := by decide +kernel
theorem dM_read_78 : decode cM_read 78 = .ok (.goto 4, 3) := by decide +kernel
theorem dM_read_81 : decode cM_read 81 = .ok (.iconst 0, 1) := by decide +kernel
theorem dM_read_82 : decode cM_read 82 = .ok (.bastore, 1) := by decide +kernel
theorem dM_read_83 : decode cM_read 83 = .ok (.bipush 7, 2) := by decide +kernel
theorem dM_read_85 : decode cM_read 85 = .ok (.ireturn, 1) := by decide +kernel
theorem dM_read_86 : decode cM_read 86 = .ok (.aload_n 0, 1) := by decide +kernel
theorem dM_read_87 : decode cM_read 87 = .ok (.getfield 38, 3) := by decide +kernel
theorem dM_read_90 : decode cM_read 90 = .ok (.iload_n 1, 1) := by decide +kernel
theorem dM_read_91 : decode cM_read 91 = .ok (.iload_n 2, 1) := by decide +kernel
theorem dM_read_92 : decode cM_read 92 = .ok (.iastore, 1) := by decide +kernel
theorem dM_read_93 : decode cM_read 93 = .ok (.aload_n 0, 1) := by decide +kernel
theorem dM_read_94 : decode cM_read 94 = .ok (.getfield 41, 3) := by decide +kernel
theorem dM_read_97 : decode cM_read 97 = .ok (.iload_n 1, 1) := by decide +kernel
theorem dM_read_98 : decode cM_read 98 = .ok (.aload_n 0, 1) := by decide +kernel
theorem dM_read_99 : decode cM_read 99 = .ok (.getfield 47, 3) := by decide +kernel
theorem dM_read_102 : decode cM_read 102 = .ok (.iload_n 1, 1) := by decide +kernel
theorem dM_read_103 : decode cM_read 103 = .ok (.iaload, 1) := by decide +kernel
theorem dM_read_104 : decode cM_read 104 = .ok (.iastore, 1) := by decide +kernel
theorem dM_read_105 : decode cM_read 105 = .ok (.aload_n 0, 1) := by decide +kernel
theorem dM_read_106 : decode cM_read 106 = .ok (.iload_n 1, 1) := by decide +kernel
theorem dM_read_107 : decode cM_read 107 = .ok (.aload_n 0, 1) := by decide +kernel
theorem dM_read_108 : decode cM_read 108 = .ok (.getfield 50, 3) := by decide +kernel
theorem dM_read_111 : decode cM_read 111 = .ok (.iload_n 1, 1) := by decide +kernel
theorem dM_read_112 : decode cM_read 112 = .ok (.iaload, 1) := by decide +kernel
theorem dM_read_113 : decode cM_read 113 = .ok (.invokevirtual 99, 3) := by decide +kernel
theorem dM_read_116 : decode cM_read 116 = .ok (.ireturn, 1) := by decide +kernel
theorem dM_cut_0 : decode cM_cut 0 = .ok (.aload_n 0, 1) := by decide +kernel
theorem dM_cut_1 : decode cM_cut 1 = .ok (.iload_n 1, 1) := by decide +kernel
theorem dM_cut_2 : decode cM_cut 2 = .ok (.invokevirtual 103, 3) := by decide +kernel
theorem dM_cut_5 : decode cM_cut 5 = .ok (.aload_n 0, 1) := by decide +kernel
theorem dM_cut_6 : decode cM_cut 6 = .ok (.iload_n 1, 1) := by decide +kernel
theorem dM_cut_7 : decode cM_cut 7 = .ok (.invokevirtual 107, 3) := by decide +kernel
theorem dM_cut_10 : decode cM_cut 10 = .ok (.ifCond .ne 5, 3) := by decide +kernel
theorem dM_cut_13 : decode cM_cut 13 = .ok (.iconst 2, 1) := by decide +kernel
theorem dM_cut_14 : decode cM_cut 14 = .ok (.ireturn, 1) := by decide +kernel
theorem dM_cut_15 : decode cM_cut 15 = .ok (.aload_n 0, 1) := by decide +kernel
theorem dM_cut_16 : decode cM_cut 16 = .ok (.aload_n 0, 1) := by decide +kernel
theorem dM_cut_17 : decode cM_cut 17 = .ok (.getfield 38, 3) := by decide +kernel
theorem dM_cut_20 : decode cM_cut 20 = .ok (.iload_n 1, 1) := by decide +kernel
theorem dM_cut_21 : decode cM_cut 21 = .ok (.iaload, 1) := by decide +kernel
theorem dM_cut_22 : decode cM_cut 22 = .ok (.aload_n 0, 1) := by decide +kernel
theorem dM_cut_23 : decode cM_cut 23 = .ok (.getfield 50, 3) := by decide +kernel
theorem dM_cut_26 : decode cM_cut 26 = .ok (.iload_n 1, 1) := by decide +kernel
theorem dM_cut_27 : decode cM_cut 27 = .ok (.iaload, 1) := by decide +kernel
theorem dM_cut_28 : decode cM_cut 28 = .ok (.iconst 0, 1) := by decide +kernel
theorem dM_cut_29 : decode cM_cut 29 = .ok (.invokevirtual 110, 3) := by decide +kernel
theorem dM_cut_32 : decode cM_cut 32 = .ok (.aload_n 0, 1) := by decide +kernel
theorem dM_cut_33 : decode cM_cut 33 = .ok (.iload_n 1, 1) := by decide +kernel
theorem dM_cut_34 : decode cM_cut 34 = .ok (.aload_n 0, 1) := by decide +kernel
theorem dM_cut_35 : decode cM_cut 35 = .ok (.getfield 44, 3) := by decide +kernel
theorem dM_cut_38 : decode cM_cut 38 = .ok (.iload_n 1, 1) := by decide +kernel
theorem dM_cut_39 : decode cM_cut 39 = .ok (.iaload, 1) := by decide +kernel
theorem dM_cut_40 : decode cM_cut 40 = .ok (.invokevirtual 114, 3) := by decide +kernel
theorem dM_cut_43 : decode cM_cut 43 = .ok (.aload_n 0, 1) := by decide +kernel
theorem dM_cut_44 : decode cM_cut 44 = .ok (.iload_n 1, 1) := by decide +kernel
theorem dM_cut_45 : decode cM_cut 45 = .ok (.aload_n 0, 1) := by decide +kernel
theorem dM_cut_46 : decode cM_cut 46 = .ok (.getfield 50, 3) := by decide +kernel
theorem dM_cut_49 : decode cM_cut 49 = .ok (.iload_n 1, 1) := by decide +kernel
theorem dM_cut_50 : decode cM_cut 50 = .ok (.iaload, 1) := by decide +kernel
theorem dM_cut_51 : decode cM_cut 51 = .ok (.invokevirtual 99, 3) := by decide +kernel
theorem dM_cut_54 : decode cM_cut 54 = .ok (.ireturn, 1) := by decide +kernel
theorem dM_insert_0 : decode cM_insert 0 = .ok (.aload_n 0, 1) := by decide +kernel
theorem dM_insert_1 : decode cM_insert 1 = .ok (.getfield 53, 3) := by decide +kernel
theorem dM_insert_4 : decode cM_insert 4 = .ok (.iload_n 1, 1) := by decide +kernel
theorem dM_insert_5 : decode cM_insert 5 = .ok (.baload, 1) := by decide +kernel
theorem dM_insert_6 : decode cM_insert 6 = .ok (.ifCond .eq 41, 3) := by decide +kernel
theorem dM_insert_9 : decode cM_insert 9 = .ok (.aload_n 0, 1) := by decide +kernel
theorem dM_insert_10 : decode cM_insert 10 = .ok (.getfield 56, 3) := by decide +kernel
theorem dM_insert_13 : decode cM_insert 13 = .ok (.iload_n 1, 1) := by decide +kernel
theorem dM_insert_14 : decode cM_insert 14 = .ok (.iaload, 1) := by decide +kernel
theorem dM_insert_15 : decode cM_insert 15 = .ok (.ifCond .le 22, 3) := by decide +kernel
theorem dM_insert_18 : decode cM_insert 18 = .ok (.aload_n 0, 1) := by decide +kernel
theorem dM_insert_19 : decode cM_insert 19 = .ok (.getfield 7, 3) := by decide +kernel
theorem dM_insert_22 : decode cM_insert 22 = .ok (.aload_n 0, 1) := by decide +kernel
theorem dM_insert_23 : decode cM_insert 23 = .ok (.getfield 56, 3) := by decide +kernel
theorem dM_insert_26 : decode cM_insert 26 = .ok (.iload_n 1, 1) := by decide +kernel
theorem dM_insert_27 : decode cM_insert 27 = .ok (.iaload, 1) := by decide +kernel
theorem dM_insert_28 : decode cM_insert 28 = .ok (.iconst 0, 1) := by decide +kernel
theorem dM_insert_29 : decode cM_insert 29 = .ok (.iastore, 1) := by decide +kernel
theorem dM_insert_30 : decode cM_insert 30 = .ok (.aload_n 0, 1) := by decide +kernel
theorem dM_insert_31 : decode cM_insert 31 = .ok (.getfield 56, 3) := by decide +kernel
theorem dM_insert_34 : decode cM_insert 34 = .ok (.iload_n 1, 1) := by decide +kernel
theorem dM_insert_35 : decode cM_insert 35 = .ok (.iconst 0, 1) := by decide +kernel
theorem dM_insert_36 : decode cM_insert 36 = .ok (.iastore, 1) := by decide +kernel
theorem dM_insert_37 : decode cM_insert 37 = .ok (.aload_n 0, 1) := by decide +kernel
theorem dM_insert_38 : decode cM_insert 38 = .ok (.getfield 59, 3) := by decide +kernel
theorem dM_insert_41 : decode cM_insert 41 = .ok (.iload_n 1, 1) := by decide +kernel
theorem dM_insert_42 : decode cM_insert 42 = .ok (.iconst 0, 1) := by decide +kernel
theorem dM_insert_43 : decode cM_insert 43 = .ok (.iastore, 1) := by decide +kernel
theorem dM_insert_44 : decode cM_insert 44 = .ok (.bipush 9, 2) := by decide +kernel
theorem dM_insert_46 : decode cM_insert 46 = .ok (.ireturn, 1) := by decide +kernel
theorem dM_insert_47 : decode cM_insert 47 = .ok (.iconst 1, 1) := by decide +kernel
theorem dM_insert_48 : decode cM_insert 48 = .ok (.istore_n 2, 1) := by decide +kernel
theorem dM_insert_49 : decode cM_insert 49 = .ok (.iload_n 2, 1) := by decide +kernel
theorem dM_insert_50 : decode cM_insert 50 = .ok (.bipush 20, 2) := by decide +kernel
theorem dM_insert_52 : decode cM_insert 52 = .ok (.if_icmp .gt 51, 3) := by decide +kernel
theorem dM_insert_55 : decode cM_insert 55 = .ok (.aload_n 0, 1) := by decide +kernel
theorem dM_insert_56 : decode cM_insert 56 = .ok (.getfield 56, 3) := by decide +kernel
theorem dM_insert_59 : decode cM_insert 59 = .ok (.iload_n 1, 1) := by decide +kernel
theorem dM_insert_60 : decode cM_insert 60 = .ok (.iaload, 1) := by decide +kernel
theorem dM_insert_61 : decode cM_insert 61 = .ok (.ifCond .ne 42, 3) := by decide +kernel
theorem dM_insert_64 : decode cM_insert 64 = .ok (.aload_n 0, 1) := by decide +kernel
theorem dM_insert_65 : decode cM_insert 65 = .ok (.getfield 7, 3) := by decide +kernel
theorem dM_insert_68 : decode cM_insert 68 = .ok (.iload_n 2, 1) := by decide +kernel
theorem dM_insert_69 : decode cM_insert 69 = .ok (.iaload, 1) := by decide +kernel
theorem dM_insert_70 : decode cM_insert 70 = .ok (.ifCond .ne 27, 3) := by decide +kernel
theorem dM_insert_73 : decode cM_insert 73 = .ok (.aload_n 0, 1) := by decide +kernel
theorem dM_insert_74 : decode cM_insert 74 = .ok (.getfield 56, 3) := by decide +kernel
theorem dM_insert_77 : decode cM_insert 77 = .ok (.iload_n 1, 1) := by decide +kernel
theorem dM_insert_78 : decode cM_insert 78 = .ok (.iload_n 2, 1) := by decide +kernel
theorem dM_insert_79 : decode cM_insert 79 = .ok (.iastore, 1) := by decide +kernel
theorem dM_insert_80 : decode cM_insert 80 = .ok (.aload_n 0, 1) := by decide +kernel
theorem dM_insert_81 : decode cM_insert 81 = .ok (.getfield 7, 3) := by decide +kernel
theorem dM_insert_84 : decode cM_insert 84 = .ok (.iload_n 2, 1) := by decide +kernel
theorem dM_insert_85 : decode cM_insert 85 = .ok (.iconst 1, 1) := by decide +kernel
theorem dM_insert_86 : decode cM_insert 86 = .ok (.iastore, 1) := by decide +kernel
theorem dM_insert_87 : decode cM_insert 87 = .ok (.aload_n 0, 1) := by decide +kernel
theorem dM_insert_88 : decode cM_insert 88 = .ok (.getfield 23, 3) := by decide +kernel
theorem dM_insert_91 : decode cM_insert 91 = .ok (.iload_n 2, 1) := by decide +kernel
theorem dM_insert_92 : decode cM_insert 92 = .ok (.dup2, 1) := by decide +kernel
theorem dM_insert_93 : decode cM_insert 93 = .ok (.iaload, 1) := by decide +kernel
theorem dM_insert_94 : decode cM_insert 94 = .ok (.iconst 1, 1) := by decide +kernel
theorem dM_insert_95 : decode cM_insert 95 = .ok (.iadd, 1) := by decide +kernel
theorem dM_insert_96 : decode cM_insert 96 = .ok (.iastore, 1) := by decide +kernel
theorem dM_insert_97 : decode cM_insert 97 = .ok (.iinc 2 1, 3) := by decide +kernel
theorem dM_insert_100 : decode cM_insert 100 = .ok (.goto (-51), 3) := by decide +kernel
theorem dM_insert_103 : decode cM_insert 103 = .ok (.aload_n 0, 1) := by decide +kernel
theorem dM_insert_104 : decode cM_insert 104 = .ok (.getfield 56, 3) := by decide +kernel
theorem dM_insert_107 : decode cM_insert 107 = .ok (.iload_n 1, 1) := by decide +kernel
theorem dM_insert_108 : decode cM_insert 108 = .ok (.iaload, 1) := by decide +kernel
theorem dM_insert_109 : decode cM_insert 109 = .ok (.ifCond .ne 13, 3) := by decide +kernel
theorem dM_insert_112 : decode cM_insert 112 = .ok (.aload_n 0, 1) := by decide +kernel
theorem dM_insert_113 : decode cM_insert 113 = .ok (.getfield 59, 3) := by decide +kernel
theorem dM_insert_116 : decode cM_insert 116 = .ok (.iload_n 1, 1) := by decide +kernel
theorem dM_insert_117 : decode cM_insert 117 = .ok (.iconst 2, 1) := by decide +kernel
theorem dM_insert_118 : decode cM_insert 118 = .ok (.iastore, 1) := by decide +kernel
theorem dM_insert_119 : decode cM_insert 119 = .ok (.bipush 9, 2) := by decide +kernel
theorem dM_insert_121 : decode cM_insert 121 = .ok (.ireturn, 1) := by decide +kernel
theorem dM_insert_122 : decode cM_insert 122 = .ok (.aload_n 0, 1) := by decide +kernel
theorem dM_insert_123 : decode cM_insert 123 = .ok (.getfield 13, 3) := by decide +kernel
theorem dM_insert_126 : decode cM_insert 126 = .ok (.aload_n 0, 1) := by decide +kernel
theorem dM_insert_127 : decode cM_insert 127 = .ok (.getfield 56, 3) := by decide +kernel
theorem dM_insert_130 : decode cM_insert 130 = .ok (.iload_n 1, 1) := by decide +kernel
theorem dM_insert_131 : decode cM_insert 131 = .ok (.iaload, 1) := by decide +kernel
theorem dM_insert_132 : decode cM_insert 132 = .ok (.aload_n 0, 1) := by decide +kernel
theorem dM_insert_133 : decode cM_insert 133 = .ok (.getfield 35, 3) := by decide +kernel
theorem dM_insert_136 : decode cM_insert 136 = .ok (.iload_n 1, 1) := by decide +kernel
