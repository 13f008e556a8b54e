theorem dX5_greatestOf_15 : decode cX5_greatestOf 15 = .ok (.istore_n 1, 1) := by decide +kernel
theorem dX5_greatestOf_16 : decode cX5_greatestOf 16 = .ok (.goto (-14), 3) := by decide +kernel
theorem dX5_greatestOf_19 : decode cX5_greatestOf 19 = .ok (.iload_n 1, 1) := by decide +kernel
theorem dX5_greatestOf_20 : decode cX5_greatestOf 20 = .ok (.ireturn, 1) := by decide +kernel
theorem dX5_whoIn_0 : decode cX5_whoIn 0 = .ok (.iconst (-1), 1) := by decide +kernel
theorem dX5_whoIn_1 : decode cX5_whoIn 1 = .ok (.istore_n 2, 1) := by decide +kernel
theorem dX5_whoIn_2 : decode cX5_whoIn 2 = .ok (.iconst 0, 1) := by decide +kernel
theorem dX5_whoIn_3 : decode cX5_whoIn 3 = .ok (.istore_n 3, 1) := by decide +kernel
theorem dX5_whoIn_4 : decode cX5_whoIn 4 = .ok (.iload_n 3, 1) := by decide +kernel
theorem dX5_whoIn_5 : decode cX5_whoIn 5 = .ok (.aload_n 0, 1) := by decide +kernel
theorem dX5_whoIn_6 : decode cX5_whoIn 6 = .ok (.getfield 7, 3) := by decide +kernel
theorem dX5_whoIn_9 : decode cX5_whoIn 9 = .ok (.iconst 1, 1) := by decide +kernel
theorem dX5_whoIn_10 : decode cX5_whoIn 10 = .ok (.iaload, 1) := by decide +kernel
theorem dX5_whoIn_11 : decode cX5_whoIn 11 = .ok (.if_icmp .ge 25, 3) := by decide +kernel
theorem dX5_whoIn_14 : decode cX5_whoIn 14 = .ok (.aload_n 0, 1) := by decide +kernel
theorem dX5_whoIn_15 : decode cX5_whoIn 15 = .ok (.iload_n 3, 1) := by decide +kernel
theorem dX5_whoIn_16 : decode cX5_whoIn 16 = .ok (.iconst 1, 1) := by decide +kernel
theorem dX5_whoIn_17 : decode cX5_whoIn 17 = .ok (.invokevirtual 55, 3) := by decide +kernel
theorem dX5_whoIn_20 : decode cX5_whoIn 20 = .ok (.iload_n 1, 1) := by decide +kernel
theorem dX5_whoIn_21 : decode cX5_whoIn 21 = .ok (.if_icmp .ne 7, 3) := by decide +kernel
theorem dX5_whoIn_24 : decode cX5_whoIn 24 = .ok (.iload_n 3, 1) := by decide +kernel
theorem dX5_whoIn_25 : decode cX5_whoIn 25 = .ok (.goto 4, 3) := by decide +kernel
theorem dX5_whoIn_28 : decode cX5_whoIn 28 = .ok (.iload_n 2, 1) := by decide +kernel
theorem dX5_whoIn_29 : decode cX5_whoIn 29 = .ok (.istore_n 2, 1) := by decide +kernel
theorem dX5_whoIn_30 : decode cX5_whoIn 30 = .ok (.iinc 3 1, 3) := by decide +kernel
theorem dX5_whoIn_33 : decode cX5_whoIn 33 = .ok (.goto (-29), 3) := by decide +kernel
theorem dX5_whoIn_36 : decode cX5_whoIn 36 = .ok (.iload_n 2, 1) := by decide +kernel
theorem dX5_whoIn_37 : decode cX5_whoIn 37 = .ok (.ireturn, 1) := by decide +kernel
theorem dX5_seat_0 : decode cX5_seat 0 = .ok (.iload_n 1, 1) := by decide +kernel
theorem dX5_seat_1 : decode cX5_seat 1 = .ok (.invokestatic 59, 3) := by decide +kernel
theorem dX5_seat_4 : decode cX5_seat 4 = .ok (.ifCond .eq 11, 3) := by decide +kernel
theorem dX5_seat_7 : decode cX5_seat 7 = .ok (.aload_n 0, 1) := by decide +kernel
theorem dX5_seat_8 : decode cX5_seat 8 = .ok (.iload_n 1, 1) := by decide +kernel
theorem dX5_seat_9 : decode cX5_seat 9 = .ok (.invokevirtual 63, 3) := by decide +kernel
theorem dX5_seat_12 : decode cX5_seat 12 = .ok (.goto 9, 3) := by decide +kernel
theorem dX5_seat_15 : decode cX5_seat 15 = .ok (.aload_n 0, 1) := by decide +kernel
theorem dX5_seat_16 : decode cX5_seat 16 = .ok (.ldc 50, 2) := by decide +kernel
theorem dX5_seat_18 : decode cX5_seat 18 = .ok (.invokevirtual 67, 3) := by decide +kernel
theorem dX5_seat_21 : decode cX5_seat 21 = .ok (.ireturn, 1) := by decide +kernel
theorem dX5_seatsTaken_0 : decode cX5_seatsTaken 0 = .ok (.iconst 0, 1) := by decide +kernel
theorem dX5_seatsTaken_1 : decode cX5_seatsTaken 1 = .ok (.istore_n 1, 1) := by decide +kernel
theorem dX5_seatsTaken_2 : decode cX5_seatsTaken 2 = .ok (.iconst 0, 1) := by decide +kernel
theorem dX5_seatsTaken_3 : decode cX5_seatsTaken 3 = .ok (.istore_n 2, 1) := by decide +kernel
theorem dX5_seatsTaken_4 : decode cX5_seatsTaken 4 = .ok (.iload_n 2, 1) := by decide +kernel
theorem dX5_seatsTaken_5 : decode cX5_seatsTaken 5 = .ok (.aload_n 0, 1) := by decide +kernel
theorem dX5_seatsTaken_6 : decode cX5_seatsTaken 6 = .ok (.getfield 7, 3) := by decide +kernel
theorem dX5_seatsTaken_9 : decode cX5_seatsTaken 9 = .ok (.iconst 1, 1) := by decide +kernel
theorem dX5_seatsTaken_10 : decode cX5_seatsTaken 10 = .ok (.iaload, 1) := by decide +kernel
theorem dX5_seatsTaken_11 : decode cX5_seatsTaken 11 = .ok (.if_icmp .ge 20, 3) := by decide +kernel
theorem dX5_seatsTaken_14 : decode cX5_seatsTaken 14 = .ok (.iload_n 1, 1) := by decide +kernel
theorem dX5_seatsTaken_15 : decode cX5_seatsTaken 15 = .ok (.iconst 1, 1) := by decide +kernel
theorem dX5_seatsTaken_16 : decode cX5_seatsTaken 16 = .ok (.aload_n 0, 1) := by decide +kernel
theorem dX5_seatsTaken_17 : decode cX5_seatsTaken 17 = .ok (.iload_n 2, 1) := by decide +kernel
theorem dX5_seatsTaken_18 : decode cX5_seatsTaken 18 = .ok (.iconst 1, 1) := by decide +kernel
theorem dX5_seatsTaken_19 : decode cX5_seatsTaken 19 = .ok (.invokevirtual 55, 3) := by decide +kernel
theorem dX5_seatsTaken_22 : decode cX5_seatsTaken 22 = .ok (.ishl, 1) := by decide +kernel
theorem dX5_seatsTaken_23 : decode cX5_seatsTaken 23 = .ok (.ior, 1) := by decide +kernel
theorem dX5_seatsTaken_24 : decode cX5_seatsTaken 24 = .ok (.istore_n 1, 1) := by decide +kernel
theorem dX5_seatsTaken_25 : decode cX5_seatsTaken 25 = .ok (.iinc 2 1, 3) := by decide +kernel
theorem dX5_seatsTaken_28 : decode cX5_seatsTaken 28 = .ok (.goto (-24), 3) := by decide +kernel
theorem dX5_seatsTaken_31 : decode cX5_seatsTaken 31 = .ok (.iload_n 1, 1) := by decide +kernel
theorem dX5_seatsTaken_32 : decode cX5_seatsTaken 32 = .ok (.ireturn, 1) := by decide +kernel
theorem dX5_gaps_0 : decode cX5_gaps 0 = .ok (.aload_n 0, 1) := by decide +kernel
theorem dX5_gaps_1 : decode cX5_gaps 1 = .ok (.invokevirtual 70, 3) := by decide +kernel
theorem dX5_gaps_4 : decode cX5_gaps 4 = .ok (.istore_n 1, 1) := by decide +kernel
theorem dX5_gaps_5 : decode cX5_gaps 5 = .ok (.iconst 0, 1) := by decide +kernel
theorem dX5_gaps_6 : decode cX5_gaps 6 = .ok (.istore_n 2, 1) := by decide +kernel
theorem dX5_gaps_7 : decode cX5_gaps 7 = .ok (.iconst 0, 1) := by decide +kernel
theorem dX5_gaps_8 : decode cX5_gaps 8 = .ok (.istore_n 3, 1) := by decide +kernel
theorem dX5_gaps_9 : decode cX5_gaps 9 = .ok (.iload_n 3, 1) := by decide +kernel
theorem dX5_gaps_10 : decode cX5_gaps 10 = .ok (.bipush 12, 2) := by decide +kernel
theorem dX5_gaps_12 : decode cX5_gaps 12 = .ok (.if_icmp .ge 69, 3) := by decide +kernel
theorem dX5_gaps_15 : decode cX5_gaps 15 = .ok (.iload_n 1, 1) := by decide +kernel
theorem dX5_gaps_16 : decode cX5_gaps 16 = .ok (.iconst 1, 1) := by decide +kernel
theorem dX5_gaps_17 : decode cX5_gaps 17 = .ok (.iload_n 3, 1) := by decide +kernel
theorem dX5_gaps_18 : decode cX5_gaps 18 = .ok (.ishl, 1) := by decide +kernel
theorem dX5_gaps_19 : decode cX5_gaps 19 = .ok (.iconst 1, 1) := by decide +kernel
theorem dX5_gaps_20 : decode cX5_gaps 20 = .ok (.isub, 1) := by decide +kernel
theorem dX5_gaps_21 : decode cX5_gaps 21 = .ok (.iand, 1) := by decide +kernel
theorem dX5_gaps_22 : decode cX5_gaps 22 = .ok (.ifCond .eq 7, 3) := by decide +kernel
theorem dX5_gaps_25 : decode cX5_gaps 25 = .ok (.iconst 1, 1) := by decide +kernel
theorem dX5_gaps_26 : decode cX5_gaps 26 = .ok (.goto 4, 3) := by decide +kernel
theorem dX5_gaps_29 : decode cX5_gaps 29 = .ok (.iconst 0, 1) := by decide +kernel
theorem dX5_gaps_30 : decode cX5_gaps 30 = .ok (.istore 4, 2) := by decide +kernel
theorem dX5_gaps_32 : decode cX5_gaps 32 = .ok (.iload_n 1, 1) := by decide +kernel
theorem dX5_gaps_33 : decode cX5_gaps 33 = .ok (.iload_n 3, 1) := by decide +kernel
theorem dX5_gaps_34 : decode cX5_gaps 34 = .ok (.iconst 1, 1) := by decide +kernel
theorem dX5_gaps_35 : decode cX5_gaps 35 = .ok (.iadd, 1) := by decide +kernel
theorem dX5_gaps_36 : decode cX5_gaps 36 = .ok (.ishr, 1) := by decide +kernel
theorem dX5_gaps_37 : decode cX5_gaps 37 = .ok (.ifCond .eq 7, 3) := by decide +kernel
theorem dX5_gaps_40 : decode cX5_gaps 40 = .ok (.iconst 1, 1) := by decide +kernel
theorem dX5_gaps_41 : decode cX5_gaps 41 = .ok (.goto 4, 3) := by decide +kernel
theorem dX5_gaps_44 : decode cX5_gaps 44 = .ok (.iconst 0, 1) := by decide +kernel
theorem dX5_gaps_45 : decode cX5_gaps 45 = .ok (.istore 5, 2) := by decide +kernel
theorem dX5_gaps_47 : decode cX5_gaps 47 = .ok (.iload_n 2, 1) := by decide +kernel
theorem dX5_gaps_48 : decode cX5_gaps 48 = .ok (.iload_n 1, 1) := by decide +kernel
theorem dX5_gaps_49 : decode cX5_gaps 49 = .ok (.iload_n 3, 1) := by decide +kernel
theorem dX5_gaps_50 : decode cX5_gaps 50 = .ok (.ishr, 1) := by decide +kernel
theorem dX5_gaps_51 : decode cX5_gaps 51 = .ok (.iconst 1, 1) := by decide +kernel
theorem dX5_gaps_52 : decode cX5_gaps 52 = .ok (.iand, 1) := by decide +kernel
theorem dX5_gaps_53 : decode cX5_gaps 53 = .ok (.ifCond .ne 19, 3) := by decide +kernel
theorem dX5_gaps_56 : decode cX5_gaps 56 = .ok (.iload 4, 2) := by decide +kernel
theorem dX5_gaps_58 : decode cX5_gaps 58 = .ok (.ifCond .eq 14, 3) := by decide +kernel
theorem dX5_gaps_61 : decode cX5_gaps 61 = .ok (.iload 5, 2) := by decide +kernel
theorem dX5_gaps_63 : decode cX5_gaps 63 = .ok (.ifCond .eq 9, 3) := by decide +kernel
theorem dX5_gaps_66 : decode cX5_gaps 66 = .ok (.iconst 1, 1) := by decide +kernel
theorem dX5_gaps_67 : decode cX5_gaps 67 = .ok (.iload_n 3, 1) := by decide +kernel
theorem dX5_gaps_68 : decode cX5_gaps 68 = .ok (.ishl, 1) := by decide +kernel
theorem dX5_gaps_69 : decode cX5_gaps 69 = .ok (.goto 4, 3) := by decide +kernel
theorem dX5_gaps_72 : decode cX5_gaps 72 = .ok (.iconst 0, 1) := by decide +kernel
theorem dX5_gaps_73 : decode cX5_gaps 73 = .ok (.ior, 1) := by decide +kernel
theorem dX5_gaps_74 : decode cX5_gaps 74 = .ok (.istore_n 2, 1) := by decide +kernel
theorem dX5_gaps_75 : decode cX5_gaps 75 = .ok (.iinc 3 1, 3) := by decide +kernel
theorem dX5_gaps_78 : decode cX5_gaps 78 = .ok (.goto (-69), 3) := by decide +kernel
theorem dX5_gaps_81 : decode cX5_gaps 81 = .ok (.iload_n 2, 1) := by decide +kernel
theorem dX5_gaps_82 : decode cX5_gaps 82 = .ok (.ireturn, 1) := by decide +kernel
theorem dX5_standing_0 : decode cX5_standing 0 = .ok (.iconst 0, 1) := by decide +kernel
theorem dX5_standing_1 : decode cX5_standing 1 = .ok (.istore_n 1, 1) := by decide +kernel
theorem dX5_standing_2 : decode cX5_standing 2 = .ok (.iconst 0, 1) := by decide +kernel
theorem dX5_standing_3 : decode cX5_standing 3 = .ok (.istore_n 2, 1) := by decide +kernel
theorem dX5_standing_4 : decode cX5_standing 4 = .ok (.iload_n 2, 1) := by decide +kernel
theorem dX5_standing_5 : decode cX5_standing 5 = .ok (.aload_n 0, 1) := by decide +kernel
theorem dX5_standing_6 : decode cX5_standing 6 = .ok (.getfield 7, 3) := by decide +kernel
theorem dX5_standing_9 : decode cX5_standing 9 = .ok (.iconst 1, 1) := by decide +kernel
theorem dX5_standing_10 : decode cX5_standing 10 = .ok (.iaload, 1) := by decide +kernel
theorem dX5_standing_11 : decode cX5_standing 11 = .ok (.if_icmp .ge 20, 3) := by decide +kernel
theorem dX5_standing_14 : decode cX5_standing 14 = .ok (.iload_n 1, 1) := by decide +kernel
theorem dX5_standing_15 : decode cX5_standing 15 = .ok (.iconst 1, 1) := by decide +kernel
theorem dX5_standing_16 : decode cX5_standing 16 = .ok (.aload_n 0, 1) := by decide +kernel
theorem dX5_standing_17 : decode cX5_standing 17 = .ok (.iload_n 2, 1) := by decide +kernel
theorem dX5_standing_18 : decode cX5_standing 18 = .ok (.iconst 2, 1) := by decide +kernel
theorem dX5_standing_19 : decode cX5_standing 19 = .ok (.invokevirtual 55, 3) := by decide +kernel
theorem dX5_standing_22 : decode cX5_standing 22 = .ok (.ishl, 1) := by decide +kernel
theorem dX5_standing_23 : decode cX5_standing 23 = .ok (.ior, 1) := by decide +kernel
theorem dX5_standing_24 : decode cX5_standing 24 = .ok (.istore_n 1, 1) := by decide +kernel
theorem dX5_standing_25 : decode cX5_standing 25 = .ok (.iinc 2 1, 3) := by decide +kernel
theorem dX5_standing_28 : decode cX5_standing 28 = .ok (.goto (-24), 3) := by decide +kernel
theorem dX5_standing_31 : decode cX5_standing 31 = .ok (.iload_n 1, 1) := by decide +kernel
theorem dX5_standing_32 : decode cX5_standing 32 = .ok (.ireturn, 1) := by decide +kernel
theorem dX5_known_0 : decode cX5_known 0 = .ok (.iconst 0, 1) := by decide +kernel
theorem dX5_known_1 : decode cX5_known 1 = .ok (.istore_n 1, 1) := by decide +kernel
theorem dX5_known_2 : decode cX5_known 2 = .ok (.iconst 0, 1) := by decide +kernel
theorem dX5_known_3 : decode cX5_known 3 = .ok (.istore_n 2, 1) := by decide +kernel
theorem dX5_known_4 : decode cX5_known 4 = .ok (.iload_n 2, 1) := by decide +kernel
theorem dX5_known_5 : decode cX5_known 5 = .ok (.aload_n 0, 1) := by decide +kernel
theorem dX5_known_6 : decode cX5_known 6 = .ok (.getfield 7, 3) := by decide +kernel
theorem dX5_known_9 : decode cX5_known 9 = .ok (.iconst 1, 1) := by decide +kernel
theorem dX5_known_10 : decode cX5_known 10 = .ok (.iaload, 1) := by decide +kernel
theorem dX5_known_11 : decode cX5_known 11 = .ok (.if_icmp .ge 18, 3) := by decide +kernel
theorem dX5_known_14 : decode cX5_known 14 = .ok (.iload_n 1, 1) := by decide +kernel
theorem dX5_known_15 : decode cX5_known 15 = .ok (.aload_n 0, 1) := by decide +kernel
theorem dX5_known_16 : decode cX5_known 16 = .ok (.iload_n 2, 1) := by decide +kernel
theorem dX5_known_17 : decode cX5_known 17 = .ok (.iconst 4, 1) := by decide +kernel
theorem dX5_known_18 : decode cX5_known 18 = .ok (.invokevirtual 55, 3) := by decide +kernel
theorem dX5_known_21 : decode cX5_known 21 = .ok (.ior, 1) := by decide +kernel
theorem dX5_known_22 : decode cX5_known 22 = .ok (.istore_n 1, 1) := by decide +kernel
theorem dX5_known_23 : decode cX5_known 23 = .ok (.iinc 2 1, 3) := by decide +kernel
theorem dX5_known_26 : decode cX5_known 26 = .ok (.goto (-22), 3) := by decide +kernel
theorem dX5_known_29 : decode cX5_known 29 = .ok (.iload_n 1, 1) := by decide +kernel
theorem dX5_known_30 : decode cX5_known 30 = .ok (.ireturn, 1) := by decide +kernel
theorem dX5_knownOfAll_0 : decode cX5_knownOfAll 0 = .ok (.iconst 0, 1) := by decide +kernel
theorem dX5_knownOfAll_1 : decode cX5_knownOfAll 1 = .ok (.istore_n 1, 1) := by decide +kernel
theorem dX5_knownOfAll_2 : decode cX5_knownOfAll 2 = .ok (.iconst 0, 1) := by decide +kernel
theorem dX5_knownOfAll_3 : decode cX5_knownOfAll 3 = .ok (.istore_n 2, 1) := by decide +kernel
theorem dX5_knownOfAll_4 : decode cX5_knownOfAll 4 = .ok (.iload_n 2, 1) := by decide +kernel
theorem dX5_knownOfAll_5 : decode cX5_knownOfAll 5 = .ok (.aload_n 0, 1) := by decide +kernel
theorem dX5_knownOfAll_6 : decode cX5_knownOfAll 6 = .ok (.getfield 7, 3) := by decide +kernel
theorem dX5_knownOfAll_9 : decode cX5_knownOfAll 9 = .ok (.iconst 1, 1) := by decide +kernel
theorem dX5_knownOfAll_10 : decode cX5_knownOfAll 10 = .ok (.iaload, 1) := by decide +kernel
theorem dX5_knownOfAll_11 : decode cX5_knownOfAll 11 = .ok (.if_icmp .ge 21, 3) := by decide +kernel
theorem dX5_knownOfAll_14 : decode cX5_knownOfAll 14 = .ok (.iload_n 1, 1) := by decide +kernel
theorem dX5_knownOfAll_15 : decode cX5_knownOfAll 15 = .ok (.aload_n 0, 1) := by decide +kernel
theorem dX5_knownOfAll_16 : decode cX5_knownOfAll 16 = .ok (.iload_n 2, 1) := by decide +kernel
theorem dX5_knownOfAll_17 : decode cX5_knownOfAll 17 = .ok (.iconst 4, 1) := by decide +kernel
theorem dX5_knownOfAll_18 : decode cX5_knownOfAll 18 = .ok (.invokevirtual 55, 3) := by decide +kernel
theorem dX5_knownOfAll_21 : decode cX5_knownOfAll 21 = .ok (.invokestatic 74, 3) := by decide +kernel
theorem dX5_knownOfAll_24 : decode cX5_knownOfAll 24 = .ok (.iadd, 1) := by decide +kernel
theorem dX5_knownOfAll_25 : decode cX5_knownOfAll 25 = .ok (.istore_n 1, 1) := by decide +kernel
theorem dX5_knownOfAll_26 : decode cX5_knownOfAll 26 = .ok (.iinc 2 1, 3) := by decide +kernel
theorem dX5_knownOfAll_29 : decode cX5_knownOfAll 29 = .ok (.goto (-25), 3) := by decide +kernel
theorem dX5_knownOfAll_32 : decode cX5_knownOfAll 32 = .ok (.iload_n 1, 1) := by decide +kernel
theorem dX5_knownOfAll_33 : decode cX5_knownOfAll 33 = .ok (.ireturn, 1) := by decide +kernel
theorem dX5_sumOf_0 : decode cX5_sumOf 0 = .ok (.iconst 0, 1) := by decide +kernel
theorem dX5_sumOf_1 : decode cX5_sumOf 1 = .ok (.istore_n 2, 1) := by decide +kernel
theorem dX5_sumOf_2 : decode cX5_sumOf 2 = .ok (.iconst 0, 1) := by decide +kernel
theorem dX5_sumOf_3 : decode cX5_sumOf 3 = .ok (.istore_n 3, 1) := by decide +kernel
theorem dX5_sumOf_4 : decode cX5_sumOf 4 = .ok (.iload_n 3, 1) := by decide +kernel
theorem dX5_sumOf_5 : decode cX5_sumOf 5 = .ok (.aload_n 0, 1) := by decide +kernel
theorem dX5_sumOf_6 : decode cX5_sumOf 6 = .ok (.getfield 7, 3) := by decide +kernel
theorem dX5_sumOf_9 : decode cX5_sumOf 9 = .ok (.iconst 1, 1) := by decide +kernel
theorem dX5_sumOf_10 : decode cX5_sumOf 10 = .ok (.iaload, 1) := by decide +kernel
theorem dX5_sumOf_11 : decode cX5_sumOf 11 = .ok (.if_icmp .ge 18, 3) := by decide +kernel
theorem dX5_sumOf_14 : decode cX5_sumOf 14 = .ok (.iload_n 2, 1) := by decide +kernel
theorem dX5_sumOf_15 : decode cX5_sumOf 15 = .ok (.aload_n 0, 1) := by decide +kernel
theorem dX5_sumOf_16 : decode cX5_sumOf 16 = .ok (.iload_n 3, 1) := by decide +kernel
theorem dX5_sumOf_17 : decode cX5_sumOf 17 = .ok (.iload_n 1, 1) := by decide +kernel
theorem dX5_sumOf_18 : decode cX5_sumOf 18 = .ok (.invokevirtual 55, 3) := by decide +kernel
theorem dX5_sumOf_21 : decode cX5_sumOf 21 = .ok (.iadd, 1) := by decide +kernel
theorem dX5_sumOf_22 : decode cX5_sumOf 22 = .ok (.istore_n 2, 1) := by decide +kernel
theorem dX5_sumOf_23 : decode cX5_sumOf 23 = .ok (.iinc 3 1, 3) := by decide +kernel
theorem dX5_sumOf_26 : decode cX5_sumOf 26 = .ok (.goto (-22), 3) := by decide +kernel
theorem dX5_sumOf_29 : decode cX5_sumOf 29 = .ok (.iload_n 2, 1) := by decide +kernel
theorem dX5_sumOf_30 : decode cX5_sumOf 30 = .ok (.ireturn, 1) := by decide +kernel
theorem dX5_now_0 : decode cX5_now 0 = .ok (.iload_n 1, 1) := by decide +kernel
theorem dX5_now_1 : decode cX5_now 1 = .ok (.tableswitch 72 0 5 #[39, 46, 51, 56, 61, 66], 39) := by decide +kernel
theorem dX5_now_40 : decode cX5_now 40 = .ok (.aload_n 0, 1) := by decide +kernel
theorem dX5_now_41 : decode cX5_now 41 = .ok (.getfield 7, 3) := by decide +kernel
theorem dX5_now_44 : decode cX5_now 44 = .ok (.iconst 0, 1) := by decide +kernel
theorem dX5_now_45 : decode cX5_now 45 = .ok (.iaload, 1) := by decide +kernel
theorem dX5_now_46 : decode cX5_now 46 = .ok (.ireturn, 1) := by decide +kernel
theorem dX5_now_47 : decode cX5_now 47 = .ok (.aload_n 0, 1) := by decide +kernel
theorem dX5_now_48 : decode cX5_now 48 = .ok (.invokevirtual 77, 3) := by decide +kernel
theorem dX5_now_51 : decode cX5_now 51 = .ok (.ireturn, 1) := by decide +kernel
theorem dX5_now_52 : decode cX5_now 52 = .ok (.aload_n 0, 1) := by decide +kernel
theorem dX5_now_53 : decode cX5_now 53 = .ok (.invokevirtual 80, 3) := by decide +kernel
theorem dX5_now_56 : decode cX5_now 56 = .ok (.ireturn, 1) := by decide +kernel
theorem dX5_now_57 : decode cX5_now 57 = .ok (.aload_n 0, 1) := by decide +kernel
theorem dX5_now_58 : decode cX5_now 58 = .ok (.invokevirtual 83, 3) := by decide +kernel
theorem dX5_now_61 : decode cX5_now 61 = .ok (.ireturn, 1) := by decide +kernel
theorem dX5_now_62 : decode cX5_now 62 = .ok (.aload_n 0, 1) := by decide +kernel
theorem dX5_now_63 : decode cX5_now 63 = .ok (.invokevirtual 86, 3) := by decide +kernel
theorem dX5_now_66 : decode cX5_now 66 = .ok (.ireturn, 1) := by decide +kernel
theorem dX5_now_67 : decode cX5_now 67 = .ok (.aload_n 0, 1) := by decide +kernel
theorem dX5_now_68 : decode cX5_now 68 = .ok (.iconst 5, 1) := by decide +kernel
theorem dX5_now_69 : decode cX5_now 69 = .ok (.invokevirtual 89, 3) := by decide +kernel
theorem dX5_now_72 : decode cX5_now 72 = .ok (.ireturn, 1) := by decide +kernel
theorem dX5_now_73 : decode cX5_now 73 = .ok (.aload_n 0, 1) := by decide +kernel
theorem dX5_now_74 : decode cX5_now 74 = .ok (.ldc 50, 2) := by decide +kernel
theorem dX5_now_76 : decode cX5_now 76 = .ok (.invokevirtual 67, 3) := by decide +kernel
theorem dX5_now_79 : decode cX5_now 79 = .ok (.ireturn, 1) := by decide +kernel
theorem dX5_verse_0 : decode cX5_verse 0 = .ok (.iload_n 1, 1) := by decide +kernel
theorem dX5_verse_1 : decode cX5_verse 1 = .ok (.ifCond .ge 10, 3) := by decide +kernel
theorem dX5_verse_4 : decode cX5_verse 4 = .ok (.aload_n 0, 1) := by decide +kernel
theorem dX5_verse_5 : decode cX5_verse 5 = .ok (.ldc 50, 2) := by decide +kernel
theorem dX5_verse_7 : decode cX5_verse 7 = .ok (.invokevirtual 67, 3) := by decide +kernel
theorem dX5_verse_10 : decode cX5_verse 10 = .ok (.ireturn, 1) := by decide +kernel
theorem dX5_verse_11 : decode cX5_verse 11 = .ok (.iload_n 1, 1) := by decide +kernel
theorem dX5_verse_12 : decode cX5_verse 12 = .ok (.aload_n 0, 1) := by decide +kernel
theorem dX5_verse_13 : decode cX5_verse 13 = .ok (.getfield 7, 3) := by decide +kernel
theorem dX5_verse_16 : decode cX5_verse 16 = .ok (.iconst 1, 1) := by decide +kernel
theorem dX5_verse_17 : decode cX5_verse 17 = .ok (.iaload, 1) := by decide +kernel
theorem dX5_verse_18 : decode cX5_verse 18 = .ok (.if_icmp .lt 10, 3) := by decide +kernel
theorem dX5_verse_21 : decode cX5_verse 21 = .ok (.aload_n 0, 1) := by decide +kernel
theorem dX5_verse_22 : decode cX5_verse 22 = .ok (.ldc 92, 2) := by decide +kernel
theorem dX5_verse_24 : decode cX5_verse 24 = .ok (.invokevirtual 67, 3) := by decide +kernel
theorem dX5_verse_27 : decode cX5_verse 27 = .ok (.ireturn, 1) := by decide +kernel
theorem dX5_verse_28 : decode cX5_verse 28 = .ok (.iload_n 1, 1) := by decide +kernel
theorem dX5_verse_29 : decode cX5_verse 29 = .ok (.istore_n 2, 1) := by decide +kernel
theorem dX5_verse_30 : decode cX5_verse 30 = .ok (.iconst 0, 1) := by decide +kernel
theorem dX5_verse_31 : decode cX5_verse 31 = .ok (.istore_n 3, 1) := by decide +kernel
theorem dX5_verse_32 : decode cX5_verse 32 = .ok (.aload_n 0, 1) := by decide +kernel
theorem dX5_verse_33 : decode cX5_verse 33 = .ok (.iload_n 3, 1) := by decide +kernel
theorem dX5_verse_34 : decode cX5_verse 34 = .ok (.invokevirtual 63, 3) := by decide +kernel
theorem dX5_verse_37 : decode cX5_verse 37 = .ok (.ifCond .lt 7, 3) := by decide +kernel
theorem dX5_verse_40 : decode cX5_verse 40 = .ok (.iload_n 2, 1) := by decide +kernel
theorem dX5_verse_41 : decode cX5_verse 41 = .ok (.ifCond .le 25, 3) := by decide +kernel
theorem dX5_verse_44 : decode cX5_verse 44 = .ok (.iload_n 2, 1) := by decide +kernel
theorem dX5_verse_45 : decode cX5_verse 45 = .ok (.aload_n 0, 1) := by decide +kernel
theorem dX5_verse_46 : decode cX5_verse 46 = .ok (.iload_n 3, 1) := by decide +kernel
theorem dX5_verse_47 : decode cX5_verse 47 = .ok (.invokevirtual 63, 3) := by decide +kernel
theorem dX5_verse_50 : decode cX5_verse 50 = .ok (.ifCond .ge 7, 3) := by decide +kernel
theorem dX5_verse_53 : decode cX5_verse 53 = .ok (.iconst 0, 1) := by decide +kernel
theorem dX5_verse_54 : decode cX5_verse 54 = .ok (.goto 4, 3) := by decide +kernel
theorem dX5_verse_57 : decode cX5_verse 57 = .ok (.iconst 1, 1) := by decide +kernel
theorem dX5_verse_58 : decode cX5_verse 58 = .ok (.isub, 1) := by decide +kernel
theorem dX5_verse_59 : decode cX5_verse 59 = .ok (.istore_n 2, 1) := by decide +kernel
theorem dX5_verse_60 : decode cX5_verse 60 = .ok (.iinc 3 1, 3) := by decide +kernel
theorem dX5_verse_63 : decode cX5_verse 63 = .ok (.goto (-31), 3) := by decide +kernel
theorem dX5_verse_66 : decode cX5_verse 66 = .ok (.aload_n 0, 1) := by decide +kernel
theorem dX5_verse_67 : decode cX5_verse 67 = .ok (.aload_n 0, 1) := by decide +kernel
theorem dX5_verse_68 : decode cX5_verse 68 = .ok (.iload_n 3, 1) := by decide +kernel
theorem dX5_verse_69 : decode cX5_verse 69 = .ok (.invokevirtual 63, 3) := by decide +kernel
theorem dX5_verse_72 : decode cX5_verse 72 = .ok (.iconst 2, 1) := by decide +kernel
theorem dX5_verse_73 : decode cX5_verse 73 = .ok (.invokevirtual 55, 3) := by decide +kernel
theorem dX5_verse_76 : decode cX5_verse 76 = .ok (.ireturn, 1) := by decide +kernel
theorem dX5_feels_0 : decode cX5_feels 0 = .ok (.aload_n 0, 1) := by decide +kernel
theorem dX5_feels_1 : decode cX5_feels 1 = .ok (.iload_n 1, 1) := by decide +kernel
theorem dX5_feels_2 : decode cX5_feels 2 = .ok (.iconst 0, 1) := by decide +kernel
theorem dX5_feels_3 : decode cX5_feels 3 = .ok (.invokevirtual 55, 3) := by decide +kernel
theorem dX5_feels_6 : decode cX5_feels 6 = .ok (.tableswitch 55 1 5 #[36, 55, 34, 36, 38], 34) := by decide +kernel
theorem dX5_feels_40 : decode cX5_feels 40 = .ok (.iconst 0, 1) := by decide +kernel
theorem dX5_feels_41 : decode cX5_feels 41 = .ok (.ireturn, 1) := by decide +kernel
theorem dX5_feels_42 : decode cX5_feels 42 = .ok (.iconst 2, 1) := by decide +kernel
theorem dX5_feels_43 : decode cX5_feels 43 = .ok (.ireturn, 1) := by decide +kernel
theorem dX5_feels_44 : decode cX5_feels 44 = .ok (.aload_n 0, 1) := by decide +kernel
theorem dX5_feels_45 : decode cX5_feels 45 = .ok (.iload_n 1, 1) := by decide +kernel
theorem dX5_feels_46 : decode cX5_feels 46 = .ok (.iconst 5, 1) := by decide +kernel
theorem dX5_feels_47 : decode cX5_feels 47 = .ok (.invokevirtual 55, 3) := by decide +kernel
theorem dX5_feels_50 : decode cX5_feels 50 = .ok (.bipush 10, 2) := by decide +kernel
theorem dX5_feels_52 : decode cX5_feels 52 = .ok (.if_icmp .ge 7, 3) := by decide +kernel
theorem dX5_feels_55 : decode cX5_feels 55 = .ok (.iconst 2, 1) := by decide +kernel
theorem dX5_feels_56 : decode cX5_feels 56 = .ok (.goto 4, 3) := by decide +kernel
theorem dX5_feels_59 : decode cX5_feels 59 = .ok (.iconst 1, 1) := by decide +kernel
theorem dX5_feels_60 : decode cX5_feels 60 = .ok (.ireturn, 1) := by decide +kernel
theorem dX5_feels_61 : decode cX5_feels 61 = .ok (.iconst 1, 1) := by decide +kernel
theorem dX5_feels_62 : decode cX5_feels 62 = .ok (.ireturn, 1) := by decide +kernel
theorem dX5_felt_0 : decode cX5_felt 0 = .ok (.iconst (-1), 1) := by decide +kernel
theorem dX5_felt_1 : decode cX5_felt 1 = .ok (.istore_n 2, 1) := by decide +kernel
theorem dX5_felt_2 : decode cX5_felt 2 = .ok (.aload_n 0, 1) := by decide +kernel
theorem dX5_felt_3 : decode cX5_felt 3 = .ok (.iload_n 1, 1) := by decide +kernel
theorem dX5_felt_4 : decode cX5_felt 4 = .ok (.invokevirtual 93, 3) := by decide +kernel
theorem dX5_felt_7 : decode cX5_felt 7 = .ok (.istore_n 3, 1) := by decide +kernel
theorem dX5_felt_8 : decode cX5_felt 8 = .ok (.iload_n 3, 1) := by decide +kernel
theorem dX5_felt_9 : decode cX5_felt 9 = .ok (.ifCond .le 35, 3) := by decide +kernel
theorem dX5_felt_12 : decode cX5_felt 12 = .ok (.aload_n 0, 1) := by decide +kernel
theorem dX5_felt_13 : decode cX5_felt 13 = .ok (.aload_n 0, 1) := by decide +kernel
theorem dX5_felt_14 : decode cX5_felt 14 = .ok (.iload_n 1, 1) := by decide +kernel
theorem dX5_felt_15 : decode cX5_felt 15 = .ok (.iconst 1, 1) := by decide +kernel
theorem dX5_felt_16 : decode cX5_felt 16 = .ok (.invokevirtual 55, 3) := by decide +kernel
theorem dX5_felt_19 : decode cX5_felt 19 = .ok (.iload_n 3, 1) := by decide +kernel
theorem dX5_felt_20 : decode cX5_felt 20 = .ok (.iadd, 1) := by decide +kernel
theorem dX5_felt_21 : decode cX5_felt 21 = .ok (.invokevirtual 63, 3) := by decide +kernel
theorem dX5_felt_24 : decode cX5_felt 24 = .ok (.istore 4, 2) := by decide +kernel
theorem dX5_felt_26 : decode cX5_felt 26 = .ok (.iload 4, 2) := by decide +kernel
theorem dX5_felt_28 : decode cX5_felt 28 = .ok (.ifCond .ge 7, 3) := by decide +kernel
theorem dX5_felt_31 : decode cX5_felt 31 = .ok (.iload_n 2, 1) := by decide +kernel
theorem dX5_felt_32 : decode cX5_felt 32 = .ok (.goto 5, 3) := by decide +kernel
theorem dX5_felt_35 : decode cX5_felt 35 = .ok (.iload 4, 2) := by decide +kernel
theorem dX5_felt_37 : decode cX5_felt 37 = .ok (.istore_n 2, 1) := by decide +kernel
theorem dX5_felt_38 : decode cX5_felt 38 = .ok (.iinc 3 (-1), 3) := by decide +kernel
theorem dX5_felt_41 : decode cX5_felt 41 = .ok (.goto (-33), 3) := by decide +kernel
theorem dX5_felt_44 : decode cX5_felt 44 = .ok (.iload_n 2, 1) := by decide +kernel
theorem dX5_felt_45 : decode cX5_felt 45 = .ok (.ireturn, 1) := by decide +kernel
theorem dX5_isReading_0 : decode cX5_isReading 0 = .ok (.aload_n 0, 1) := by decide +kernel
theorem dX5_isReading_1 : decode cX5_isReading 1 = .ok (.iload_n 1, 1) := by decide +kernel
theorem dX5_isReading_2 : decode cX5_isReading 2 = .ok (.invokevirtual 96, 3) := by decide +kernel
theorem dX5_isReading_5 : decode cX5_isReading 5 = .ok (.istore_n 2, 1) := by decide +kernel
theorem dX5_isReading_6 : decode cX5_isReading 6 = .ok (.iload_n 2, 1) := by decide +kernel
theorem dX5_isReading_7 : decode cX5_isReading 7 = .ok (.ifCond .lt 14, 3) := by decide +kernel
theorem dX5_isReading_10 : decode cX5_isReading 10 = .ok (.aload_n 0, 1) := by decide +kernel
theorem dX5_isReading_11 : decode cX5_isReading 11 = .ok (.iload_n 1, 1) := by decide +kernel
theorem dX5_isReading_12 : decode cX5_isReading 12 = .ok (.iconst 5, 1) := by decide +kernel
theorem dX5_isReading_13 : decode cX5_isReading 13 = .ok (.invokevirtual 55, 3) := by decide +kernel
theorem dX5_isReading_16 : decode cX5_isReading 16 = .ok (.bipush 60, 2) := by decide +kernel
theorem dX5_isReading_18 : decode cX5_isReading 18 = .ok (.if_icmp .lt 5, 3) := by decide +kernel
theorem dX5_isReading_21 : decode cX5_isReading 21 = .ok (.iconst 0, 1) := by decide +kernel
theorem dX5_isReading_22 : decode cX5_isReading 22 = .ok (.ireturn, 1) := by decide +kernel
theorem dX5_isReading_23 : decode cX5_isReading 23 = .ok (.aload_n 0, 1) := by decide +kernel
theorem dX5_isReading_24 : decode cX5_isReading 24 = .ok (.iload_n 2, 1) := by decide +kernel
theorem dX5_isReading_25 : decode cX5_isReading 25 = .ok (.iconst 3, 1) := by decide +kernel
theorem dX5_isReading_26 : decode cX5_isReading 26 = .ok (.invokevirtual 55, 3) := by decide +kernel
theorem dX5_isReading_29 : decode cX5_isReading 29 = .ok (.istore_n 3, 1) := by decide +kernel
theorem dX5_isReading_30 : decode cX5_isReading 30 = .ok (.iload_n 3, 1) := by decide +kernel
theorem dX5_isReading_31 : decode cX5_isReading 31 = .ok (.aload_n 0, 1) := by decide +kernel
theorem dX5_isReading_32 : decode cX5_isReading 32 = .ok (.getfield 7, 3) := by decide +kernel
theorem dX5_isReading_35 : decode cX5_isReading 35 = .ok (.iconst 0, 1) := by decide +kernel
theorem dX5_isReading_36 : decode cX5_isReading 36 = .ok (.iaload, 1) := by decide +kernel
theorem dX5_isReading_37 : decode cX5_isReading 37 = .ok (.iconst 4, 1) := by decide +kernel
theorem dX5_isReading_38 : decode cX5_isReading 38 = .ok (.irem, 1) := by decide +kernel
theorem dX5_isReading_39 : decode cX5_isReading 39 = .ok (.iadd, 1) := by decide +kernel
theorem dX5_isReading_40 : decode cX5_isReading 40 = .ok (.bipush 7, 2) := by decide +kernel
theorem dX5_isReading_42 : decode cX5_isReading 42 = .ok (.if_icmp .lt 7, 3) := by decide +kernel
theorem dX5_isReading_45 : decode cX5_isReading 45 = .ok (.iconst 1, 1) := by decide +kernel
theorem dX5_isReading_46 : decode cX5_isReading 46 = .ok (.goto 4, 3) := by decide +kernel
theorem dX5_isReading_49 : decode cX5_isReading 49 = .ok (.iconst 0, 1) := by decide +kernel
theorem dX5_isReading_50 : decode cX5_isReading 50 = .ok (.istore 4, 2) := by decide +kernel
theorem dX5_isReading_52 : decode cX5_isReading 52 = .ok (.aload_n 0, 1) := by decide +kernel
theorem dX5_isReading_53 : decode cX5_isReading 53 = .ok (.iload_n 1, 1) := by decide +kernel
theorem dX5_isReading_54 : decode cX5_isReading 54 = .ok (.iconst 0, 1) := by decide +kernel
theorem dX5_isReading_55 : decode cX5_isReading 55 = .ok (.invokevirtual 55, 3) := by decide +kernel
theorem dX5_isReading_58 : decode cX5_isReading 58 = .ok (.tableswitch 65 1 5 #[34, 45, 65, 34, 48], 34) := by decide +kernel
theorem dX5_isReading_92 : decode cX5_isReading 92 = .ok (.iload_n 3, 1) := by decide +kernel
theorem dX5_isReading_93 : decode cX5_isReading 93 = .ok (.iconst 3, 1) := by decide +kernel
theorem dX5_isReading_94 : decode cX5_isReading 94 = .ok (.if_icmp .lt 7, 3) := by decide +kernel
theorem dX5_isReading_97 : decode cX5_isReading 97 = .ok (.iconst 1, 1) := by decide +kernel
theorem dX5_isReading_98 : decode cX5_isReading 98 = .ok (.goto 4, 3) := by decide +kernel
theorem dX5_isReading_101 : decode cX5_isReading 101 = .ok (.iconst 0, 1) := by decide +kernel
theorem dX5_isReading_102 : decode cX5_isReading 102 = .ok (.ireturn, 1) := by decide +kernel
theorem dX5_isReading_103 : decode cX5_isReading 103 = .ok (.iload 4, 2) := by decide +kernel
theorem dX5_isReading_105 : decode cX5_isReading 105 = .ok (.ireturn, 1) := by decide +kernel
theorem dX5_isReading_106 : decode cX5_isReading 106 = .ok (.iload 4, 2) := by decide +kernel
theorem dX5_isReading_108 : decode cX5_isReading 108 = .ok (.ifCond .ne 9, 3) := by decide +kernel
theorem dX5_isReading_111 : decode cX5_isReading 111 = .ok (.iload_n 3, 1) := by decide +kernel
theorem dX5_isReading_112 : decode cX5_isReading 112 = .ok (.bipush 9, 2) := by decide +kernel
theorem dX5_isReading_114 : decode cX5_isReading 114 = .ok (.if_icmp .ne 7, 3) := by decide +kernel
theorem dX5_isReading_117 : decode cX5_isReading 117 = .ok (.iconst 1, 1) := by decide +kernel
theorem dX5_isReading_118 : decode cX5_isReading 118 = .ok (.goto 4, 3) := by decide +kernel
theorem dX5_isReading_121 : decode cX5_isReading 121 = .ok (.iconst 0, 1) := by decide +kernel
theorem dX5_isReading_122 : decode cX5_isReading 122 = .ok (.ireturn, 1) := by decide +kernel
theorem dX5_isReading_123 : decode cX5_isReading 123 = .ok (.iload_n 3, 1) := by decide +kernel
theorem dX5_isReading_124 : decode cX5_isReading 124 = .ok (.iconst 5, 1) := by decide +kernel
theorem dX5_isReading_125 : decode cX5_isReading 125 = .ok (.if_icmp .lt 7, 3) := by decide +kernel
theorem dX5_isReading_128 : decode cX5_isReading 128 = .ok (.iconst 1, 1) := by decide +kernel
theorem dX5_isReading_129 : decode cX5_isReading 129 = .ok (.goto 4, 3) := by decide +kernel
theorem dX5_isReading_132 : decode cX5_isReading 132 = .ok (.iconst 0, 1) := by decide +kernel
theorem dX5_isReading_133 : decode cX5_isReading 133 = .ok (.ireturn, 1) := by decide +kernel
theorem dX5_tells_0 : decode cX5_tells 0 = .ok (.aload_n 0, 1) := by decide +kernel
theorem dX5_tells_1 : decode cX5_tells 1 = .ok (.iload_n 1, 1) := by decide +kernel
theorem dX5_tells_2 : decode cX5_tells 2 = .ok (.iconst 4, 1) := by decide +kernel
theorem dX5_tells_3 : decode cX5_tells 3 = .ok (.invokevirtual 55, 3) := by decide +kernel
theorem dX5_tells_6 : decode cX5_tells 6 = .ok (.istore_n 2, 1) := by decide +kernel
theorem dX5_tells_7 : decode cX5_tells 7 = .ok (.aload_n 0, 1) := by decide +kernel
theorem dX5_tells_8 : decode cX5_tells 8 = .ok (.iload_n 1, 1) := by decide +kernel
theorem dX5_tells_9 : decode cX5_tells 9 = .ok (.iconst 0, 1) := by decide +kernel
theorem dX5_tells_10 : decode cX5_tells 10 = .ok (.invokevirtual 55, 3) := by decide +kernel
theorem dX5_tells_13 : decode cX5_tells 13 = .ok (.tableswitch 71 1 5 #[35, 60, 69, 40, 60], 35) := by decide +kernel
theorem dX5_tells_48 : decode cX5_tells 48 = .ok (.iload_n 2, 1) := by decide +kernel
theorem dX5_tells_49 : decode cX5_tells 49 = .ok (.invokestatic 99, 3) := by decide +kernel
theorem dX5_tells_52 : decode cX5_tells 52 = .ok (.ireturn, 1) := by decide +kernel
theorem dX5_tells_53 : decode cX5_tells 53 = .ok (.iload_n 2, 1) := by decide +kernel
theorem dX5_tells_54 : decode cX5_tells 54 = .ok (.invokestatic 74, 3) := by decide +kernel
theorem dX5_tells_57 : decode cX5_tells 57 = .ok (.iconst 4, 1) := by decide +kernel
theorem dX5_tells_58 : decode cX5_tells 58 = .ok (.if_icmp .lt 10, 3) := by decide +kernel
theorem dX5_tells_61 : decode cX5_tells 61 = .ok (.iload_n 2, 1) := by decide +kernel
theorem dX5_tells_62 : decode cX5_tells 62 = .ok (.invokestatic 102, 3) := by decide +kernel
theorem dX5_tells_65 : decode cX5_tells 65 = .ok (.goto 7, 3) := by decide +kernel
theorem dX5_tells_68 : decode cX5_tells 68 = .ok (.iload_n 2, 1) := by decide +kernel
theorem dX5_tells_69 : decode cX5_tells 69 = .ok (.invokestatic 99, 3) := by decide +kernel
theorem dX5_tells_72 : decode cX5_tells 72 = .ok (.ireturn, 1) := by decide +kernel
theorem dX5_tells_73 : decode cX5_tells 73 = .ok (.iload_n 2, 1) := by decide +kernel
theorem dX5_tells_74 : decode cX5_tells 74 = .ok (.iload_n 2, 1) := by decide +kernel
theorem dX5_tells_75 : decode cX5_tells 75 = .ok (.invokestatic 102, 3) := by decide +kernel
theorem dX5_tells_78 : decode cX5_tells 78 = .ok (.iconst (-1), 1) := by decide +kernel
theorem dX5_tells_79 : decode cX5_tells 79 = .ok (.ixor, 1) := by decide +kernel
theorem dX5_tells_80 : decode cX5_tells 80 = .ok (.iand, 1) := by decide +kernel
theorem dX5_tells_81 : decode cX5_tells 81 = .ok (.ireturn, 1) := by decide +kernel
theorem dX5_tells_82 : decode cX5_tells 82 = .ok (.iload_n 2, 1) := by decide +kernel
theorem dX5_tells_83 : decode cX5_tells 83 = .ok (.ireturn, 1) := by decide +kernel
theorem dX5_tells_84 : decode cX5_tells 84 = .ok (.iconst 0, 1) := by decide +kernel
theorem dX5_tells_85 : decode cX5_tells 85 = .ok (.ireturn, 1) := by decide +kernel
theorem dX5_tires_0 : decode cX5_tires 0 = .ok (.aload_n 0, 1) := by decide +kernel
theorem dX5_tires_1 : decode cX5_tires 1 = .ok (.iload_n 1, 1) := by decide +kernel
theorem dX5_tires_2 : decode cX5_tires 2 = .ok (.invokevirtual 105, 3) := by decide +kernel
theorem dX5_tires_5 : decode cX5_tires 5 = .ok (.ifCond .eq 7, 3) := by decide +kernel
theorem dX5_tires_8 : decode cX5_tires 8 = .ok (.iconst 3, 1) := by decide +kernel
theorem dX5_tires_9 : decode cX5_tires 9 = .ok (.goto 5, 3) := by decide +kernel
theorem dX5_tires_12 : decode cX5_tires 12 = .ok (.bipush (-5), 2) := by decide +kernel
theorem dX5_tires_14 : decode cX5_tires 14 = .ok (.istore_n 2, 1) := by decide +kernel
theorem dX5_tires_15 : decode cX5_tires 15 = .ok (.aload_n 0, 1) := by decide +kernel
theorem dX5_tires_16 : decode cX5_tires 16 = .ok (.iload_n 1, 1) := by decide +kernel
theorem dX5_tires_17 : decode cX5_tires 17 = .ok (.iconst 0, 1) := by decide +kernel
theorem dX5_tires_18 : decode cX5_tires 18 = .ok (.invokevirtual 55, 3) := by decide +kernel
theorem dX5_tires_21 : decode cX5_tires 21 = .ok (.tableswitch 49 1 5 #[35, 43, 47, 39, 43], 35) := by decide +kernel
theorem dX5_tires_56 : decode cX5_tires 56 = .ok (.iload_n 2, 1) := by decide +kernel
theorem dX5_tires_57 : decode cX5_tires 57 = .ok (.iconst 2, 1) := by decide +kernel
theorem dX5_tires_58 : decode cX5_tires 58 = .ok (.iadd, 1) := by decide +kernel
theorem dX5_tires_59 : decode cX5_tires 59 = .ok (.ireturn, 1) := by decide +kernel
theorem dX5_tires_60 : decode cX5_tires 60 = .ok (.iload_n 2, 1) := by decide +kernel
theorem dX5_tires_61 : decode cX5_tires 61 = .ok (.iconst 5, 1) := by decide +kernel
theorem dX5_tires_62 : decode cX5_tires 62 = .ok (.iadd, 1) := by decide +kernel
theorem dX5_tires_63 : decode cX5_tires 63 = .ok (.ireturn, 1) := by decide +kernel
theorem dX5_tires_64 : decode cX5_tires 64 = .ok (.iconst 2, 1) := by decide +kernel
theorem dX5_tires_65 : decode cX5_tires 65 = .ok (.iload_n 2, 1) := by decide +kernel
theorem dX5_tires_66 : decode cX5_tires 66 = .ok (.imul, 1) := by decide +kernel
theorem dX5_tires_67 : decode cX5_tires 67 = .ok (.ireturn, 1) := by decide +kernel
theorem dX5_tires_68 : decode cX5_tires 68 = .ok (.iconst 0, 1) := by decide +kernel
theorem dX5_tires_69 : decode cX5_tires 69 = .ok (.ireturn, 1) := by decide +kernel
theorem dX5_tires_70 : decode cX5_tires 70 = .ok (.iload_n 2, 1) := by decide +kernel
theorem dX5_tires_71 : decode cX5_tires 71 = .ok (.ireturn, 1) := by decide +kernel
theorem dX5_adds_0 : decode cX5_adds 0 = .ok (.aload_n 0, 1) := by decide +kernel
theorem dX5_adds_1 : decode cX5_adds 1 = .ok (.getfield 7, 3) := by decide +kernel
theorem dX5_adds_4 : decode cX5_adds 4 = .ok (.iconst 1, 1) := by decide +kernel
theorem dX5_adds_5 : decode cX5_adds 5 = .ok (.iaload, 1) := by decide +kernel
theorem dX5_adds_6 : decode cX5_adds 6 = .ok (.istore 5, 2) := by decide +kernel
theorem dX5_adds_8 : decode cX5_adds 8 = .ok (.aload_n 0, 1) := by decide +kernel
theorem dX5_adds_9 : decode cX5_adds 9 = .ok (.iload 5, 2) := by decide +kernel
theorem dX5_adds_11 : decode cX5_adds 11 = .ok (.iconst 0, 1) := by decide +kernel
theorem dX5_adds_12 : decode cX5_adds 12 = .ok (.iload_n 1, 1) := by decide +kernel
theorem dX5_adds_13 : decode cX5_adds 13 = .ok (.invokevirtual 108, 3) := by decide +kernel
theorem dX5_adds_16 : decode cX5_adds 16 = .ok (.aload_n 0, 1) := by decide +kernel
theorem dX5_adds_17 : decode cX5_adds 17 = .ok (.iload 5, 2) := by decide +kernel
theorem dX5_adds_19 : decode cX5_adds 19 = .ok (.iconst 1, 1) := by decide +kernel
theorem dX5_adds_20 : decode cX5_adds 20 = .ok (.iload_n 2, 1) := by decide +kernel
theorem dX5_adds_21 : decode cX5_adds 21 = .ok (.invokevirtual 108, 3) := by decide +kernel
theorem dX5_adds_24 : decode cX5_adds 24 = .ok (.aload_n 0, 1) := by decide +kernel
theorem dX5_adds_25 : decode cX5_adds 25 = .ok (.iload 5, 2) := by decide +kernel
theorem dX5_adds_27 : decode cX5_adds 27 = .ok (.iconst 2, 1) := by decide +kernel
theorem dX5_adds_28 : decode cX5_adds 28 = .ok (.iload_n 3, 1) := by decide +kernel
theorem dX5_adds_29 : decode cX5_adds 29 = .ok (.invokevirtual 108, 3) := by decide +kernel
theorem dX5_adds_32 : decode cX5_adds 32 = .ok (.aload_n 0, 1) := by decide +kernel
theorem dX5_adds_33 : decode cX5_adds 33 = .ok (.iload 5, 2) := by decide +kernel
theorem dX5_adds_35 : decode cX5_adds 35 = .ok (.iconst 3, 1) := by decide +kernel
theorem dX5_adds_36 : decode cX5_adds 36 = .ok (.iload 4, 2) := by decide +kernel
theorem dX5_adds_38 : decode cX5_adds 38 = .ok (.invokevirtual 108, 3) := by decide +kernel
theorem dX5_adds_41 : decode cX5_adds 41 = .ok (.aload_n 0, 1) := by decide +kernel
theorem dX5_adds_42 : decode cX5_adds 42 = .ok (.iload 5, 2) := by decide +kernel
theorem dX5_adds_44 : decode cX5_adds 44 = .ok (.iconst 4, 1) := by decide +kernel
theorem dX5_adds_45 : decode cX5_adds 45 = .ok (.iconst 0, 1) := by decide +kernel
theorem dX5_adds_46 : decode cX5_adds 46 = .ok (.invokevirtual 108, 3) := by decide +kernel
theorem dX5_adds_49 : decode cX5_adds 49 = .ok (.aload_n 0, 1) := by decide +kernel
theorem dX5_adds_50 : decode cX5_adds 50 = .ok (.iload 5, 2) := by decide +kernel
theorem dX5_adds_52 : decode cX5_adds 52 = .ok (.iconst 5, 1) := by decide +kernel
theorem dX5_adds_53 : decode cX5_adds 53 = .ok (.iconst 0, 1) := by decide +kernel
theorem dX5_adds_54 : decode cX5_adds 54 = .ok (.invokevirtual 108, 3) := by decide +kernel
theorem dX5_adds_57 : decode cX5_adds 57 = .ok (.aload_n 0, 1) := by decide +kernel
theorem dX5_adds_58 : decode cX5_adds 58 = .ok (.getfield 7, 3) := by decide +kernel
theorem dX5_adds_61 : decode cX5_adds 61 = .ok (.iconst 1, 1) := by decide +kernel
theorem dX5_adds_62 : decode cX5_adds 62 = .ok (.dup2, 1) := by decide +kernel
theorem dX5_adds_63 : decode cX5_adds 63 = .ok (.iaload, 1) := by decide +kernel
theorem dX5_adds_64 : decode cX5_adds 64 = .ok (.iconst 1, 1) := by decide +kernel
theorem dX5_adds_65 : decode cX5_adds 65 = .ok (.iadd, 1) := by decide +kernel
theorem dX5_adds_66 : decode cX5_adds 66 = .ok (.iastore, 1) := by decide +kernel
theorem dX5_adds_67 : decode cX5_adds 67 = .ok (.return_, 1) := by decide +kernel
theorem dX5_member_0 : decode cX5_member 0 = .ok (.iload_n 1, 1) := by decide +kernel
theorem dX5_member_1 : decode cX5_member 1 = .ok (.invokestatic 112, 3) := by decide +kernel
theorem dX5_member_4 : decode cX5_member 4 = .ok (.ifCond .eq 17, 3) := by decide +kernel
theorem dX5_member_7 : decode cX5_member 7 = .ok (.iload_n 2, 1) := by decide +kernel
theorem dX5_member_8 : decode cX5_member 8 = .ok (.invokestatic 59, 3) := by decide +kernel
theorem dX5_member_11 : decode cX5_member 11 = .ok (.ifCond .eq 10, 3) := by decide +kernel
theorem dX5_member_14 : decode cX5_member 14 = .ok (.iload_n 3, 1) := by decide +kernel
theorem dX5_member_15 : decode cX5_member 15 = .ok (.invokestatic 115, 3) := by decide +kernel
theorem dX5_member_18 : decode cX5_member 18 = .ok (.ifCond .ne 10, 3) := by decide +kernel
theorem dX5_member_21 : decode cX5_member 21 = .ok (.aload_n 0, 1) := by decide +kernel
theorem dX5_member_22 : decode cX5_member 22 = .ok (.ldc 50, 2) := by decide +kernel
theorem dX5_member_24 : decode cX5_member 24 = .ok (.invokevirtual 67, 3) := by decide +kernel
theorem dX5_member_27 : decode cX5_member 27 = .ok (.ireturn, 1) := by decide +kernel
theorem dX5_member_28 : decode cX5_member 28 = .ok (.aload_n 0, 1) := by decide +kernel
theorem dX5_member_29 : decode cX5_member 29 = .ok (.getfield 7, 3) := by decide +kernel
theorem dX5_member_32 : decode cX5_member 32 = .ok (.iconst 1, 1) := by decide +kernel
theorem dX5_member_33 : decode cX5_member 33 = .ok (.iaload, 1) := by decide +kernel
theorem dX5_member_34 : decode cX5_member 34 = .ok (.bipush 10, 2) := by decide +kernel
theorem dX5_member_36 : decode cX5_member 36 = .ok (.if_icmp .ne 10, 3) := by decide +kernel
theorem dX5_member_39 : decode cX5_member 39 = .ok (.aload_n 0, 1) := by decide +kernel
theorem dX5_member_40 : decode cX5_member 40 = .ok (.ldc 118, 2) := by decide +kernel
theorem dX5_member_42 : decode cX5_member 42 = .ok (.invokevirtual 67, 3) := by decide +kernel
theorem dX5_member_45 : decode cX5_member 45 = .ok (.ireturn, 1) := by decide +kernel
theorem dX5_member_46 : decode cX5_member 46 = .ok (.aload_n 0, 1) := by decide +kernel
theorem dX5_member_47 : decode cX5_member 47 = .ok (.iload_n 2, 1) := by decide +kernel
theorem dX5_member_48 : decode cX5_member 48 = .ok (.invokevirtual 63, 3) := by decide +kernel
theorem dX5_member_51 : decode cX5_member 51 = .ok (.ifCond .lt 10, 3) := by decide +kernel
theorem dX5_member_54 : decode cX5_member 54 = .ok (.aload_n 0, 1) := by decide +kernel
theorem dX5_member_55 : decode cX5_member 55 = .ok (.ldc 119, 2) := by decide +kernel
theorem dX5_member_57 : decode cX5_member 57 = .ok (.invokevirtual 67, 3) := by decide +kernel
theorem dX5_member_60 : decode cX5_member 60 = .ok (.ireturn, 1) := by decide +kernel
theorem dX5_member_61 : decode cX5_member 61 = .ok (.aload_n 0, 1) := by decide +kernel
theorem dX5_member_62 : decode cX5_member 62 = .ok (.iload_n 1, 1) := by decide +kernel
theorem dX5_member_63 : decode cX5_member 63 = .ok (.iload_n 2, 1) := by decide +kernel
theorem dX5_member_64 : decode cX5_member 64 = .ok (.iload_n 3, 1) := by decide +kernel
theorem dX5_member_65 : decode cX5_member 65 = .ok (.iconst 5, 1) := by decide +kernel
theorem dX5_member_66 : decode cX5_member 66 = .ok (.invokevirtual 120, 3) := by decide +kernel
theorem dX5_member_69 : decode cX5_member 69 = .ok (.aload_n 0, 1) := by decide +kernel
theorem dX5_member_70 : decode cX5_member 70 = .ok (.getfield 7, 3) := by decide +kernel
theorem dX5_member_73 : decode cX5_member 73 = .ok (.iconst 1, 1) := by decide +kernel
theorem dX5_member_74 : decode cX5_member 74 = .ok (.iaload, 1) := by decide +kernel
theorem dX5_member_75 : decode cX5_member 75 = .ok (.iconst 1, 1) := by decide +kernel
theorem dX5_member_76 : decode cX5_member 76 = .ok (.isub, 1) := by decide +kernel
theorem dX5_member_77 : decode cX5_member 77 = .ok (.ireturn, 1) := by decide +kernel
theorem dX5_of_0 : decode cX5_of 0 = .ok (.aload_n 0, 1) := by decide +kernel
theorem dX5_of_1 : decode cX5_of 1 = .ok (.iload_n 1, 1) := by decide +kernel
theorem dX5_of_2 : decode cX5_of 2 = .ok (.invokevirtual 124, 3) := by decide +kernel
theorem dX5_of_5 : decode cX5_of 5 = .ok (.ifCond .eq 13, 3) := by decide +kernel
theorem dX5_of_8 : decode cX5_of 8 = .ok (.iload_n 2, 1) := by decide +kernel
theorem dX5_of_9 : decode cX5_of 9 = .ok (.iconst 0, 1) := by decide +kernel
theorem dX5_of_10 : decode cX5_of 10 = .ok (.bipush 9, 2) := by decide +kernel
theorem dX5_of_12 : decode cX5_of 12 = .ok (.invokestatic 51, 3) := by decide +kernel
theorem dX5_of_15 : decode cX5_of 15 = .ok (.ifCond .ne 10, 3) := by decide +kernel
theorem dX5_of_18 : decode cX5_of 18 = .ok (.aload_n 0, 1) := by decide +kernel
theorem dX5_of_19 : decode cX5_of 19 = .ok (.ldc 50, 2) := by decide +kernel
theorem dX5_of_21 : decode cX5_of 21 = .ok (.invokevirtual 67, 3) := by decide +kernel
theorem dX5_of_24 : decode cX5_of 24 = .ok (.ireturn, 1) := by decide +kernel
theorem dX5_of_25 : decode cX5_of 25 = .ok (.iload_n 2, 1) := by decide +kernel
theorem dX5_of_26 : decode cX5_of 26 = .ok (.tableswitch 62 6 9 #[30, 36, 42, 56], 30) := by decide +kernel
theorem dX5_of_56 : decode cX5_of 56 = .ok (.aload_n 0, 1) := by decide +kernel
theorem dX5_of_57 : decode cX5_of 57 = .ok (.iload_n 1, 1) := by decide +kernel
theorem dX5_of_58 : decode cX5_of 58 = .ok (.invokevirtual 93, 3) := by decide +kernel
theorem dX5_of_61 : decode cX5_of 61 = .ok (.ireturn, 1) := by decide +kernel
theorem dX5_of_62 : decode cX5_of 62 = .ok (.aload_n 0, 1) := by decide +kernel
theorem dX5_of_63 : decode cX5_of 63 = .ok (.iload_n 1, 1) := by decide +kernel
theorem dX5_of_64 : decode cX5_of 64 = .ok (.invokevirtual 96, 3) := by decide +kernel
theorem dX5_of_67 : decode cX5_of 67 = .ok (.ireturn, 1) := by decide +kernel
theorem dX5_of_68 : decode cX5_of 68 = .ok (.aload_n 0, 1) := by decide +kernel
theorem dX5_of_69 : decode cX5_of 69 = .ok (.iload_n 1, 1) := by decide +kernel
theorem dX5_of_70 : decode cX5_of 70 = .ok (.invokevirtual 105, 3) := by decide +kernel
theorem dX5_of_73 : decode cX5_of 73 = .ok (.ifCond .eq 7, 3) := by decide +kernel
theorem dX5_of_76 : decode cX5_of 76 = .ok (.iconst 1, 1) := by decide +kernel
theorem dX5_of_77 : decode cX5_of 77 = .ok (.goto 4, 3) := by decide +kernel
theorem dX5_of_80 : decode cX5_of 80 = .ok (.iconst 0, 1) := by decide +kernel
theorem dX5_of_81 : decode cX5_of 81 = .ok (.ireturn, 1) := by decide +kernel
theorem dX5_of_82 : decode cX5_of 82 = .ok (.aload_n 0, 1) := by decide +kernel
theorem dX5_of_83 : decode cX5_of 83 = .ok (.iload_n 1, 1) := by decide +kernel
theorem dX5_of_84 : decode cX5_of 84 = .ok (.invokevirtual 127, 3) := by decide +kernel
theorem dX5_of_87 : decode cX5_of 87 = .ok (.ireturn, 1) := by decide +kernel
theorem dX5_of_88 : decode cX5_of 88 = .ok (.aload_n 0, 1) := by decide +kernel
theorem dX5_of_89 : decode cX5_of 89 = .ok (.iload_n 1, 1) := by decide +kernel
theorem dX5_of_90 : decode cX5_of 90 = .ok (.iload_n 2, 1) := by decide +kernel
theorem dX5_of_91 : decode cX5_of 91 = .ok (.invokevirtual 55, 3) := by decide +kernel
theorem dX5_of_94 : decode cX5_of 94 = .ok (.ireturn, 1) := by decide +kernel
theorem dX5_isPart_0 : decode cX5_isPart 0 = .ok (.iload_n 0, 1) := by decide +kernel
theorem dX5_isPart_1 : decode cX5_isPart 1 = .ok (.tableswitch 49 2 4 #[27, 32, 40], 27) := by decide +kernel
theorem dX5_isPart_28 : decode cX5_isPart 28 = .ok (.iload_n 1, 1) := by decide +kernel
theorem dX5_isPart_29 : decode cX5_isPart 29 = .ok (.invokestatic 115, 3) := by decide +kernel
theorem dX5_isPart_32 : decode cX5_isPart 32 = .ok (.ireturn, 1) := by decide +kernel
theorem dX5_isPart_33 : decode cX5_isPart 33 = .ok (.iload_n 1, 1) := by decide +kernel
theorem dX5_isPart_34 : decode cX5_isPart 34 = .ok (.iconst 1, 1) := by decide +kernel
theorem dX5_isPart_35 : decode cX5_isPart 35 = .ok (.bipush 9, 2) := by decide +kernel
theorem dX5_isPart_37 : decode cX5_isPart 37 = .ok (.invokestatic 51, 3) := by decide +kernel
theorem dX5_isPart_40 : decode cX5_isPart 40 = .ok (.ireturn, 1) := by decide +kernel
theorem dX5_isPart_41 : decode cX5_isPart 41 = .ok (.iload_n 1, 1) := by decide +kernel
theorem dX5_isPart_42 : decode cX5_isPart 42 = .ok (.iconst 0, 1) := by decide +kernel
theorem dX5_isPart_43 : decode cX5_isPart 43 = .ok (.sipush 1023, 3) := by decide +kernel
theorem dX5_isPart_46 : decode cX5_isPart 46 = .ok (.invokestatic 51, 3) := by decide +kernel
theorem dX5_isPart_49 : decode cX5_isPart 49 = .ok (.ireturn, 1) := by decide +kernel
theorem dX5_isPart_50 : decode cX5_isPart 50 = .ok (.iload_n 0, 1) := by decide +kernel
theorem dX5_isPart_51 : decode cX5_isPart 51 = .ok (.iconst 5, 1) := by decide +kernel
theorem dX5_isPart_52 : decode cX5_isPart 52 = .ok (.if_icmp .ne 17, 3) := by decide +kernel
theorem dX5_isPart_55 : decode cX5_isPart 55 = .ok (.iload_n 1, 1) := by decide +kernel
theorem dX5_isPart_56 : decode cX5_isPart 56 = .ok (.iconst 0, 1) := by decide +kernel
theorem dX5_isPart_57 : decode cX5_isPart 57 = .ok (.bipush 99, 2) := by decide +kernel
theorem dX5_isPart_59 : decode cX5_isPart 59 = .ok (.invokestatic 51, 3) := by decide +kernel
theorem dX5_isPart_62 : decode cX5_isPart 62 = .ok (.ifCond .eq 7, 3) := by decide +kernel
theorem dX5_isPart_65 : decode cX5_isPart 65 = .ok (.iconst 1, 1) := by decide +kernel
theorem dX5_isPart_66 : decode cX5_isPart 66 = .ok (.goto 4, 3) := by decide +kernel
theorem dX5_isPart_69 : decode cX5_isPart 69 = .ok (.iconst 0, 1) := by decide +kernel
theorem dX5_isPart_70 : decode cX5_isPart 70 = .ok (.ireturn, 1) := by decide +kernel
theorem dX5_set_0 : decode cX5_set 0 = .ok (.aload_n 0, 1) := by decide +kernel
theorem dX5_set_1 : decode cX5_set 1 = .ok (.iload_n 1, 1) := by decide +kernel
theorem dX5_set_2 : decode cX5_set 2 = .ok (.invokevirtual 124, 3) := by decide +kernel
theorem dX5_set_5 : decode cX5_set 5 = .ok (.ifCond .eq 27, 3) := by decide +kernel
theorem dX5_set_8 : decode cX5_set 8 = .ok (.iload_n 2, 1) := by decide +kernel
theorem dX5_set_9 : decode cX5_set 9 = .ok (.iload_n 3, 1) := by decide +kernel
theorem dX5_set_10 : decode cX5_set 10 = .ok (.invokestatic 130, 3) := by decide +kernel
theorem dX5_set_13 : decode cX5_set 13 = .ok (.ifCond .eq 19, 3) := by decide +kernel
theorem dX5_set_16 : decode cX5_set 16 = .ok (.aload_n 0, 1) := by decide +kernel
theorem dX5_set_17 : decode cX5_set 17 = .ok (.iconst 2, 1) := by decide +kernel
theorem dX5_set_18 : decode cX5_set 18 = .ok (.bipush 6, 2) := by decide +kernel
theorem dX5_set_20 : decode cX5_set 20 = .ok (.iload_n 1, 1) := by decide +kernel
theorem dX5_set_21 : decode cX5_set 21 = .ok (.imul, 1) := by decide +kernel
theorem dX5_set_22 : decode cX5_set 22 = .ok (.iadd, 1) := by decide +kernel
theorem dX5_set_23 : decode cX5_set 23 = .ok (.iload_n 2, 1) := by decide +kernel
theorem dX5_set_24 : decode cX5_set 24 = .ok (.iadd, 1) := by decide +kernel
theorem dX5_set_25 : decode cX5_set 25 = .ok (.iload_n 3, 1) := by decide +kernel
theorem dX5_set_26 : decode cX5_set 26 = .ok (.invokevirtual 134, 3) := by decide +kernel
theorem dX5_set_29 : decode cX5_set 29 = .ok (.goto 9, 3) := by decide +kernel
theorem dX5_set_32 : decode cX5_set 32 = .ok (.aload_n 0, 1) := by decide +kernel
theorem dX5_set_33 : decode cX5_set 33 = .ok (.ldc 50, 2) := by decide +kernel
theorem dX5_set_35 : decode cX5_set 35 = .ok (.invokevirtual 67, 3) := by decide +kernel
theorem dX5_set_38 : decode cX5_set 38 = .ok (.ireturn, 1) := by decide +kernel
theorem dX5_move_0 : decode cX5_move 0 = .ok (.aload_n 0, 1) := by decide +kernel
theorem dX5_move_1 : decode cX5_move 1 = .ok (.iload_n 1, 1) := by decide +kernel
theorem dX5_move_2 : decode cX5_move 2 = .ok (.invokevirtual 124, 3) := by decide +kernel
theorem dX5_move_5 : decode cX5_move 5 = .ok (.ifCond .eq 10, 3) := by decide +kernel
theorem dX5_move_8 : decode cX5_move 8 = .ok (.iload_n 2, 1) := by decide +kernel
theorem dX5_move_9 : decode cX5_move 9 = .ok (.invokestatic 59, 3) := by decide +kernel
theorem dX5_move_12 : decode cX5_move 12 = .ok (.ifCond .ne 10, 3) := by decide +kernel
theorem dX5_move_15 : decode cX5_move 15 = .ok (.aload_n 0, 1) := by decide +kernel
theorem dX5_move_16 : decode cX5_move 16 = .ok (.ldc 50, 2) := by decide +kernel
theorem dX5_move_18 : decode cX5_move 18 = .ok (.invokevirtual 67, 3) := by decide +kernel
theorem dX5_move_21 : decode cX5_move 21 = .ok (.ireturn, 1) := by decide +kernel
theorem dX5_move_22 : decode cX5_move 22 = .ok (.aload_n 0, 1) := by decide +kernel
theorem dX5_move_23 : decode cX5_move 23 = .ok (.iload_n 2, 1) := by decide +kernel
theorem dX5_move_24 : decode cX5_move 24 = .ok (.invokevirtual 63, 3) := by decide +kernel
theorem dX5_move_27 : decode cX5_move 27 = .ok (.istore_n 3, 1) := by decide +kernel
theorem dX5_move_28 : decode cX5_move 28 = .ok (.iload_n 3, 1) := by decide +kernel
theorem dX5_move_29 : decode cX5_move 29 = .ok (.ifCond .lt 17, 3) := by decide +kernel
theorem dX5_move_32 : decode cX5_move 32 = .ok (.iload_n 3, 1) := by decide +kernel
theorem dX5_move_33 : decode cX5_move 33 = .ok (.iload_n 1, 1) := by decide +kernel
theorem dX5_move_34 : decode cX5_move 34 = .ok (.if_icmp .eq 12, 3) := by decide +kernel
theorem dX5_move_37 : decode cX5_move 37 = .ok (.aload_n 0, 1) := by decide +kernel
theorem dX5_move_38 : decode cX5_move 38 = .ok (.ldc 119, 2) := by decide +kernel
theorem dX5_move_40 : decode cX5_move 40 = .ok (.invokevirtual 67, 3) := by decide +kernel
theorem dX5_move_43 : decode cX5_move 43 = .ok (.goto 16, 3) := by decide +kernel
theorem dX5_move_46 : decode cX5_move 46 = .ok (.aload_n 0, 1) := by decide +kernel
theorem dX5_move_47 : decode cX5_move 47 = .ok (.iconst 2, 1) := by decide +kernel
theorem dX5_move_48 : decode cX5_move 48 = .ok (.bipush 6, 2) := by decide +kernel
theorem dX5_move_50 : decode cX5_move 50 = .ok (.iload_n 1, 1) := by decide +kernel
theorem dX5_move_51 : decode cX5_move 51 = .ok (.imul, 1) := by decide +kernel
theorem dX5_move_52 : decode cX5_move 52 = .ok (.iadd, 1) := by decide +kernel
theorem dX5_move_53 : decode cX5_move 53 = .ok (.iconst 1, 1) := by decide +kernel
theorem dX5_move_54 : decode cX5_move 54 = .ok (.iadd, 1) := by decide +kernel
theorem dX5_move_55 : decode cX5_move 55 = .ok (.iload_n 2, 1) := by decide +kernel
theorem dX5_move_56 : decode cX5_move 56 = .ok (.invokevirtual 134, 3) := by decide +kernel
theorem dX5_move_59 : decode cX5_move 59 = .ok (.ireturn, 1) := by decide +kernel
theorem dX5_turn_0 : decode cX5_turn 0 = .ok (.aload_n 0, 1) := by decide +kernel
theorem dX5_turn_1 : decode cX5_turn 1 = .ok (.iload_n 1, 1) := by decide +kernel
theorem dX5_turn_2 : decode cX5_turn 2 = .ok (.invokevirtual 124, 3) := by decide +kernel
theorem dX5_turn_5 : decode cX5_turn 5 = .ok (.ifCond .eq 24, 3) := by decide +kernel
theorem dX5_turn_8 : decode cX5_turn 8 = .ok (.iload_n 2, 1) := by decide +kernel
theorem dX5_turn_9 : decode cX5_turn 9 = .ok (.invokestatic 112, 3) := by decide +kernel
theorem dX5_turn_12 : decode cX5_turn 12 = .ok (.ifCond .eq 17, 3) := by decide +kernel
theorem dX5_turn_15 : decode cX5_turn 15 = .ok (.aload_n 0, 1) := by decide +kernel
theorem dX5_turn_16 : decode cX5_turn 16 = .ok (.iconst 2, 1) := by decide +kernel
theorem dX5_turn_17 : decode cX5_turn 17 = .ok (.bipush 6, 2) := by decide +kernel
theorem dX5_turn_19 : decode cX5_turn 19 = .ok (.iload_n 1, 1) := by decide +kernel
theorem dX5_turn_20 : decode cX5_turn 20 = .ok (.imul, 1) := by decide +kernel
theorem dX5_turn_21 : decode cX5_turn 21 = .ok (.iadd, 1) := by decide +kernel
theorem dX5_turn_22 : decode cX5_turn 22 = .ok (.iload_n 2, 1) := by decide +kernel
theorem dX5_turn_23 : decode cX5_turn 23 = .ok (.invokevirtual 134, 3) := by decide +kernel
theorem dX5_turn_26 : decode cX5_turn 26 = .ok (.goto 9, 3) := by decide +kernel
theorem dX5_turn_29 : decode cX5_turn 29 = .ok (.aload_n 0, 1) := by decide +kernel
theorem dX5_turn_30 : decode cX5_turn 30 = .ok (.ldc 50, 2) := by decide +kernel
theorem dX5_turn_32 : decode cX5_turn 32 = .ok (.invokevirtual 67, 3) := by decide +kernel
theorem dX5_turn_35 : decode cX5_turn 35 = .ok (.ireturn, 1) := by decide +kernel
theorem dX5_as_0 : decode cX5_as 0 = .ok (.aload_n 0, 1) := by decide +kernel
theorem dX5_as_1 : decode cX5_as 1 = .ok (.iload_n 1, 1) := by decide +kernel
theorem dX5_as_2 : decode cX5_as 2 = .ok (.invokevirtual 124, 3) := by decide +kernel
theorem dX5_as_5 : decode cX5_as 5 = .ok (.ifCond .eq 10, 3) := by decide +kernel
theorem dX5_as_8 : decode cX5_as 8 = .ok (.iload_n 2, 1) := by decide +kernel
theorem dX5_as_9 : decode cX5_as 9 = .ok (.invokestatic 112, 3) := by decide +kernel
theorem dX5_as_12 : decode cX5_as 12 = .ok (.ifCond .ne 10, 3) := by decide +kernel
theorem dX5_as_15 : decode cX5_as 15 = .ok (.aload_n 0, 1) := by decide +kernel
theorem dX5_as_16 : decode cX5_as 16 = .ok (.ldc 50, 2) := by decide +kernel
theorem dX5_as_18 : decode cX5_as 18 = .ok (.invokevirtual 67, 3) := by decide +kernel
theorem dX5_as_21 : decode cX5_as 21 = .ok (.ireturn, 1) := by decide +kernel
theorem dX5_as_22 : decode cX5_as 22 = .ok (.aload_n 0, 1) := by decide +kernel
theorem dX5_as_23 : decode cX5_as 23 = .ok (.iload_n 1, 1) := by decide +kernel
theorem dX5_as_24 : decode cX5_as 24 = .ok (.iconst 0, 1) := by decide +kernel
theorem dX5_as_25 : decode cX5_as 25 = .ok (.invokevirtual 55, 3) := by decide +kernel
theorem dX5_as_28 : decode cX5_as 28 = .ok (.istore_n 3, 1) := by decide +kernel
theorem dX5_as_29 : decode cX5_as 29 = .ok (.iload_n 2, 1) := by decide +kernel
theorem dX5_as_30 : decode cX5_as 30 = .ok (.ifCond .eq 28, 3) := by decide +kernel
theorem dX5_as_33 : decode cX5_as 33 = .ok (.iload_n 2, 1) := by decide +kernel
theorem dX5_as_34 : decode cX5_as 34 = .ok (.iload_n 3, 1) := by decide +kernel
theorem dX5_as_35 : decode cX5_as 35 = .ok (.if_icmp .eq 23, 3) := by decide +kernel
theorem dX5_as_38 : decode cX5_as 38 = .ok (.iload_n 2, 1) := by decide +kernel
theorem dX5_as_39 : decode cX5_as 39 = .ok (.iconst 1, 1) := by decide +kernel
theorem dX5_as_40 : decode cX5_as 40 = .ok (.if_icmp .ne 8, 3) := by decide +kernel
theorem dX5_as_43 : decode cX5_as 43 = .ok (.iload_n 3, 1) := by decide +kernel
theorem dX5_as_44 : decode cX5_as 44 = .ok (.iconst 4, 1) := by decide +kernel
theorem dX5_as_45 : decode cX5_as 45 = .ok (.if_icmp .eq 13, 3) := by decide +kernel
theorem dX5_as_48 : decode cX5_as 48 = .ok (.iload_n 2, 1) := by decide +kernel
theorem dX5_as_49 : decode cX5_as 49 = .ok (.iconst 2, 1) := by decide +kernel
theorem dX5_as_50 : decode cX5_as 50 = .ok (.if_icmp .ne 12, 3) := by decide +kernel
theorem dX5_as_53 : decode cX5_as 53 = .ok (.iload_n 3, 1) := by decide +kernel
theorem dX5_as_54 : decode cX5_as 54 = .ok (.iconst 5, 1) := by decide +kernel
theorem dX5_as_55 : decode cX5_as 55 = .ok (.if_icmp .ne 7, 3) := by decide +kernel
theorem dX5_as_58 : decode cX5_as 58 = .ok (.iconst 1, 1) := by decide +kernel
theorem dX5_as_59 : decode cX5_as 59 = .ok (.goto 4, 3) := by decide +kernel
theorem dX5_as_62 : decode cX5_as 62 = .ok (.iconst 0, 1) := by decide +kernel
theorem dX5_as_63 : decode cX5_as 63 = .ok (.istore 4, 2) := by decide +kernel
theorem dX5_as_65 : decode cX5_as 65 = .ok (.iload 4, 2) := by decide +kernel
theorem dX5_as_67 : decode cX5_as 67 = .ok (.ifCond .eq 12, 3) := by decide +kernel
theorem dX5_as_70 : decode cX5_as 70 = .ok (.aload_n 0, 1) := by decide +kernel
theorem dX5_as_71 : decode cX5_as 71 = .ok (.iload_n 1, 1) := by decide +kernel
theorem dX5_as_72 : decode cX5_as 72 = .ok (.iconst 4, 1) := by decide +kernel
theorem dX5_as_73 : decode cX5_as 73 = .ok (.invokevirtual 55, 3) := by decide +kernel
theorem dX5_as_76 : decode cX5_as 76 = .ok (.goto 9, 3) := by decide +kernel
theorem dX5_as_79 : decode cX5_as 79 = .ok (.aload_n 0, 1) := by decide +kernel
theorem dX5_as_80 : decode cX5_as 80 = .ok (.ldc 137, 2) := by decide +kernel
theorem dX5_as_82 : decode cX5_as 82 = .ok (.invokevirtual 67, 3) := by decide +kernel
theorem dX5_as_85 : decode cX5_as 85 = .ok (.ireturn, 1) := by decide +kernel
theorem dX5_got_0 : decode cX5_got 0 = .ok (.aload_n 0, 1) := by decide +kernel
theorem dX5_got_1 : decode cX5_got 1 = .ok (.iload_n 1, 1) := by decide +kernel
theorem dX5_got_2 : decode cX5_got 2 = .ok (.invokevirtual 105, 3) := by decide +kernel
theorem dX5_got_5 : decode cX5_got 5 = .ok (.ifCond .eq 18, 3) := by decide +kernel
theorem dX5_got_8 : decode cX5_got 8 = .ok (.iconst 1, 1) := by decide +kernel
theorem dX5_got_9 : decode cX5_got 9 = .ok (.aload_n 0, 1) := by decide +kernel
theorem dX5_got_10 : decode cX5_got 10 = .ok (.aload_n 0, 1) := by decide +kernel
theorem dX5_got_11 : decode cX5_got 11 = .ok (.iload_n 1, 1) := by decide +kernel
theorem dX5_got_12 : decode cX5_got 12 = .ok (.invokevirtual 96, 3) := by decide +kernel
theorem dX5_got_15 : decode cX5_got 15 = .ok (.iconst 2, 1) := by decide +kernel
theorem dX5_got_16 : decode cX5_got 16 = .ok (.invokevirtual 55, 3) := by decide +kernel
theorem dX5_got_19 : decode cX5_got 19 = .ok (.ishl, 1) := by decide +kernel
theorem dX5_got_20 : decode cX5_got 20 = .ok (.goto 4, 3) := by decide +kernel
theorem dX5_got_23 : decode cX5_got 23 = .ok (.iconst 0, 1) := by decide +kernel
theorem dX5_got_24 : decode cX5_got 24 = .ok (.istore_n 2, 1) := by decide +kernel
theorem dX5_got_25 : decode cX5_got 25 = .ok (.aload_n 0, 1) := by decide +kernel
theorem dX5_got_26 : decode cX5_got 26 = .ok (.aload_n 0, 1) := by decide +kernel
theorem dX5_got_27 : decode cX5_got 27 = .ok (.iload_n 1, 1) := by decide +kernel
theorem dX5_got_28 : decode cX5_got 28 = .ok (.iconst 1, 1) := by decide +kernel
theorem dX5_got_29 : decode cX5_got 29 = .ok (.invokevirtual 55, 3) := by decide +kernel
theorem dX5_got_32 : decode cX5_got 32 = .ok (.iconst 1, 1) := by decide +kernel
theorem dX5_got_33 : decode cX5_got 33 = .ok (.iadd, 1) := by decide +kernel
theorem dX5_got_34 : decode cX5_got 34 = .ok (.invokevirtual 63, 3) := by decide +kernel
theorem dX5_got_37 : decode cX5_got 37 = .ok (.istore_n 3, 1) := by decide +kernel
theorem dX5_got_38 : decode cX5_got 38 = .ok (.iload_n 2, 1) := by decide +kernel
theorem dX5_got_39 : decode cX5_got 39 = .ok (.iload_n 3, 1) := by decide +kernel
theorem dX5_got_40 : decode cX5_got 40 = .ok (.ifCond .ge 7, 3) := by decide +kernel
theorem dX5_got_43 : decode cX5_got 43 = .ok (.iconst 0, 1) := by decide +kernel
theorem dX5_got_44 : decode cX5_got 44 = .ok (.goto 8, 3) := by decide +kernel
theorem dX5_got_47 : decode cX5_got 47 = .ok (.aload_n 0, 1) := by decide +kernel
theorem dX5_got_48 : decode cX5_got 48 = .ok (.iload_n 3, 1) := by decide +kernel
theorem dX5_got_49 : decode cX5_got 49 = .ok (.invokevirtual 127, 3) := by decide +kernel
theorem dX5_got_52 : decode cX5_got 52 = .ok (.ior, 1) := by decide +kernel
theorem dX5_got_53 : decode cX5_got 53 = .ok (.istore_n 2, 1) := by decide +kernel
theorem dX5_got_54 : decode cX5_got 54 = .ok (.aload_n 0, 1) := by decide +kernel
theorem dX5_got_55 : decode cX5_got 55 = .ok (.iload_n 1, 1) := by decide +kernel
theorem dX5_got_56 : decode cX5_got 56 = .ok (.iconst 0, 1) := by decide +kernel
theorem dX5_got_57 : decode cX5_got 57 = .ok (.invokevirtual 55, 3) := by decide +kernel
theorem dX5_got_60 : decode cX5_got 60 = .ok (.iconst 4, 1) := by decide +kernel
theorem dX5_got_61 : decode cX5_got 61 = .ok (.if_icmp .ne 7, 3) := by decide +kernel
theorem dX5_got_64 : decode cX5_got 64 = .ok (.iload_n 2, 1) := by decide +kernel
theorem dX5_got_65 : decode cX5_got 65 = .ok (.goto 15, 3) := by decide +kernel
theorem dX5_got_68 : decode cX5_got 68 = .ok (.iload_n 2, 1) := by decide +kernel
theorem dX5_got_69 : decode cX5_got 69 = .ok (.iconst 1, 1) := by decide +kernel
theorem dX5_got_70 : decode cX5_got 70 = .ok (.aload_n 0, 1) := by decide +kernel
theorem dX5_got_71 : decode cX5_got 71 = .ok (.iload_n 1, 1) := by decide +kernel
theorem dX5_got_72 : decode cX5_got 72 = .ok (.iconst 2, 1) := by decide +kernel
theorem dX5_got_73 : decode cX5_got 73 = .ok (.invokevirtual 55, 3) := by decide +kernel
theorem dX5_got_76 : decode cX5_got 76 = .ok (.ishl, 1) := by decide +kernel
theorem dX5_got_77 : decode cX5_got 77 = .ok (.iconst (-1), 1) := by decide +kernel
theorem dX5_got_78 : decode cX5_got 78 = .ok (.ixor, 1) := by decide +kernel
theorem dX5_got_79 : decode cX5_got 79 = .ok (.iand, 1) := by decide +kernel
theorem dX5_got_80 : decode cX5_got 80 = .ok (.ireturn, 1) := by decide +kernel
theorem dX5_oneNight_0 : decode cX5_oneNight 0 = .ok (.iconst 0, 1) := by decide +kernel
theorem dX5_oneNight_1 : decode cX5_oneNight 1 = .ok (.istore_n 1, 1) := by decide +kernel
theorem dX5_oneNight_2 : decode cX5_oneNight 2 = .ok (.iload_n 1, 1) := by decide +kernel
theorem dX5_oneNight_3 : decode cX5_oneNight 3 = .ok (.aload_n 0, 1) := by decide +kernel
theorem dX5_oneNight_4 : decode cX5_oneNight 4 = .ok (.getfield 7, 3) := by decide +kernel
theorem dX5_oneNight_7 : decode cX5_oneNight 7 = .ok (.iconst 1, 1) := by decide +kernel
theorem dX5_oneNight_8 : decode cX5_oneNight 8 = .ok (.iaload, 1) := by decide +kernel
theorem dX5_oneNight_9 : decode cX5_oneNight 9 = .ok (.if_icmp .ge 31, 3) := by decide +kernel
theorem dX5_oneNight_12 : decode cX5_oneNight 12 = .ok (.aload_n 0, 1) := by decide +kernel
theorem dX5_oneNight_13 : decode cX5_oneNight 13 = .ok (.getfield 16, 3) := by decide +kernel
theorem dX5_oneNight_16 : decode cX5_oneNight 16 = .ok (.iload_n 1, 1) := by decide +kernel
theorem dX5_oneNight_17 : decode cX5_oneNight 17 = .ok (.aload_n 0, 1) := by decide +kernel
theorem dX5_oneNight_18 : decode cX5_oneNight 18 = .ok (.iload_n 1, 1) := by decide +kernel
theorem dX5_oneNight_19 : decode cX5_oneNight 19 = .ok (.invokevirtual 138, 3) := by decide +kernel
theorem dX5_oneNight_22 : decode cX5_oneNight 22 = .ok (.iastore, 1) := by decide +kernel
theorem dX5_oneNight_23 : decode cX5_oneNight 23 = .ok (.aload_n 0, 1) := by decide +kernel
theorem dX5_oneNight_24 : decode cX5_oneNight 24 = .ok (.getfield 19, 3) := by decide +kernel
theorem dX5_oneNight_27 : decode cX5_oneNight 27 = .ok (.iload_n 1, 1) := by decide +kernel
theorem dX5_oneNight_28 : decode cX5_oneNight 28 = .ok (.aload_n 0, 1) := by decide +kernel
theorem dX5_oneNight_29 : decode cX5_oneNight 29 = .ok (.iload_n 1, 1) := by decide +kernel
theorem dX5_oneNight_30 : decode cX5_oneNight 30 = .ok (.invokevirtual 141, 3) := by decide +kernel
theorem dX5_oneNight_33 : decode cX5_oneNight 33 = .ok (.iastore, 1) := by decide +kernel
theorem dX5_oneNight_34 : decode cX5_oneNight 34 = .ok (.iinc 1 1, 3) := by decide +kernel
theorem dX5_oneNight_37 : decode cX5_oneNight 37 = .ok (.goto (-35), 3) := by decide +kernel
theorem dX5_oneNight_40 : decode cX5_oneNight 40 = .ok (.iconst 0, 1) := by decide +kernel
theorem dX5_oneNight_41 : decode cX5_oneNight 41 = .ok (.istore_n 1, 1) := by decide +kernel
theorem dX5_oneNight_42 : decode cX5_oneNight 42 = .ok (.iload_n 1, 1) := by decide +kernel
theorem dX5_oneNight_43 : decode cX5_oneNight 43 = .ok (.aload_n 0, 1) := by decide +kernel
theorem dX5_oneNight_44 : decode cX5_oneNight 44 = .ok (.getfield 7, 3) := by decide +kernel
theorem dX5_oneNight_47 : decode cX5_oneNight 47 = .ok (.iconst 1, 1) := by decide +kernel
theorem dX5_oneNight_48 : decode cX5_oneNight 48 = .ok (.iaload, 1) := by decide +kernel
theorem dX5_oneNight_49 : decode cX5_oneNight 49 = .ok (.if_icmp .ge 53, 3) := by decide +kernel
theorem dX5_oneNight_52 : decode cX5_oneNight 52 = .ok (.aload_n 0, 1) := by decide +kernel
theorem dX5_oneNight_53 : decode cX5_oneNight 53 = .ok (.iload_n 1, 1) := by decide +kernel
theorem dX5_oneNight_54 : decode cX5_oneNight 54 = .ok (.iconst 4, 1) := by decide +kernel
theorem dX5_oneNight_55 : decode cX5_oneNight 55 = .ok (.aload_n 0, 1) := by decide +kernel
theorem dX5_oneNight_56 : decode cX5_oneNight 56 = .ok (.iload_n 1, 1) := by decide +kernel
theorem dX5_oneNight_57 : decode cX5_oneNight 57 = .ok (.iconst 4, 1) := by decide +kernel
theorem dX5_oneNight_58 : decode cX5_oneNight 58 = .ok (.invokevirtual 55, 3) := by decide +kernel
theorem dX5_oneNight_61 : decode cX5_oneNight 61 = .ok (.aload_n 0, 1) := by decide +kernel
theorem dX5_oneNight_62 : decode cX5_oneNight 62 = .ok (.getfield 16, 3) := by decide +kernel
theorem dX5_oneNight_65 : decode cX5_oneNight 65 = .ok (.iload_n 1, 1) := by decide +kernel
theorem dX5_oneNight_66 : decode cX5_oneNight 66 = .ok (.iaload, 1) := by decide +kernel
theorem dX5_oneNight_67 : decode cX5_oneNight 67 = .ok (.ior, 1) := by decide +kernel
theorem dX5_oneNight_68 : decode cX5_oneNight 68 = .ok (.invokevirtual 108, 3) := by decide +kernel
theorem dX5_oneNight_71 : decode cX5_oneNight 71 = .ok (.aload_n 0, 1) := by decide +kernel
theorem dX5_oneNight_72 : decode cX5_oneNight 72 = .ok (.iload_n 1, 1) := by decide +kernel
theorem dX5_oneNight_73 : decode cX5_oneNight 73 = .ok (.iconst 5, 1) := by decide +kernel
theorem dX5_oneNight_74 : decode cX5_oneNight 74 = .ok (.aload_n 0, 1) := by decide +kernel
theorem dX5_oneNight_75 : decode cX5_oneNight 75 = .ok (.iload_n 1, 1) := by decide +kernel
theorem dX5_oneNight_76 : decode cX5_oneNight 76 = .ok (.iconst 5, 1) := by decide +kernel
theorem dX5_oneNight_77 : decode cX5_oneNight 77 = .ok (.invokevirtual 55, 3) := by decide +kernel
theorem dX5_oneNight_80 : decode cX5_oneNight 80 = .ok (.aload_n 0, 1) := by decide +kernel
theorem dX5_oneNight_81 : decode cX5_oneNight 81 = .ok (.getfield 19, 3) := by decide +kernel
theorem dX5_oneNight_84 : decode cX5_oneNight 84 = .ok (.iload_n 1, 1) := by decide +kernel
theorem dX5_oneNight_85 : decode cX5_oneNight 85 = .ok (.iaload, 1) := by decide +kernel
theorem dX5_oneNight_86 : decode cX5_oneNight 86 = .ok (.iadd, 1) := by decide +kernel
theorem dX5_oneNight_87 : decode cX5_oneNight 87 = .ok (.iconst 0, 1) := by decide +kernel
theorem dX5_oneNight_88 : decode cX5_oneNight 88 = .ok (.bipush 99, 2) := by decide +kernel
theorem dX5_oneNight_90 : decode cX5_oneNight 90 = .ok (.invokestatic 144, 3) := by decide +kernel
theorem dX5_oneNight_93 : decode cX5_oneNight 93 = .ok (.invokevirtual 108, 3) := by decide +kernel
theorem dX5_oneNight_96 : decode cX5_oneNight 96 = .ok (.iinc 1 1, 3) := by decide +kernel
theorem dX5_oneNight_99 : decode cX5_oneNight 99 = .ok (.goto (-57), 3) := by decide +kernel
theorem dX5_oneNight_102 : decode cX5_oneNight 102 = .ok (.aload_n 0, 1) := by decide +kernel
theorem dX5_oneNight_103 : decode cX5_oneNight 103 = .ok (.getfield 7, 3) := by decide +kernel
theorem dX5_oneNight_106 : decode cX5_oneNight 106 = .ok (.iconst 0, 1) := by decide +kernel
theorem dX5_oneNight_107 : decode cX5_oneNight 107 = .ok (.dup2, 1) := by decide +kernel
theorem dX5_oneNight_108 : decode cX5_oneNight 108 = .ok (.iaload, 1) := by decide +kernel
theorem dX5_oneNight_109 : decode cX5_oneNight 109 = .ok (.iconst 1, 1) := by decide +kernel
theorem dX5_oneNight_110 : decode cX5_oneNight 110 = .ok (.iadd, 1) := by decide +kernel
theorem dX5_oneNight_111 : decode cX5_oneNight 111 = .ok (.iastore, 1) := by decide +kernel
theorem dX5_oneNight_112 : decode cX5_oneNight 112 = .ok (.return_, 1) := by decide +kernel
theorem dX5_passes_0 : decode cX5_passes 0 = .ok (.iconst 0, 1) := by decide +kernel
theorem dX5_passes_1 : decode cX5_passes 1 = .ok (.istore_n 2, 1) := by decide +kernel
theorem dX5_passes_2 : decode cX5_passes 2 = .ok (.iload_n 2, 1) := by decide +kernel
theorem dX5_passes_3 : decode cX5_passes 3 = .ok (.iload_n 1, 1) := by decide +kernel
theorem dX5_passes_4 : decode cX5_passes 4 = .ok (.if_icmp .ge 13, 3) := by decide +kernel
theorem dX5_passes_7 : decode cX5_passes 7 = .ok (.aload_n 0, 1) := by decide +kernel
theorem dX5_passes_8 : decode cX5_passes 8 = .ok (.invokevirtual 148, 3) := by decide +kernel
theorem dX5_passes_11 : decode cX5_passes 11 = .ok (.iinc 2 1, 3) := by decide +kernel
theorem dX5_passes_14 : decode cX5_passes 14 = .ok (.goto (-12), 3) := by decide +kernel
theorem dX5_passes_17 : decode cX5_passes 17 = .ok (.return_, 1) := by decide +kernel
theorem dX5_nights_0 : decode cX5_nights 0 = .ok (.iload_n 1, 1) := by decide +kernel
theorem dX5_nights_1 : decode cX5_nights 1 = .ok (.iconst 1, 1) := by decide +kernel
theorem dX5_nights_2 : decode cX5_nights 2 = .ok (.bipush 60, 2) := by decide +kernel
theorem dX5_nights_4 : decode cX5_nights 4 = .ok (.invokestatic 51, 3) := by decide +kernel
theorem dX5_nights_7 : decode cX5_nights 7 = .ok (.ifCond .ne 10, 3) := by decide +kernel
theorem dX5_nights_10 : decode cX5_nights 10 = .ok (.aload_n 0, 1) := by decide +kernel
theorem dX5_nights_11 : decode cX5_nights 11 = .ok (.ldc 50, 2) := by decide +kernel
theorem dX5_nights_13 : decode cX5_nights 13 = .ok (.invokevirtual 67, 3) := by decide +kernel
theorem dX5_nights_16 : decode cX5_nights 16 = .ok (.ireturn, 1) := by decide +kernel
theorem dX5_nights_17 : decode cX5_nights 17 = .ok (.aload_n 0, 1) := by decide +kernel
theorem dX5_nights_18 : decode cX5_nights 18 = .ok (.getfield 7, 3) := by decide +kernel
theorem dX5_nights_21 : decode cX5_nights 21 = .ok (.iconst 0, 1) := by decide +kernel
theorem dX5_nights_22 : decode cX5_nights 22 = .ok (.iaload, 1) := by decide +kernel
theorem dX5_nights_23 : decode cX5_nights 23 = .ok (.iload_n 1, 1) := by decide +kernel
theorem dX5_nights_24 : decode cX5_nights 24 = .ok (.iadd, 1) := by decide +kernel
theorem dX5_nights_25 : decode cX5_nights 25 = .ok (.ldc 151, 2) := by decide +kernel
theorem dX5_nights_27 : decode cX5_nights 27 = .ok (.if_icmp .le 10, 3) := by decide +kernel
theorem dX5_nights_30 : decode cX5_nights 30 = .ok (.aload_n 0, 1) := by decide +kernel
theorem dX5_nights_31 : decode cX5_nights 31 = .ok (.ldc 119, 2) := by decide +kernel
theorem dX5_nights_33 : decode cX5_nights 33 = .ok (.invokevirtual 67, 3) := by decide +kernel
theorem dX5_nights_36 : decode cX5_nights 36 = .ok (.ireturn, 1) := by decide +kernel
theorem dX5_nights_37 : decode cX5_nights 37 = .ok (.aload_n 0, 1) := by decide +kernel
theorem dX5_nights_38 : decode cX5_nights 38 = .ok (.iload_n 1, 1) := by decide +kernel
theorem dX5_nights_39 : decode cX5_nights 39 = .ok (.invokevirtual 152, 3) := by decide +kernel
theorem dX5_nights_42 : decode cX5_nights 42 = .ok (.aload_n 0, 1) := by decide +kernel
theorem dX5_nights_43 : decode cX5_nights 43 = .ok (.invokevirtual 83, 3) := by decide +kernel
theorem dX5_nights_46 : decode cX5_nights 46 = .ok (.ireturn, 1) := by decide +kernel
theorem dX5_on_0 : decode cX5_on 0 = .ok (.aload_n 0, 1) := by decide +kernel
theorem dX5_on_1 : decode cX5_on 1 = .ok (.iload_n 1, 1) := by decide +kernel
theorem dX5_on_2 : decode cX5_on 2 = .ok (.invokevirtual 124, 3) := by decide +kernel
theorem dX5_on_5 : decode cX5_on 5 = .ok (.ifCond .eq 22, 3) := by decide +kernel
theorem dX5_on_8 : decode cX5_on 8 = .ok (.iload_n 2, 1) := by decide +kernel
theorem dX5_on_9 : decode cX5_on 9 = .ok (.iconst 0, 1) := by decide +kernel
theorem dX5_on_10 : decode cX5_on 10 = .ok (.bipush 100, 2) := by decide +kernel
theorem dX5_on_12 : decode cX5_on 12 = .ok (.invokestatic 51, 3) := by decide +kernel
theorem dX5_on_15 : decode cX5_on 15 = .ok (.ifCond .eq 12, 3) := by decide +kernel
theorem dX5_on_18 : decode cX5_on 18 = .ok (.iload_n 3, 1) := by decide +kernel
theorem dX5_on_19 : decode cX5_on 19 = .ok (.iconst 0, 1) := by decide +kernel
theorem dX5_on_20 : decode cX5_on 20 = .ok (.iconst 1, 1) := by decide +kernel
theorem dX5_on_21 : decode cX5_on 21 = .ok (.invokestatic 51, 3) := by decide +kernel
theorem dX5_on_24 : decode cX5_on 24 = .ok (.ifCond .ne 10, 3) := by decide +kernel
theorem dX5_on_27 : decode cX5_on 27 = .ok (.aload_n 0, 1) := by decide +kernel
theorem dX5_on_28 : decode cX5_on 28 = .ok (.ldc 50, 2) := by decide +kernel
theorem dX5_on_30 : decode cX5_on 30 = .ok (.invokevirtual 67, 3) := by decide +kernel
theorem dX5_on_33 : decode cX5_on 33 = .ok (.ireturn, 1) := by decide +kernel
theorem dX5_on_34 : decode cX5_on 34 = .ok (.aload_n 0, 1) := by decide +kernel
theorem dX5_on_35 : decode cX5_on 35 = .ok (.iconst 1, 1) := by decide +kernel
theorem dX5_on_36 : decode cX5_on 36 = .ok (.aload_n 0, 1) := by decide +kernel
theorem dX5_on_37 : decode cX5_on 37 = .ok (.getfield 22, 3) := by decide +kernel
theorem dX5_on_40 : decode cX5_on 40 = .ok (.invokevirtual 156, 3) := by decide +kernel
theorem dX5_on_43 : decode cX5_on 43 = .ok (.aload_n 0, 1) := by decide +kernel
theorem dX5_on_44 : decode cX5_on 44 = .ok (.iload_n 2, 1) := by decide +kernel
theorem dX5_on_45 : decode cX5_on 45 = .ok (.invokevirtual 152, 3) := by decide +kernel
theorem dX5_on_48 : decode cX5_on 48 = .ok (.aload_n 0, 1) := by decide +kernel
theorem dX5_on_49 : decode cX5_on 49 = .ok (.iload_n 1, 1) := by decide +kernel
theorem dX5_on_50 : decode cX5_on 50 = .ok (.iconst 4, 1) := by decide +kernel
theorem dX5_on_51 : decode cX5_on 51 = .ok (.iload_n 3, 1) := by decide +kernel
theorem dX5_on_52 : decode cX5_on 52 = .ok (.iadd, 1) := by decide +kernel
theorem dX5_on_53 : decode cX5_on 53 = .ok (.invokevirtual 55, 3) := by decide +kernel
theorem dX5_on_56 : decode cX5_on 56 = .ok (.istore 4, 2) := by decide +kernel
theorem dX5_on_58 : decode cX5_on 58 = .ok (.aload_n 0, 1) := by decide +kernel
theorem dX5_on_59 : decode cX5_on 59 = .ok (.iconst 0, 1) := by decide +kernel
theorem dX5_on_60 : decode cX5_on 60 = .ok (.aload_n 0, 1) := by decide +kernel
theorem dX5_on_61 : decode cX5_on 61 = .ok (.getfield 22, 3) := by decide +kernel
theorem dX5_on_64 : decode cX5_on 64 = .ok (.invokevirtual 156, 3) := by decide +kernel
theorem dX5_on_67 : decode cX5_on 67 = .ok (.iload 4, 2) := by decide +kernel
theorem dX5_on_69 : decode cX5_on 69 = .ok (.ireturn, 1) := by decide +kernel
theorem dX5_isKnown_0 : decode cX5_isKnown 0 = .ok (.aload_n 0, 1) := by decide +kernel
theorem dX5_isKnown_1 : decode cX5_isKnown 1 = .ok (.iload_n 1, 1) := by decide +kernel
theorem dX5_isKnown_2 : decode cX5_isKnown 2 = .ok (.iconst 4, 1) := by decide +kernel
theorem dX5_isKnown_3 : decode cX5_isKnown 3 = .ok (.invokevirtual 55, 3) := by decide +kernel
theorem dX5_isKnown_6 : decode cX5_isKnown 6 = .ok (.iload_n 2, 1) := by decide +kernel
theorem dX5_isKnown_7 : decode cX5_isKnown 7 = .ok (.ishr, 1) := by decide +kernel
theorem dX5_isKnown_8 : decode cX5_isKnown 8 = .ok (.iconst 1, 1) := by decide +kernel
theorem dX5_isKnown_9 : decode cX5_isKnown 9 = .ok (.iand, 1) := by decide +kernel
theorem dX5_isKnown_10 : decode cX5_isKnown 10 = .ok (.iconst 1, 1) := by decide +kernel
theorem dX5_isKnown_11 : decode cX5_isKnown 11 = .ok (.if_icmp .ne 7, 3) := by decide +kernel
theorem dX5_isKnown_14 : decode cX5_isKnown 14 = .ok (.iconst 1, 1) := by decide +kernel
theorem dX5_isKnown_15 : decode cX5_isKnown 15 = .ok (.goto 4, 3) := by decide +kernel
theorem dX5_isKnown_18 : decode cX5_isKnown 18 = .ok (.iconst 0, 1) := by decide +kernel
theorem dX5_isKnown_19 : decode cX5_isKnown 19 = .ok (.ireturn, 1) := by decide +kernel
theorem dX5_learns_0 : decode cX5_learns 0 = .ok (.aload_n 0, 1) := by decide +kernel
theorem dX5_learns_1 : decode cX5_learns 1 = .ok (.iload_n 1, 1) := by decide +kernel
theorem dX5_learns_2 : decode cX5_learns 2 = .ok (.invokevirtual 124, 3) := by decide +kernel
theorem dX5_learns_5 : decode cX5_learns 5 = .ok (.ifCond .eq 10, 3) := by decide +kernel
theorem dX5_learns_8 : decode cX5_learns 8 = .ok (.iload_n 2, 1) := by decide +kernel
theorem dX5_learns_9 : decode cX5_learns 9 = .ok (.invokestatic 115, 3) := by decide +kernel
theorem dX5_learns_12 : decode cX5_learns 12 = .ok (.ifCond .ne 10, 3) := by decide +kernel
theorem dX5_learns_15 : decode cX5_learns 15 = .ok (.aload_n 0, 1) := by decide +kernel
theorem dX5_learns_16 : decode cX5_learns 16 = .ok (.ldc 50, 2) := by decide +kernel
theorem dX5_learns_18 : decode cX5_learns 18 = .ok (.invokevirtual 67, 3) := by decide +kernel
theorem dX5_learns_21 : decode cX5_learns 21 = .ok (.ireturn, 1) := by decide +kernel
theorem dX5_learns_22 : decode cX5_learns 22 = .ok (.aload_n 0, 1) := by decide +kernel
theorem dX5_learns_23 : decode cX5_learns 23 = .ok (.iconst 1, 1) := by decide +kernel
theorem dX5_learns_24 : decode cX5_learns 24 = .ok (.aload_n 0, 1) := by decide +kernel
theorem dX5_learns_25 : decode cX5_learns 25 = .ok (.getfield 22, 3) := by decide +kernel
theorem dX5_learns_28 : decode cX5_learns 28 = .ok (.invokevirtual 156, 3) := by decide +kernel
theorem dX5_learns_31 : decode cX5_learns 31 = .ok (.iconst 0, 1) := by decide +kernel
theorem dX5_learns_32 : decode cX5_learns 32 = .ok (.istore_n 3, 1) := by decide +kernel
theorem dX5_learns_33 : decode cX5_learns 33 = .ok (.iload_n 3, 1) := by decide +kernel
theorem dX5_learns_34 : decode cX5_learns 34 = .ok (.bipush 100, 2) := by decide +kernel
theorem dX5_learns_36 : decode cX5_learns 36 = .ok (.if_icmp .gt 22, 3) := by decide +kernel
theorem dX5_learns_39 : decode cX5_learns 39 = .ok (.aload_n 0, 1) := by decide +kernel
theorem dX5_learns_40 : decode cX5_learns 40 = .ok (.iload_n 1, 1) := by decide +kernel
theorem dX5_learns_41 : decode cX5_learns 41 = .ok (.iload_n 2, 1) := by decide +kernel
theorem dX5_learns_42 : decode cX5_learns 42 = .ok (.invokevirtual 160, 3) := by decide +kernel
theorem dX5_learns_45 : decode cX5_learns 45 = .ok (.ifCond .ne 13, 3) := by decide +kernel
theorem dX5_learns_48 : decode cX5_learns 48 = .ok (.aload_n 0, 1) := by decide +kernel
theorem dX5_learns_49 : decode cX5_learns 49 = .ok (.invokevirtual 148, 3) := by decide +kernel
theorem dX5_learns_52 : decode cX5_learns 52 = .ok (.iinc 3 1, 3) := by decide +kernel
theorem dX5_learns_55 : decode cX5_learns 55 = .ok (.goto (-22), 3) := by decide +kernel
theorem dX5_learns_58 : decode cX5_learns 58 = .ok (.aload_n 0, 1) := by decide +kernel
theorem dX5_learns_59 : decode cX5_learns 59 = .ok (.iconst 0, 1) := by decide +kernel
theorem dX5_learns_60 : decode cX5_learns 60 = .ok (.aload_n 0, 1) := by decide +kernel
theorem dX5_learns_61 : decode cX5_learns 61 = .ok (.getfield 22, 3) := by decide +kernel
theorem dX5_learns_64 : decode cX5_learns 64 = .ok (.invokevirtual 156, 3) := by decide +kernel
theorem dX5_learns_67 : decode cX5_learns 67 = .ok (.iload_n 3, 1) := by decide +kernel
theorem dX5_learns_68 : decode cX5_learns 68 = .ok (.bipush 100, 2) := by decide +kernel
theorem dX5_learns_70 : decode cX5_learns 70 = .ok (.if_icmp .le 12, 3) := by decide +kernel
theorem dX5_learns_73 : decode cX5_learns 73 = .ok (.aload_n 0, 1) := by decide +kernel
theorem dX5_learns_74 : decode cX5_learns 74 = .ok (.ldc 92, 2) := by decide +kernel
theorem dX5_learns_76 : decode cX5_learns 76 = .ok (.invokevirtual 67, 3) := by decide +kernel
theorem dX5_learns_79 : decode cX5_learns 79 = .ok (.goto 4, 3) := by decide +kernel
theorem dX5_learns_82 : decode cX5_learns 82 = .ok (.iload_n 3, 1) := by decide +kernel
theorem dX5_learns_83 : decode cX5_learns 83 = .ok (.ireturn, 1) := by decide +kernel
theorem dX5_isSpread_0 : decode cX5_isSpread 0 = .ok (.iconst 1, 1) := by decide +kernel
theorem dX5_isSpread_1 : decode cX5_isSpread 1 = .ok (.istore_n 2, 1) := by decide +kernel
theorem dX5_isSpread_2 : decode cX5_isSpread 2 = .ok (.iconst 0, 1) := by decide +kernel
theorem dX5_isSpread_3 : decode cX5_isSpread 3 = .ok (.istore_n 3, 1) := by decide +kernel
theorem dX5_isSpread_4 : decode cX5_isSpread 4 = .ok (.iload_n 3, 1) := by decide +kernel
theorem dX5_isSpread_5 : decode cX5_isSpread 5 = .ok (.aload_n 0, 1) := by decide +kernel
theorem dX5_isSpread_6 : decode cX5_isSpread 6 = .ok (.getfield 7, 3) := by decide +kernel
theorem dX5_isSpread_9 : decode cX5_isSpread 9 = .ok (.iconst 1, 1) := by decide +kernel
theorem dX5_isSpread_10 : decode cX5_isSpread 10 = .ok (.iaload, 1) := by decide +kernel
theorem dX5_isSpread_11 : decode cX5_isSpread 11 = .ok (.if_icmp .ge 48, 3) := by decide +kernel
theorem dX5_isSpread_14 : decode cX5_isSpread 14 = .ok (.iload_n 2, 1) := by decide +kernel
theorem dX5_isSpread_15 : decode cX5_isSpread 15 = .ok (.ifCond .eq 36, 3) := by decide +kernel
theorem dX5_isSpread_18 : decode cX5_isSpread 18 = .ok (.aload_n 0, 1) := by decide +kernel
theorem dX5_isSpread_19 : decode cX5_isSpread 19 = .ok (.iload_n 3, 1) := by decide +kernel
theorem dX5_isSpread_20 : decode cX5_isSpread 20 = .ok (.iconst 0, 1) := by decide +kernel
theorem dX5_isSpread_21 : decode cX5_isSpread 21 = .ok (.invokevirtual 55, 3) := by decide +kernel
theorem dX5_isSpread_24 : decode cX5_isSpread 24 = .ok (.iconst 3, 1) := by decide +kernel
theorem dX5_isSpread_25 : decode cX5_isSpread 25 = .ok (.if_icmp .eq 22, 3) := by decide +kernel
theorem dX5_isSpread_28 : decode cX5_isSpread 28 = .ok (.aload_n 0, 1) := by decide +kernel
theorem dX5_isSpread_29 : decode cX5_isSpread 29 = .ok (.iload_n 3, 1) := by decide +kernel
theorem dX5_isSpread_30 : decode cX5_isSpread 30 = .ok (.iconst 2, 1) := by decide +kernel
theorem dX5_isSpread_31 : decode cX5_isSpread 31 = .ok (.invokevirtual 55, 3) := by decide +kernel
theorem dX5_isSpread_34 : decode cX5_isSpread 34 = .ok (.iload_n 1, 1) := by decide +kernel
theorem dX5_isSpread_35 : decode cX5_isSpread 35 = .ok (.if_icmp .eq 12, 3) := by decide +kernel
theorem dX5_isSpread_38 : decode cX5_isSpread 38 = .ok (.aload_n 0, 1) := by decide +kernel
theorem dX5_isSpread_39 : decode cX5_isSpread 39 = .ok (.iload_n 3, 1) := by decide +kernel
theorem dX5_isSpread_40 : decode cX5_isSpread 40 = .ok (.iload_n 1, 1) := by decide +kernel
theorem dX5_isSpread_41 : decode cX5_isSpread 41 = .ok (.invokevirtual 160, 3) := by decide +kernel
theorem dX5_isSpread_44 : decode cX5_isSpread 44 = .ok (.ifCond .eq 7, 3) := by decide +kernel
theorem dX5_isSpread_47 : decode cX5_isSpread 47 = .ok (.iconst 1, 1) := by decide +kernel
theorem dX5_isSpread_48 : decode cX5_isSpread 48 = .ok (.goto 4, 3) := by decide +kernel
theorem dX5_isSpread_51 : decode cX5_isSpread 51 = .ok (.iconst 0, 1) := by decide +kernel
theorem dX5_isSpread_52 : decode cX5_isSpread 52 = .ok (.istore_n 2, 1) := by decide +kernel
theorem dX5_isSpread_53 : decode cX5_isSpread 53 = .ok (.iinc 3 1, 3) := by decide +kernel
theorem dX5_isSpread_56 : decode cX5_isSpread 56 = .ok (.goto (-52), 3) := by decide +kernel
theorem dX5_isSpread_59 : decode cX5_isSpread 59 = .ok (.iload_n 2, 1) := by decide +kernel
theorem dX5_isSpread_60 : decode cX5_isSpread 60 = .ok (.ireturn, 1) := by decide +kernel
theorem dX5_spreads_0 : decode cX5_spreads 0 = .ok (.iload_n 1, 1) := by decide +kernel
theorem dX5_spreads_1 : decode cX5_spreads 1 = .ok (.invokestatic 115, 3) := by decide +kernel
theorem dX5_spreads_4 : decode cX5_spreads 4 = .ok (.ifCond .ne 10, 3) := by decide +kernel
theorem dX5_spreads_7 : decode cX5_spreads 7 = .ok (.aload_n 0, 1) := by decide +kernel
theorem dX5_spreads_8 : decode cX5_spreads 8 = .ok (.ldc 50, 2) := by decide +kernel
theorem dX5_spreads_10 : decode cX5_spreads 10 = .ok (.invokevirtual 67, 3) := by decide +kernel
theorem dX5_spreads_13 : decode cX5_spreads 13 = .ok (.ireturn, 1) := by decide +kernel
theorem dX5_spreads_14 : decode cX5_spreads 14 = .ok (.aload_n 0, 1) := by decide +kernel
theorem dX5_spreads_15 : decode cX5_spreads 15 = .ok (.iconst 1, 1) := by decide +kernel
theorem dX5_spreads_16 : decode cX5_spreads 16 = .ok (.aload_n 0, 1) := by decide +kernel
theorem dX5_spreads_17 : decode cX5_spreads 17 = .ok (.getfield 22, 3) := by decide +kernel
theorem dX5_spreads_20 : decode cX5_spreads 20 = .ok (.invokevirtual 156, 3) := by decide +kernel
theorem dX5_spreads_23 : decode cX5_spreads 23 = .ok (.iconst 0, 1) := by decide +kernel
theorem dX5_spreads_24 : decode cX5_spreads 24 = .ok (.istore_n 2, 1) := by decide +kernel
theorem dX5_spreads_25 : decode cX5_spreads 25 = .ok (.iload_n 2, 1) := by decide +kernel
theorem dX5_spreads_26 : decode cX5_spreads 26 = .ok (.bipush 100, 2) := by decide +kernel
theorem dX5_spreads_28 : decode cX5_spreads 28 = .ok (.if_icmp .gt 21, 3) := by decide +kernel
theorem dX5_spreads_31 : decode cX5_spreads 31 = .ok (.aload_n 0, 1) := by decide +kernel
theorem dX5_spreads_32 : decode cX5_spreads 32 = .ok (.iload_n 1, 1) := by decide +kernel
theorem dX5_spreads_33 : decode cX5_spreads 33 = .ok (.invokevirtual 163, 3) := by decide +kernel
theorem dX5_spreads_36 : decode cX5_spreads 36 = .ok (.ifCond .ne 13, 3) := by decide +kernel
theorem dX5_spreads_39 : decode cX5_spreads 39 = .ok (.aload_n 0, 1) := by decide +kernel
theorem dX5_spreads_40 : decode cX5_spreads 40 = .ok (.invokevirtual 148, 3) := by decide +kernel
theorem dX5_spreads_43 : decode cX5_spreads 43 = .ok (.iinc 2 1, 3) := by decide +kernel
theorem dX5_spreads_46 : decode cX5_spreads 46 = .ok (.goto (-21), 3) := by decide +kernel
theorem dX5_spreads_49 : decode cX5_spreads 49 = .ok (.aload_n 0, 1) := by decide +kernel
theorem dX5_spreads_50 : decode cX5_spreads 50 = .ok (.iconst 0, 1) := by decide +kernel
theorem dX5_spreads_51 : decode cX5_spreads 51 = .ok (.aload_n 0, 1) := by decide +kernel
theorem dX5_spreads_52 : decode cX5_spreads 52 = .ok (.getfield 22, 3) := by decide +kernel
theorem dX5_spreads_55 : decode cX5_spreads 55 = .ok (.invokevirtual 156, 3) := by decide +kernel
theorem dX5_spreads_58 : decode cX5_spreads 58 = .ok (.iload_n 2, 1) := by decide +kernel
theorem dX5_spreads_59 : decode cX5_spreads 59 = .ok (.bipush 100, 2) := by decide +kernel
theorem dX5_spreads_61 : decode cX5_spreads 61 = .ok (.if_icmp .le 12, 3) := by decide +kernel
theorem dX5_spreads_64 : decode cX5_spreads 64 = .ok (.aload_n 0, 1) := by decide +kernel
theorem dX5_spreads_65 : decode cX5_spreads 65 = .ok (.ldc 92, 2) := by decide +kernel
theorem dX5_spreads_67 : decode cX5_spreads 67 = .ok (.invokevirtual 67, 3) := by decide +kernel
theorem dX5_spreads_70 : decode cX5_spreads 70 = .ok (.goto 4, 3) := by decide +kernel
theorem dX5_spreads_73 : decode cX5_spreads 73 = .ok (.iload_n 2, 1) := by decide +kernel
theorem dX5_spreads_74 : decode cX5_spreads 74 = .ok (.ireturn, 1) := by decide +kernel
theorem dX5_isHeresy_0 : decode cX5_isHeresy 0 = .ok (.iconst 0, 1) := by decide +kernel
theorem dX5_isHeresy_1 : decode cX5_isHeresy 1 = .ok (.istore_n 1, 1) := by decide +kernel
theorem dX5_isHeresy_2 : decode cX5_isHeresy 2 = .ok (.iconst 0, 1) := by decide +kernel
theorem dX5_isHeresy_3 : decode cX5_isHeresy 3 = .ok (.istore_n 2, 1) := by decide +kernel
theorem dX5_isHeresy_4 : decode cX5_isHeresy 4 = .ok (.iload_n 2, 1) := by decide +kernel
theorem dX5_isHeresy_5 : decode cX5_isHeresy 5 = .ok (.aload_n 0, 1) := by decide +kernel
theorem dX5_isHeresy_6 : decode cX5_isHeresy 6 = .ok (.getfield 7, 3) := by decide +kernel
theorem dX5_isHeresy_9 : decode cX5_isHeresy 9 = .ok (.iconst 1, 1) := by decide +kernel
theorem dX5_isHeresy_10 : decode cX5_isHeresy 10 = .ok (.iaload, 1) := by decide +kernel
theorem dX5_isHeresy_11 : decode cX5_isHeresy 11 = .ok (.if_icmp .ge 33, 3) := by decide +kernel
theorem dX5_isHeresy_14 : decode cX5_isHeresy 14 = .ok (.iload_n 1, 1) := by decide +kernel
theorem dX5_isHeresy_15 : decode cX5_isHeresy 15 = .ok (.ifCond .ne 17, 3) := by decide +kernel
theorem dX5_isHeresy_18 : decode cX5_isHeresy 18 = .ok (.aload_n 0, 1) := by decide +kernel
theorem dX5_isHeresy_19 : decode cX5_isHeresy 19 = .ok (.iload_n 2, 1) := by decide +kernel
theorem dX5_isHeresy_20 : decode cX5_isHeresy 20 = .ok (.aload_n 0, 1) := by decide +kernel
theorem dX5_isHeresy_21 : decode cX5_isHeresy 21 = .ok (.iload_n 2, 1) := by decide +kernel
theorem dX5_isHeresy_22 : decode cX5_isHeresy 22 = .ok (.iconst 2, 1) := by decide +kernel
theorem dX5_isHeresy_23 : decode cX5_isHeresy 23 = .ok (.invokevirtual 55, 3) := by decide +kernel
theorem dX5_isHeresy_26 : decode cX5_isHeresy 26 = .ok (.invokevirtual 160, 3) := by decide +kernel
theorem dX5_isHeresy_29 : decode cX5_isHeresy 29 = .ok (.ifCond .eq 7, 3) := by decide +kernel
theorem dX5_isHeresy_32 : decode cX5_isHeresy 32 = .ok (.iconst 1, 1) := by decide +kernel
theorem dX5_isHeresy_33 : decode cX5_isHeresy 33 = .ok (.goto 4, 3) := by decide +kernel
theorem dX5_isHeresy_36 : decode cX5_isHeresy 36 = .ok (.iconst 0, 1) := by decide +kernel
theorem dX5_isHeresy_37 : decode cX5_isHeresy 37 = .ok (.istore_n 1, 1) := by decide +kernel
theorem dX5_isHeresy_38 : decode cX5_isHeresy 38 = .ok (.iinc 2 1, 3) := by decide +kernel
theorem dX5_isHeresy_41 : decode cX5_isHeresy 41 = .ok (.goto (-37), 3) := by decide +kernel
theorem dX5_isHeresy_44 : decode cX5_isHeresy 44 = .ok (.iload_n 1, 1) := by decide +kernel
theorem dX5_isHeresy_45 : decode cX5_isHeresy 45 = .ok (.ireturn, 1) := by decide +kernel
theorem dX5_heresy_0 : decode cX5_heresy 0 = .ok (.aload_n 0, 1) := by decide +kernel
theorem dX5_heresy_1 : decode cX5_heresy 1 = .ok (.iconst 1, 1) := by decide +kernel
theorem dX5_heresy_2 : decode cX5_heresy 2 = .ok (.aload_n 0, 1) := by decide +kernel
theorem dX5_heresy_3 : decode cX5_heresy 3 = .ok (.getfield 22, 3) := by decide +kernel
theorem dX5_heresy_6 : decode cX5_heresy 6 = .ok (.invokevirtual 156, 3) := by decide +kernel
theorem dX5_heresy_9 : decode cX5_heresy 9 = .ok (.iconst 0, 1) := by decide +kernel
