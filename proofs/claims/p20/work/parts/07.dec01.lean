theorem d_FR_lacks_5 : decode b_FR_lacks 5 = .ok (.aload_n 0, 1) := by decide +kernel
theorem d_FR_lacks_6 : decode b_FR_lacks 6 = .ok (.getfield 53, 3) := by decide +kernel
theorem d_FR_lacks_9 : decode b_FR_lacks 9 = .ok (.if_icmp .ge 12, 3) := by decide +kernel
theorem d_FR_lacks_12 : decode b_FR_lacks 12 = .ok (.aload_n 0, 1) := by decide +kernel
theorem d_FR_lacks_13 : decode b_FR_lacks 13 = .ok (.getfield 50, 3) := by decide +kernel
theorem d_FR_lacks_16 : decode b_FR_lacks 16 = .ok (.iload_n 1, 1) := by decide +kernel
theorem d_FR_lacks_17 : decode b_FR_lacks 17 = .ok (.iaload, 1) := by decide +kernel
theorem d_FR_lacks_18 : decode b_FR_lacks 18 = .ok (.goto 4, 3) := by decide +kernel
theorem d_FR_lacks_21 : decode b_FR_lacks 21 = .ok (.iconst (-1), 1) := by decide +kernel
theorem d_FR_lacks_22 : decode b_FR_lacks 22 = .ok (.ireturn, 1) := by decide +kernel
theorem d_FR_sent_0 : decode b_FR_sent 0 = .ok (.iload_n 1, 1) := by decide +kernel
theorem d_FR_sent_1 : decode b_FR_sent 1 = .ok (.invokestatic 84, 3) := by decide +kernel
theorem d_FR_sent_4 : decode b_FR_sent 4 = .ok (.ifCond .eq 12, 3) := by decide +kernel
theorem d_FR_sent_7 : decode b_FR_sent 7 = .ok (.aload_n 0, 1) := by decide +kernel
theorem d_FR_sent_8 : decode b_FR_sent 8 = .ok (.getfield 13, 3) := by decide +kernel
theorem d_FR_sent_11 : decode b_FR_sent 11 = .ok (.iload_n 1, 1) := by decide +kernel
theorem d_FR_sent_12 : decode b_FR_sent 12 = .ok (.iaload, 1) := by decide +kernel
theorem d_FR_sent_13 : decode b_FR_sent 13 = .ok (.goto 4, 3) := by decide +kernel
theorem d_FR_sent_16 : decode b_FR_sent 16 = .ok (.iconst 0, 1) := by decide +kernel
theorem d_FR_sent_17 : decode b_FR_sent 17 = .ok (.ireturn, 1) := by decide +kernel
theorem d_FR_unpack_0 : decode b_FR_unpack 0 = .ok (.aload_n 0, 1) := by decide +kernel
theorem d_FR_unpack_1 : decode b_FR_unpack 1 = .ok (.iload_n 1, 1) := by decide +kernel
theorem d_FR_unpack_2 : decode b_FR_unpack 2 = .ok (.invokevirtual 135, 3) := by decide +kernel
theorem d_FR_unpack_5 : decode b_FR_unpack 5 = .ok (.ifCond .eq 25, 3) := by decide +kernel
theorem d_FR_unpack_8 : decode b_FR_unpack 8 = .ok (.aload_n 0, 1) := by decide +kernel
theorem d_FR_unpack_9 : decode b_FR_unpack 9 = .ok (.getfield 29, 3) := by decide +kernel
theorem d_FR_unpack_12 : decode b_FR_unpack 12 = .ok (.iload_n 1, 1) := by decide +kernel
theorem d_FR_unpack_13 : decode b_FR_unpack 13 = .ok (.aaload, 1) := by decide +kernel
theorem d_FR_unpack_14 : decode b_FR_unpack 14 = .ok (.getfield 138, 3) := by decide +kernel
theorem d_FR_unpack_17 : decode b_FR_unpack 17 = .ok (.iconst 3, 1) := by decide +kernel
theorem d_FR_unpack_18 : decode b_FR_unpack 18 = .ok (.if_icmp .ne 12, 3) := by decide +kernel
theorem d_FR_unpack_21 : decode b_FR_unpack 21 = .ok (.iload_n 2, 1) := by decide +kernel
theorem d_FR_unpack_22 : decode b_FR_unpack 22 = .ok (.ifCond .lt 8, 3) := by decide +kernel
theorem d_FR_unpack_25 : decode b_FR_unpack 25 = .ok (.iload_n 2, 1) := by decide +kernel
theorem d_FR_unpack_26 : decode b_FR_unpack 26 = .ok (.iconst 5, 1) := by decide +kernel
theorem d_FR_unpack_27 : decode b_FR_unpack 27 = .ok (.if_icmp .le 7, 3) := by decide +kernel
theorem d_FR_unpack_30 : decode b_FR_unpack 30 = .ok (.sipush (-1000), 3) := by decide +kernel
theorem d_FR_unpack_33 : decode b_FR_unpack 33 = .ok (.ireturn, 1) := by decide +kernel
theorem d_FR_unpack_34 : decode b_FR_unpack 34 = .ok (.aload_n 0, 1) := by decide +kernel
theorem d_FR_unpack_35 : decode b_FR_unpack 35 = .ok (.getfield 29, 3) := by decide +kernel
theorem d_FR_unpack_38 : decode b_FR_unpack 38 = .ok (.iload_n 1, 1) := by decide +kernel
theorem d_FR_unpack_39 : decode b_FR_unpack 39 = .ok (.aaload, 1) := by decide +kernel
theorem d_FR_unpack_40 : decode b_FR_unpack 40 = .ok (.getfield 152, 3) := by decide +kernel
theorem d_FR_unpack_43 : decode b_FR_unpack 43 = .ok (.astore_n 3, 1) := by decide +kernel
theorem d_FR_unpack_44 : decode b_FR_unpack 44 = .ok (.aload_n 3, 1) := by decide +kernel
theorem d_FR_unpack_45 : decode b_FR_unpack 45 = .ok (.invokestatic 198, 3) := by decide +kernel
theorem d_FR_unpack_48 : decode b_FR_unpack 48 = .ok (.istore 4, 2) := by decide +kernel
theorem d_FR_unpack_50 : decode b_FR_unpack 50 = .ok (.iload 4, 2) := by decide +kernel
theorem d_FR_unpack_52 : decode b_FR_unpack 52 = .ok (.iconst (-1), 1) := by decide +kernel
theorem d_FR_unpack_53 : decode b_FR_unpack 53 = .ok (.if_icmp .eq 8, 3) := by decide +kernel
theorem d_FR_unpack_56 : decode b_FR_unpack 56 = .ok (.iconst (-1), 1) := by decide +kernel
theorem d_FR_unpack_57 : decode b_FR_unpack 57 = .ok (.iload 4, 2) := by decide +kernel
theorem d_FR_unpack_59 : decode b_FR_unpack 59 = .ok (.isub, 1) := by decide +kernel
theorem d_FR_unpack_60 : decode b_FR_unpack 60 = .ok (.ireturn, 1) := by decide +kernel
theorem d_FR_unpack_61 : decode b_FR_unpack 61 = .ok (.aload_n 0, 1) := by decide +kernel
theorem d_FR_unpack_62 : decode b_FR_unpack 62 = .ok (.getfield 59, 3) := by decide +kernel
theorem d_FR_unpack_65 : decode b_FR_unpack 65 = .ok (.aload_n 3, 1) := by decide +kernel
theorem d_FR_unpack_66 : decode b_FR_unpack 66 = .ok (.iload_n 2, 1) := by decide +kernel
theorem d_FR_unpack_67 : decode b_FR_unpack 67 = .ok (.invokevirtual 204, 3) := by decide +kernel
theorem d_FR_unpack_70 : decode b_FR_unpack 70 = .ok (.aload_n 0, 1) := by decide +kernel
theorem d_FR_unpack_71 : decode b_FR_unpack 71 = .ok (.getfield 59, 3) := by decide +kernel
theorem d_FR_unpack_74 : decode b_FR_unpack 74 = .ok (.getfield 208, 3) := by decide +kernel
theorem d_FR_unpack_77 : decode b_FR_unpack 77 = .ok (.ireturn, 1) := by decide +kernel
theorem d_FR_file_0 : decode b_FR_file 0 = .ok (.aload_n 0, 1) := by decide +kernel
theorem d_FR_file_1 : decode b_FR_file 1 = .ok (.getfield 59, 3) := by decide +kernel
theorem d_FR_file_4 : decode b_FR_file 4 = .ok (.iload_n 1, 1) := by decide +kernel
theorem d_FR_file_5 : decode b_FR_file 5 = .ok (.invokevirtual 211, 3) := by decide +kernel
theorem d_FR_file_8 : decode b_FR_file 8 = .ok (.ifCond .ne 5, 3) := by decide +kernel
theorem d_FR_file_11 : decode b_FR_file 11 = .ok (.iconst (-1), 1) := by decide +kernel
theorem d_FR_file_12 : decode b_FR_file 12 = .ok (.ireturn, 1) := by decide +kernel
theorem d_FR_file_13 : decode b_FR_file 13 = .ok (.iload_n 2, 1) := by decide +kernel
theorem d_FR_file_14 : decode b_FR_file 14 = .ok (.tableswitch 70 0 3 #[30, 40, 50, 60], 30) := by decide +kernel
theorem d_FR_file_44 : decode b_FR_file 44 = .ok (.aload_n 0, 1) := by decide +kernel
theorem d_FR_file_45 : decode b_FR_file 45 = .ok (.getfield 59, 3) := by decide +kernel
theorem d_FR_file_48 : decode b_FR_file 48 = .ok (.getfield 212, 3) := by decide +kernel
theorem d_FR_file_51 : decode b_FR_file 51 = .ok (.iload_n 1, 1) := by decide +kernel
theorem d_FR_file_52 : decode b_FR_file 52 = .ok (.iaload, 1) := by decide +kernel
theorem d_FR_file_53 : decode b_FR_file 53 = .ok (.ireturn, 1) := by decide +kernel
theorem d_FR_file_54 : decode b_FR_file 54 = .ok (.aload_n 0, 1) := by decide +kernel
theorem d_FR_file_55 : decode b_FR_file 55 = .ok (.getfield 59, 3) := by decide +kernel
theorem d_FR_file_58 : decode b_FR_file 58 = .ok (.getfield 215, 3) := by decide +kernel
theorem d_FR_file_61 : decode b_FR_file 61 = .ok (.iload_n 1, 1) := by decide +kernel
theorem d_FR_file_62 : decode b_FR_file 62 = .ok (.iaload, 1) := by decide +kernel
theorem d_FR_file_63 : decode b_FR_file 63 = .ok (.ireturn, 1) := by decide +kernel
theorem d_FR_file_64 : decode b_FR_file 64 = .ok (.aload_n 0, 1) := by decide +kernel
theorem d_FR_file_65 : decode b_FR_file 65 = .ok (.getfield 59, 3) := by decide +kernel
theorem d_FR_file_68 : decode b_FR_file 68 = .ok (.getfield 218, 3) := by decide +kernel
theorem d_FR_file_71 : decode b_FR_file 71 = .ok (.iload_n 1, 1) := by decide +kernel
theorem d_FR_file_72 : decode b_FR_file 72 = .ok (.iaload, 1) := by decide +kernel
theorem d_FR_file_73 : decode b_FR_file 73 = .ok (.ireturn, 1) := by decide +kernel
theorem d_FR_file_74 : decode b_FR_file 74 = .ok (.aload_n 0, 1) := by decide +kernel
theorem d_FR_file_75 : decode b_FR_file 75 = .ok (.getfield 59, 3) := by decide +kernel
theorem d_FR_file_78 : decode b_FR_file 78 = .ok (.getfield 221, 3) := by decide +kernel
theorem d_FR_file_81 : decode b_FR_file 81 = .ok (.iload_n 1, 1) := by decide +kernel
theorem d_FR_file_82 : decode b_FR_file 82 = .ok (.iaload, 1) := by decide +kernel
theorem d_FR_file_83 : decode b_FR_file 83 = .ok (.ireturn, 1) := by decide +kernel
theorem d_FR_file_84 : decode b_FR_file 84 = .ok (.iconst (-1), 1) := by decide +kernel
theorem d_FR_file_85 : decode b_FR_file 85 = .ok (.ireturn, 1) := by decide +kernel
theorem d_FR_isHost_0 : decode b_FR_isHost 0 = .ok (.iload_n 0, 1) := by decide +kernel
theorem d_FR_isHost_1 : decode b_FR_isHost 1 = .ok (.ifCond .lt 13, 3) := by decide +kernel
theorem d_FR_isHost_4 : decode b_FR_isHost 4 = .ok (.iload_n 0, 1) := by decide +kernel
theorem d_FR_isHost_5 : decode b_FR_isHost 5 = .ok (.bipush 8, 2) := by decide +kernel
theorem d_FR_isHost_7 : decode b_FR_isHost 7 = .ok (.if_icmp .ge 7, 3) := by decide +kernel
theorem d_FR_isHost_10 : decode b_FR_isHost 10 = .ok (.iconst 1, 1) := by decide +kernel
theorem d_FR_isHost_11 : decode b_FR_isHost 11 = .ok (.goto 4, 3) := by decide +kernel
theorem d_FR_isHost_14 : decode b_FR_isHost 14 = .ok (.iconst 0, 1) := by decide +kernel
theorem d_FR_isHost_15 : decode b_FR_isHost 15 = .ok (.ireturn, 1) := by decide +kernel
theorem d_FR_isPlace_0 : decode b_FR_isPlace 0 = .ok (.iload_n 1, 1) := by decide +kernel
theorem d_FR_isPlace_1 : decode b_FR_isPlace 1 = .ok (.ifCond .lt 15, 3) := by decide +kernel
theorem d_FR_isPlace_4 : decode b_FR_isPlace 4 = .ok (.iload_n 1, 1) := by decide +kernel
theorem d_FR_isPlace_5 : decode b_FR_isPlace 5 = .ok (.aload_n 0, 1) := by decide +kernel
theorem d_FR_isPlace_6 : decode b_FR_isPlace 6 = .ok (.getfield 23, 3) := by decide +kernel
theorem d_FR_isPlace_9 : decode b_FR_isPlace 9 = .ok (.if_icmp .ge 7, 3) := by decide +kernel
theorem d_FR_isPlace_12 : decode b_FR_isPlace 12 = .ok (.iconst 1, 1) := by decide +kernel
theorem d_FR_isPlace_13 : decode b_FR_isPlace 13 = .ok (.goto 4, 3) := by decide +kernel
theorem d_FR_isPlace_16 : decode b_FR_isPlace 16 = .ok (.iconst 0, 1) := by decide +kernel
theorem d_FR_isPlace_17 : decode b_FR_isPlace 17 = .ok (.ireturn, 1) := by decide +kernel
theorem d_FR_isWant_0 : decode b_FR_isWant 0 = .ok (.iload_n 1, 1) := by decide +kernel
theorem d_FR_isWant_1 : decode b_FR_isWant 1 = .ok (.ifCond .lt 15, 3) := by decide +kernel
theorem d_FR_isWant_4 : decode b_FR_isWant 4 = .ok (.iload_n 1, 1) := by decide +kernel
theorem d_FR_isWant_5 : decode b_FR_isWant 5 = .ok (.aload_n 0, 1) := by decide +kernel
theorem d_FR_isWant_6 : decode b_FR_isWant 6 = .ok (.getfield 33, 3) := by decide +kernel
theorem d_FR_isWant_9 : decode b_FR_isWant 9 = .ok (.if_icmp .ge 7, 3) := by decide +kernel
theorem d_FR_isWant_12 : decode b_FR_isWant 12 = .ok (.iconst 1, 1) := by decide +kernel
theorem d_FR_isWant_13 : decode b_FR_isWant 13 = .ok (.goto 4, 3) := by decide +kernel
theorem d_FR_isWant_16 : decode b_FR_isWant 16 = .ok (.iconst 0, 1) := by decide +kernel
theorem d_FR_isWant_17 : decode b_FR_isWant 17 = .ok (.ireturn, 1) := by decide +kernel
theorem d_FR_noteLacking_0 : decode b_FR_noteLacking 0 = .ok (.iconst 0, 1) := by decide +kernel
theorem d_FR_noteLacking_1 : decode b_FR_noteLacking 1 = .ok (.istore_n 2, 1) := by decide +kernel
theorem d_FR_noteLacking_2 : decode b_FR_noteLacking 2 = .ok (.iload_n 2, 1) := by decide +kernel
theorem d_FR_noteLacking_3 : decode b_FR_noteLacking 3 = .ok (.aload_n 0, 1) := by decide +kernel
theorem d_FR_noteLacking_4 : decode b_FR_noteLacking 4 = .ok (.getfield 53, 3) := by decide +kernel
theorem d_FR_noteLacking_7 : decode b_FR_noteLacking 7 = .ok (.if_icmp .ge 20, 3) := by decide +kernel
theorem d_FR_noteLacking_10 : decode b_FR_noteLacking 10 = .ok (.aload_n 0, 1) := by decide +kernel
theorem d_FR_noteLacking_11 : decode b_FR_noteLacking 11 = .ok (.getfield 50, 3) := by decide +kernel
theorem d_FR_noteLacking_14 : decode b_FR_noteLacking 14 = .ok (.iload_n 2, 1) := by decide +kernel
theorem d_FR_noteLacking_15 : decode b_FR_noteLacking 15 = .ok (.iaload, 1) := by decide +kernel
theorem d_FR_noteLacking_16 : decode b_FR_noteLacking 16 = .ok (.iload_n 1, 1) := by decide +kernel
theorem d_FR_noteLacking_17 : decode b_FR_noteLacking 17 = .ok (.if_icmp .ne 4, 3) := by decide +kernel
theorem d_FR_noteLacking_20 : decode b_FR_noteLacking 20 = .ok (.return_, 1) := by decide +kernel
theorem d_FR_noteLacking_21 : decode b_FR_noteLacking 21 = .ok (.iinc 2 1, 3) := by decide +kernel
theorem d_FR_noteLacking_24 : decode b_FR_noteLacking 24 = .ok (.goto (-22), 3) := by decide +kernel
theorem d_FR_noteLacking_27 : decode b_FR_noteLacking 27 = .ok (.aload_n 0, 1) := by decide +kernel
theorem d_FR_noteLacking_28 : decode b_FR_noteLacking 28 = .ok (.getfield 53, 3) := by decide +kernel
theorem d_FR_noteLacking_31 : decode b_FR_noteLacking 31 = .ok (.bipush 10, 2) := by decide +kernel
theorem d_FR_noteLacking_33 : decode b_FR_noteLacking 33 = .ok (.if_icmp .ge 20, 3) := by decide +kernel
theorem d_FR_noteLacking_36 : decode b_FR_noteLacking 36 = .ok (.aload_n 0, 1) := by decide +kernel
theorem d_FR_noteLacking_37 : decode b_FR_noteLacking 37 = .ok (.getfield 50, 3) := by decide +kernel
theorem d_FR_noteLacking_40 : decode b_FR_noteLacking 40 = .ok (.aload_n 0, 1) := by decide +kernel
theorem d_FR_noteLacking_41 : decode b_FR_noteLacking 41 = .ok (.dup, 1) := by decide +kernel
theorem d_FR_noteLacking_42 : decode b_FR_noteLacking 42 = .ok (.getfield 53, 3) := by decide +kernel
theorem d_FR_noteLacking_45 : decode b_FR_noteLacking 45 = .ok (.dup_x1, 1) := by decide +kernel
theorem d_FR_noteLacking_46 : decode b_FR_noteLacking 46 = .ok (.iconst 1, 1) := by decide +kernel
theorem d_FR_noteLacking_47 : decode b_FR_noteLacking 47 = .ok (.iadd, 1) := by decide +kernel
theorem d_FR_noteLacking_48 : decode b_FR_noteLacking 48 = .ok (.putfield 53, 3) := by decide +kernel
theorem d_FR_noteLacking_51 : decode b_FR_noteLacking 51 = .ok (.iload_n 1, 1) := by decide +kernel
theorem d_FR_noteLacking_52 : decode b_FR_noteLacking 52 = .ok (.iastore, 1) := by decide +kernel
theorem d_FR_noteLacking_53 : decode b_FR_noteLacking 53 = .ok (.return_, 1) := by decide +kernel
theorem d_FR_countBusy_0 : decode b_FR_countBusy 0 = .ok (.iconst 0, 1) := by decide +kernel
theorem d_FR_countBusy_1 : decode b_FR_countBusy 1 = .ok (.istore_n 1, 1) := by decide +kernel
theorem d_FR_countBusy_2 : decode b_FR_countBusy 2 = .ok (.iconst 0, 1) := by decide +kernel
theorem d_FR_countBusy_3 : decode b_FR_countBusy 3 = .ok (.istore_n 2, 1) := by decide +kernel
theorem d_FR_countBusy_4 : decode b_FR_countBusy 4 = .ok (.iload_n 2, 1) := by decide +kernel
theorem d_FR_countBusy_5 : decode b_FR_countBusy 5 = .ok (.aload_n 0, 1) := by decide +kernel
theorem d_FR_countBusy_6 : decode b_FR_countBusy 6 = .ok (.getfield 33, 3) := by decide +kernel
theorem d_FR_countBusy_9 : decode b_FR_countBusy 9 = .ok (.if_icmp .ge 24, 3) := by decide +kernel
theorem d_FR_countBusy_12 : decode b_FR_countBusy 12 = .ok (.aload_n 0, 1) := by decide +kernel
theorem d_FR_countBusy_13 : decode b_FR_countBusy 13 = .ok (.getfield 29, 3) := by decide +kernel
theorem d_FR_countBusy_16 : decode b_FR_countBusy 16 = .ok (.iload_n 2, 1) := by decide +kernel
theorem d_FR_countBusy_17 : decode b_FR_countBusy 17 = .ok (.aaload, 1) := by decide +kernel
theorem d_FR_countBusy_18 : decode b_FR_countBusy 18 = .ok (.invokevirtual 144, 3) := by decide +kernel
theorem d_FR_countBusy_21 : decode b_FR_countBusy 21 = .ok (.ifCond .eq 6, 3) := by decide +kernel
theorem d_FR_countBusy_24 : decode b_FR_countBusy 24 = .ok (.iinc 1 1, 3) := by decide +kernel
theorem d_FR_countBusy_27 : decode b_FR_countBusy 27 = .ok (.iinc 2 1, 3) := by decide +kernel
theorem d_FR_countBusy_30 : decode b_FR_countBusy 30 = .ok (.goto (-26), 3) := by decide +kernel
theorem d_FR_countBusy_33 : decode b_FR_countBusy 33 = .ok (.iload_n 1, 1) := by decide +kernel
theorem d_FR_countBusy_34 : decode b_FR_countBusy 34 = .ok (.ireturn, 1) := by decide +kernel
theorem d_FR_moveClock_0 : decode b_FR_moveClock 0 = .ok (.aload_n 0, 1) := by decide +kernel
theorem d_FR_moveClock_1 : decode b_FR_moveClock 1 = .ok (.dup, 1) := by decide +kernel
theorem d_FR_moveClock_2 : decode b_FR_moveClock 2 = .ok (.getfield 67, 3) := by decide +kernel
theorem d_FR_moveClock_5 : decode b_FR_moveClock 5 = .ok (.iconst 1, 1) := by decide +kernel
theorem d_FR_moveClock_6 : decode b_FR_moveClock 6 = .ok (.iadd, 1) := by decide +kernel
theorem d_FR_moveClock_7 : decode b_FR_moveClock 7 = .ok (.putfield 67, 3) := by decide +kernel
theorem d_FR_moveClock_10 : decode b_FR_moveClock 10 = .ok (.iconst 0, 1) := by decide +kernel
theorem d_FR_moveClock_11 : decode b_FR_moveClock 11 = .ok (.istore_n 1, 1) := by decide +kernel
theorem d_FR_moveClock_12 : decode b_FR_moveClock 12 = .ok (.iload_n 1, 1) := by decide +kernel
theorem d_FR_moveClock_13 : decode b_FR_moveClock 13 = .ok (.aload_n 0, 1) := by decide +kernel
theorem d_FR_moveClock_14 : decode b_FR_moveClock 14 = .ok (.getfield 33, 3) := by decide +kernel
theorem d_FR_moveClock_17 : decode b_FR_moveClock 17 = .ok (.if_icmp .ge 53, 3) := by decide +kernel
theorem d_FR_moveClock_20 : decode b_FR_moveClock 20 = .ok (.aload_n 0, 1) := by decide +kernel
theorem d_FR_moveClock_21 : decode b_FR_moveClock 21 = .ok (.getfield 29, 3) := by decide +kernel
theorem d_FR_moveClock_24 : decode b_FR_moveClock 24 = .ok (.iload_n 1, 1) := by decide +kernel
theorem d_FR_moveClock_25 : decode b_FR_moveClock 25 = .ok (.aaload, 1) := by decide +kernel
theorem d_FR_moveClock_26 : decode b_FR_moveClock 26 = .ok (.astore_n 2, 1) := by decide +kernel
theorem d_FR_moveClock_27 : decode b_FR_moveClock 27 = .ok (.aload_n 2, 1) := by decide +kernel
theorem d_FR_moveClock_28 : decode b_FR_moveClock 28 = .ok (.getfield 138, 3) := by decide +kernel
theorem d_FR_moveClock_31 : decode b_FR_moveClock 31 = .ok (.iconst 2, 1) := by decide +kernel
theorem d_FR_moveClock_32 : decode b_FR_moveClock 32 = .ok (.if_icmp .ne 19, 3) := by decide +kernel
theorem d_FR_moveClock_35 : decode b_FR_moveClock 35 = .ok (.aload_n 2, 1) := by decide +kernel
theorem d_FR_moveClock_36 : decode b_FR_moveClock 36 = .ok (.getfield 177, 3) := by decide +kernel
theorem d_FR_moveClock_39 : decode b_FR_moveClock 39 = .ok (.aload_n 0, 1) := by decide +kernel
theorem d_FR_moveClock_40 : decode b_FR_moveClock 40 = .ok (.getfield 67, 3) := by decide +kernel
theorem d_FR_moveClock_43 : decode b_FR_moveClock 43 = .ok (.if_icmp .gt 8, 3) := by decide +kernel
theorem d_FR_moveClock_46 : decode b_FR_moveClock 46 = .ok (.aload_n 2, 1) := by decide +kernel
theorem d_FR_moveClock_47 : decode b_FR_moveClock 47 = .ok (.iconst 1, 1) := by decide +kernel
theorem d_FR_moveClock_48 : decode b_FR_moveClock 48 = .ok (.putfield 138, 3) := by decide +kernel
theorem d_FR_moveClock_51 : decode b_FR_moveClock 51 = .ok (.aload_n 2, 1) := by decide +kernel
theorem d_FR_moveClock_52 : decode b_FR_moveClock 52 = .ok (.getfield 138, 3) := by decide +kernel
theorem d_FR_moveClock_55 : decode b_FR_moveClock 55 = .ok (.iconst 1, 1) := by decide +kernel
theorem d_FR_moveClock_56 : decode b_FR_moveClock 56 = .ok (.if_icmp .ne 8, 3) := by decide +kernel
theorem d_FR_moveClock_59 : decode b_FR_moveClock 59 = .ok (.aload_n 0, 1) := by decide +kernel
theorem d_FR_moveClock_60 : decode b_FR_moveClock 60 = .ok (.iload_n 1, 1) := by decide +kernel
theorem d_FR_moveClock_61 : decode b_FR_moveClock 61 = .ok (.invokevirtual 224, 3) := by decide +kernel
theorem d_FR_moveClock_64 : decode b_FR_moveClock 64 = .ok (.iinc 1 1, 3) := by decide +kernel
theorem d_FR_moveClock_67 : decode b_FR_moveClock 67 = .ok (.goto (-55), 3) := by decide +kernel
theorem d_FR_moveClock_70 : decode b_FR_moveClock 70 = .ok (.return_, 1) := by decide +kernel
theorem d_FR_takeTurn_0 : decode b_FR_takeTurn 0 = .ok (.aload_n 0, 1) := by decide +kernel
theorem d_FR_takeTurn_1 : decode b_FR_takeTurn 1 = .ok (.getfield 29, 3) := by decide +kernel
theorem d_FR_takeTurn_4 : decode b_FR_takeTurn 4 = .ok (.iload_n 1, 1) := by decide +kernel
theorem d_FR_takeTurn_5 : decode b_FR_takeTurn 5 = .ok (.aaload, 1) := by decide +kernel
theorem d_FR_takeTurn_6 : decode b_FR_takeTurn 6 = .ok (.astore_n 2, 1) := by decide +kernel
theorem d_FR_takeTurn_7 : decode b_FR_takeTurn 7 = .ok (.aload_n 2, 1) := by decide +kernel
theorem d_FR_takeTurn_8 : decode b_FR_takeTurn 8 = .ok (.dup, 1) := by decide +kernel
theorem d_FR_takeTurn_9 : decode b_FR_takeTurn 9 = .ok (.getfield 180, 3) := by decide +kernel
theorem d_FR_takeTurn_12 : decode b_FR_takeTurn 12 = .ok (.iconst 1, 1) := by decide +kernel
theorem d_FR_takeTurn_13 : decode b_FR_takeTurn 13 = .ok (.iadd, 1) := by decide +kernel
theorem d_FR_takeTurn_14 : decode b_FR_takeTurn 14 = .ok (.putfield 180, 3) := by decide +kernel
theorem d_FR_takeTurn_17 : decode b_FR_takeTurn 17 = .ok (.aload_n 0, 1) := by decide +kernel
theorem d_FR_takeTurn_18 : decode b_FR_takeTurn 18 = .ok (.aload_n 2, 1) := by decide +kernel
theorem d_FR_takeTurn_19 : decode b_FR_takeTurn 19 = .ok (.invokevirtual 174, 3) := by decide +kernel
theorem d_FR_takeTurn_22 : decode b_FR_takeTurn 22 = .ok (.invokevirtual 227, 3) := by decide +kernel
theorem d_FR_takeTurn_25 : decode b_FR_takeTurn 25 = .ok (.istore_n 3, 1) := by decide +kernel
theorem d_FR_takeTurn_26 : decode b_FR_takeTurn 26 = .ok (.iload_n 3, 1) := by decide +kernel
theorem d_FR_takeTurn_27 : decode b_FR_takeTurn 27 = .ok (.iconst (-1), 1) := by decide +kernel
theorem d_FR_takeTurn_28 : decode b_FR_takeTurn 28 = .ok (.if_icmp .ne 9, 3) := by decide +kernel
theorem d_FR_takeTurn_31 : decode b_FR_takeTurn 31 = .ok (.aload_n 0, 1) := by decide +kernel
theorem d_FR_takeTurn_32 : decode b_FR_takeTurn 32 = .ok (.aload_n 2, 1) := by decide +kernel
theorem d_FR_takeTurn_33 : decode b_FR_takeTurn 33 = .ok (.invokevirtual 230, 3) := by decide +kernel
theorem d_FR_takeTurn_36 : decode b_FR_takeTurn 36 = .ok (.return_, 1) := by decide +kernel
theorem d_FR_takeTurn_37 : decode b_FR_takeTurn 37 = .ok (.aload_n 0, 1) := by decide +kernel
theorem d_FR_takeTurn_38 : decode b_FR_takeTurn 38 = .ok (.getfield 19, 3) := by decide +kernel
theorem d_FR_takeTurn_41 : decode b_FR_takeTurn 41 = .ok (.iload_n 3, 1) := by decide +kernel
theorem d_FR_takeTurn_42 : decode b_FR_takeTurn 42 = .ok (.aaload, 1) := by decide +kernel
theorem d_FR_takeTurn_43 : decode b_FR_takeTurn 43 = .ok (.astore 4, 2) := by decide +kernel
theorem d_FR_takeTurn_45 : decode b_FR_takeTurn 45 = .ok (.aload 4, 2) := by decide +kernel
theorem d_FR_takeTurn_47 : decode b_FR_takeTurn 47 = .ok (.aload_n 2, 1) := by decide +kernel
theorem d_FR_takeTurn_48 : decode b_FR_takeTurn 48 = .ok (.getfield 152, 3) := by decide +kernel
theorem d_FR_takeTurn_51 : decode b_FR_takeTurn 51 = .ok (.invokevirtual 234, 3) := by decide +kernel
theorem d_FR_takeTurn_54 : decode b_FR_takeTurn 54 = .ok (.istore 5, 2) := by decide +kernel
theorem d_FR_takeTurn_56 : decode b_FR_takeTurn 56 = .ok (.aload_n 2, 1) := by decide +kernel
theorem d_FR_takeTurn_57 : decode b_FR_takeTurn 57 = .ok (.getfield 152, 3) := by decide +kernel
theorem d_FR_takeTurn_60 : decode b_FR_takeTurn 60 = .ok (.getfield 101, 3) := by decide +kernel
theorem d_FR_takeTurn_63 : decode b_FR_takeTurn 63 = .ok (.aload 4, 2) := by decide +kernel
theorem d_FR_takeTurn_65 : decode b_FR_takeTurn 65 = .ok (.getfield 97, 3) := by decide +kernel
theorem d_FR_takeTurn_68 : decode b_FR_takeTurn 68 = .ok (.getfield 101, 3) := by decide +kernel
theorem d_FR_takeTurn_71 : decode b_FR_takeTurn 71 = .ok (.if_icmp .lt 11, 3) := by decide +kernel
theorem d_FR_takeTurn_74 : decode b_FR_takeTurn 74 = .ok (.aload_n 0, 1) := by decide +kernel
theorem d_FR_takeTurn_75 : decode b_FR_takeTurn 75 = .ok (.iload_n 1, 1) := by decide +kernel
theorem d_FR_takeTurn_76 : decode b_FR_takeTurn 76 = .ok (.invokevirtual 238, 3) := by decide +kernel
theorem d_FR_takeTurn_79 : decode b_FR_takeTurn 79 = .ok (.goto 13, 3) := by decide +kernel
theorem d_FR_takeTurn_82 : decode b_FR_takeTurn 82 = .ok (.iload 5, 2) := by decide +kernel
theorem d_FR_takeTurn_84 : decode b_FR_takeTurn 84 = .ok (.ifCond .eq 8, 3) := by decide +kernel
theorem d_FR_takeTurn_87 : decode b_FR_takeTurn 87 = .ok (.aload_n 0, 1) := by decide +kernel
theorem d_FR_takeTurn_88 : decode b_FR_takeTurn 88 = .ok (.aload_n 2, 1) := by decide +kernel
theorem d_FR_takeTurn_89 : decode b_FR_takeTurn 89 = .ok (.invokevirtual 241, 3) := by decide +kernel
theorem d_FR_takeTurn_92 : decode b_FR_takeTurn 92 = .ok (.return_, 1) := by decide +kernel
theorem d_FR_ask_0 : decode b_FR_ask 0 = .ok (.aload_n 0, 1) := by decide +kernel
theorem d_FR_ask_1 : decode b_FR_ask 1 = .ok (.iload_n 1, 1) := by decide +kernel
theorem d_FR_ask_2 : decode b_FR_ask 2 = .ok (.invokevirtual 94, 3) := by decide +kernel
theorem d_FR_ask_5 : decode b_FR_ask 5 = .ok (.ifCond .ne 5, 3) := by decide +kernel
theorem d_FR_ask_8 : decode b_FR_ask 8 = .ok (.iconst (-1), 1) := by decide +kernel
theorem d_FR_ask_9 : decode b_FR_ask 9 = .ok (.ireturn, 1) := by decide +kernel
theorem d_FR_ask_10 : decode b_FR_ask 10 = .ok (.iload_n 1, 1) := by decide +kernel
theorem d_FR_ask_11 : decode b_FR_ask 11 = .ok (.istore_n 2, 1) := by decide +kernel
theorem d_FR_ask_12 : decode b_FR_ask 12 = .ok (.aload_n 0, 1) := by decide +kernel
theorem d_FR_ask_13 : decode b_FR_ask 13 = .ok (.getfield 9, 3) := by decide +kernel
theorem d_FR_ask_16 : decode b_FR_ask 16 = .ok (.aload_n 0, 1) := by decide +kernel
theorem d_FR_ask_17 : decode b_FR_ask 17 = .ok (.getfield 19, 3) := by decide +kernel
theorem d_FR_ask_20 : decode b_FR_ask 20 = .ok (.iload_n 2, 1) := by decide +kernel
theorem d_FR_ask_21 : decode b_FR_ask 21 = .ok (.aaload, 1) := by decide +kernel
theorem d_FR_ask_22 : decode b_FR_ask 22 = .ok (.getfield 88, 3) := by decide +kernel
theorem d_FR_ask_25 : decode b_FR_ask 25 = .ok (.baload, 1) := by decide +kernel
theorem d_FR_ask_26 : decode b_FR_ask 26 = .ok (.istore_n 3, 1) := by decide +kernel
theorem d_FR_ask_27 : decode b_FR_ask 27 = .ok (.aload_n 0, 1) := by decide +kernel
theorem d_FR_ask_28 : decode b_FR_ask 28 = .ok (.iload_n 2, 1) := by decide +kernel
theorem d_FR_ask_29 : decode b_FR_ask 29 = .ok (.iload_n 3, 1) := by decide +kernel
theorem d_FR_ask_30 : decode b_FR_ask 30 = .ok (.invokevirtual 244, 3) := by decide +kernel
theorem d_FR_ask_33 : decode b_FR_ask 33 = .ok (.iconst 0, 1) := by decide +kernel
theorem d_FR_ask_34 : decode b_FR_ask 34 = .ok (.istore 4, 2) := by decide +kernel
theorem d_FR_ask_36 : decode b_FR_ask 36 = .ok (.iload 4, 2) := by decide +kernel
theorem d_FR_ask_38 : decode b_FR_ask 38 = .ok (.iconst 3, 1) := by decide +kernel
theorem d_FR_ask_39 : decode b_FR_ask 39 = .ok (.if_icmp .ge 73, 3) := by decide +kernel
theorem d_FR_ask_42 : decode b_FR_ask 42 = .ok (.aload_n 0, 1) := by decide +kernel
theorem d_FR_ask_43 : decode b_FR_ask 43 = .ok (.getfield 19, 3) := by decide +kernel
theorem d_FR_ask_46 : decode b_FR_ask 46 = .ok (.iload_n 2, 1) := by decide +kernel
theorem d_FR_ask_47 : decode b_FR_ask 47 = .ok (.aaload, 1) := by decide +kernel
theorem d_FR_ask_48 : decode b_FR_ask 48 = .ok (.invokevirtual 248, 3) := by decide +kernel
theorem d_FR_ask_51 : decode b_FR_ask 51 = .ok (.ifCond .eq 61, 3) := by decide +kernel
theorem d_FR_ask_54 : decode b_FR_ask 54 = .ok (.aload_n 0, 1) := by decide +kernel
theorem d_FR_ask_55 : decode b_FR_ask 55 = .ok (.getfield 19, 3) := by decide +kernel
theorem d_FR_ask_58 : decode b_FR_ask 58 = .ok (.iload_n 2, 1) := by decide +kernel
theorem d_FR_ask_59 : decode b_FR_ask 59 = .ok (.aaload, 1) := by decide +kernel
theorem d_FR_ask_60 : decode b_FR_ask 60 = .ok (.getfield 113, 3) := by decide +kernel
theorem d_FR_ask_63 : decode b_FR_ask 63 = .ok (.istore 5, 2) := by decide +kernel
theorem d_FR_ask_65 : decode b_FR_ask 65 = .ok (.iload_n 3, 1) := by decide +kernel
theorem d_FR_ask_66 : decode b_FR_ask 66 = .ok (.ifCond .eq 29, 3) := by decide +kernel
theorem d_FR_ask_69 : decode b_FR_ask 69 = .ok (.aload_n 0, 1) := by decide +kernel
theorem d_FR_ask_70 : decode b_FR_ask 70 = .ok (.getfield 19, 3) := by decide +kernel
theorem d_FR_ask_73 : decode b_FR_ask 73 = .ok (.iload 5, 2) := by decide +kernel
theorem d_FR_ask_75 : decode b_FR_ask 75 = .ok (.aaload, 1) := by decide +kernel
theorem d_FR_ask_76 : decode b_FR_ask 76 = .ok (.getfield 88, 3) := by decide +kernel
theorem d_FR_ask_79 : decode b_FR_ask 79 = .ok (.aload_n 0, 1) := by decide +kernel
theorem d_FR_ask_80 : decode b_FR_ask 80 = .ok (.getfield 19, 3) := by decide +kernel
theorem d_FR_ask_83 : decode b_FR_ask 83 = .ok (.iload_n 2, 1) := by decide +kernel
theorem d_FR_ask_84 : decode b_FR_ask 84 = .ok (.aaload, 1) := by decide +kernel
theorem d_FR_ask_85 : decode b_FR_ask 85 = .ok (.getfield 88, 3) := by decide +kernel
theorem d_FR_ask_88 : decode b_FR_ask 88 = .ok (.if_icmp .ne 7, 3) := by decide +kernel
theorem d_FR_ask_91 : decode b_FR_ask 91 = .ok (.iconst 1, 1) := by decide +kernel
theorem d_FR_ask_92 : decode b_FR_ask 92 = .ok (.goto 4, 3) := by decide +kernel
theorem d_FR_ask_95 : decode b_FR_ask 95 = .ok (.iconst 0, 1) := by decide +kernel
theorem d_FR_ask_96 : decode b_FR_ask 96 = .ok (.istore_n 3, 1) := by decide +kernel
theorem d_FR_ask_97 : decode b_FR_ask 97 = .ok (.iload 5, 2) := by decide +kernel
theorem d_FR_ask_99 : decode b_FR_ask 99 = .ok (.istore_n 2, 1) := by decide +kernel
theorem d_FR_ask_100 : decode b_FR_ask 100 = .ok (.aload_n 0, 1) := by decide +kernel
theorem d_FR_ask_101 : decode b_FR_ask 101 = .ok (.iload_n 2, 1) := by decide +kernel
theorem d_FR_ask_102 : decode b_FR_ask 102 = .ok (.iload_n 3, 1) := by decide +kernel
theorem d_FR_ask_103 : decode b_FR_ask 103 = .ok (.invokevirtual 244, 3) := by decide +kernel
theorem d_FR_ask_106 : decode b_FR_ask 106 = .ok (.iinc 4 1, 3) := by decide +kernel
theorem d_FR_ask_109 : decode b_FR_ask 109 = .ok (.goto (-73), 3) := by decide +kernel
theorem d_FR_ask_112 : decode b_FR_ask 112 = .ok (.aload_n 0, 1) := by decide +kernel
theorem d_FR_ask_113 : decode b_FR_ask 113 = .ok (.getfield 19, 3) := by decide +kernel
theorem d_FR_ask_116 : decode b_FR_ask 116 = .ok (.iload_n 2, 1) := by decide +kernel
theorem d_FR_ask_117 : decode b_FR_ask 117 = .ok (.aaload, 1) := by decide +kernel
theorem d_FR_ask_118 : decode b_FR_ask 118 = .ok (.iload_n 3, 1) := by decide +kernel
theorem d_FR_ask_119 : decode b_FR_ask 119 = .ok (.invokevirtual 251, 3) := by decide +kernel
theorem d_FR_ask_122 : decode b_FR_ask 122 = .ok (.ifCond .eq 7, 3) := by decide +kernel
theorem d_FR_ask_125 : decode b_FR_ask 125 = .ok (.iload_n 2, 1) := by decide +kernel
theorem d_FR_ask_126 : decode b_FR_ask 126 = .ok (.goto 4, 3) := by decide +kernel
theorem d_FR_ask_129 : decode b_FR_ask 129 = .ok (.iconst (-1), 1) := by decide +kernel
theorem d_FR_ask_130 : decode b_FR_ask 130 = .ok (.ireturn, 1) := by decide +kernel
theorem d_FR_countSent_0 : decode b_FR_countSent 0 = .ok (.iload_n 2, 1) := by decide +kernel
theorem d_FR_countSent_1 : decode b_FR_countSent 1 = .ok (.ifCond .eq 21, 3) := by decide +kernel
theorem d_FR_countSent_4 : decode b_FR_countSent 4 = .ok (.aload_n 0, 1) := by decide +kernel
theorem d_FR_countSent_5 : decode b_FR_countSent 5 = .ok (.getfield 13, 3) := by decide +kernel
theorem d_FR_countSent_8 : decode b_FR_countSent 8 = .ok (.aload_n 0, 1) := by decide +kernel
theorem d_FR_countSent_9 : decode b_FR_countSent 9 = .ok (.getfield 19, 3) := by decide +kernel
theorem d_FR_countSent_12 : decode b_FR_countSent 12 = .ok (.iload_n 1, 1) := by decide +kernel
theorem d_FR_countSent_13 : decode b_FR_countSent 13 = .ok (.aaload, 1) := by decide +kernel
theorem d_FR_countSent_14 : decode b_FR_countSent 14 = .ok (.getfield 88, 3) := by decide +kernel
theorem d_FR_countSent_17 : decode b_FR_countSent 17 = .ok (.dup2, 1) := by decide +kernel
theorem d_FR_countSent_18 : decode b_FR_countSent 18 = .ok (.iaload, 1) := by decide +kernel
theorem d_FR_countSent_19 : decode b_FR_countSent 19 = .ok (.iconst 1, 1) := by decide +kernel
theorem d_FR_countSent_20 : decode b_FR_countSent 20 = .ok (.iadd, 1) := by decide +kernel
theorem d_FR_countSent_21 : decode b_FR_countSent 21 = .ok (.iastore, 1) := by decide +kernel
theorem d_FR_countSent_22 : decode b_FR_countSent 22 = .ok (.return_, 1) := by decide +kernel
theorem d_FR_checkDigest_0 : decode b_FR_checkDigest 0 = .ok (.aload_n 0, 1) := by decide +kernel
theorem d_FR_checkDigest_1 : decode b_FR_checkDigest 1 = .ok (.getfield 29, 3) := by decide +kernel
theorem d_FR_checkDigest_4 : decode b_FR_checkDigest 4 = .ok (.iload_n 1, 1) := by decide +kernel
theorem d_FR_checkDigest_5 : decode b_FR_checkDigest 5 = .ok (.aaload, 1) := by decide +kernel
theorem d_FR_checkDigest_6 : decode b_FR_checkDigest 6 = .ok (.astore_n 2, 1) := by decide +kernel
theorem d_FR_checkDigest_7 : decode b_FR_checkDigest 7 = .ok (.aload_n 2, 1) := by decide +kernel
theorem d_FR_checkDigest_8 : decode b_FR_checkDigest 8 = .ok (.getfield 152, 3) := by decide +kernel
theorem d_FR_checkDigest_11 : decode b_FR_checkDigest 11 = .ok (.invokevirtual 128, 3) := by decide +kernel
theorem d_FR_checkDigest_14 : decode b_FR_checkDigest 14 = .ok (.istore_n 3, 1) := by decide +kernel
theorem d_FR_checkDigest_15 : decode b_FR_checkDigest 15 = .ok (.iload_n 3, 1) := by decide +kernel
theorem d_FR_checkDigest_16 : decode b_FR_checkDigest 16 = .ok (.aload_n 2, 1) := by decide +kernel
theorem d_FR_checkDigest_17 : decode b_FR_checkDigest 17 = .ok (.getfield 132, 3) := by decide +kernel
theorem d_FR_checkDigest_20 : decode b_FR_checkDigest 20 = .ok (.if_icmp .ne 21, 3) := by decide +kernel
theorem d_FR_checkDigest_23 : decode b_FR_checkDigest 23 = .ok (.aload_n 2, 1) := by decide +kernel
theorem d_FR_checkDigest_24 : decode b_FR_checkDigest 24 = .ok (.iconst 3, 1) := by decide +kernel
theorem d_FR_checkDigest_25 : decode b_FR_checkDigest 25 = .ok (.putfield 138, 3) := by decide +kernel
theorem d_FR_checkDigest_28 : decode b_FR_checkDigest 28 = .ok (.aload_n 0, 1) := by decide +kernel
theorem d_FR_checkDigest_29 : decode b_FR_checkDigest 29 = .ok (.getfield 39, 3) := by decide +kernel
theorem d_FR_checkDigest_32 : decode b_FR_checkDigest 32 = .ok (.iload_n 3, 1) := by decide +kernel
theorem d_FR_checkDigest_33 : decode b_FR_checkDigest 33 = .ok (.aload_n 2, 1) := by decide +kernel
theorem d_FR_checkDigest_34 : decode b_FR_checkDigest 34 = .ok (.getfield 152, 3) := by decide +kernel
theorem d_FR_checkDigest_37 : decode b_FR_checkDigest 37 = .ok (.invokevirtual 255, 3) := by decide +kernel
theorem d_FR_checkDigest_40 : decode b_FR_checkDigest 40 = .ok (.return_, 1) := by decide +kernel
theorem d_FR_checkDigest_41 : decode b_FR_checkDigest 41 = .ok (.aload_n 2, 1) := by decide +kernel
theorem d_FR_checkDigest_42 : decode b_FR_checkDigest 42 = .ok (.invokevirtual 174, 3) := by decide +kernel
theorem d_FR_checkDigest_45 : decode b_FR_checkDigest 45 = .ok (.istore 4, 2) := by decide +kernel
theorem d_FR_checkDigest_47 : decode b_FR_checkDigest 47 = .ok (.aload_n 0, 1) := by decide +kernel
theorem d_FR_checkDigest_48 : decode b_FR_checkDigest 48 = .ok (.iload 4, 2) := by decide +kernel
theorem d_FR_checkDigest_50 : decode b_FR_checkDigest 50 = .ok (.invokevirtual 94, 3) := by decide +kernel
theorem d_FR_checkDigest_53 : decode b_FR_checkDigest 53 = .ok (.ifCond .eq 25, 3) := by decide +kernel
theorem d_FR_checkDigest_56 : decode b_FR_checkDigest 56 = .ok (.aload_n 0, 1) := by decide +kernel
theorem d_FR_checkDigest_57 : decode b_FR_checkDigest 57 = .ok (.getfield 19, 3) := by decide +kernel
theorem d_FR_checkDigest_60 : decode b_FR_checkDigest 60 = .ok (.iload 4, 2) := by decide +kernel
theorem d_FR_checkDigest_62 : decode b_FR_checkDigest 62 = .ok (.aaload, 1) := by decide +kernel
theorem d_FR_checkDigest_63 : decode b_FR_checkDigest 63 = .ok (.iconst 1, 1) := by decide +kernel
theorem d_FR_checkDigest_64 : decode b_FR_checkDigest 64 = .ok (.putfield 259, 3) := by decide +kernel
theorem d_FR_checkDigest_67 : decode b_FR_checkDigest 67 = .ok (.aload_n 0, 1) := by decide +kernel
theorem d_FR_checkDigest_68 : decode b_FR_checkDigest 68 = .ok (.getfield 46, 3) := by decide +kernel
theorem d_FR_checkDigest_71 : decode b_FR_checkDigest 71 = .ok (.iload_n 1, 1) := by decide +kernel
theorem d_FR_checkDigest_72 : decode b_FR_checkDigest 72 = .ok (.iload 4, 2) := by decide +kernel
theorem d_FR_checkDigest_74 : decode b_FR_checkDigest 74 = .ok (.iload_n 3, 1) := by decide +kernel
theorem d_FR_checkDigest_75 : decode b_FR_checkDigest 75 = .ok (.invokevirtual 262, 3) := by decide +kernel
theorem d_FR_checkDigest_78 : decode b_FR_checkDigest 78 = .ok (.aload_n 0, 1) := by decide +kernel
theorem d_FR_checkDigest_79 : decode b_FR_checkDigest 79 = .ok (.aload_n 2, 1) := by decide +kernel
theorem d_FR_checkDigest_80 : decode b_FR_checkDigest 80 = .ok (.invokevirtual 230, 3) := by decide +kernel
theorem d_FR_checkDigest_83 : decode b_FR_checkDigest 83 = .ok (.return_, 1) := by decide +kernel
theorem d_FR_falter_0 : decode b_FR_falter 0 = .ok (.aload_n 1, 1) := by decide +kernel
theorem d_FR_falter_1 : decode b_FR_falter 1 = .ok (.getfield 266, 3) := by decide +kernel
theorem d_FR_falter_4 : decode b_FR_falter 4 = .ok (.aload_n 0, 1) := by decide +kernel
theorem d_FR_falter_5 : decode b_FR_falter 5 = .ok (.getfield 79, 3) := by decide +kernel
theorem d_FR_falter_8 : decode b_FR_falter 8 = .ok (.if_icmp .lt 9, 3) := by decide +kernel
theorem d_FR_falter_11 : decode b_FR_falter 11 = .ok (.aload_n 0, 1) := by decide +kernel
theorem d_FR_falter_12 : decode b_FR_falter 12 = .ok (.aload_n 1, 1) := by decide +kernel
theorem d_FR_falter_13 : decode b_FR_falter 13 = .ok (.invokevirtual 230, 3) := by decide +kernel
theorem d_FR_falter_16 : decode b_FR_falter 16 = .ok (.return_, 1) := by decide +kernel
theorem d_FR_falter_17 : decode b_FR_falter 17 = .ok (.aload_n 1, 1) := by decide +kernel
theorem d_FR_falter_18 : decode b_FR_falter 18 = .ok (.aload_n 0, 1) := by decide +kernel
theorem d_FR_falter_19 : decode b_FR_falter 19 = .ok (.getfield 67, 3) := by decide +kernel
theorem d_FR_falter_22 : decode b_FR_falter 22 = .ok (.iconst 1, 1) := by decide +kernel
theorem d_FR_falter_23 : decode b_FR_falter 23 = .ok (.aload_n 1, 1) := by decide +kernel
theorem d_FR_falter_24 : decode b_FR_falter 24 = .ok (.getfield 266, 3) := by decide +kernel
theorem d_FR_falter_27 : decode b_FR_falter 27 = .ok (.ishl, 1) := by decide +kernel
theorem d_FR_falter_28 : decode b_FR_falter 28 = .ok (.iadd, 1) := by decide +kernel
theorem d_FR_falter_29 : decode b_FR_falter 29 = .ok (.putfield 177, 3) := by decide +kernel
theorem d_FR_falter_32 : decode b_FR_falter 32 = .ok (.aload_n 1, 1) := by decide +kernel
theorem d_FR_falter_33 : decode b_FR_falter 33 = .ok (.dup, 1) := by decide +kernel
theorem d_FR_falter_34 : decode b_FR_falter 34 = .ok (.getfield 266, 3) := by decide +kernel
theorem d_FR_falter_37 : decode b_FR_falter 37 = .ok (.iconst 1, 1) := by decide +kernel
theorem d_FR_falter_38 : decode b_FR_falter 38 = .ok (.iadd, 1) := by decide +kernel
theorem d_FR_falter_39 : decode b_FR_falter 39 = .ok (.putfield 266, 3) := by decide +kernel
theorem d_FR_falter_42 : decode b_FR_falter 42 = .ok (.aload_n 1, 1) := by decide +kernel
theorem d_FR_falter_43 : decode b_FR_falter 43 = .ok (.iconst 2, 1) := by decide +kernel
theorem d_FR_falter_44 : decode b_FR_falter 44 = .ok (.putfield 138, 3) := by decide +kernel
theorem d_FR_falter_47 : decode b_FR_falter 47 = .ok (.return_, 1) := by decide +kernel
theorem d_FR_giveUp_0 : decode b_FR_giveUp 0 = .ok (.aload_n 0, 1) := by decide +kernel
theorem d_FR_giveUp_1 : decode b_FR_giveUp 1 = .ok (.aload_n 1, 1) := by decide +kernel
theorem d_FR_giveUp_2 : decode b_FR_giveUp 2 = .ok (.aload_n 1, 1) := by decide +kernel
theorem d_FR_giveUp_3 : decode b_FR_giveUp 3 = .ok (.getfield 269, 3) := by decide +kernel
theorem d_FR_giveUp_6 : decode b_FR_giveUp 6 = .ok (.iconst 1, 1) := by decide +kernel
theorem d_FR_giveUp_7 : decode b_FR_giveUp 7 = .ok (.iadd, 1) := by decide +kernel
theorem d_FR_giveUp_8 : decode b_FR_giveUp 8 = .ok (.invokevirtual 164, 3) := by decide +kernel
theorem d_FR_giveUp_11 : decode b_FR_giveUp 11 = .ok (.return_, 1) := by decide +kernel
theorem d_FR_fetchFrom_0 : decode b_FR_fetchFrom 0 = .ok (.iload_n 2, 1) := by decide +kernel
theorem d_FR_fetchFrom_1 : decode b_FR_fetchFrom 1 = .ok (.istore_n 3, 1) := by decide +kernel
theorem d_FR_fetchFrom_2 : decode b_FR_fetchFrom 2 = .ok (.iload_n 3, 1) := by decide +kernel
theorem d_FR_fetchFrom_3 : decode b_FR_fetchFrom 3 = .ok (.aload_n 1, 1) := by decide +kernel
theorem d_FR_fetchFrom_4 : decode b_FR_fetchFrom 4 = .ok (.getfield 272, 3) := by decide +kernel
theorem d_FR_fetchFrom_7 : decode b_FR_fetchFrom 7 = .ok (.if_icmp .ge 32, 3) := by decide +kernel
theorem d_FR_fetchFrom_10 : decode b_FR_fetchFrom 10 = .ok (.aload_n 0, 1) := by decide +kernel
theorem d_FR_fetchFrom_11 : decode b_FR_fetchFrom 11 = .ok (.getfield 19, 3) := by decide +kernel
theorem d_FR_fetchFrom_14 : decode b_FR_fetchFrom 14 = .ok (.aload_n 1, 1) := by decide +kernel
theorem d_FR_fetchFrom_15 : decode b_FR_fetchFrom 15 = .ok (.getfield 273, 3) := by decide +kernel
theorem d_FR_fetchFrom_18 : decode b_FR_fetchFrom 18 = .ok (.iload_n 3, 1) := by decide +kernel
theorem d_FR_fetchFrom_19 : decode b_FR_fetchFrom 19 = .ok (.iaload, 1) := by decide +kernel
theorem d_FR_fetchFrom_20 : decode b_FR_fetchFrom 20 = .ok (.aaload, 1) := by decide +kernel
theorem d_FR_fetchFrom_21 : decode b_FR_fetchFrom 21 = .ok (.getfield 259, 3) := by decide +kernel
theorem d_FR_fetchFrom_24 : decode b_FR_fetchFrom 24 = .ok (.ifCond .ne 9, 3) := by decide +kernel
theorem d_FR_fetchFrom_27 : decode b_FR_fetchFrom 27 = .ok (.aload_n 1, 1) := by decide +kernel
theorem d_FR_fetchFrom_28 : decode b_FR_fetchFrom 28 = .ok (.iload_n 3, 1) := by decide +kernel
theorem d_FR_fetchFrom_29 : decode b_FR_fetchFrom 29 = .ok (.invokevirtual 274, 3) := by decide +kernel
theorem d_FR_fetchFrom_32 : decode b_FR_fetchFrom 32 = .ok (.return_, 1) := by decide +kernel
theorem d_FR_fetchFrom_33 : decode b_FR_fetchFrom 33 = .ok (.iinc 3 1, 3) := by decide +kernel
theorem d_FR_fetchFrom_36 : decode b_FR_fetchFrom 36 = .ok (.goto (-34), 3) := by decide +kernel
theorem d_FR_fetchFrom_39 : decode b_FR_fetchFrom 39 = .ok (.aload_n 1, 1) := by decide +kernel
theorem d_FR_fetchFrom_40 : decode b_FR_fetchFrom 40 = .ok (.iconst 4, 1) := by decide +kernel
theorem d_FR_fetchFrom_41 : decode b_FR_fetchFrom 41 = .ok (.putfield 138, 3) := by decide +kernel
theorem d_FR_fetchFrom_44 : decode b_FR_fetchFrom 44 = .ok (.return_, 1) := by decide +kernel
theorem d_Archive_findIll_0 : decode b_Archive_findIll 0 = .ok (.iconst 0, 1) := by decide +kernel
theorem d_Archive_findIll_1 : decode b_Archive_findIll 1 = .ok (.istore_n 1, 1) := by decide +kernel
theorem d_Archive_findIll_2 : decode b_Archive_findIll 2 = .ok (.iconst 0, 1) := by decide +kernel
theorem d_Archive_findIll_3 : decode b_Archive_findIll 3 = .ok (.istore_n 2, 1) := by decide +kernel
theorem d_Archive_findIll_4 : decode b_Archive_findIll 4 = .ok (.iload_n 2, 1) := by decide +kernel
theorem d_Archive_findIll_5 : decode b_Archive_findIll 5 = .ok (.bipush 100, 2) := by decide +kernel
theorem d_Archive_findIll_7 : decode b_Archive_findIll 7 = .ok (.if_icmp .ge 36, 3) := by decide +kernel
theorem d_Archive_findIll_10 : decode b_Archive_findIll 10 = .ok (.iload_n 1, 1) := by decide +kernel
theorem d_Archive_findIll_11 : decode b_Archive_findIll 11 = .ok (.aload_n 0, 1) := by decide +kernel
theorem d_Archive_findIll_12 : decode b_Archive_findIll 12 = .ok (.getfield 9, 3) := by decide +kernel
theorem d_Archive_findIll_15 : decode b_Archive_findIll 15 = .ok (.if_icmp .ge 28, 3) := by decide +kernel
theorem d_Archive_findIll_18 : decode b_Archive_findIll 18 = .ok (.aload_n 0, 1) := by decide +kernel
theorem d_Archive_findIll_19 : decode b_Archive_findIll 19 = .ok (.iload_n 1, 1) := by decide +kernel
theorem d_Archive_findIll_20 : decode b_Archive_findIll 20 = .ok (.invokestatic 15, 3) := by decide +kernel
theorem d_Archive_findIll_23 : decode b_Archive_findIll 23 = .ok (.istore_n 3, 1) := by decide +kernel
theorem d_Archive_findIll_24 : decode b_Archive_findIll 24 = .ok (.iload_n 3, 1) := by decide +kernel
theorem d_Archive_findIll_25 : decode b_Archive_findIll 25 = .ok (.iconst (-1), 1) := by decide +kernel
theorem d_Archive_findIll_26 : decode b_Archive_findIll 26 = .ok (.if_icmp .eq 5, 3) := by decide +kernel
theorem d_Archive_findIll_29 : decode b_Archive_findIll 29 = .ok (.iload_n 3, 1) := by decide +kernel
theorem d_Archive_findIll_30 : decode b_Archive_findIll 30 = .ok (.ireturn, 1) := by decide +kernel
theorem d_Archive_findIll_31 : decode b_Archive_findIll 31 = .ok (.aload_n 0, 1) := by decide +kernel
theorem d_Archive_findIll_32 : decode b_Archive_findIll 32 = .ok (.iload_n 1, 1) := by decide +kernel
theorem d_Archive_findIll_33 : decode b_Archive_findIll 33 = .ok (.invokestatic 21, 3) := by decide +kernel
theorem d_Archive_findIll_36 : decode b_Archive_findIll 36 = .ok (.istore_n 1, 1) := by decide +kernel
theorem d_Archive_findIll_37 : decode b_Archive_findIll 37 = .ok (.iinc 2 1, 3) := by decide +kernel
theorem d_Archive_findIll_40 : decode b_Archive_findIll 40 = .ok (.goto (-36), 3) := by decide +kernel
theorem d_Archive_findIll_43 : decode b_Archive_findIll 43 = .ok (.iconst (-1), 1) := by decide +kernel
theorem d_Archive_findIll_44 : decode b_Archive_findIll 44 = .ok (.ireturn, 1) := by decide +kernel
theorem d_Archive_findIllOfEntry_0 : decode b_Archive_findIllOfEntry 0 = .ok (.aload_n 0, 1) := by decide +kernel
theorem d_Archive_findIllOfEntry_1 : decode b_Archive_findIllOfEntry 1 = .ok (.iload_n 1, 1) := by decide +kernel
theorem d_Archive_findIllOfEntry_2 : decode b_Archive_findIllOfEntry 2 = .ok (.invokevirtual 24, 3) := by decide +kernel
theorem d_Archive_findIllOfEntry_5 : decode b_Archive_findIllOfEntry 5 = .ok (.istore_n 2, 1) := by decide +kernel
theorem d_Archive_findIllOfEntry_6 : decode b_Archive_findIllOfEntry 6 = .ok (.iload_n 2, 1) := by decide +kernel
theorem d_Archive_findIllOfEntry_7 : decode b_Archive_findIllOfEntry 7 = .ok (.iconst 1, 1) := by decide +kernel
theorem d_Archive_findIllOfEntry_8 : decode b_Archive_findIllOfEntry 8 = .ok (.if_icmp .lt 9, 3) := by decide +kernel
theorem d_Archive_findIllOfEntry_11 : decode b_Archive_findIllOfEntry 11 = .ok (.iload_n 2, 1) := by decide +kernel
theorem d_Archive_findIllOfEntry_12 : decode b_Archive_findIllOfEntry 12 = .ok (.bipush 20, 2) := by decide +kernel
theorem d_Archive_findIllOfEntry_14 : decode b_Archive_findIllOfEntry 14 = .ok (.if_icmp .le 5, 3) := by decide +kernel
