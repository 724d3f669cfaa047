theorem d_Md_from_52 : decode b_Md_from 52 = .ok (.if_icmp .ge 26, 3) := by decide +kernel
theorem d_Md_from_55 : decode b_Md_from 55 = .ok (.aload_n 0, 1) := by decide +kernel
theorem d_Md_from_56 : decode b_Md_from 56 = .ok (.getfield 56, 3) := by decide +kernel
theorem d_Md_from_59 : decode b_Md_from 59 = .ok (.bipush 6, 2) := by decide +kernel
theorem d_Md_from_61 : decode b_Md_from 61 = .ok (.iload_n 1, 1) := by decide +kernel
theorem d_Md_from_62 : decode b_Md_from 62 = .ok (.imul, 1) := by decide +kernel
theorem d_Md_from_63 : decode b_Md_from 63 = .ok (.iload_n 3, 1) := by decide +kernel
theorem d_Md_from_64 : decode b_Md_from 64 = .ok (.iadd, 1) := by decide +kernel
theorem d_Md_from_65 : decode b_Md_from 65 = .ok (.iaload, 1) := by decide +kernel
theorem d_Md_from_66 : decode b_Md_from 66 = .ok (.iload_n 2, 1) := by decide +kernel
theorem d_Md_from_67 : decode b_Md_from 67 = .ok (.if_icmp .ne 5, 3) := by decide +kernel
theorem d_Md_from_70 : decode b_Md_from 70 = .ok (.iconst 0, 1) := by decide +kernel
theorem d_Md_from_71 : decode b_Md_from 71 = .ok (.ireturn, 1) := by decide +kernel
theorem d_Md_from_72 : decode b_Md_from 72 = .ok (.iinc 3 1, 3) := by decide +kernel
theorem d_Md_from_75 : decode b_Md_from 75 = .ok (.goto (-30), 3) := by decide +kernel
theorem d_Md_from_78 : decode b_Md_from 78 = .ok (.aload_n 0, 1) := by decide +kernel
theorem d_Md_from_79 : decode b_Md_from 79 = .ok (.getfield 56, 3) := by decide +kernel
theorem d_Md_from_82 : decode b_Md_from 82 = .ok (.bipush 6, 2) := by decide +kernel
theorem d_Md_from_84 : decode b_Md_from 84 = .ok (.iload_n 1, 1) := by decide +kernel
theorem d_Md_from_85 : decode b_Md_from 85 = .ok (.imul, 1) := by decide +kernel
theorem d_Md_from_86 : decode b_Md_from 86 = .ok (.aload_n 0, 1) := by decide +kernel
theorem d_Md_from_87 : decode b_Md_from 87 = .ok (.getfield 53, 3) := by decide +kernel
theorem d_Md_from_90 : decode b_Md_from 90 = .ok (.iload_n 1, 1) := by decide +kernel
theorem d_Md_from_91 : decode b_Md_from 91 = .ok (.iaload, 1) := by decide +kernel
theorem d_Md_from_92 : decode b_Md_from 92 = .ok (.iadd, 1) := by decide +kernel
theorem d_Md_from_93 : decode b_Md_from 93 = .ok (.iload_n 2, 1) := by decide +kernel
theorem d_Md_from_94 : decode b_Md_from 94 = .ok (.iastore, 1) := by decide +kernel
theorem d_Md_from_95 : decode b_Md_from 95 = .ok (.aload_n 0, 1) := by decide +kernel
theorem d_Md_from_96 : decode b_Md_from 96 = .ok (.getfield 53, 3) := by decide +kernel
theorem d_Md_from_99 : decode b_Md_from 99 = .ok (.iload_n 1, 1) := by decide +kernel
theorem d_Md_from_100 : decode b_Md_from 100 = .ok (.dup2, 1) := by decide +kernel
theorem d_Md_from_101 : decode b_Md_from 101 = .ok (.iaload, 1) := by decide +kernel
theorem d_Md_from_102 : decode b_Md_from 102 = .ok (.iconst 1, 1) := by decide +kernel
theorem d_Md_from_103 : decode b_Md_from 103 = .ok (.iadd, 1) := by decide +kernel
theorem d_Md_from_104 : decode b_Md_from 104 = .ok (.iastore, 1) := by decide +kernel
theorem d_Md_from_105 : decode b_Md_from 105 = .ok (.iconst 1, 1) := by decide +kernel
theorem d_Md_from_106 : decode b_Md_from 106 = .ok (.ireturn, 1) := by decide +kernel
theorem d_Md_offLine_0 : decode b_Md_offLine 0 = .ok (.aload_n 0, 1) := by decide +kernel
theorem d_Md_offLine_1 : decode b_Md_offLine 1 = .ok (.iconst 0, 1) := by decide +kernel
theorem d_Md_offLine_2 : decode b_Md_offLine 2 = .ok (.putfield 117, 3) := by decide +kernel
theorem d_Md_offLine_5 : decode b_Md_offLine 5 = .ok (.aload_n 0, 1) := by decide +kernel
theorem d_Md_offLine_6 : decode b_Md_offLine 6 = .ok (.iload_n 1, 1) := by decide +kernel
theorem d_Md_offLine_7 : decode b_Md_offLine 7 = .ok (.putfield 140, 3) := by decide +kernel
theorem d_Md_offLine_10 : decode b_Md_offLine 10 = .ok (.aload_n 0, 1) := by decide +kernel
theorem d_Md_offLine_11 : decode b_Md_offLine 11 = .ok (.iconst 0, 1) := by decide +kernel
theorem d_Md_offLine_12 : decode b_Md_offLine 12 = .ok (.putfield 144, 3) := by decide +kernel
theorem d_Md_offLine_15 : decode b_Md_offLine 15 = .ok (.return_, 1) := by decide +kernel
theorem d_Md_keptOf_0 : decode b_Md_keptOf 0 = .ok (.iconst (-1), 1) := by decide +kernel
theorem d_Md_keptOf_1 : decode b_Md_keptOf 1 = .ok (.istore_n 2, 1) := by decide +kernel
theorem d_Md_keptOf_2 : decode b_Md_keptOf 2 = .ok (.iconst 0, 1) := by decide +kernel
theorem d_Md_keptOf_3 : decode b_Md_keptOf 3 = .ok (.istore_n 3, 1) := by decide +kernel
theorem d_Md_keptOf_4 : decode b_Md_keptOf 4 = .ok (.iload_n 3, 1) := by decide +kernel
theorem d_Md_keptOf_5 : decode b_Md_keptOf 5 = .ok (.aload_n 0, 1) := by decide +kernel
theorem d_Md_keptOf_6 : decode b_Md_keptOf 6 = .ok (.getfield 147, 3) := by decide +kernel
theorem d_Md_keptOf_9 : decode b_Md_keptOf 9 = .ok (.if_icmp .ge 25, 3) := by decide +kernel
theorem d_Md_keptOf_12 : decode b_Md_keptOf 12 = .ok (.aload_n 0, 1) := by decide +kernel
theorem d_Md_keptOf_13 : decode b_Md_keptOf 13 = .ok (.getfield 80, 3) := by decide +kernel
theorem d_Md_keptOf_16 : decode b_Md_keptOf 16 = .ok (.iload_n 3, 1) := by decide +kernel
theorem d_Md_keptOf_17 : decode b_Md_keptOf 17 = .ok (.iaload, 1) := by decide +kernel
theorem d_Md_keptOf_18 : decode b_Md_keptOf 18 = .ok (.iload_n 1, 1) := by decide +kernel
theorem d_Md_keptOf_19 : decode b_Md_keptOf 19 = .ok (.if_icmp .ne 7, 3) := by decide +kernel
theorem d_Md_keptOf_22 : decode b_Md_keptOf 22 = .ok (.iload_n 3, 1) := by decide +kernel
theorem d_Md_keptOf_23 : decode b_Md_keptOf 23 = .ok (.goto 4, 3) := by decide +kernel
theorem d_Md_keptOf_26 : decode b_Md_keptOf 26 = .ok (.iload_n 2, 1) := by decide +kernel
theorem d_Md_keptOf_27 : decode b_Md_keptOf 27 = .ok (.istore_n 2, 1) := by decide +kernel
theorem d_Md_keptOf_28 : decode b_Md_keptOf 28 = .ok (.iinc 3 1, 3) := by decide +kernel
theorem d_Md_keptOf_31 : decode b_Md_keptOf 31 = .ok (.goto (-27), 3) := by decide +kernel
theorem d_Md_keptOf_34 : decode b_Md_keptOf 34 = .ok (.iload_n 2, 1) := by decide +kernel
theorem d_Md_keptOf_35 : decode b_Md_keptOf 35 = .ok (.ireturn, 1) := by decide +kernel
theorem d_Md_goOn_0 : decode b_Md_goOn 0 = .ok (.aload_n 0, 1) := by decide +kernel
theorem d_Md_goOn_1 : decode b_Md_goOn 1 = .ok (.getfield 65, 3) := by decide +kernel
theorem d_Md_goOn_4 : decode b_Md_goOn 4 = .ok (.iload_n 1, 1) := by decide +kernel
theorem d_Md_goOn_5 : decode b_Md_goOn 5 = .ok (.iconst 0, 1) := by decide +kernel
theorem d_Md_goOn_6 : decode b_Md_goOn 6 = .ok (.iastore, 1) := by decide +kernel
theorem d_Md_goOn_7 : decode b_Md_goOn 7 = .ok (.aload_n 0, 1) := by decide +kernel
theorem d_Md_goOn_8 : decode b_Md_goOn 8 = .ok (.getfield 77, 3) := by decide +kernel
theorem d_Md_goOn_11 : decode b_Md_goOn 11 = .ok (.iload_n 1, 1) := by decide +kernel
theorem d_Md_goOn_12 : decode b_Md_goOn 12 = .ok (.iconst 0, 1) := by decide +kernel
theorem d_Md_goOn_13 : decode b_Md_goOn 13 = .ok (.iastore, 1) := by decide +kernel
theorem d_Md_goOn_14 : decode b_Md_goOn 14 = .ok (.iload_n 2, 1) := by decide +kernel
theorem d_Md_goOn_15 : decode b_Md_goOn 15 = .ok (.istore_n 3, 1) := by decide +kernel
theorem d_Md_goOn_16 : decode b_Md_goOn 16 = .ok (.iload_n 3, 1) := by decide +kernel
theorem d_Md_goOn_17 : decode b_Md_goOn 17 = .ok (.aload_n 0, 1) := by decide +kernel
theorem d_Md_goOn_18 : decode b_Md_goOn 18 = .ok (.getfield 53, 3) := by decide +kernel
theorem d_Md_goOn_21 : decode b_Md_goOn 21 = .ok (.iload_n 1, 1) := by decide +kernel
theorem d_Md_goOn_22 : decode b_Md_goOn 22 = .ok (.iaload, 1) := by decide +kernel
theorem d_Md_goOn_23 : decode b_Md_goOn 23 = .ok (.if_icmp .ge 28, 3) := by decide +kernel
theorem d_Md_goOn_26 : decode b_Md_goOn 26 = .ok (.aload_n 0, 1) := by decide +kernel
theorem d_Md_goOn_27 : decode b_Md_goOn 27 = .ok (.getfield 47, 3) := by decide +kernel
theorem d_Md_goOn_30 : decode b_Md_goOn 30 = .ok (.aload_n 0, 1) := by decide +kernel
theorem d_Md_goOn_31 : decode b_Md_goOn 31 = .ok (.getfield 56, 3) := by decide +kernel
theorem d_Md_goOn_34 : decode b_Md_goOn 34 = .ok (.bipush 6, 2) := by decide +kernel
theorem d_Md_goOn_36 : decode b_Md_goOn 36 = .ok (.iload_n 1, 1) := by decide +kernel
theorem d_Md_goOn_37 : decode b_Md_goOn 37 = .ok (.imul, 1) := by decide +kernel
theorem d_Md_goOn_38 : decode b_Md_goOn 38 = .ok (.iload_n 3, 1) := by decide +kernel
theorem d_Md_goOn_39 : decode b_Md_goOn 39 = .ok (.iadd, 1) := by decide +kernel
theorem d_Md_goOn_40 : decode b_Md_goOn 40 = .ok (.iaload, 1) := by decide +kernel
theorem d_Md_goOn_41 : decode b_Md_goOn 41 = .ok (.baload, 1) := by decide +kernel
theorem d_Md_goOn_42 : decode b_Md_goOn 42 = .ok (.ifCond .eq 9, 3) := by decide +kernel
theorem d_Md_goOn_45 : decode b_Md_goOn 45 = .ok (.iinc 3 1, 3) := by decide +kernel
theorem d_Md_goOn_48 : decode b_Md_goOn 48 = .ok (.goto (-32), 3) := by decide +kernel
theorem d_Md_goOn_51 : decode b_Md_goOn 51 = .ok (.aload_n 0, 1) := by decide +kernel
theorem d_Md_goOn_52 : decode b_Md_goOn 52 = .ok (.getfield 62, 3) := by decide +kernel
theorem d_Md_goOn_55 : decode b_Md_goOn 55 = .ok (.iload_n 1, 1) := by decide +kernel
theorem d_Md_goOn_56 : decode b_Md_goOn 56 = .ok (.iload_n 3, 1) := by decide +kernel
theorem d_Md_goOn_57 : decode b_Md_goOn 57 = .ok (.iastore, 1) := by decide +kernel
theorem d_Md_goOn_58 : decode b_Md_goOn 58 = .ok (.aload_n 0, 1) := by decide +kernel
theorem d_Md_goOn_59 : decode b_Md_goOn 59 = .ok (.getfield 59, 3) := by decide +kernel
theorem d_Md_goOn_62 : decode b_Md_goOn 62 = .ok (.iload_n 1, 1) := by decide +kernel
theorem d_Md_goOn_63 : decode b_Md_goOn 63 = .ok (.iload_n 3, 1) := by decide +kernel
theorem d_Md_goOn_64 : decode b_Md_goOn 64 = .ok (.aload_n 0, 1) := by decide +kernel
theorem d_Md_goOn_65 : decode b_Md_goOn 65 = .ok (.getfield 53, 3) := by decide +kernel
theorem d_Md_goOn_68 : decode b_Md_goOn 68 = .ok (.iload_n 1, 1) := by decide +kernel
theorem d_Md_goOn_69 : decode b_Md_goOn 69 = .ok (.iaload, 1) := by decide +kernel
theorem d_Md_goOn_70 : decode b_Md_goOn 70 = .ok (.if_icmp .ge 7, 3) := by decide +kernel
theorem d_Md_goOn_73 : decode b_Md_goOn 73 = .ok (.iconst 1, 1) := by decide +kernel
theorem d_Md_goOn_74 : decode b_Md_goOn 74 = .ok (.goto 4, 3) := by decide +kernel
theorem d_Md_goOn_77 : decode b_Md_goOn 77 = .ok (.iconst 4, 1) := by decide +kernel
theorem d_Md_goOn_78 : decode b_Md_goOn 78 = .ok (.iastore, 1) := by decide +kernel
theorem d_Md_goOn_79 : decode b_Md_goOn 79 = .ok (.return_, 1) := by decide +kernel
theorem d_Md_tellLack_0 : decode b_Md_tellLack 0 = .ok (.iconst 0, 1) := by decide +kernel
theorem d_Md_tellLack_1 : decode b_Md_tellLack 1 = .ok (.istore_n 2, 1) := by decide +kernel
theorem d_Md_tellLack_2 : decode b_Md_tellLack 2 = .ok (.iconst 0, 1) := by decide +kernel
theorem d_Md_tellLack_3 : decode b_Md_tellLack 3 = .ok (.istore_n 3, 1) := by decide +kernel
theorem d_Md_tellLack_4 : decode b_Md_tellLack 4 = .ok (.iload_n 3, 1) := by decide +kernel
theorem d_Md_tellLack_5 : decode b_Md_tellLack 5 = .ok (.aload_n 0, 1) := by decide +kernel
theorem d_Md_tellLack_6 : decode b_Md_tellLack 6 = .ok (.getfield 144, 3) := by decide +kernel
theorem d_Md_tellLack_9 : decode b_Md_tellLack 9 = .ok (.if_icmp .ge 29, 3) := by decide +kernel
theorem d_Md_tellLack_12 : decode b_Md_tellLack 12 = .ok (.iload_n 2, 1) := by decide +kernel
theorem d_Md_tellLack_13 : decode b_Md_tellLack 13 = .ok (.ifCond .ne 13, 3) := by decide +kernel
theorem d_Md_tellLack_16 : decode b_Md_tellLack 16 = .ok (.aload_n 0, 1) := by decide +kernel
theorem d_Md_tellLack_17 : decode b_Md_tellLack 17 = .ok (.getfield 98, 3) := by decide +kernel
theorem d_Md_tellLack_20 : decode b_Md_tellLack 20 = .ok (.iload_n 3, 1) := by decide +kernel
theorem d_Md_tellLack_21 : decode b_Md_tellLack 21 = .ok (.iaload, 1) := by decide +kernel
theorem d_Md_tellLack_22 : decode b_Md_tellLack 22 = .ok (.iload_n 1, 1) := by decide +kernel
theorem d_Md_tellLack_23 : decode b_Md_tellLack 23 = .ok (.if_icmp .ne 7, 3) := by decide +kernel
theorem d_Md_tellLack_26 : decode b_Md_tellLack 26 = .ok (.iconst 1, 1) := by decide +kernel
theorem d_Md_tellLack_27 : decode b_Md_tellLack 27 = .ok (.goto 4, 3) := by decide +kernel
theorem d_Md_tellLack_30 : decode b_Md_tellLack 30 = .ok (.iconst 0, 1) := by decide +kernel
theorem d_Md_tellLack_31 : decode b_Md_tellLack 31 = .ok (.istore_n 2, 1) := by decide +kernel
theorem d_Md_tellLack_32 : decode b_Md_tellLack 32 = .ok (.iinc 3 1, 3) := by decide +kernel
theorem d_Md_tellLack_35 : decode b_Md_tellLack 35 = .ok (.goto (-31), 3) := by decide +kernel
theorem d_Md_tellLack_38 : decode b_Md_tellLack 38 = .ok (.iload_n 2, 1) := by decide +kernel
theorem d_Md_tellLack_39 : decode b_Md_tellLack 39 = .ok (.ifCond .eq 4, 3) := by decide +kernel
theorem d_Md_tellLack_42 : decode b_Md_tellLack 42 = .ok (.return_, 1) := by decide +kernel
theorem d_Md_tellLack_43 : decode b_Md_tellLack 43 = .ok (.aload_n 0, 1) := by decide +kernel
theorem d_Md_tellLack_44 : decode b_Md_tellLack 44 = .ok (.getfield 98, 3) := by decide +kernel
theorem d_Md_tellLack_47 : decode b_Md_tellLack 47 = .ok (.aload_n 0, 1) := by decide +kernel
theorem d_Md_tellLack_48 : decode b_Md_tellLack 48 = .ok (.getfield 144, 3) := by decide +kernel
theorem d_Md_tellLack_51 : decode b_Md_tellLack 51 = .ok (.iload_n 1, 1) := by decide +kernel
theorem d_Md_tellLack_52 : decode b_Md_tellLack 52 = .ok (.iastore, 1) := by decide +kernel
theorem d_Md_tellLack_53 : decode b_Md_tellLack 53 = .ok (.aload_n 0, 1) := by decide +kernel
theorem d_Md_tellLack_54 : decode b_Md_tellLack 54 = .ok (.dup, 1) := by decide +kernel
theorem d_Md_tellLack_55 : decode b_Md_tellLack 55 = .ok (.getfield 144, 3) := by decide +kernel
theorem d_Md_tellLack_58 : decode b_Md_tellLack 58 = .ok (.iconst 1, 1) := by decide +kernel
theorem d_Md_tellLack_59 : decode b_Md_tellLack 59 = .ok (.iadd, 1) := by decide +kernel
theorem d_Md_tellLack_60 : decode b_Md_tellLack 60 = .ok (.putfield 144, 3) := by decide +kernel
theorem d_Md_tellLack_63 : decode b_Md_tellLack 63 = .ok (.return_, 1) := by decide +kernel
theorem d_Md_begin_0 : decode b_Md_begin 0 = .ok (.aload_n 0, 1) := by decide +kernel
theorem d_Md_begin_1 : decode b_Md_begin 1 = .ok (.iconst 0, 1) := by decide +kernel
theorem d_Md_begin_2 : decode b_Md_begin 2 = .ok (.putfield 117, 3) := by decide +kernel
theorem d_Md_begin_5 : decode b_Md_begin 5 = .ok (.aload_n 0, 1) := by decide +kernel
theorem d_Md_begin_6 : decode b_Md_begin 6 = .ok (.iload_n 1, 1) := by decide +kernel
theorem d_Md_begin_7 : decode b_Md_begin 7 = .ok (.invokevirtual 137, 3) := by decide +kernel
theorem d_Md_begin_10 : decode b_Md_begin 10 = .ok (.ifCond .eq 23, 3) := by decide +kernel
theorem d_Md_begin_13 : decode b_Md_begin 13 = .ok (.aload_n 0, 1) := by decide +kernel
theorem d_Md_begin_14 : decode b_Md_begin 14 = .ok (.getfield 59, 3) := by decide +kernel
theorem d_Md_begin_17 : decode b_Md_begin 17 = .ok (.iload_n 1, 1) := by decide +kernel
theorem d_Md_begin_18 : decode b_Md_begin 18 = .ok (.iaload, 1) := by decide +kernel
theorem d_Md_begin_19 : decode b_Md_begin 19 = .ok (.iconst 1, 1) := by decide +kernel
theorem d_Md_begin_20 : decode b_Md_begin 20 = .ok (.if_icmp .eq 13, 3) := by decide +kernel
theorem d_Md_begin_23 : decode b_Md_begin 23 = .ok (.aload_n 0, 1) := by decide +kernel
theorem d_Md_begin_24 : decode b_Md_begin 24 = .ok (.getfield 59, 3) := by decide +kernel
theorem d_Md_begin_27 : decode b_Md_begin 27 = .ok (.iload_n 1, 1) := by decide +kernel
theorem d_Md_begin_28 : decode b_Md_begin 28 = .ok (.iaload, 1) := by decide +kernel
theorem d_Md_begin_29 : decode b_Md_begin 29 = .ok (.iconst 2, 1) := by decide +kernel
theorem d_Md_begin_30 : decode b_Md_begin 30 = .ok (.if_icmp .ne 5, 3) := by decide +kernel
theorem d_Md_begin_33 : decode b_Md_begin 33 = .ok (.iconst (-1), 1) := by decide +kernel
theorem d_Md_begin_34 : decode b_Md_begin 34 = .ok (.ireturn, 1) := by decide +kernel
theorem d_Md_begin_35 : decode b_Md_begin 35 = .ok (.aload_n 0, 1) := by decide +kernel
theorem d_Md_begin_36 : decode b_Md_begin 36 = .ok (.aload_n 0, 1) := by decide +kernel
theorem d_Md_begin_37 : decode b_Md_begin 37 = .ok (.getfield 50, 3) := by decide +kernel
theorem d_Md_begin_40 : decode b_Md_begin 40 = .ok (.iload_n 1, 1) := by decide +kernel
theorem d_Md_begin_41 : decode b_Md_begin 41 = .ok (.iaload, 1) := by decide +kernel
theorem d_Md_begin_42 : decode b_Md_begin 42 = .ok (.invokevirtual 150, 3) := by decide +kernel
theorem d_Md_begin_45 : decode b_Md_begin 45 = .ok (.istore_n 2, 1) := by decide +kernel
theorem d_Md_begin_46 : decode b_Md_begin 46 = .ok (.iload_n 2, 1) := by decide +kernel
theorem d_Md_begin_47 : decode b_Md_begin 47 = .ok (.iconst (-1), 1) := by decide +kernel
theorem d_Md_begin_48 : decode b_Md_begin 48 = .ok (.if_icmp .eq 65, 3) := by decide +kernel
theorem d_Md_begin_51 : decode b_Md_begin 51 = .ok (.aload_n 0, 1) := by decide +kernel
theorem d_Md_begin_52 : decode b_Md_begin 52 = .ok (.getfield 65, 3) := by decide +kernel
theorem d_Md_begin_55 : decode b_Md_begin 55 = .ok (.iload_n 1, 1) := by decide +kernel
theorem d_Md_begin_56 : decode b_Md_begin 56 = .ok (.aload_n 0, 1) := by decide +kernel
theorem d_Md_begin_57 : decode b_Md_begin 57 = .ok (.getfield 83, 3) := by decide +kernel
theorem d_Md_begin_60 : decode b_Md_begin 60 = .ok (.iload_n 2, 1) := by decide +kernel
theorem d_Md_begin_61 : decode b_Md_begin 61 = .ok (.iaload, 1) := by decide +kernel
theorem d_Md_begin_62 : decode b_Md_begin 62 = .ok (.iastore, 1) := by decide +kernel
theorem d_Md_begin_63 : decode b_Md_begin 63 = .ok (.iconst 0, 1) := by decide +kernel
theorem d_Md_begin_64 : decode b_Md_begin 64 = .ok (.istore_n 3, 1) := by decide +kernel
theorem d_Md_begin_65 : decode b_Md_begin 65 = .ok (.iload_n 3, 1) := by decide +kernel
theorem d_Md_begin_66 : decode b_Md_begin 66 = .ok (.aload_n 0, 1) := by decide +kernel
theorem d_Md_begin_67 : decode b_Md_begin 67 = .ok (.getfield 65, 3) := by decide +kernel
theorem d_Md_begin_70 : decode b_Md_begin 70 = .ok (.iload_n 1, 1) := by decide +kernel
theorem d_Md_begin_71 : decode b_Md_begin 71 = .ok (.iaload, 1) := by decide +kernel
theorem d_Md_begin_72 : decode b_Md_begin 72 = .ok (.if_icmp .ge 31, 3) := by decide +kernel
theorem d_Md_begin_75 : decode b_Md_begin 75 = .ok (.aload_n 0, 1) := by decide +kernel
theorem d_Md_begin_76 : decode b_Md_begin 76 = .ok (.getfield 68, 3) := by decide +kernel
theorem d_Md_begin_79 : decode b_Md_begin 79 = .ok (.bipush 100, 2) := by decide +kernel
theorem d_Md_begin_81 : decode b_Md_begin 81 = .ok (.iload_n 1, 1) := by decide +kernel
theorem d_Md_begin_82 : decode b_Md_begin 82 = .ok (.imul, 1) := by decide +kernel
theorem d_Md_begin_83 : decode b_Md_begin 83 = .ok (.iload_n 3, 1) := by decide +kernel
theorem d_Md_begin_84 : decode b_Md_begin 84 = .ok (.iadd, 1) := by decide +kernel
theorem d_Md_begin_85 : decode b_Md_begin 85 = .ok (.aload_n 0, 1) := by decide +kernel
theorem d_Md_begin_86 : decode b_Md_begin 86 = .ok (.getfield 86, 3) := by decide +kernel
theorem d_Md_begin_89 : decode b_Md_begin 89 = .ok (.bipush 100, 2) := by decide +kernel
theorem d_Md_begin_91 : decode b_Md_begin 91 = .ok (.iload_n 2, 1) := by decide +kernel
theorem d_Md_begin_92 : decode b_Md_begin 92 = .ok (.imul, 1) := by decide +kernel
theorem d_Md_begin_93 : decode b_Md_begin 93 = .ok (.iload_n 3, 1) := by decide +kernel
theorem d_Md_begin_94 : decode b_Md_begin 94 = .ok (.iadd, 1) := by decide +kernel
theorem d_Md_begin_95 : decode b_Md_begin 95 = .ok (.iaload, 1) := by decide +kernel
theorem d_Md_begin_96 : decode b_Md_begin 96 = .ok (.iastore, 1) := by decide +kernel
theorem d_Md_begin_97 : decode b_Md_begin 97 = .ok (.iinc 3 1, 3) := by decide +kernel
theorem d_Md_begin_100 : decode b_Md_begin 100 = .ok (.goto (-35), 3) := by decide +kernel
theorem d_Md_begin_103 : decode b_Md_begin 103 = .ok (.aload_n 0, 1) := by decide +kernel
theorem d_Md_begin_104 : decode b_Md_begin 104 = .ok (.getfield 59, 3) := by decide +kernel
theorem d_Md_begin_107 : decode b_Md_begin 107 = .ok (.iload_n 1, 1) := by decide +kernel
theorem d_Md_begin_108 : decode b_Md_begin 108 = .ok (.iconst 3, 1) := by decide +kernel
theorem d_Md_begin_109 : decode b_Md_begin 109 = .ok (.iastore, 1) := by decide +kernel
theorem d_Md_begin_110 : decode b_Md_begin 110 = .ok (.goto 38, 3) := by decide +kernel
theorem d_Md_begin_113 : decode b_Md_begin 113 = .ok (.aload_n 0, 1) := by decide +kernel
theorem d_Md_begin_114 : decode b_Md_begin 114 = .ok (.getfield 140, 3) := by decide +kernel
theorem d_Md_begin_117 : decode b_Md_begin 117 = .ok (.ifCond .eq 25, 3) := by decide +kernel
theorem d_Md_begin_120 : decode b_Md_begin 120 = .ok (.aload_n 0, 1) := by decide +kernel
theorem d_Md_begin_121 : decode b_Md_begin 121 = .ok (.getfield 65, 3) := by decide +kernel
theorem d_Md_begin_124 : decode b_Md_begin 124 = .ok (.iload_n 1, 1) := by decide +kernel
theorem d_Md_begin_125 : decode b_Md_begin 125 = .ok (.iconst 0, 1) := by decide +kernel
theorem d_Md_begin_126 : decode b_Md_begin 126 = .ok (.iastore, 1) := by decide +kernel
theorem d_Md_begin_127 : decode b_Md_begin 127 = .ok (.aload_n 0, 1) := by decide +kernel
theorem d_Md_begin_128 : decode b_Md_begin 128 = .ok (.getfield 59, 3) := by decide +kernel
theorem d_Md_begin_131 : decode b_Md_begin 131 = .ok (.iload_n 1, 1) := by decide +kernel
theorem d_Md_begin_132 : decode b_Md_begin 132 = .ok (.iconst 4, 1) := by decide +kernel
theorem d_Md_begin_133 : decode b_Md_begin 133 = .ok (.iastore, 1) := by decide +kernel
theorem d_Md_begin_134 : decode b_Md_begin 134 = .ok (.aload_n 0, 1) := by decide +kernel
theorem d_Md_begin_135 : decode b_Md_begin 135 = .ok (.iload_n 1, 1) := by decide +kernel
theorem d_Md_begin_136 : decode b_Md_begin 136 = .ok (.invokevirtual 154, 3) := by decide +kernel
theorem d_Md_begin_139 : decode b_Md_begin 139 = .ok (.goto 9, 3) := by decide +kernel
theorem d_Md_begin_142 : decode b_Md_begin 142 = .ok (.aload_n 0, 1) := by decide +kernel
theorem d_Md_begin_143 : decode b_Md_begin 143 = .ok (.iload_n 1, 1) := by decide +kernel
theorem d_Md_begin_144 : decode b_Md_begin 144 = .ok (.iconst 0, 1) := by decide +kernel
theorem d_Md_begin_145 : decode b_Md_begin 145 = .ok (.invokevirtual 158, 3) := by decide +kernel
theorem d_Md_begin_148 : decode b_Md_begin 148 = .ok (.aload_n 0, 1) := by decide +kernel
theorem d_Md_begin_149 : decode b_Md_begin 149 = .ok (.getfield 59, 3) := by decide +kernel
theorem d_Md_begin_152 : decode b_Md_begin 152 = .ok (.iload_n 1, 1) := by decide +kernel
theorem d_Md_begin_153 : decode b_Md_begin 153 = .ok (.iaload, 1) := by decide +kernel
theorem d_Md_begin_154 : decode b_Md_begin 154 = .ok (.ireturn, 1) := by decide +kernel
theorem d_Md_keep_0 : decode b_Md_keep 0 = .ok (.aload_n 0, 1) := by decide +kernel
theorem d_Md_keep_1 : decode b_Md_keep 1 = .ok (.aload_n 0, 1) := by decide +kernel
theorem d_Md_keep_2 : decode b_Md_keep 2 = .ok (.getfield 50, 3) := by decide +kernel
theorem d_Md_keep_5 : decode b_Md_keep 5 = .ok (.iload_n 1, 1) := by decide +kernel
theorem d_Md_keep_6 : decode b_Md_keep 6 = .ok (.iaload, 1) := by decide +kernel
theorem d_Md_keep_7 : decode b_Md_keep 7 = .ok (.invokevirtual 150, 3) := by decide +kernel
theorem d_Md_keep_10 : decode b_Md_keep 10 = .ok (.iconst (-1), 1) := by decide +kernel
theorem d_Md_keep_11 : decode b_Md_keep 11 = .ok (.if_icmp .ne 86, 3) := by decide +kernel
theorem d_Md_keep_14 : decode b_Md_keep 14 = .ok (.aload_n 0, 1) := by decide +kernel
theorem d_Md_keep_15 : decode b_Md_keep 15 = .ok (.getfield 80, 3) := by decide +kernel
theorem d_Md_keep_18 : decode b_Md_keep 18 = .ok (.aload_n 0, 1) := by decide +kernel
theorem d_Md_keep_19 : decode b_Md_keep 19 = .ok (.getfield 147, 3) := by decide +kernel
theorem d_Md_keep_22 : decode b_Md_keep 22 = .ok (.aload_n 0, 1) := by decide +kernel
theorem d_Md_keep_23 : decode b_Md_keep 23 = .ok (.getfield 50, 3) := by decide +kernel
theorem d_Md_keep_26 : decode b_Md_keep 26 = .ok (.iload_n 1, 1) := by decide +kernel
theorem d_Md_keep_27 : decode b_Md_keep 27 = .ok (.iaload, 1) := by decide +kernel
theorem d_Md_keep_28 : decode b_Md_keep 28 = .ok (.iastore, 1) := by decide +kernel
theorem d_Md_keep_29 : decode b_Md_keep 29 = .ok (.aload_n 0, 1) := by decide +kernel
theorem d_Md_keep_30 : decode b_Md_keep 30 = .ok (.getfield 83, 3) := by decide +kernel
theorem d_Md_keep_33 : decode b_Md_keep 33 = .ok (.aload_n 0, 1) := by decide +kernel
theorem d_Md_keep_34 : decode b_Md_keep 34 = .ok (.getfield 147, 3) := by decide +kernel
theorem d_Md_keep_37 : decode b_Md_keep 37 = .ok (.aload_n 0, 1) := by decide +kernel
theorem d_Md_keep_38 : decode b_Md_keep 38 = .ok (.getfield 65, 3) := by decide +kernel
theorem d_Md_keep_41 : decode b_Md_keep 41 = .ok (.iload_n 1, 1) := by decide +kernel
theorem d_Md_keep_42 : decode b_Md_keep 42 = .ok (.iaload, 1) := by decide +kernel
theorem d_Md_keep_43 : decode b_Md_keep 43 = .ok (.iastore, 1) := by decide +kernel
theorem d_Md_keep_44 : decode b_Md_keep 44 = .ok (.iconst 0, 1) := by decide +kernel
theorem d_Md_keep_45 : decode b_Md_keep 45 = .ok (.istore_n 2, 1) := by decide +kernel
theorem d_Md_keep_46 : decode b_Md_keep 46 = .ok (.iload_n 2, 1) := by decide +kernel
theorem d_Md_keep_47 : decode b_Md_keep 47 = .ok (.aload_n 0, 1) := by decide +kernel
theorem d_Md_keep_48 : decode b_Md_keep 48 = .ok (.getfield 65, 3) := by decide +kernel
theorem d_Md_keep_51 : decode b_Md_keep 51 = .ok (.iload_n 1, 1) := by decide +kernel
theorem d_Md_keep_52 : decode b_Md_keep 52 = .ok (.iaload, 1) := by decide +kernel
theorem d_Md_keep_53 : decode b_Md_keep 53 = .ok (.if_icmp .ge 34, 3) := by decide +kernel
theorem d_Md_keep_56 : decode b_Md_keep 56 = .ok (.aload_n 0, 1) := by decide +kernel
theorem d_Md_keep_57 : decode b_Md_keep 57 = .ok (.getfield 86, 3) := by decide +kernel
theorem d_Md_keep_60 : decode b_Md_keep 60 = .ok (.bipush 100, 2) := by decide +kernel
theorem d_Md_keep_62 : decode b_Md_keep 62 = .ok (.aload_n 0, 1) := by decide +kernel
theorem d_Md_keep_63 : decode b_Md_keep 63 = .ok (.getfield 147, 3) := by decide +kernel
theorem d_Md_keep_66 : decode b_Md_keep 66 = .ok (.imul, 1) := by decide +kernel
theorem d_Md_keep_67 : decode b_Md_keep 67 = .ok (.iload_n 2, 1) := by decide +kernel
theorem d_Md_keep_68 : decode b_Md_keep 68 = .ok (.iadd, 1) := by decide +kernel
theorem d_Md_keep_69 : decode b_Md_keep 69 = .ok (.aload_n 0, 1) := by decide +kernel
theorem d_Md_keep_70 : decode b_Md_keep 70 = .ok (.getfield 68, 3) := by decide +kernel
theorem d_Md_keep_73 : decode b_Md_keep 73 = .ok (.bipush 100, 2) := by decide +kernel
theorem d_Md_keep_75 : decode b_Md_keep 75 = .ok (.iload_n 1, 1) := by decide +kernel
theorem d_Md_keep_76 : decode b_Md_keep 76 = .ok (.imul, 1) := by decide +kernel
theorem d_Md_keep_77 : decode b_Md_keep 77 = .ok (.iload_n 2, 1) := by decide +kernel
theorem d_Md_keep_78 : decode b_Md_keep 78 = .ok (.iadd, 1) := by decide +kernel
theorem d_Md_keep_79 : decode b_Md_keep 79 = .ok (.iaload, 1) := by decide +kernel
theorem d_Md_keep_80 : decode b_Md_keep 80 = .ok (.iastore, 1) := by decide +kernel
theorem d_Md_keep_81 : decode b_Md_keep 81 = .ok (.iinc 2 1, 3) := by decide +kernel
theorem d_Md_keep_84 : decode b_Md_keep 84 = .ok (.goto (-38), 3) := by decide +kernel
theorem d_Md_keep_87 : decode b_Md_keep 87 = .ok (.aload_n 0, 1) := by decide +kernel
theorem d_Md_keep_88 : decode b_Md_keep 88 = .ok (.dup, 1) := by decide +kernel
theorem d_Md_keep_89 : decode b_Md_keep 89 = .ok (.getfield 147, 3) := by decide +kernel
theorem d_Md_keep_92 : decode b_Md_keep 92 = .ok (.iconst 1, 1) := by decide +kernel
theorem d_Md_keep_93 : decode b_Md_keep 93 = .ok (.iadd, 1) := by decide +kernel
theorem d_Md_keep_94 : decode b_Md_keep 94 = .ok (.putfield 147, 3) := by decide +kernel
theorem d_Md_keep_97 : decode b_Md_keep 97 = .ok (.aload_n 0, 1) := by decide +kernel
theorem d_Md_keep_98 : decode b_Md_keep 98 = .ok (.getfield 59, 3) := by decide +kernel
theorem d_Md_keep_101 : decode b_Md_keep 101 = .ok (.iload_n 1, 1) := by decide +kernel
theorem d_Md_keep_102 : decode b_Md_keep 102 = .ok (.iconst 3, 1) := by decide +kernel
theorem d_Md_keep_103 : decode b_Md_keep 103 = .ok (.iastore, 1) := by decide +kernel
theorem d_Md_keep_104 : decode b_Md_keep 104 = .ok (.return_, 1) := by decide +kernel
theorem d_Md_ask_0 : decode b_Md_ask 0 = .ok (.iload_n 1, 1) := by decide +kernel
theorem d_Md_ask_1 : decode b_Md_ask 1 = .ok (.istore_n 2, 1) := by decide +kernel
theorem d_Md_ask_2 : decode b_Md_ask 2 = .ok (.aload_n 0, 1) := by decide +kernel
theorem d_Md_ask_3 : decode b_Md_ask 3 = .ok (.getfield 7, 3) := by decide +kernel
theorem d_Md_ask_6 : decode b_Md_ask 6 = .ok (.aload_n 0, 1) := by decide +kernel
theorem d_Md_ask_7 : decode b_Md_ask 7 = .ok (.getfield 17, 3) := by decide +kernel
theorem d_Md_ask_10 : decode b_Md_ask 10 = .ok (.iload_n 2, 1) := by decide +kernel
theorem d_Md_ask_11 : decode b_Md_ask 11 = .ok (.iaload, 1) := by decide +kernel
theorem d_Md_ask_12 : decode b_Md_ask 12 = .ok (.baload, 1) := by decide +kernel
theorem d_Md_ask_13 : decode b_Md_ask 13 = .ok (.istore_n 3, 1) := by decide +kernel
theorem d_Md_ask_14 : decode b_Md_ask 14 = .ok (.iconst 0, 1) := by decide +kernel
theorem d_Md_ask_15 : decode b_Md_ask 15 = .ok (.istore 4, 2) := by decide +kernel
theorem d_Md_ask_17 : decode b_Md_ask 17 = .ok (.aload_n 0, 1) := by decide +kernel
theorem d_Md_ask_18 : decode b_Md_ask 18 = .ok (.getfield 13, 3) := by decide +kernel
theorem d_Md_ask_21 : decode b_Md_ask 21 = .ok (.aload_n 0, 1) := by decide +kernel
theorem d_Md_ask_22 : decode b_Md_ask 22 = .ok (.getfield 17, 3) := by decide +kernel
theorem d_Md_ask_25 : decode b_Md_ask 25 = .ok (.iload_n 2, 1) := by decide +kernel
theorem d_Md_ask_26 : decode b_Md_ask 26 = .ok (.iaload, 1) := by decide +kernel
theorem d_Md_ask_27 : decode b_Md_ask 27 = .ok (.dup2, 1) := by decide +kernel
theorem d_Md_ask_28 : decode b_Md_ask 28 = .ok (.iaload, 1) := by decide +kernel
theorem d_Md_ask_29 : decode b_Md_ask 29 = .ok (.iload_n 3, 1) := by decide +kernel
theorem d_Md_ask_30 : decode b_Md_ask 30 = .ok (.ifCond .eq 7, 3) := by decide +kernel
theorem d_Md_ask_33 : decode b_Md_ask 33 = .ok (.iconst 1, 1) := by decide +kernel
theorem d_Md_ask_34 : decode b_Md_ask 34 = .ok (.goto 4, 3) := by decide +kernel
theorem d_Md_ask_37 : decode b_Md_ask 37 = .ok (.iconst 0, 1) := by decide +kernel
theorem d_Md_ask_38 : decode b_Md_ask 38 = .ok (.iadd, 1) := by decide +kernel
theorem d_Md_ask_39 : decode b_Md_ask 39 = .ok (.iastore, 1) := by decide +kernel
theorem d_Md_ask_40 : decode b_Md_ask 40 = .ok (.aload_n 0, 1) := by decide +kernel
theorem d_Md_ask_41 : decode b_Md_ask 41 = .ok (.getfield 38, 3) := by decide +kernel
theorem d_Md_ask_44 : decode b_Md_ask 44 = .ok (.iload_n 2, 1) := by decide +kernel
theorem d_Md_ask_45 : decode b_Md_ask 45 = .ok (.baload, 1) := by decide +kernel
theorem d_Md_ask_46 : decode b_Md_ask 46 = .ok (.ifCond .ne 87, 3) := by decide +kernel
theorem d_Md_ask_49 : decode b_Md_ask 49 = .ok (.aload_n 0, 1) := by decide +kernel
theorem d_Md_ask_50 : decode b_Md_ask 50 = .ok (.getfield 26, 3) := by decide +kernel
theorem d_Md_ask_53 : decode b_Md_ask 53 = .ok (.iload_n 2, 1) := by decide +kernel
theorem d_Md_ask_54 : decode b_Md_ask 54 = .ok (.iaload, 1) := by decide +kernel
theorem d_Md_ask_55 : decode b_Md_ask 55 = .ok (.iconst (-1), 1) := by decide +kernel
theorem d_Md_ask_56 : decode b_Md_ask 56 = .ok (.if_icmp .eq 77, 3) := by decide +kernel
theorem d_Md_ask_59 : decode b_Md_ask 59 = .ok (.iload 4, 2) := by decide +kernel
theorem d_Md_ask_61 : decode b_Md_ask 61 = .ok (.iconst 3, 1) := by decide +kernel
theorem d_Md_ask_62 : decode b_Md_ask 62 = .ok (.if_icmp .ne 5, 3) := by decide +kernel
theorem d_Md_ask_65 : decode b_Md_ask 65 = .ok (.iconst (-1), 1) := by decide +kernel
theorem d_Md_ask_66 : decode b_Md_ask 66 = .ok (.ireturn, 1) := by decide +kernel
theorem d_Md_ask_67 : decode b_Md_ask 67 = .ok (.iinc 4 1, 3) := by decide +kernel
theorem d_Md_ask_70 : decode b_Md_ask 70 = .ok (.aload_n 0, 1) := by decide +kernel
theorem d_Md_ask_71 : decode b_Md_ask 71 = .ok (.getfield 26, 3) := by decide +kernel
theorem d_Md_ask_74 : decode b_Md_ask 74 = .ok (.iload_n 2, 1) := by decide +kernel
theorem d_Md_ask_75 : decode b_Md_ask 75 = .ok (.iaload, 1) := by decide +kernel
theorem d_Md_ask_76 : decode b_Md_ask 76 = .ok (.istore 5, 2) := by decide +kernel
theorem d_Md_ask_78 : decode b_Md_ask 78 = .ok (.iload_n 3, 1) := by decide +kernel
theorem d_Md_ask_79 : decode b_Md_ask 79 = .ok (.ifCond .eq 23, 3) := by decide +kernel
theorem d_Md_ask_82 : decode b_Md_ask 82 = .ok (.aload_n 0, 1) := by decide +kernel
theorem d_Md_ask_83 : decode b_Md_ask 83 = .ok (.getfield 17, 3) := by decide +kernel
theorem d_Md_ask_86 : decode b_Md_ask 86 = .ok (.iload 5, 2) := by decide +kernel
theorem d_Md_ask_88 : decode b_Md_ask 88 = .ok (.iaload, 1) := by decide +kernel
theorem d_Md_ask_89 : decode b_Md_ask 89 = .ok (.aload_n 0, 1) := by decide +kernel
theorem d_Md_ask_90 : decode b_Md_ask 90 = .ok (.getfield 17, 3) := by decide +kernel
theorem d_Md_ask_93 : decode b_Md_ask 93 = .ok (.iload_n 2, 1) := by decide +kernel
theorem d_Md_ask_94 : decode b_Md_ask 94 = .ok (.iaload, 1) := by decide +kernel
theorem d_Md_ask_95 : decode b_Md_ask 95 = .ok (.if_icmp .ne 7, 3) := by decide +kernel
theorem d_Md_ask_98 : decode b_Md_ask 98 = .ok (.iconst 1, 1) := by decide +kernel
theorem d_Md_ask_99 : decode b_Md_ask 99 = .ok (.goto 4, 3) := by decide +kernel
theorem d_Md_ask_102 : decode b_Md_ask 102 = .ok (.iconst 0, 1) := by decide +kernel
theorem d_Md_ask_103 : decode b_Md_ask 103 = .ok (.istore_n 3, 1) := by decide +kernel
theorem d_Md_ask_104 : decode b_Md_ask 104 = .ok (.iload 5, 2) := by decide +kernel
theorem d_Md_ask_106 : decode b_Md_ask 106 = .ok (.istore_n 2, 1) := by decide +kernel
theorem d_Md_ask_107 : decode b_Md_ask 107 = .ok (.aload_n 0, 1) := by decide +kernel
theorem d_Md_ask_108 : decode b_Md_ask 108 = .ok (.getfield 13, 3) := by decide +kernel
theorem d_Md_ask_111 : decode b_Md_ask 111 = .ok (.aload_n 0, 1) := by decide +kernel
theorem d_Md_ask_112 : decode b_Md_ask 112 = .ok (.getfield 17, 3) := by decide +kernel
theorem d_Md_ask_115 : decode b_Md_ask 115 = .ok (.iload_n 2, 1) := by decide +kernel
theorem d_Md_ask_116 : decode b_Md_ask 116 = .ok (.iaload, 1) := by decide +kernel
theorem d_Md_ask_117 : decode b_Md_ask 117 = .ok (.dup2, 1) := by decide +kernel
theorem d_Md_ask_118 : decode b_Md_ask 118 = .ok (.iaload, 1) := by decide +kernel
theorem d_Md_ask_119 : decode b_Md_ask 119 = .ok (.iload_n 3, 1) := by decide +kernel
theorem d_Md_ask_120 : decode b_Md_ask 120 = .ok (.ifCond .eq 7, 3) := by decide +kernel
theorem d_Md_ask_123 : decode b_Md_ask 123 = .ok (.iconst 1, 1) := by decide +kernel
theorem d_Md_ask_124 : decode b_Md_ask 124 = .ok (.goto 4, 3) := by decide +kernel
theorem d_Md_ask_127 : decode b_Md_ask 127 = .ok (.iconst 0, 1) := by decide +kernel
theorem d_Md_ask_128 : decode b_Md_ask 128 = .ok (.iadd, 1) := by decide +kernel
theorem d_Md_ask_129 : decode b_Md_ask 129 = .ok (.iastore, 1) := by decide +kernel
theorem d_Md_ask_130 : decode b_Md_ask 130 = .ok (.goto (-90), 3) := by decide +kernel
theorem d_Md_ask_133 : decode b_Md_ask 133 = .ok (.aload_n 0, 1) := by decide +kernel
theorem d_Md_ask_134 : decode b_Md_ask 134 = .ok (.getfield 38, 3) := by decide +kernel
theorem d_Md_ask_137 : decode b_Md_ask 137 = .ok (.iload_n 2, 1) := by decide +kernel
theorem d_Md_ask_138 : decode b_Md_ask 138 = .ok (.baload, 1) := by decide +kernel
theorem d_Md_ask_139 : decode b_Md_ask 139 = .ok (.ifCond .ne 16, 3) := by decide +kernel
theorem d_Md_ask_142 : decode b_Md_ask 142 = .ok (.aload_n 0, 1) := by decide +kernel
theorem d_Md_ask_143 : decode b_Md_ask 143 = .ok (.getfield 41, 3) := by decide +kernel
theorem d_Md_ask_146 : decode b_Md_ask 146 = .ok (.iload_n 2, 1) := by decide +kernel
theorem d_Md_ask_147 : decode b_Md_ask 147 = .ok (.baload, 1) := by decide +kernel
theorem d_Md_ask_148 : decode b_Md_ask 148 = .ok (.ifCond .eq 11, 3) := by decide +kernel
theorem d_Md_ask_151 : decode b_Md_ask 151 = .ok (.iload_n 3, 1) := by decide +kernel
theorem d_Md_ask_152 : decode b_Md_ask 152 = .ok (.ifCond .ne 7, 3) := by decide +kernel
theorem d_Md_ask_155 : decode b_Md_ask 155 = .ok (.iconst (-1), 1) := by decide +kernel
theorem d_Md_ask_156 : decode b_Md_ask 156 = .ok (.goto 4, 3) := by decide +kernel
theorem d_Md_ask_159 : decode b_Md_ask 159 = .ok (.iload_n 2, 1) := by decide +kernel
theorem d_Md_ask_160 : decode b_Md_ask 160 = .ok (.ireturn, 1) := by decide +kernel
theorem d_Md_falter_0 : decode b_Md_falter 0 = .ok (.aload_n 0, 1) := by decide +kernel
theorem d_Md_falter_1 : decode b_Md_falter 1 = .ok (.getfield 77, 3) := by decide +kernel
theorem d_Md_falter_4 : decode b_Md_falter 4 = .ok (.iload_n 1, 1) := by decide +kernel
theorem d_Md_falter_5 : decode b_Md_falter 5 = .ok (.iaload, 1) := by decide +kernel
theorem d_Md_falter_6 : decode b_Md_falter 6 = .ok (.aload_n 0, 1) := by decide +kernel
theorem d_Md_falter_7 : decode b_Md_falter 7 = .ok (.getfield 113, 3) := by decide +kernel
theorem d_Md_falter_10 : decode b_Md_falter 10 = .ok (.if_icmp .ne 17, 3) := by decide +kernel
theorem d_Md_falter_13 : decode b_Md_falter 13 = .ok (.aload_n 0, 1) := by decide +kernel
theorem d_Md_falter_14 : decode b_Md_falter 14 = .ok (.iload_n 1, 1) := by decide +kernel
theorem d_Md_falter_15 : decode b_Md_falter 15 = .ok (.aload_n 0, 1) := by decide +kernel
theorem d_Md_falter_16 : decode b_Md_falter 16 = .ok (.getfield 62, 3) := by decide +kernel
theorem d_Md_falter_19 : decode b_Md_falter 19 = .ok (.iload_n 1, 1) := by decide +kernel
theorem d_Md_falter_20 : decode b_Md_falter 20 = .ok (.iaload, 1) := by decide +kernel
theorem d_Md_falter_21 : decode b_Md_falter 21 = .ok (.iconst 1, 1) := by decide +kernel
theorem d_Md_falter_22 : decode b_Md_falter 22 = .ok (.iadd, 1) := by decide +kernel
theorem d_Md_falter_23 : decode b_Md_falter 23 = .ok (.invokevirtual 158, 3) := by decide +kernel
theorem d_Md_falter_26 : decode b_Md_falter 26 = .ok (.return_, 1) := by decide +kernel
theorem d_Md_falter_27 : decode b_Md_falter 27 = .ok (.aload_n 0, 1) := by decide +kernel
theorem d_Md_falter_28 : decode b_Md_falter 28 = .ok (.getfield 59, 3) := by decide +kernel
theorem d_Md_falter_31 : decode b_Md_falter 31 = .ok (.iload_n 1, 1) := by decide +kernel
theorem d_Md_falter_32 : decode b_Md_falter 32 = .ok (.iconst 2, 1) := by decide +kernel
theorem d_Md_falter_33 : decode b_Md_falter 33 = .ok (.iastore, 1) := by decide +kernel
theorem d_Md_falter_34 : decode b_Md_falter 34 = .ok (.aload_n 0, 1) := by decide +kernel
theorem d_Md_falter_35 : decode b_Md_falter 35 = .ok (.getfield 71, 3) := by decide +kernel
theorem d_Md_falter_38 : decode b_Md_falter 38 = .ok (.iload_n 1, 1) := by decide +kernel
theorem d_Md_falter_39 : decode b_Md_falter 39 = .ok (.aload_n 0, 1) := by decide +kernel
theorem d_Md_falter_40 : decode b_Md_falter 40 = .ok (.getfield 162, 3) := by decide +kernel
theorem d_Md_falter_43 : decode b_Md_falter 43 = .ok (.iconst 1, 1) := by decide +kernel
theorem d_Md_falter_44 : decode b_Md_falter 44 = .ok (.aload_n 0, 1) := by decide +kernel
theorem d_Md_falter_45 : decode b_Md_falter 45 = .ok (.getfield 77, 3) := by decide +kernel
theorem d_Md_falter_48 : decode b_Md_falter 48 = .ok (.iload_n 1, 1) := by decide +kernel
theorem d_Md_falter_49 : decode b_Md_falter 49 = .ok (.iaload, 1) := by decide +kernel
theorem d_Md_falter_50 : decode b_Md_falter 50 = .ok (.ishl, 1) := by decide +kernel
theorem d_Md_falter_51 : decode b_Md_falter 51 = .ok (.iadd, 1) := by decide +kernel
theorem d_Md_falter_52 : decode b_Md_falter 52 = .ok (.iastore, 1) := by decide +kernel
theorem d_Md_falter_53 : decode b_Md_falter 53 = .ok (.aload_n 0, 1) := by decide +kernel
theorem d_Md_falter_54 : decode b_Md_falter 54 = .ok (.getfield 77, 3) := by decide +kernel
theorem d_Md_falter_57 : decode b_Md_falter 57 = .ok (.iload_n 1, 1) := by decide +kernel
theorem d_Md_falter_58 : decode b_Md_falter 58 = .ok (.dup2, 1) := by decide +kernel
theorem d_Md_falter_59 : decode b_Md_falter 59 = .ok (.iaload, 1) := by decide +kernel
theorem d_Md_falter_60 : decode b_Md_falter 60 = .ok (.iconst 1, 1) := by decide +kernel
theorem d_Md_falter_61 : decode b_Md_falter 61 = .ok (.iadd, 1) := by decide +kernel
theorem d_Md_falter_62 : decode b_Md_falter 62 = .ok (.iastore, 1) := by decide +kernel
theorem d_Md_falter_63 : decode b_Md_falter 63 = .ok (.return_, 1) := by decide +kernel
theorem d_Md_judge_0 : decode b_Md_judge 0 = .ok (.iconst 0, 1) := by decide +kernel
theorem d_Md_judge_1 : decode b_Md_judge 1 = .ok (.istore_n 2, 1) := by decide +kernel
theorem d_Md_judge_2 : decode b_Md_judge 2 = .ok (.iconst 0, 1) := by decide +kernel
theorem d_Md_judge_3 : decode b_Md_judge 3 = .ok (.istore_n 3, 1) := by decide +kernel
theorem d_Md_judge_4 : decode b_Md_judge 4 = .ok (.iload_n 3, 1) := by decide +kernel
theorem d_Md_judge_5 : decode b_Md_judge 5 = .ok (.aload_n 0, 1) := by decide +kernel
theorem d_Md_judge_6 : decode b_Md_judge 6 = .ok (.getfield 65, 3) := by decide +kernel
theorem d_Md_judge_9 : decode b_Md_judge 9 = .ok (.iload_n 1, 1) := by decide +kernel
theorem d_Md_judge_10 : decode b_Md_judge 10 = .ok (.iaload, 1) := by decide +kernel
theorem d_Md_judge_11 : decode b_Md_judge 11 = .ok (.if_icmp .ge 25, 3) := by decide +kernel
theorem d_Md_judge_14 : decode b_Md_judge 14 = .ok (.iload_n 2, 1) := by decide +kernel
theorem d_Md_judge_15 : decode b_Md_judge 15 = .ok (.aload_n 0, 1) := by decide +kernel
theorem d_Md_judge_16 : decode b_Md_judge 16 = .ok (.getfield 68, 3) := by decide +kernel
theorem d_Md_judge_19 : decode b_Md_judge 19 = .ok (.bipush 100, 2) := by decide +kernel
theorem d_Md_judge_21 : decode b_Md_judge 21 = .ok (.iload_n 1, 1) := by decide +kernel
theorem d_Md_judge_22 : decode b_Md_judge 22 = .ok (.imul, 1) := by decide +kernel
theorem d_Md_judge_23 : decode b_Md_judge 23 = .ok (.iload_n 3, 1) := by decide +kernel
theorem d_Md_judge_24 : decode b_Md_judge 24 = .ok (.iadd, 1) := by decide +kernel
theorem d_Md_judge_25 : decode b_Md_judge 25 = .ok (.iaload, 1) := by decide +kernel
theorem d_Md_judge_26 : decode b_Md_judge 26 = .ok (.invokestatic 133, 3) := by decide +kernel
theorem d_Md_judge_29 : decode b_Md_judge 29 = .ok (.istore_n 2, 1) := by decide +kernel
theorem d_Md_judge_30 : decode b_Md_judge 30 = .ok (.iinc 3 1, 3) := by decide +kernel
theorem d_Md_judge_33 : decode b_Md_judge 33 = .ok (.goto (-29), 3) := by decide +kernel
theorem d_Md_judge_36 : decode b_Md_judge 36 = .ok (.iload_n 2, 1) := by decide +kernel
theorem d_Md_judge_37 : decode b_Md_judge 37 = .ok (.aload_n 0, 1) := by decide +kernel
theorem d_Md_judge_38 : decode b_Md_judge 38 = .ok (.getfield 50, 3) := by decide +kernel
theorem d_Md_judge_41 : decode b_Md_judge 41 = .ok (.iload_n 1, 1) := by decide +kernel
theorem d_Md_judge_42 : decode b_Md_judge 42 = .ok (.iaload, 1) := by decide +kernel
theorem d_Md_judge_43 : decode b_Md_judge 43 = .ok (.if_icmp .ne 9, 3) := by decide +kernel
theorem d_Md_judge_46 : decode b_Md_judge 46 = .ok (.aload_n 0, 1) := by decide +kernel
theorem d_Md_judge_47 : decode b_Md_judge 47 = .ok (.iload_n 1, 1) := by decide +kernel
theorem d_Md_judge_48 : decode b_Md_judge 48 = .ok (.invokevirtual 165, 3) := by decide +kernel
theorem d_Md_judge_51 : decode b_Md_judge 51 = .ok (.return_, 1) := by decide +kernel
theorem d_Md_judge_52 : decode b_Md_judge 52 = .ok (.aload_n 0, 1) := by decide +kernel
theorem d_Md_judge_53 : decode b_Md_judge 53 = .ok (.getfield 56, 3) := by decide +kernel
theorem d_Md_judge_56 : decode b_Md_judge 56 = .ok (.bipush 6, 2) := by decide +kernel
theorem d_Md_judge_58 : decode b_Md_judge 58 = .ok (.iload_n 1, 1) := by decide +kernel
theorem d_Md_judge_59 : decode b_Md_judge 59 = .ok (.imul, 1) := by decide +kernel
