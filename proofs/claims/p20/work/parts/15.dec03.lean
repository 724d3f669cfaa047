theorem d_Md_isRight_20 : decode b_Md_isRight 20 = .ok (.aload_n 0, 1) := by decide +kernel
theorem d_Md_isRight_21 : decode b_Md_isRight 21 = .ok (.getfield 68, 3) := by decide +kernel
theorem d_Md_isRight_24 : decode b_Md_isRight 24 = .ok (.iload 5, 2) := by decide +kernel
theorem d_Md_isRight_26 : decode b_Md_isRight 26 = .ok (.iaload, 1) := by decide +kernel
theorem d_Md_isRight_27 : decode b_Md_isRight 27 = .ok (.goto 5, 3) := by decide +kernel
theorem d_Md_isRight_30 : decode b_Md_isRight 30 = .ok (.bipush 47, 2) := by decide +kernel
theorem d_Md_isRight_32 : decode b_Md_isRight 32 = .ok (.istore 6, 2) := by decide +kernel
theorem d_Md_isRight_34 : decode b_Md_isRight 34 = .ok (.iload 6, 2) := by decide +kernel
theorem d_Md_isRight_36 : decode b_Md_isRight 36 = .ok (.invokestatic 183, 3) := by decide +kernel
theorem d_Md_isRight_39 : decode b_Md_isRight 39 = .ok (.ifCond .ne 5, 3) := by decide +kernel
theorem d_Md_isRight_42 : decode b_Md_isRight 42 = .ok (.iconst 0, 1) := by decide +kernel
theorem d_Md_isRight_43 : decode b_Md_isRight 43 = .ok (.ireturn, 1) := by decide +kernel
theorem d_Md_isRight_44 : decode b_Md_isRight 44 = .ok (.iload 6, 2) := by decide +kernel
theorem d_Md_isRight_46 : decode b_Md_isRight 46 = .ok (.bipush 47, 2) := by decide +kernel
theorem d_Md_isRight_48 : decode b_Md_isRight 48 = .ok (.if_icmp .ne 28, 3) := by decide +kernel
theorem d_Md_isRight_51 : decode b_Md_isRight 51 = .ok (.iload_n 3, 1) := by decide +kernel
theorem d_Md_isRight_52 : decode b_Md_isRight 52 = .ok (.ifCond .eq 14, 3) := by decide +kernel
theorem d_Md_isRight_55 : decode b_Md_isRight 55 = .ok (.iload_n 3, 1) := by decide +kernel
theorem d_Md_isRight_56 : decode b_Md_isRight 56 = .ok (.iload 4, 2) := by decide +kernel
theorem d_Md_isRight_58 : decode b_Md_isRight 58 = .ok (.if_icmp .ne 10, 3) := by decide +kernel
theorem d_Md_isRight_61 : decode b_Md_isRight 61 = .ok (.iload_n 3, 1) := by decide +kernel
theorem d_Md_isRight_62 : decode b_Md_isRight 62 = .ok (.iconst 3, 1) := by decide +kernel
theorem d_Md_isRight_63 : decode b_Md_isRight 63 = .ok (.if_icmp .ge 5, 3) := by decide +kernel
theorem d_Md_isRight_66 : decode b_Md_isRight 66 = .ok (.iconst 0, 1) := by decide +kernel
theorem d_Md_isRight_67 : decode b_Md_isRight 67 = .ok (.ireturn, 1) := by decide +kernel
theorem d_Md_isRight_68 : decode b_Md_isRight 68 = .ok (.iconst 0, 1) := by decide +kernel
theorem d_Md_isRight_69 : decode b_Md_isRight 69 = .ok (.istore_n 3, 1) := by decide +kernel
theorem d_Md_isRight_70 : decode b_Md_isRight 70 = .ok (.iconst 0, 1) := by decide +kernel
theorem d_Md_isRight_71 : decode b_Md_isRight 71 = .ok (.istore 4, 2) := by decide +kernel
theorem d_Md_isRight_73 : decode b_Md_isRight 73 = .ok (.goto 23, 3) := by decide +kernel
theorem d_Md_isRight_76 : decode b_Md_isRight 76 = .ok (.iinc 3 1, 3) := by decide +kernel
theorem d_Md_isRight_79 : decode b_Md_isRight 79 = .ok (.iload 4, 2) := by decide +kernel
theorem d_Md_isRight_81 : decode b_Md_isRight 81 = .ok (.iload 6, 2) := by decide +kernel
theorem d_Md_isRight_83 : decode b_Md_isRight 83 = .ok (.bipush 46, 2) := by decide +kernel
theorem d_Md_isRight_85 : decode b_Md_isRight 85 = .ok (.if_icmp .ne 7, 3) := by decide +kernel
theorem d_Md_isRight_88 : decode b_Md_isRight 88 = .ok (.iconst 1, 1) := by decide +kernel
theorem d_Md_isRight_89 : decode b_Md_isRight 89 = .ok (.goto 4, 3) := by decide +kernel
theorem d_Md_isRight_92 : decode b_Md_isRight 92 = .ok (.iconst 0, 1) := by decide +kernel
theorem d_Md_isRight_93 : decode b_Md_isRight 93 = .ok (.iadd, 1) := by decide +kernel
theorem d_Md_isRight_94 : decode b_Md_isRight 94 = .ok (.istore 4, 2) := by decide +kernel
theorem d_Md_isRight_96 : decode b_Md_isRight 96 = .ok (.iinc 5 1, 3) := by decide +kernel
theorem d_Md_isRight_99 : decode b_Md_isRight 99 = .ok (.goto (-91), 3) := by decide +kernel
theorem d_Md_isRight_102 : decode b_Md_isRight 102 = .ok (.iconst 1, 1) := by decide +kernel
theorem d_Md_isRight_103 : decode b_Md_isRight 103 = .ok (.ireturn, 1) := by decide +kernel
theorem d_Md_strip_0 : decode b_Md_strip 0 = .ok (.iload_n 3, 1) := by decide +kernel
theorem d_Md_strip_1 : decode b_Md_strip 1 = .ok (.istore 4, 2) := by decide +kernel
theorem d_Md_strip_3 : decode b_Md_strip 3 = .ok (.iload_n 1, 1) := by decide +kernel
theorem d_Md_strip_4 : decode b_Md_strip 4 = .ok (.istore 5, 2) := by decide +kernel
theorem d_Md_strip_6 : decode b_Md_strip 6 = .ok (.iload 4, 2) := by decide +kernel
theorem d_Md_strip_8 : decode b_Md_strip 8 = .ok (.ifCond .le 37, 3) := by decide +kernel
theorem d_Md_strip_11 : decode b_Md_strip 11 = .ok (.iload 5, 2) := by decide +kernel
theorem d_Md_strip_13 : decode b_Md_strip 13 = .ok (.iload_n 2, 1) := by decide +kernel
theorem d_Md_strip_14 : decode b_Md_strip 14 = .ok (.if_icmp .ge 31, 3) := by decide +kernel
theorem d_Md_strip_17 : decode b_Md_strip 17 = .ok (.iload 4, 2) := by decide +kernel
theorem d_Md_strip_19 : decode b_Md_strip 19 = .ok (.aload_n 0, 1) := by decide +kernel
theorem d_Md_strip_20 : decode b_Md_strip 20 = .ok (.getfield 68, 3) := by decide +kernel
theorem d_Md_strip_23 : decode b_Md_strip 23 = .ok (.iload 5, 2) := by decide +kernel
theorem d_Md_strip_25 : decode b_Md_strip 25 = .ok (.iaload, 1) := by decide +kernel
theorem d_Md_strip_26 : decode b_Md_strip 26 = .ok (.bipush 47, 2) := by decide +kernel
theorem d_Md_strip_28 : decode b_Md_strip 28 = .ok (.if_icmp .ne 7, 3) := by decide +kernel
theorem d_Md_strip_31 : decode b_Md_strip 31 = .ok (.iconst 1, 1) := by decide +kernel
theorem d_Md_strip_32 : decode b_Md_strip 32 = .ok (.goto 4, 3) := by decide +kernel
theorem d_Md_strip_35 : decode b_Md_strip 35 = .ok (.iconst 0, 1) := by decide +kernel
theorem d_Md_strip_36 : decode b_Md_strip 36 = .ok (.isub, 1) := by decide +kernel
theorem d_Md_strip_37 : decode b_Md_strip 37 = .ok (.istore 4, 2) := by decide +kernel
theorem d_Md_strip_39 : decode b_Md_strip 39 = .ok (.iinc 5 1, 3) := by decide +kernel
theorem d_Md_strip_42 : decode b_Md_strip 42 = .ok (.goto (-36), 3) := by decide +kernel
theorem d_Md_strip_45 : decode b_Md_strip 45 = .ok (.iload 4, 2) := by decide +kernel
theorem d_Md_strip_47 : decode b_Md_strip 47 = .ok (.ifCond .le 7, 3) := by decide +kernel
theorem d_Md_strip_50 : decode b_Md_strip 50 = .ok (.iload_n 2, 1) := by decide +kernel
theorem d_Md_strip_51 : decode b_Md_strip 51 = .ok (.goto 5, 3) := by decide +kernel
theorem d_Md_strip_54 : decode b_Md_strip 54 = .ok (.iload 5, 2) := by decide +kernel
theorem d_Md_strip_56 : decode b_Md_strip 56 = .ok (.ireturn, 1) := by decide +kernel
theorem d_Md_isSamePath_0 : decode b_Md_isSamePath 0 = .ok (.iload_n 2, 1) := by decide +kernel
theorem d_Md_isSamePath_1 : decode b_Md_isSamePath 1 = .ok (.iload 4, 2) := by decide +kernel
theorem d_Md_isSamePath_3 : decode b_Md_isSamePath 3 = .ok (.if_icmp .ne 7, 3) := by decide +kernel
theorem d_Md_isSamePath_6 : decode b_Md_isSamePath 6 = .ok (.iconst 1, 1) := by decide +kernel
theorem d_Md_isSamePath_7 : decode b_Md_isSamePath 7 = .ok (.goto 4, 3) := by decide +kernel
theorem d_Md_isSamePath_10 : decode b_Md_isSamePath 10 = .ok (.iconst 0, 1) := by decide +kernel
theorem d_Md_isSamePath_11 : decode b_Md_isSamePath 11 = .ok (.istore 5, 2) := by decide +kernel
theorem d_Md_isSamePath_13 : decode b_Md_isSamePath 13 = .ok (.iconst 0, 1) := by decide +kernel
theorem d_Md_isSamePath_14 : decode b_Md_isSamePath 14 = .ok (.istore 6, 2) := by decide +kernel
theorem d_Md_isSamePath_16 : decode b_Md_isSamePath 16 = .ok (.iload 6, 2) := by decide +kernel
theorem d_Md_isSamePath_18 : decode b_Md_isSamePath 18 = .ok (.iload_n 2, 1) := by decide +kernel
theorem d_Md_isSamePath_19 : decode b_Md_isSamePath 19 = .ok (.if_icmp .ge 42, 3) := by decide +kernel
theorem d_Md_isSamePath_22 : decode b_Md_isSamePath 22 = .ok (.iload 5, 2) := by decide +kernel
theorem d_Md_isSamePath_24 : decode b_Md_isSamePath 24 = .ok (.ifCond .eq 37, 3) := by decide +kernel
theorem d_Md_isSamePath_27 : decode b_Md_isSamePath 27 = .ok (.aload_n 0, 1) := by decide +kernel
theorem d_Md_isSamePath_28 : decode b_Md_isSamePath 28 = .ok (.getfield 68, 3) := by decide +kernel
theorem d_Md_isSamePath_31 : decode b_Md_isSamePath 31 = .ok (.iload_n 1, 1) := by decide +kernel
theorem d_Md_isSamePath_32 : decode b_Md_isSamePath 32 = .ok (.iload 6, 2) := by decide +kernel
theorem d_Md_isSamePath_34 : decode b_Md_isSamePath 34 = .ok (.iadd, 1) := by decide +kernel
theorem d_Md_isSamePath_35 : decode b_Md_isSamePath 35 = .ok (.iaload, 1) := by decide +kernel
theorem d_Md_isSamePath_36 : decode b_Md_isSamePath 36 = .ok (.aload_n 0, 1) := by decide +kernel
theorem d_Md_isSamePath_37 : decode b_Md_isSamePath 37 = .ok (.getfield 68, 3) := by decide +kernel
theorem d_Md_isSamePath_40 : decode b_Md_isSamePath 40 = .ok (.iload_n 3, 1) := by decide +kernel
theorem d_Md_isSamePath_41 : decode b_Md_isSamePath 41 = .ok (.iload 6, 2) := by decide +kernel
theorem d_Md_isSamePath_43 : decode b_Md_isSamePath 43 = .ok (.iadd, 1) := by decide +kernel
theorem d_Md_isSamePath_44 : decode b_Md_isSamePath 44 = .ok (.iaload, 1) := by decide +kernel
theorem d_Md_isSamePath_45 : decode b_Md_isSamePath 45 = .ok (.if_icmp .ne 7, 3) := by decide +kernel
theorem d_Md_isSamePath_48 : decode b_Md_isSamePath 48 = .ok (.iconst 1, 1) := by decide +kernel
theorem d_Md_isSamePath_49 : decode b_Md_isSamePath 49 = .ok (.goto 4, 3) := by decide +kernel
theorem d_Md_isSamePath_52 : decode b_Md_isSamePath 52 = .ok (.iconst 0, 1) := by decide +kernel
theorem d_Md_isSamePath_53 : decode b_Md_isSamePath 53 = .ok (.istore 5, 2) := by decide +kernel
theorem d_Md_isSamePath_55 : decode b_Md_isSamePath 55 = .ok (.iinc 6 1, 3) := by decide +kernel
theorem d_Md_isSamePath_58 : decode b_Md_isSamePath 58 = .ok (.goto (-42), 3) := by decide +kernel
theorem d_Md_isSamePath_61 : decode b_Md_isSamePath 61 = .ok (.iload 5, 2) := by decide +kernel
theorem d_Md_isSamePath_63 : decode b_Md_isSamePath 63 = .ok (.ireturn, 1) := by decide +kernel
theorem d_Md_putFile_0 : decode b_Md_putFile 0 = .ok (.iconst 0, 1) := by decide +kernel
theorem d_Md_putFile_1 : decode b_Md_putFile 1 = .ok (.istore 6, 2) := by decide +kernel
theorem d_Md_putFile_3 : decode b_Md_putFile 3 = .ok (.iload 6, 2) := by decide +kernel
theorem d_Md_putFile_5 : decode b_Md_putFile 5 = .ok (.aload_n 0, 1) := by decide +kernel
theorem d_Md_putFile_6 : decode b_Md_putFile 6 = .ok (.getfield 186, 3) := by decide +kernel
theorem d_Md_putFile_9 : decode b_Md_putFile 9 = .ok (.if_icmp .ge 36, 3) := by decide +kernel
theorem d_Md_putFile_12 : decode b_Md_putFile 12 = .ok (.aload_n 0, 1) := by decide +kernel
theorem d_Md_putFile_13 : decode b_Md_putFile 13 = .ok (.iload_n 1, 1) := by decide +kernel
theorem d_Md_putFile_14 : decode b_Md_putFile 14 = .ok (.aload_n 0, 1) := by decide +kernel
theorem d_Md_putFile_15 : decode b_Md_putFile 15 = .ok (.getfield 107, 3) := by decide +kernel
theorem d_Md_putFile_18 : decode b_Md_putFile 18 = .ok (.iload 6, 2) := by decide +kernel
theorem d_Md_putFile_20 : decode b_Md_putFile 20 = .ok (.iaload, 1) := by decide +kernel
theorem d_Md_putFile_21 : decode b_Md_putFile 21 = .ok (.iadd, 1) := by decide +kernel
theorem d_Md_putFile_22 : decode b_Md_putFile 22 = .ok (.aload_n 0, 1) := by decide +kernel
theorem d_Md_putFile_23 : decode b_Md_putFile 23 = .ok (.getfield 110, 3) := by decide +kernel
theorem d_Md_putFile_26 : decode b_Md_putFile 26 = .ok (.iload 6, 2) := by decide +kernel
theorem d_Md_putFile_28 : decode b_Md_putFile 28 = .ok (.iaload, 1) := by decide +kernel
theorem d_Md_putFile_29 : decode b_Md_putFile 29 = .ok (.iload_n 2, 1) := by decide +kernel
theorem d_Md_putFile_30 : decode b_Md_putFile 30 = .ok (.iload_n 3, 1) := by decide +kernel
theorem d_Md_putFile_31 : decode b_Md_putFile 31 = .ok (.iload_n 2, 1) := by decide +kernel
theorem d_Md_putFile_32 : decode b_Md_putFile 32 = .ok (.isub, 1) := by decide +kernel
theorem d_Md_putFile_33 : decode b_Md_putFile 33 = .ok (.invokevirtual 189, 3) := by decide +kernel
theorem d_Md_putFile_36 : decode b_Md_putFile 36 = .ok (.ifCond .ne 9, 3) := by decide +kernel
theorem d_Md_putFile_39 : decode b_Md_putFile 39 = .ok (.iinc 6 1, 3) := by decide +kernel
theorem d_Md_putFile_42 : decode b_Md_putFile 42 = .ok (.goto (-39), 3) := by decide +kernel
theorem d_Md_putFile_45 : decode b_Md_putFile 45 = .ok (.iload 6, 2) := by decide +kernel
theorem d_Md_putFile_47 : decode b_Md_putFile 47 = .ok (.aload_n 0, 1) := by decide +kernel
theorem d_Md_putFile_48 : decode b_Md_putFile 48 = .ok (.getfield 186, 3) := by decide +kernel
theorem d_Md_putFile_51 : decode b_Md_putFile 51 = .ok (.if_icmp .ne 33, 3) := by decide +kernel
theorem d_Md_putFile_54 : decode b_Md_putFile 54 = .ok (.aload_n 0, 1) := by decide +kernel
theorem d_Md_putFile_55 : decode b_Md_putFile 55 = .ok (.getfield 107, 3) := by decide +kernel
theorem d_Md_putFile_58 : decode b_Md_putFile 58 = .ok (.iload 6, 2) := by decide +kernel
theorem d_Md_putFile_60 : decode b_Md_putFile 60 = .ok (.iload_n 2, 1) := by decide +kernel
theorem d_Md_putFile_61 : decode b_Md_putFile 61 = .ok (.iload_n 1, 1) := by decide +kernel
theorem d_Md_putFile_62 : decode b_Md_putFile 62 = .ok (.isub, 1) := by decide +kernel
theorem d_Md_putFile_63 : decode b_Md_putFile 63 = .ok (.iastore, 1) := by decide +kernel
theorem d_Md_putFile_64 : decode b_Md_putFile 64 = .ok (.aload_n 0, 1) := by decide +kernel
theorem d_Md_putFile_65 : decode b_Md_putFile 65 = .ok (.getfield 110, 3) := by decide +kernel
theorem d_Md_putFile_68 : decode b_Md_putFile 68 = .ok (.iload 6, 2) := by decide +kernel
theorem d_Md_putFile_70 : decode b_Md_putFile 70 = .ok (.iload_n 3, 1) := by decide +kernel
theorem d_Md_putFile_71 : decode b_Md_putFile 71 = .ok (.iload_n 2, 1) := by decide +kernel
theorem d_Md_putFile_72 : decode b_Md_putFile 72 = .ok (.isub, 1) := by decide +kernel
theorem d_Md_putFile_73 : decode b_Md_putFile 73 = .ok (.iastore, 1) := by decide +kernel
theorem d_Md_putFile_74 : decode b_Md_putFile 74 = .ok (.aload_n 0, 1) := by decide +kernel
theorem d_Md_putFile_75 : decode b_Md_putFile 75 = .ok (.dup, 1) := by decide +kernel
theorem d_Md_putFile_76 : decode b_Md_putFile 76 = .ok (.getfield 186, 3) := by decide +kernel
theorem d_Md_putFile_79 : decode b_Md_putFile 79 = .ok (.iconst 1, 1) := by decide +kernel
theorem d_Md_putFile_80 : decode b_Md_putFile 80 = .ok (.iadd, 1) := by decide +kernel
theorem d_Md_putFile_81 : decode b_Md_putFile 81 = .ok (.putfield 186, 3) := by decide +kernel
theorem d_Md_putFile_84 : decode b_Md_putFile 84 = .ok (.aload_n 0, 1) := by decide +kernel
theorem d_Md_putFile_85 : decode b_Md_putFile 85 = .ok (.getfield 101, 3) := by decide +kernel
theorem d_Md_putFile_88 : decode b_Md_putFile 88 = .ok (.iload 6, 2) := by decide +kernel
theorem d_Md_putFile_90 : decode b_Md_putFile 90 = .ok (.iload 4, 2) := by decide +kernel
theorem d_Md_putFile_92 : decode b_Md_putFile 92 = .ok (.iload_n 1, 1) := by decide +kernel
theorem d_Md_putFile_93 : decode b_Md_putFile 93 = .ok (.isub, 1) := by decide +kernel
theorem d_Md_putFile_94 : decode b_Md_putFile 94 = .ok (.iastore, 1) := by decide +kernel
theorem d_Md_putFile_95 : decode b_Md_putFile 95 = .ok (.aload_n 0, 1) := by decide +kernel
theorem d_Md_putFile_96 : decode b_Md_putFile 96 = .ok (.getfield 104, 3) := by decide +kernel
theorem d_Md_putFile_99 : decode b_Md_putFile 99 = .ok (.iload 6, 2) := by decide +kernel
theorem d_Md_putFile_101 : decode b_Md_putFile 101 = .ok (.iload 5, 2) := by decide +kernel
theorem d_Md_putFile_103 : decode b_Md_putFile 103 = .ok (.iastore, 1) := by decide +kernel
theorem d_Md_putFile_104 : decode b_Md_putFile 104 = .ok (.return_, 1) := by decide +kernel
theorem d_Md_read_0 : decode b_Md_read 0 = .ok (.bipush 100, 2) := by decide +kernel
theorem d_Md_read_2 : decode b_Md_read 2 = .ok (.iload_n 1, 1) := by decide +kernel
theorem d_Md_read_3 : decode b_Md_read 3 = .ok (.imul, 1) := by decide +kernel
theorem d_Md_read_4 : decode b_Md_read 4 = .ok (.istore 4, 2) := by decide +kernel
theorem d_Md_read_6 : decode b_Md_read 6 = .ok (.iload 4, 2) := by decide +kernel
theorem d_Md_read_8 : decode b_Md_read 8 = .ok (.aload_n 0, 1) := by decide +kernel
theorem d_Md_read_9 : decode b_Md_read 9 = .ok (.getfield 65, 3) := by decide +kernel
theorem d_Md_read_12 : decode b_Md_read 12 = .ok (.iload_n 1, 1) := by decide +kernel
theorem d_Md_read_13 : decode b_Md_read 13 = .ok (.iaload, 1) := by decide +kernel
theorem d_Md_read_14 : decode b_Md_read 14 = .ok (.iadd, 1) := by decide +kernel
theorem d_Md_read_15 : decode b_Md_read 15 = .ok (.istore 5, 2) := by decide +kernel
theorem d_Md_read_17 : decode b_Md_read 17 = .ok (.iload 4, 2) := by decide +kernel
theorem d_Md_read_19 : decode b_Md_read 19 = .ok (.istore 6, 2) := by decide +kernel
theorem d_Md_read_21 : decode b_Md_read 21 = .ok (.iload 6, 2) := by decide +kernel
theorem d_Md_read_23 : decode b_Md_read 23 = .ok (.iload 5, 2) := by decide +kernel
theorem d_Md_read_25 : decode b_Md_read 25 = .ok (.if_icmp .ge 167, 3) := by decide +kernel
theorem d_Md_read_28 : decode b_Md_read 28 = .ok (.aload_n 0, 1) := by decide +kernel
theorem d_Md_read_29 : decode b_Md_read 29 = .ok (.getfield 68, 3) := by decide +kernel
theorem d_Md_read_32 : decode b_Md_read 32 = .ok (.iload 6, 2) := by decide +kernel
theorem d_Md_read_34 : decode b_Md_read 34 = .ok (.iaload, 1) := by decide +kernel
theorem d_Md_read_35 : decode b_Md_read 35 = .ok (.istore 7, 2) := by decide +kernel
theorem d_Md_read_37 : decode b_Md_read 37 = .ok (.iload 7, 2) := by decide +kernel
theorem d_Md_read_39 : decode b_Md_read 39 = .ok (.iconst 1, 1) := by decide +kernel
theorem d_Md_read_40 : decode b_Md_read 40 = .ok (.if_icmp .lt 10, 3) := by decide +kernel
theorem d_Md_read_43 : decode b_Md_read 43 = .ok (.iload 7, 2) := by decide +kernel
theorem d_Md_read_45 : decode b_Md_read 45 = .ok (.bipush 20, 2) := by decide +kernel
theorem d_Md_read_47 : decode b_Md_read 47 = .ok (.if_icmp .le 9, 3) := by decide +kernel
theorem d_Md_read_50 : decode b_Md_read 50 = .ok (.iload 6, 2) := by decide +kernel
theorem d_Md_read_52 : decode b_Md_read 52 = .ok (.iload 4, 2) := by decide +kernel
theorem d_Md_read_54 : decode b_Md_read 54 = .ok (.isub, 1) := by decide +kernel
theorem d_Md_read_55 : decode b_Md_read 55 = .ok (.ireturn, 1) := by decide +kernel
theorem d_Md_read_56 : decode b_Md_read 56 = .ok (.iload 6, 2) := by decide +kernel
theorem d_Md_read_58 : decode b_Md_read 58 = .ok (.iconst 1, 1) := by decide +kernel
theorem d_Md_read_59 : decode b_Md_read 59 = .ok (.iadd, 1) := by decide +kernel
theorem d_Md_read_60 : decode b_Md_read 60 = .ok (.istore 8, 2) := by decide +kernel
theorem d_Md_read_62 : decode b_Md_read 62 = .ok (.iload 8, 2) := by decide +kernel
theorem d_Md_read_64 : decode b_Md_read 64 = .ok (.iload 7, 2) := by decide +kernel
theorem d_Md_read_66 : decode b_Md_read 66 = .ok (.iadd, 1) := by decide +kernel
theorem d_Md_read_67 : decode b_Md_read 67 = .ok (.iload 5, 2) := by decide +kernel
theorem d_Md_read_69 : decode b_Md_read 69 = .ok (.if_icmp .lt 10, 3) := by decide +kernel
theorem d_Md_read_72 : decode b_Md_read 72 = .ok (.aload_n 0, 1) := by decide +kernel
theorem d_Md_read_73 : decode b_Md_read 73 = .ok (.getfield 65, 3) := by decide +kernel
theorem d_Md_read_76 : decode b_Md_read 76 = .ok (.iload_n 1, 1) := by decide +kernel
theorem d_Md_read_77 : decode b_Md_read 77 = .ok (.iaload, 1) := by decide +kernel
theorem d_Md_read_78 : decode b_Md_read 78 = .ok (.ireturn, 1) := by decide +kernel
theorem d_Md_read_79 : decode b_Md_read 79 = .ok (.aload_n 0, 1) := by decide +kernel
theorem d_Md_read_80 : decode b_Md_read 80 = .ok (.iload 8, 2) := by decide +kernel
theorem d_Md_read_82 : decode b_Md_read 82 = .ok (.iload 8, 2) := by decide +kernel
theorem d_Md_read_84 : decode b_Md_read 84 = .ok (.iload 7, 2) := by decide +kernel
theorem d_Md_read_86 : decode b_Md_read 86 = .ok (.iadd, 1) := by decide +kernel
theorem d_Md_read_87 : decode b_Md_read 87 = .ok (.invokevirtual 193, 3) := by decide +kernel
theorem d_Md_read_90 : decode b_Md_read 90 = .ok (.ifCond .ne 9, 3) := by decide +kernel
theorem d_Md_read_93 : decode b_Md_read 93 = .ok (.iload 8, 2) := by decide +kernel
theorem d_Md_read_95 : decode b_Md_read 95 = .ok (.iload 4, 2) := by decide +kernel
theorem d_Md_read_97 : decode b_Md_read 97 = .ok (.isub, 1) := by decide +kernel
theorem d_Md_read_98 : decode b_Md_read 98 = .ok (.ireturn, 1) := by decide +kernel
theorem d_Md_read_99 : decode b_Md_read 99 = .ok (.aload_n 0, 1) := by decide +kernel
theorem d_Md_read_100 : decode b_Md_read 100 = .ok (.getfield 68, 3) := by decide +kernel
theorem d_Md_read_103 : decode b_Md_read 103 = .ok (.iload 8, 2) := by decide +kernel
theorem d_Md_read_105 : decode b_Md_read 105 = .ok (.iload 7, 2) := by decide +kernel
theorem d_Md_read_107 : decode b_Md_read 107 = .ok (.iadd, 1) := by decide +kernel
theorem d_Md_read_108 : decode b_Md_read 108 = .ok (.iaload, 1) := by decide +kernel
theorem d_Md_read_109 : decode b_Md_read 109 = .ok (.istore 9, 2) := by decide +kernel
theorem d_Md_read_111 : decode b_Md_read 111 = .ok (.iload 8, 2) := by decide +kernel
theorem d_Md_read_113 : decode b_Md_read 113 = .ok (.iload 7, 2) := by decide +kernel
theorem d_Md_read_115 : decode b_Md_read 115 = .ok (.iadd, 1) := by decide +kernel
theorem d_Md_read_116 : decode b_Md_read 116 = .ok (.iconst 1, 1) := by decide +kernel
theorem d_Md_read_117 : decode b_Md_read 117 = .ok (.iadd, 1) := by decide +kernel
theorem d_Md_read_118 : decode b_Md_read 118 = .ok (.istore 10, 2) := by decide +kernel
theorem d_Md_read_120 : decode b_Md_read 120 = .ok (.iload 10, 2) := by decide +kernel
theorem d_Md_read_122 : decode b_Md_read 122 = .ok (.iload 9, 2) := by decide +kernel
theorem d_Md_read_124 : decode b_Md_read 124 = .ok (.iadd, 1) := by decide +kernel
theorem d_Md_read_125 : decode b_Md_read 125 = .ok (.iload 5, 2) := by decide +kernel
theorem d_Md_read_127 : decode b_Md_read 127 = .ok (.if_icmp .le 10, 3) := by decide +kernel
theorem d_Md_read_130 : decode b_Md_read 130 = .ok (.aload_n 0, 1) := by decide +kernel
theorem d_Md_read_131 : decode b_Md_read 131 = .ok (.getfield 65, 3) := by decide +kernel
theorem d_Md_read_134 : decode b_Md_read 134 = .ok (.iload_n 1, 1) := by decide +kernel
theorem d_Md_read_135 : decode b_Md_read 135 = .ok (.iaload, 1) := by decide +kernel
theorem d_Md_read_136 : decode b_Md_read 136 = .ok (.ireturn, 1) := by decide +kernel
theorem d_Md_read_137 : decode b_Md_read 137 = .ok (.aload_n 0, 1) := by decide +kernel
theorem d_Md_read_138 : decode b_Md_read 138 = .ok (.iload 8, 2) := by decide +kernel
theorem d_Md_read_140 : decode b_Md_read 140 = .ok (.iload 8, 2) := by decide +kernel
theorem d_Md_read_142 : decode b_Md_read 142 = .ok (.iload 7, 2) := by decide +kernel
theorem d_Md_read_144 : decode b_Md_read 144 = .ok (.iadd, 1) := by decide +kernel
theorem d_Md_read_145 : decode b_Md_read 145 = .ok (.iload_n 2, 1) := by decide +kernel
theorem d_Md_read_146 : decode b_Md_read 146 = .ok (.invokevirtual 197, 3) := by decide +kernel
theorem d_Md_read_149 : decode b_Md_read 149 = .ok (.istore 11, 2) := by decide +kernel
theorem d_Md_read_151 : decode b_Md_read 151 = .ok (.iload_n 3, 1) := by decide +kernel
theorem d_Md_read_152 : decode b_Md_read 152 = .ok (.ifCond .eq 30, 3) := by decide +kernel
theorem d_Md_read_155 : decode b_Md_read 155 = .ok (.iload 11, 2) := by decide +kernel
theorem d_Md_read_157 : decode b_Md_read 157 = .ok (.iload 8, 2) := by decide +kernel
theorem d_Md_read_159 : decode b_Md_read 159 = .ok (.iload 7, 2) := by decide +kernel
theorem d_Md_read_161 : decode b_Md_read 161 = .ok (.iadd, 1) := by decide +kernel
theorem d_Md_read_162 : decode b_Md_read 162 = .ok (.if_icmp .ge 20, 3) := by decide +kernel
theorem d_Md_read_165 : decode b_Md_read 165 = .ok (.aload_n 0, 1) := by decide +kernel
theorem d_Md_read_166 : decode b_Md_read 166 = .ok (.iload 4, 2) := by decide +kernel
theorem d_Md_read_168 : decode b_Md_read 168 = .ok (.iload 11, 2) := by decide +kernel
theorem d_Md_read_170 : decode b_Md_read 170 = .ok (.iload 8, 2) := by decide +kernel
theorem d_Md_read_172 : decode b_Md_read 172 = .ok (.iload 7, 2) := by decide +kernel
theorem d_Md_read_174 : decode b_Md_read 174 = .ok (.iadd, 1) := by decide +kernel
theorem d_Md_read_175 : decode b_Md_read 175 = .ok (.iload 10, 2) := by decide +kernel
theorem d_Md_read_177 : decode b_Md_read 177 = .ok (.iload 9, 2) := by decide +kernel
theorem d_Md_read_179 : decode b_Md_read 179 = .ok (.invokevirtual 201, 3) := by decide +kernel
theorem d_Md_read_182 : decode b_Md_read 182 = .ok (.iload 10, 2) := by decide +kernel
theorem d_Md_read_184 : decode b_Md_read 184 = .ok (.iload 9, 2) := by decide +kernel
theorem d_Md_read_186 : decode b_Md_read 186 = .ok (.iadd, 1) := by decide +kernel
theorem d_Md_read_187 : decode b_Md_read 187 = .ok (.istore 6, 2) := by decide +kernel
theorem d_Md_read_189 : decode b_Md_read 189 = .ok (.goto (-168), 3) := by decide +kernel
theorem d_Md_read_192 : decode b_Md_read 192 = .ok (.iconst (-1), 1) := by decide +kernel
theorem d_Md_read_193 : decode b_Md_read 193 = .ok (.ireturn, 1) := by decide +kernel
theorem d_Md_unpack_0 : decode b_Md_unpack 0 = .ok (.aload_n 0, 1) := by decide +kernel
theorem d_Md_unpack_1 : decode b_Md_unpack 1 = .ok (.iconst 0, 1) := by decide +kernel
theorem d_Md_unpack_2 : decode b_Md_unpack 2 = .ok (.putfield 117, 3) := by decide +kernel
theorem d_Md_unpack_5 : decode b_Md_unpack 5 = .ok (.aload_n 0, 1) := by decide +kernel
theorem d_Md_unpack_6 : decode b_Md_unpack 6 = .ok (.iload_n 1, 1) := by decide +kernel
theorem d_Md_unpack_7 : decode b_Md_unpack 7 = .ok (.invokevirtual 137, 3) := by decide +kernel
theorem d_Md_unpack_10 : decode b_Md_unpack 10 = .ok (.ifCond .eq 22, 3) := by decide +kernel
theorem d_Md_unpack_13 : decode b_Md_unpack 13 = .ok (.aload_n 0, 1) := by decide +kernel
theorem d_Md_unpack_14 : decode b_Md_unpack 14 = .ok (.getfield 59, 3) := by decide +kernel
theorem d_Md_unpack_17 : decode b_Md_unpack 17 = .ok (.iload_n 1, 1) := by decide +kernel
theorem d_Md_unpack_18 : decode b_Md_unpack 18 = .ok (.iaload, 1) := by decide +kernel
theorem d_Md_unpack_19 : decode b_Md_unpack 19 = .ok (.iconst 3, 1) := by decide +kernel
theorem d_Md_unpack_20 : decode b_Md_unpack 20 = .ok (.if_icmp .ne 12, 3) := by decide +kernel
theorem d_Md_unpack_23 : decode b_Md_unpack 23 = .ok (.iload_n 2, 1) := by decide +kernel
theorem d_Md_unpack_24 : decode b_Md_unpack 24 = .ok (.ifCond .lt 8, 3) := by decide +kernel
theorem d_Md_unpack_27 : decode b_Md_unpack 27 = .ok (.iload_n 2, 1) := by decide +kernel
theorem d_Md_unpack_28 : decode b_Md_unpack 28 = .ok (.iconst 5, 1) := by decide +kernel
theorem d_Md_unpack_29 : decode b_Md_unpack 29 = .ok (.if_icmp .le 7, 3) := by decide +kernel
theorem d_Md_unpack_32 : decode b_Md_unpack 32 = .ok (.sipush (-1000), 3) := by decide +kernel
theorem d_Md_unpack_35 : decode b_Md_unpack 35 = .ok (.ireturn, 1) := by decide +kernel
theorem d_Md_unpack_36 : decode b_Md_unpack 36 = .ok (.aload_n 0, 1) := by decide +kernel
theorem d_Md_unpack_37 : decode b_Md_unpack 37 = .ok (.iload_n 1, 1) := by decide +kernel
theorem d_Md_unpack_38 : decode b_Md_unpack 38 = .ok (.iload_n 2, 1) := by decide +kernel
theorem d_Md_unpack_39 : decode b_Md_unpack 39 = .ok (.iconst 0, 1) := by decide +kernel
theorem d_Md_unpack_40 : decode b_Md_unpack 40 = .ok (.invokevirtual 205, 3) := by decide +kernel
theorem d_Md_unpack_43 : decode b_Md_unpack 43 = .ok (.istore_n 3, 1) := by decide +kernel
theorem d_Md_unpack_44 : decode b_Md_unpack 44 = .ok (.iload_n 3, 1) := by decide +kernel
theorem d_Md_unpack_45 : decode b_Md_unpack 45 = .ok (.iconst (-1), 1) := by decide +kernel
theorem d_Md_unpack_46 : decode b_Md_unpack 46 = .ok (.if_icmp .eq 7, 3) := by decide +kernel
theorem d_Md_unpack_49 : decode b_Md_unpack 49 = .ok (.iconst (-1), 1) := by decide +kernel
theorem d_Md_unpack_50 : decode b_Md_unpack 50 = .ok (.iload_n 3, 1) := by decide +kernel
theorem d_Md_unpack_51 : decode b_Md_unpack 51 = .ok (.isub, 1) := by decide +kernel
theorem d_Md_unpack_52 : decode b_Md_unpack 52 = .ok (.ireturn, 1) := by decide +kernel
theorem d_Md_unpack_53 : decode b_Md_unpack 53 = .ok (.aload_n 0, 1) := by decide +kernel
theorem d_Md_unpack_54 : decode b_Md_unpack 54 = .ok (.iconst 0, 1) := by decide +kernel
theorem d_Md_unpack_55 : decode b_Md_unpack 55 = .ok (.putfield 186, 3) := by decide +kernel
theorem d_Md_unpack_58 : decode b_Md_unpack 58 = .ok (.aload_n 0, 1) := by decide +kernel
theorem d_Md_unpack_59 : decode b_Md_unpack 59 = .ok (.iload_n 1, 1) := by decide +kernel
theorem d_Md_unpack_60 : decode b_Md_unpack 60 = .ok (.iload_n 2, 1) := by decide +kernel
theorem d_Md_unpack_61 : decode b_Md_unpack 61 = .ok (.iconst 1, 1) := by decide +kernel
theorem d_Md_unpack_62 : decode b_Md_unpack 62 = .ok (.invokevirtual 205, 3) := by decide +kernel
theorem d_Md_unpack_65 : decode b_Md_unpack 65 = .ok (.pop, 1) := by decide +kernel
theorem d_Md_unpack_66 : decode b_Md_unpack 66 = .ok (.aload_n 0, 1) := by decide +kernel
theorem d_Md_unpack_67 : decode b_Md_unpack 67 = .ok (.getfield 186, 3) := by decide +kernel
theorem d_Md_unpack_70 : decode b_Md_unpack 70 = .ok (.ireturn, 1) := by decide +kernel
theorem d_Md_file_0 : decode b_Md_file 0 = .ok (.aload_n 0, 1) := by decide +kernel
theorem d_Md_file_1 : decode b_Md_file 1 = .ok (.iconst 0, 1) := by decide +kernel
theorem d_Md_file_2 : decode b_Md_file 2 = .ok (.putfield 117, 3) := by decide +kernel
theorem d_Md_file_5 : decode b_Md_file 5 = .ok (.iload_n 1, 1) := by decide +kernel
theorem d_Md_file_6 : decode b_Md_file 6 = .ok (.ifCond .lt 11, 3) := by decide +kernel
theorem d_Md_file_9 : decode b_Md_file 9 = .ok (.iload_n 1, 1) := by decide +kernel
theorem d_Md_file_10 : decode b_Md_file 10 = .ok (.aload_n 0, 1) := by decide +kernel
theorem d_Md_file_11 : decode b_Md_file 11 = .ok (.getfield 186, 3) := by decide +kernel
theorem d_Md_file_14 : decode b_Md_file 14 = .ok (.if_icmp .lt 5, 3) := by decide +kernel
theorem d_Md_file_17 : decode b_Md_file 17 = .ok (.iconst (-1), 1) := by decide +kernel
theorem d_Md_file_18 : decode b_Md_file 18 = .ok (.ireturn, 1) := by decide +kernel
theorem d_Md_file_19 : decode b_Md_file 19 = .ok (.iload_n 2, 1) := by decide +kernel
theorem d_Md_file_20 : decode b_Md_file 20 = .ok (.ifCond .ne 12, 3) := by decide +kernel
theorem d_Md_file_23 : decode b_Md_file 23 = .ok (.aload_n 0, 1) := by decide +kernel
theorem d_Md_file_24 : decode b_Md_file 24 = .ok (.getfield 101, 3) := by decide +kernel
theorem d_Md_file_27 : decode b_Md_file 27 = .ok (.iload_n 1, 1) := by decide +kernel
theorem d_Md_file_28 : decode b_Md_file 28 = .ok (.iaload, 1) := by decide +kernel
theorem d_Md_file_29 : decode b_Md_file 29 = .ok (.goto 46, 3) := by decide +kernel
theorem d_Md_file_32 : decode b_Md_file 32 = .ok (.iload_n 2, 1) := by decide +kernel
theorem d_Md_file_33 : decode b_Md_file 33 = .ok (.iconst 1, 1) := by decide +kernel
theorem d_Md_file_34 : decode b_Md_file 34 = .ok (.if_icmp .ne 12, 3) := by decide +kernel
theorem d_Md_file_37 : decode b_Md_file 37 = .ok (.aload_n 0, 1) := by decide +kernel
theorem d_Md_file_38 : decode b_Md_file 38 = .ok (.getfield 104, 3) := by decide +kernel
theorem d_Md_file_41 : decode b_Md_file 41 = .ok (.iload_n 1, 1) := by decide +kernel
theorem d_Md_file_42 : decode b_Md_file 42 = .ok (.iaload, 1) := by decide +kernel
theorem d_Md_file_43 : decode b_Md_file 43 = .ok (.goto 32, 3) := by decide +kernel
theorem d_Md_file_46 : decode b_Md_file 46 = .ok (.iload_n 2, 1) := by decide +kernel
theorem d_Md_file_47 : decode b_Md_file 47 = .ok (.iconst 2, 1) := by decide +kernel
theorem d_Md_file_48 : decode b_Md_file 48 = .ok (.if_icmp .ne 12, 3) := by decide +kernel
theorem d_Md_file_51 : decode b_Md_file 51 = .ok (.aload_n 0, 1) := by decide +kernel
theorem d_Md_file_52 : decode b_Md_file 52 = .ok (.getfield 107, 3) := by decide +kernel
theorem d_Md_file_55 : decode b_Md_file 55 = .ok (.iload_n 1, 1) := by decide +kernel
theorem d_Md_file_56 : decode b_Md_file 56 = .ok (.iaload, 1) := by decide +kernel
theorem d_Md_file_57 : decode b_Md_file 57 = .ok (.goto 18, 3) := by decide +kernel
theorem d_Md_file_60 : decode b_Md_file 60 = .ok (.iload_n 2, 1) := by decide +kernel
theorem d_Md_file_61 : decode b_Md_file 61 = .ok (.iconst 3, 1) := by decide +kernel
theorem d_Md_file_62 : decode b_Md_file 62 = .ok (.if_icmp .ne 12, 3) := by decide +kernel
theorem d_Md_file_65 : decode b_Md_file 65 = .ok (.aload_n 0, 1) := by decide +kernel
theorem d_Md_file_66 : decode b_Md_file 66 = .ok (.getfield 110, 3) := by decide +kernel
theorem d_Md_file_69 : decode b_Md_file 69 = .ok (.iload_n 1, 1) := by decide +kernel
theorem d_Md_file_70 : decode b_Md_file 70 = .ok (.iaload, 1) := by decide +kernel
theorem d_Md_file_71 : decode b_Md_file 71 = .ok (.goto 4, 3) := by decide +kernel
theorem d_Md_file_74 : decode b_Md_file 74 = .ok (.iconst (-1), 1) := by decide +kernel
theorem d_Md_file_75 : decode b_Md_file 75 = .ok (.ireturn, 1) := by decide +kernel
