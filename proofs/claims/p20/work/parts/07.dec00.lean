theorem d_FR_init_0 : decode b_FR_init 0 = .ok (.aload_n 0, 1) := by decide +kernel
theorem d_FR_init_1 : decode b_FR_init 1 = .ok (.invokespecial 3, 3) := by decide +kernel
theorem d_FR_init_4 : decode b_FR_init 4 = .ok (.aload_n 0, 1) := by decide +kernel
theorem d_FR_init_5 : decode b_FR_init 5 = .ok (.bipush 8, 2) := by decide +kernel
theorem d_FR_init_7 : decode b_FR_init 7 = .ok (.newarray .boolean, 2) := by decide +kernel
theorem d_FR_init_9 : decode b_FR_init 9 = .ok (.putfield 9, 3) := by decide +kernel
theorem d_FR_init_12 : decode b_FR_init 12 = .ok (.aload_n 0, 1) := by decide +kernel
theorem d_FR_init_13 : decode b_FR_init 13 = .ok (.bipush 8, 2) := by decide +kernel
theorem d_FR_init_15 : decode b_FR_init 15 = .ok (.newarray .int, 2) := by decide +kernel
theorem d_FR_init_17 : decode b_FR_init 17 = .ok (.putfield 13, 3) := by decide +kernel
theorem d_FR_init_20 : decode b_FR_init 20 = .ok (.aload_n 0, 1) := by decide +kernel
theorem d_FR_init_21 : decode b_FR_init 21 = .ok (.bipush 16, 2) := by decide +kernel
theorem d_FR_init_23 : decode b_FR_init 23 = .ok (.anewarray 17, 3) := by decide +kernel
theorem d_FR_init_26 : decode b_FR_init 26 = .ok (.putfield 19, 3) := by decide +kernel
theorem d_FR_init_29 : decode b_FR_init 29 = .ok (.aload_n 0, 1) := by decide +kernel
theorem d_FR_init_30 : decode b_FR_init 30 = .ok (.iconst 0, 1) := by decide +kernel
theorem d_FR_init_31 : decode b_FR_init 31 = .ok (.putfield 23, 3) := by decide +kernel
theorem d_FR_init_34 : decode b_FR_init 34 = .ok (.aload_n 0, 1) := by decide +kernel
theorem d_FR_init_35 : decode b_FR_init 35 = .ok (.bipush 10, 2) := by decide +kernel
theorem d_FR_init_37 : decode b_FR_init 37 = .ok (.anewarray 27, 3) := by decide +kernel
theorem d_FR_init_40 : decode b_FR_init 40 = .ok (.putfield 29, 3) := by decide +kernel
theorem d_FR_init_43 : decode b_FR_init 43 = .ok (.aload_n 0, 1) := by decide +kernel
theorem d_FR_init_44 : decode b_FR_init 44 = .ok (.iconst 0, 1) := by decide +kernel
theorem d_FR_init_45 : decode b_FR_init 45 = .ok (.putfield 33, 3) := by decide +kernel
theorem d_FR_init_48 : decode b_FR_init 48 = .ok (.aload_n 0, 1) := by decide +kernel
theorem d_FR_init_49 : decode b_FR_init 49 = .ok (.new 36, 3) := by decide +kernel
theorem d_FR_init_52 : decode b_FR_init 52 = .ok (.dup, 1) := by decide +kernel
theorem d_FR_init_53 : decode b_FR_init 53 = .ok (.invokespecial 38, 3) := by decide +kernel
theorem d_FR_init_56 : decode b_FR_init 56 = .ok (.putfield 39, 3) := by decide +kernel
theorem d_FR_init_59 : decode b_FR_init 59 = .ok (.aload_n 0, 1) := by decide +kernel
theorem d_FR_init_60 : decode b_FR_init 60 = .ok (.new 43, 3) := by decide +kernel
theorem d_FR_init_63 : decode b_FR_init 63 = .ok (.dup, 1) := by decide +kernel
theorem d_FR_init_64 : decode b_FR_init 64 = .ok (.invokespecial 45, 3) := by decide +kernel
theorem d_FR_init_67 : decode b_FR_init 67 = .ok (.putfield 46, 3) := by decide +kernel
theorem d_FR_init_70 : decode b_FR_init 70 = .ok (.aload_n 0, 1) := by decide +kernel
theorem d_FR_init_71 : decode b_FR_init 71 = .ok (.bipush 10, 2) := by decide +kernel
theorem d_FR_init_73 : decode b_FR_init 73 = .ok (.newarray .int, 2) := by decide +kernel
theorem d_FR_init_75 : decode b_FR_init 75 = .ok (.putfield 50, 3) := by decide +kernel
theorem d_FR_init_78 : decode b_FR_init 78 = .ok (.aload_n 0, 1) := by decide +kernel
theorem d_FR_init_79 : decode b_FR_init 79 = .ok (.iconst 0, 1) := by decide +kernel
theorem d_FR_init_80 : decode b_FR_init 80 = .ok (.putfield 53, 3) := by decide +kernel
theorem d_FR_init_83 : decode b_FR_init 83 = .ok (.aload_n 0, 1) := by decide +kernel
theorem d_FR_init_84 : decode b_FR_init 84 = .ok (.new 56, 3) := by decide +kernel
theorem d_FR_init_87 : decode b_FR_init 87 = .ok (.dup, 1) := by decide +kernel
theorem d_FR_init_88 : decode b_FR_init 88 = .ok (.invokespecial 58, 3) := by decide +kernel
theorem d_FR_init_91 : decode b_FR_init 91 = .ok (.putfield 59, 3) := by decide +kernel
theorem d_FR_init_94 : decode b_FR_init 94 = .ok (.aload_n 0, 1) := by decide +kernel
theorem d_FR_init_95 : decode b_FR_init 95 = .ok (.iconst 0, 1) := by decide +kernel
theorem d_FR_init_96 : decode b_FR_init 96 = .ok (.putfield 63, 3) := by decide +kernel
theorem d_FR_init_99 : decode b_FR_init 99 = .ok (.aload_n 0, 1) := by decide +kernel
theorem d_FR_init_100 : decode b_FR_init 100 = .ok (.iconst 0, 1) := by decide +kernel
theorem d_FR_init_101 : decode b_FR_init 101 = .ok (.putfield 67, 3) := by decide +kernel
theorem d_FR_init_104 : decode b_FR_init 104 = .ok (.aload_n 0, 1) := by decide +kernel
theorem d_FR_init_105 : decode b_FR_init 105 = .ok (.iconst 0, 1) := by decide +kernel
theorem d_FR_init_106 : decode b_FR_init 106 = .ok (.iconst 5, 1) := by decide +kernel
theorem d_FR_init_107 : decode b_FR_init 107 = .ok (.iload_n 1, 1) := by decide +kernel
theorem d_FR_init_108 : decode b_FR_init 108 = .ok (.invokestatic 70, 3) := by decide +kernel
theorem d_FR_init_111 : decode b_FR_init 111 = .ok (.invokestatic 76, 3) := by decide +kernel
theorem d_FR_init_114 : decode b_FR_init 114 = .ok (.putfield 79, 3) := by decide +kernel
theorem d_FR_init_117 : decode b_FR_init 117 = .ok (.iconst 0, 1) := by decide +kernel
theorem d_FR_init_118 : decode b_FR_init 118 = .ok (.istore_n 2, 1) := by decide +kernel
theorem d_FR_init_119 : decode b_FR_init 119 = .ok (.iload_n 2, 1) := by decide +kernel
theorem d_FR_init_120 : decode b_FR_init 120 = .ok (.bipush 16, 2) := by decide +kernel
theorem d_FR_init_122 : decode b_FR_init 122 = .ok (.if_icmp .ge 22, 3) := by decide +kernel
theorem d_FR_init_125 : decode b_FR_init 125 = .ok (.aload_n 0, 1) := by decide +kernel
theorem d_FR_init_126 : decode b_FR_init 126 = .ok (.getfield 19, 3) := by decide +kernel
theorem d_FR_init_129 : decode b_FR_init 129 = .ok (.iload_n 2, 1) := by decide +kernel
theorem d_FR_init_130 : decode b_FR_init 130 = .ok (.new 17, 3) := by decide +kernel
theorem d_FR_init_133 : decode b_FR_init 133 = .ok (.dup, 1) := by decide +kernel
theorem d_FR_init_134 : decode b_FR_init 134 = .ok (.invokespecial 82, 3) := by decide +kernel
theorem d_FR_init_137 : decode b_FR_init 137 = .ok (.aastore, 1) := by decide +kernel
theorem d_FR_init_138 : decode b_FR_init 138 = .ok (.iinc 2 1, 3) := by decide +kernel
theorem d_FR_init_141 : decode b_FR_init 141 = .ok (.goto (-22), 3) := by decide +kernel
theorem d_FR_init_144 : decode b_FR_init 144 = .ok (.iconst 0, 1) := by decide +kernel
theorem d_FR_init_145 : decode b_FR_init 145 = .ok (.istore_n 2, 1) := by decide +kernel
theorem d_FR_init_146 : decode b_FR_init 146 = .ok (.iload_n 2, 1) := by decide +kernel
theorem d_FR_init_147 : decode b_FR_init 147 = .ok (.bipush 10, 2) := by decide +kernel
theorem d_FR_init_149 : decode b_FR_init 149 = .ok (.if_icmp .ge 22, 3) := by decide +kernel
theorem d_FR_init_152 : decode b_FR_init 152 = .ok (.aload_n 0, 1) := by decide +kernel
theorem d_FR_init_153 : decode b_FR_init 153 = .ok (.getfield 29, 3) := by decide +kernel
theorem d_FR_init_156 : decode b_FR_init 156 = .ok (.iload_n 2, 1) := by decide +kernel
theorem d_FR_init_157 : decode b_FR_init 157 = .ok (.new 27, 3) := by decide +kernel
theorem d_FR_init_160 : decode b_FR_init 160 = .ok (.dup, 1) := by decide +kernel
theorem d_FR_init_161 : decode b_FR_init 161 = .ok (.invokespecial 83, 3) := by decide +kernel
theorem d_FR_init_164 : decode b_FR_init 164 = .ok (.aastore, 1) := by decide +kernel
theorem d_FR_init_165 : decode b_FR_init 165 = .ok (.iinc 2 1, 3) := by decide +kernel
theorem d_FR_init_168 : decode b_FR_init 168 = .ok (.goto (-22), 3) := by decide +kernel
theorem d_FR_init_171 : decode b_FR_init 171 = .ok (.return_, 1) := by decide +kernel
theorem d_FR_credential_0 : decode b_FR_credential 0 = .ok (.iload_n 1, 1) := by decide +kernel
theorem d_FR_credential_1 : decode b_FR_credential 1 = .ok (.invokestatic 84, 3) := by decide +kernel
theorem d_FR_credential_4 : decode b_FR_credential 4 = .ok (.ifCond .ne 5, 3) := by decide +kernel
theorem d_FR_credential_7 : decode b_FR_credential 7 = .ok (.iconst 0, 1) := by decide +kernel
theorem d_FR_credential_8 : decode b_FR_credential 8 = .ok (.ireturn, 1) := by decide +kernel
theorem d_FR_credential_9 : decode b_FR_credential 9 = .ok (.aload_n 0, 1) := by decide +kernel
theorem d_FR_credential_10 : decode b_FR_credential 10 = .ok (.getfield 9, 3) := by decide +kernel
theorem d_FR_credential_13 : decode b_FR_credential 13 = .ok (.iload_n 1, 1) := by decide +kernel
theorem d_FR_credential_14 : decode b_FR_credential 14 = .ok (.iload_n 2, 1) := by decide +kernel
theorem d_FR_credential_15 : decode b_FR_credential 15 = .ok (.bastore, 1) := by decide +kernel
theorem d_FR_credential_16 : decode b_FR_credential 16 = .ok (.iconst 1, 1) := by decide +kernel
theorem d_FR_credential_17 : decode b_FR_credential 17 = .ok (.ireturn, 1) := by decide +kernel
theorem d_FR_place_0 : decode b_FR_place 0 = .ok (.aload_n 0, 1) := by decide +kernel
theorem d_FR_place_1 : decode b_FR_place 1 = .ok (.getfield 23, 3) := by decide +kernel
theorem d_FR_place_4 : decode b_FR_place 4 = .ok (.bipush 16, 2) := by decide +kernel
theorem d_FR_place_6 : decode b_FR_place 6 = .ok (.if_icmp .ge 21, 3) := by decide +kernel
theorem d_FR_place_9 : decode b_FR_place 9 = .ok (.iload_n 1, 1) := by decide +kernel
theorem d_FR_place_10 : decode b_FR_place 10 = .ok (.invokestatic 84, 3) := by decide +kernel
theorem d_FR_place_13 : decode b_FR_place 13 = .ok (.ifCond .eq 14, 3) := by decide +kernel
theorem d_FR_place_16 : decode b_FR_place 16 = .ok (.iload_n 2, 1) := by decide +kernel
theorem d_FR_place_17 : decode b_FR_place 17 = .ok (.iconst 1, 1) := by decide +kernel
theorem d_FR_place_18 : decode b_FR_place 18 = .ok (.if_icmp .lt 9, 3) := by decide +kernel
theorem d_FR_place_21 : decode b_FR_place 21 = .ok (.iload_n 2, 1) := by decide +kernel
theorem d_FR_place_22 : decode b_FR_place 22 = .ok (.bipush 50, 2) := by decide +kernel
theorem d_FR_place_24 : decode b_FR_place 24 = .ok (.if_icmp .le 5, 3) := by decide +kernel
theorem d_FR_place_27 : decode b_FR_place 27 = .ok (.iconst (-1), 1) := by decide +kernel
theorem d_FR_place_28 : decode b_FR_place 28 = .ok (.ireturn, 1) := by decide +kernel
theorem d_FR_place_29 : decode b_FR_place 29 = .ok (.aload_n 0, 1) := by decide +kernel
theorem d_FR_place_30 : decode b_FR_place 30 = .ok (.getfield 19, 3) := by decide +kernel
theorem d_FR_place_33 : decode b_FR_place 33 = .ok (.aload_n 0, 1) := by decide +kernel
theorem d_FR_place_34 : decode b_FR_place 34 = .ok (.getfield 23, 3) := by decide +kernel
theorem d_FR_place_37 : decode b_FR_place 37 = .ok (.aaload, 1) := by decide +kernel
theorem d_FR_place_38 : decode b_FR_place 38 = .ok (.astore_n 3, 1) := by decide +kernel
theorem d_FR_place_39 : decode b_FR_place 39 = .ok (.aload_n 3, 1) := by decide +kernel
theorem d_FR_place_40 : decode b_FR_place 40 = .ok (.iload_n 1, 1) := by decide +kernel
theorem d_FR_place_41 : decode b_FR_place 41 = .ok (.putfield 88, 3) := by decide +kernel
theorem d_FR_place_44 : decode b_FR_place 44 = .ok (.aload_n 3, 1) := by decide +kernel
theorem d_FR_place_45 : decode b_FR_place 45 = .ok (.iload_n 2, 1) := by decide +kernel
theorem d_FR_place_46 : decode b_FR_place 46 = .ok (.putfield 91, 3) := by decide +kernel
theorem d_FR_place_49 : decode b_FR_place 49 = .ok (.aload_n 0, 1) := by decide +kernel
theorem d_FR_place_50 : decode b_FR_place 50 = .ok (.dup, 1) := by decide +kernel
theorem d_FR_place_51 : decode b_FR_place 51 = .ok (.getfield 23, 3) := by decide +kernel
theorem d_FR_place_54 : decode b_FR_place 54 = .ok (.dup_x1, 1) := by decide +kernel
theorem d_FR_place_55 : decode b_FR_place 55 = .ok (.iconst 1, 1) := by decide +kernel
theorem d_FR_place_56 : decode b_FR_place 56 = .ok (.iadd, 1) := by decide +kernel
theorem d_FR_place_57 : decode b_FR_place 57 = .ok (.putfield 23, 3) := by decide +kernel
theorem d_FR_place_60 : decode b_FR_place 60 = .ok (.ireturn, 1) := by decide +kernel
theorem d_FR_content_0 : decode b_FR_content 0 = .ok (.aload_n 0, 1) := by decide +kernel
theorem d_FR_content_1 : decode b_FR_content 1 = .ok (.iload_n 1, 1) := by decide +kernel
theorem d_FR_content_2 : decode b_FR_content 2 = .ok (.invokevirtual 94, 3) := by decide +kernel
theorem d_FR_content_5 : decode b_FR_content 5 = .ok (.ifCond .eq 16, 3) := by decide +kernel
theorem d_FR_content_8 : decode b_FR_content 8 = .ok (.iload 4, 2) := by decide +kernel
theorem d_FR_content_10 : decode b_FR_content 10 = .ok (.iconst 1, 1) := by decide +kernel
theorem d_FR_content_11 : decode b_FR_content 11 = .ok (.if_icmp .lt 10, 3) := by decide +kernel
theorem d_FR_content_14 : decode b_FR_content 14 = .ok (.iload 4, 2) := by decide +kernel
theorem d_FR_content_16 : decode b_FR_content 16 = .ok (.bipush 8, 2) := by decide +kernel
theorem d_FR_content_18 : decode b_FR_content 18 = .ok (.if_icmp .le 5, 3) := by decide +kernel
theorem d_FR_content_21 : decode b_FR_content 21 = .ok (.iconst 0, 1) := by decide +kernel
theorem d_FR_content_22 : decode b_FR_content 22 = .ok (.ireturn, 1) := by decide +kernel
theorem d_FR_content_23 : decode b_FR_content 23 = .ok (.aload_n 0, 1) := by decide +kernel
theorem d_FR_content_24 : decode b_FR_content 24 = .ok (.getfield 19, 3) := by decide +kernel
theorem d_FR_content_27 : decode b_FR_content 27 = .ok (.iload_n 1, 1) := by decide +kernel
theorem d_FR_content_28 : decode b_FR_content 28 = .ok (.aaload, 1) := by decide +kernel
theorem d_FR_content_29 : decode b_FR_content 29 = .ok (.getfield 97, 3) := by decide +kernel
theorem d_FR_content_32 : decode b_FR_content 32 = .ok (.astore 5, 2) := by decide +kernel
theorem d_FR_content_34 : decode b_FR_content 34 = .ok (.aload 5, 2) := by decide +kernel
theorem d_FR_content_36 : decode b_FR_content 36 = .ok (.getfield 101, 3) := by decide +kernel
theorem d_FR_content_39 : decode b_FR_content 39 = .ok (.iload 4, 2) := by decide +kernel
theorem d_FR_content_41 : decode b_FR_content 41 = .ok (.iadd, 1) := by decide +kernel
theorem d_FR_content_42 : decode b_FR_content 42 = .ok (.bipush 100, 2) := by decide +kernel
theorem d_FR_content_44 : decode b_FR_content 44 = .ok (.if_icmp .le 5, 3) := by decide +kernel
theorem d_FR_content_47 : decode b_FR_content 47 = .ok (.iconst 0, 1) := by decide +kernel
theorem d_FR_content_48 : decode b_FR_content 48 = .ok (.ireturn, 1) := by decide +kernel
theorem d_FR_content_49 : decode b_FR_content 49 = .ok (.iload 4, 2) := by decide +kernel
theorem d_FR_content_51 : decode b_FR_content 51 = .ok (.iconst 1, 1) := by decide +kernel
theorem d_FR_content_52 : decode b_FR_content 52 = .ok (.isub, 1) := by decide +kernel
theorem d_FR_content_53 : decode b_FR_content 53 = .ok (.istore 6, 2) := by decide +kernel
theorem d_FR_content_55 : decode b_FR_content 55 = .ok (.iload 6, 2) := by decide +kernel
theorem d_FR_content_57 : decode b_FR_content 57 = .ok (.ifCond .lt 26, 3) := by decide +kernel
theorem d_FR_content_60 : decode b_FR_content 60 = .ok (.aload 5, 2) := by decide +kernel
theorem d_FR_content_62 : decode b_FR_content 62 = .ok (.lload_n 2, 1) := by decide +kernel
theorem d_FR_content_63 : decode b_FR_content 63 = .ok (.bipush 8, 2) := by decide +kernel
theorem d_FR_content_65 : decode b_FR_content 65 = .ok (.iload 6, 2) := by decide +kernel
theorem d_FR_content_67 : decode b_FR_content 67 = .ok (.imul, 1) := by decide +kernel
theorem d_FR_content_68 : decode b_FR_content 68 = .ok (.lushr, 1) := by decide +kernel
theorem d_FR_content_69 : decode b_FR_content 69 = .ok (.l2i, 1) := by decide +kernel
theorem d_FR_content_70 : decode b_FR_content 70 = .ok (.sipush 255, 3) := by decide +kernel
theorem d_FR_content_73 : decode b_FR_content 73 = .ok (.iand, 1) := by decide +kernel
theorem d_FR_content_74 : decode b_FR_content 74 = .ok (.invokevirtual 106, 3) := by decide +kernel
theorem d_FR_content_77 : decode b_FR_content 77 = .ok (.iinc 6 (-1), 3) := by decide +kernel
theorem d_FR_content_80 : decode b_FR_content 80 = .ok (.goto (-25), 3) := by decide +kernel
theorem d_FR_content_83 : decode b_FR_content 83 = .ok (.iconst 1, 1) := by decide +kernel
theorem d_FR_content_84 : decode b_FR_content 84 = .ok (.ireturn, 1) := by decide +kernel
theorem d_FR_does_0 : decode b_FR_does 0 = .ok (.aload_n 0, 1) := by decide +kernel
theorem d_FR_does_1 : decode b_FR_does 1 = .ok (.iload_n 1, 1) := by decide +kernel
theorem d_FR_does_2 : decode b_FR_does 2 = .ok (.invokevirtual 94, 3) := by decide +kernel
theorem d_FR_does_5 : decode b_FR_does 5 = .ok (.ifCond .ne 5, 3) := by decide +kernel
theorem d_FR_does_8 : decode b_FR_does 8 = .ok (.iconst 0, 1) := by decide +kernel
theorem d_FR_does_9 : decode b_FR_does 9 = .ok (.ireturn, 1) := by decide +kernel
theorem d_FR_does_10 : decode b_FR_does 10 = .ok (.aload_n 0, 1) := by decide +kernel
theorem d_FR_does_11 : decode b_FR_does 11 = .ok (.getfield 19, 3) := by decide +kernel
theorem d_FR_does_14 : decode b_FR_does 14 = .ok (.iload_n 1, 1) := by decide +kernel
theorem d_FR_does_15 : decode b_FR_does 15 = .ok (.aaload, 1) := by decide +kernel
theorem d_FR_does_16 : decode b_FR_does 16 = .ok (.astore 4, 2) := by decide +kernel
theorem d_FR_does_18 : decode b_FR_does 18 = .ok (.iload_n 2, 1) := by decide +kernel
theorem d_FR_does_19 : decode b_FR_does 19 = .ok (.tableswitch 100 0 3 #[29, 45, 68, 84], 29) := by decide +kernel
theorem d_FR_does_48 : decode b_FR_does 48 = .ok (.aload 4, 2) := by decide +kernel
theorem d_FR_does_50 : decode b_FR_does 50 = .ok (.iload_n 3, 1) := by decide +kernel
theorem d_FR_does_51 : decode b_FR_does 51 = .ok (.ifCond .eq 7, 3) := by decide +kernel
theorem d_FR_does_54 : decode b_FR_does 54 = .ok (.iconst 1, 1) := by decide +kernel
theorem d_FR_does_55 : decode b_FR_does 55 = .ok (.goto 4, 3) := by decide +kernel
theorem d_FR_does_58 : decode b_FR_does 58 = .ok (.iconst 0, 1) := by decide +kernel
theorem d_FR_does_59 : decode b_FR_does 59 = .ok (.putfield 110, 3) := by decide +kernel
theorem d_FR_does_62 : decode b_FR_does 62 = .ok (.iconst 1, 1) := by decide +kernel
theorem d_FR_does_63 : decode b_FR_does 63 = .ok (.ireturn, 1) := by decide +kernel
theorem d_FR_does_64 : decode b_FR_does 64 = .ok (.iload_n 3, 1) := by decide +kernel
theorem d_FR_does_65 : decode b_FR_does 65 = .ok (.iconst (-1), 1) := by decide +kernel
theorem d_FR_does_66 : decode b_FR_does 66 = .ok (.if_icmp .eq 13, 3) := by decide +kernel
theorem d_FR_does_69 : decode b_FR_does 69 = .ok (.aload_n 0, 1) := by decide +kernel
theorem d_FR_does_70 : decode b_FR_does 70 = .ok (.iload_n 3, 1) := by decide +kernel
theorem d_FR_does_71 : decode b_FR_does 71 = .ok (.invokevirtual 94, 3) := by decide +kernel
theorem d_FR_does_74 : decode b_FR_does 74 = .ok (.ifCond .ne 5, 3) := by decide +kernel
theorem d_FR_does_77 : decode b_FR_does 77 = .ok (.iconst 0, 1) := by decide +kernel
theorem d_FR_does_78 : decode b_FR_does 78 = .ok (.ireturn, 1) := by decide +kernel
theorem d_FR_does_79 : decode b_FR_does 79 = .ok (.aload 4, 2) := by decide +kernel
theorem d_FR_does_81 : decode b_FR_does 81 = .ok (.iload_n 3, 1) := by decide +kernel
theorem d_FR_does_82 : decode b_FR_does 82 = .ok (.putfield 113, 3) := by decide +kernel
theorem d_FR_does_85 : decode b_FR_does 85 = .ok (.iconst 1, 1) := by decide +kernel
theorem d_FR_does_86 : decode b_FR_does 86 = .ok (.ireturn, 1) := by decide +kernel
theorem d_FR_does_87 : decode b_FR_does 87 = .ok (.aload 4, 2) := by decide +kernel
theorem d_FR_does_89 : decode b_FR_does 89 = .ok (.iload_n 3, 1) := by decide +kernel
theorem d_FR_does_90 : decode b_FR_does 90 = .ok (.ifCond .eq 7, 3) := by decide +kernel
theorem d_FR_does_93 : decode b_FR_does 93 = .ok (.iconst 1, 1) := by decide +kernel
theorem d_FR_does_94 : decode b_FR_does 94 = .ok (.goto 4, 3) := by decide +kernel
theorem d_FR_does_97 : decode b_FR_does 97 = .ok (.iconst 0, 1) := by decide +kernel
theorem d_FR_does_98 : decode b_FR_does 98 = .ok (.putfield 116, 3) := by decide +kernel
theorem d_FR_does_101 : decode b_FR_does 101 = .ok (.iconst 1, 1) := by decide +kernel
theorem d_FR_does_102 : decode b_FR_does 102 = .ok (.ireturn, 1) := by decide +kernel
theorem d_FR_does_103 : decode b_FR_does 103 = .ok (.aload 4, 2) := by decide +kernel
theorem d_FR_does_105 : decode b_FR_does 105 = .ok (.iload_n 3, 1) := by decide +kernel
theorem d_FR_does_106 : decode b_FR_does 106 = .ok (.ifCond .eq 7, 3) := by decide +kernel
theorem d_FR_does_109 : decode b_FR_does 109 = .ok (.iconst 1, 1) := by decide +kernel
theorem d_FR_does_110 : decode b_FR_does 110 = .ok (.goto 4, 3) := by decide +kernel
theorem d_FR_does_113 : decode b_FR_does 113 = .ok (.iconst 0, 1) := by decide +kernel
theorem d_FR_does_114 : decode b_FR_does 114 = .ok (.putfield 119, 3) := by decide +kernel
theorem d_FR_does_117 : decode b_FR_does 117 = .ok (.iconst 1, 1) := by decide +kernel
theorem d_FR_does_118 : decode b_FR_does 118 = .ok (.ireturn, 1) := by decide +kernel
theorem d_FR_does_119 : decode b_FR_does 119 = .ok (.iconst 0, 1) := by decide +kernel
theorem d_FR_does_120 : decode b_FR_does 120 = .ok (.ireturn, 1) := by decide +kernel
theorem d_FR_cut_0 : decode b_FR_cut 0 = .ok (.aload_n 0, 1) := by decide +kernel
theorem d_FR_cut_1 : decode b_FR_cut 1 = .ok (.iload_n 1, 1) := by decide +kernel
theorem d_FR_cut_2 : decode b_FR_cut 2 = .ok (.invokevirtual 94, 3) := by decide +kernel
theorem d_FR_cut_5 : decode b_FR_cut 5 = .ok (.ifCond .eq 23, 3) := by decide +kernel
theorem d_FR_cut_8 : decode b_FR_cut 8 = .ok (.iload_n 2, 1) := by decide +kernel
theorem d_FR_cut_9 : decode b_FR_cut 9 = .ok (.ifCond .lt 19, 3) := by decide +kernel
theorem d_FR_cut_12 : decode b_FR_cut 12 = .ok (.iload_n 2, 1) := by decide +kernel
theorem d_FR_cut_13 : decode b_FR_cut 13 = .ok (.bipush 9, 2) := by decide +kernel
theorem d_FR_cut_15 : decode b_FR_cut 15 = .ok (.if_icmp .gt 13, 3) := by decide +kernel
theorem d_FR_cut_18 : decode b_FR_cut 18 = .ok (.iload_n 3, 1) := by decide +kernel
theorem d_FR_cut_19 : decode b_FR_cut 19 = .ok (.ifCond .lt 9, 3) := by decide +kernel
theorem d_FR_cut_22 : decode b_FR_cut 22 = .ok (.iload_n 3, 1) := by decide +kernel
theorem d_FR_cut_23 : decode b_FR_cut 23 = .ok (.bipush 100, 2) := by decide +kernel
theorem d_FR_cut_25 : decode b_FR_cut 25 = .ok (.if_icmp .le 5, 3) := by decide +kernel
theorem d_FR_cut_28 : decode b_FR_cut 28 = .ok (.iconst 0, 1) := by decide +kernel
theorem d_FR_cut_29 : decode b_FR_cut 29 = .ok (.ireturn, 1) := by decide +kernel
theorem d_FR_cut_30 : decode b_FR_cut 30 = .ok (.aload_n 0, 1) := by decide +kernel
theorem d_FR_cut_31 : decode b_FR_cut 31 = .ok (.getfield 19, 3) := by decide +kernel
theorem d_FR_cut_34 : decode b_FR_cut 34 = .ok (.iload_n 1, 1) := by decide +kernel
theorem d_FR_cut_35 : decode b_FR_cut 35 = .ok (.aaload, 1) := by decide +kernel
theorem d_FR_cut_36 : decode b_FR_cut 36 = .ok (.iload_n 2, 1) := by decide +kernel
theorem d_FR_cut_37 : decode b_FR_cut 37 = .ok (.putfield 122, 3) := by decide +kernel
theorem d_FR_cut_40 : decode b_FR_cut 40 = .ok (.aload_n 0, 1) := by decide +kernel
theorem d_FR_cut_41 : decode b_FR_cut 41 = .ok (.getfield 19, 3) := by decide +kernel
theorem d_FR_cut_44 : decode b_FR_cut 44 = .ok (.iload_n 1, 1) := by decide +kernel
theorem d_FR_cut_45 : decode b_FR_cut 45 = .ok (.aaload, 1) := by decide +kernel
theorem d_FR_cut_46 : decode b_FR_cut 46 = .ok (.iload_n 3, 1) := by decide +kernel
theorem d_FR_cut_47 : decode b_FR_cut 47 = .ok (.putfield 125, 3) := by decide +kernel
theorem d_FR_cut_50 : decode b_FR_cut 50 = .ok (.iconst 1, 1) := by decide +kernel
theorem d_FR_cut_51 : decode b_FR_cut 51 = .ok (.ireturn, 1) := by decide +kernel
theorem d_FR_digest_0 : decode b_FR_digest 0 = .ok (.aload_n 0, 1) := by decide +kernel
theorem d_FR_digest_1 : decode b_FR_digest 1 = .ok (.iload_n 1, 1) := by decide +kernel
theorem d_FR_digest_2 : decode b_FR_digest 2 = .ok (.invokevirtual 94, 3) := by decide +kernel
theorem d_FR_digest_5 : decode b_FR_digest 5 = .ok (.ifCond .eq 18, 3) := by decide +kernel
theorem d_FR_digest_8 : decode b_FR_digest 8 = .ok (.aload_n 0, 1) := by decide +kernel
theorem d_FR_digest_9 : decode b_FR_digest 9 = .ok (.getfield 19, 3) := by decide +kernel
theorem d_FR_digest_12 : decode b_FR_digest 12 = .ok (.iload_n 1, 1) := by decide +kernel
theorem d_FR_digest_13 : decode b_FR_digest 13 = .ok (.aaload, 1) := by decide +kernel
theorem d_FR_digest_14 : decode b_FR_digest 14 = .ok (.getfield 97, 3) := by decide +kernel
theorem d_FR_digest_17 : decode b_FR_digest 17 = .ok (.invokevirtual 128, 3) := by decide +kernel
theorem d_FR_digest_20 : decode b_FR_digest 20 = .ok (.goto 4, 3) := by decide +kernel
theorem d_FR_digest_23 : decode b_FR_digest 23 = .ok (.iconst 0, 1) := by decide +kernel
theorem d_FR_digest_24 : decode b_FR_digest 24 = .ok (.ireturn, 1) := by decide +kernel
theorem d_FR_want_0 : decode b_FR_want 0 = .ok (.aload_n 0, 1) := by decide +kernel
theorem d_FR_want_1 : decode b_FR_want 1 = .ok (.getfield 33, 3) := by decide +kernel
theorem d_FR_want_4 : decode b_FR_want 4 = .ok (.bipush 10, 2) := by decide +kernel
theorem d_FR_want_6 : decode b_FR_want 6 = .ok (.if_icmp .lt 5, 3) := by decide +kernel
theorem d_FR_want_9 : decode b_FR_want 9 = .ok (.iconst (-1), 1) := by decide +kernel
theorem d_FR_want_10 : decode b_FR_want 10 = .ok (.ireturn, 1) := by decide +kernel
theorem d_FR_want_11 : decode b_FR_want 11 = .ok (.aload_n 0, 1) := by decide +kernel
theorem d_FR_want_12 : decode b_FR_want 12 = .ok (.getfield 29, 3) := by decide +kernel
theorem d_FR_want_15 : decode b_FR_want 15 = .ok (.aload_n 0, 1) := by decide +kernel
theorem d_FR_want_16 : decode b_FR_want 16 = .ok (.getfield 33, 3) := by decide +kernel
theorem d_FR_want_19 : decode b_FR_want 19 = .ok (.aaload, 1) := by decide +kernel
theorem d_FR_want_20 : decode b_FR_want 20 = .ok (.iload_n 1, 1) := by decide +kernel
theorem d_FR_want_21 : decode b_FR_want 21 = .ok (.putfield 132, 3) := by decide +kernel
theorem d_FR_want_24 : decode b_FR_want 24 = .ok (.aload_n 0, 1) := by decide +kernel
theorem d_FR_want_25 : decode b_FR_want 25 = .ok (.dup, 1) := by decide +kernel
theorem d_FR_want_26 : decode b_FR_want 26 = .ok (.getfield 33, 3) := by decide +kernel
theorem d_FR_want_29 : decode b_FR_want 29 = .ok (.dup_x1, 1) := by decide +kernel
theorem d_FR_want_30 : decode b_FR_want 30 = .ok (.iconst 1, 1) := by decide +kernel
theorem d_FR_want_31 : decode b_FR_want 31 = .ok (.iadd, 1) := by decide +kernel
theorem d_FR_want_32 : decode b_FR_want 32 = .ok (.putfield 33, 3) := by decide +kernel
theorem d_FR_want_35 : decode b_FR_want 35 = .ok (.ireturn, 1) := by decide +kernel
theorem d_FR_from_0 : decode b_FR_from 0 = .ok (.aload_n 0, 1) := by decide +kernel
theorem d_FR_from_1 : decode b_FR_from 1 = .ok (.iload_n 1, 1) := by decide +kernel
theorem d_FR_from_2 : decode b_FR_from 2 = .ok (.invokevirtual 135, 3) := by decide +kernel
theorem d_FR_from_5 : decode b_FR_from 5 = .ok (.ifCond .eq 23, 3) := by decide +kernel
theorem d_FR_from_8 : decode b_FR_from 8 = .ok (.aload_n 0, 1) := by decide +kernel
theorem d_FR_from_9 : decode b_FR_from 9 = .ok (.iload_n 2, 1) := by decide +kernel
theorem d_FR_from_10 : decode b_FR_from 10 = .ok (.invokevirtual 94, 3) := by decide +kernel
theorem d_FR_from_13 : decode b_FR_from 13 = .ok (.ifCond .eq 15, 3) := by decide +kernel
theorem d_FR_from_16 : decode b_FR_from 16 = .ok (.aload_n 0, 1) := by decide +kernel
theorem d_FR_from_17 : decode b_FR_from 17 = .ok (.getfield 29, 3) := by decide +kernel
theorem d_FR_from_20 : decode b_FR_from 20 = .ok (.iload_n 1, 1) := by decide +kernel
theorem d_FR_from_21 : decode b_FR_from 21 = .ok (.aaload, 1) := by decide +kernel
theorem d_FR_from_22 : decode b_FR_from 22 = .ok (.getfield 138, 3) := by decide +kernel
theorem d_FR_from_25 : decode b_FR_from 25 = .ok (.ifCond .eq 5, 3) := by decide +kernel
theorem d_FR_from_28 : decode b_FR_from 28 = .ok (.iconst 0, 1) := by decide +kernel
theorem d_FR_from_29 : decode b_FR_from 29 = .ok (.ireturn, 1) := by decide +kernel
theorem d_FR_from_30 : decode b_FR_from 30 = .ok (.aload_n 0, 1) := by decide +kernel
theorem d_FR_from_31 : decode b_FR_from 31 = .ok (.getfield 29, 3) := by decide +kernel
theorem d_FR_from_34 : decode b_FR_from 34 = .ok (.iload_n 1, 1) := by decide +kernel
theorem d_FR_from_35 : decode b_FR_from 35 = .ok (.aaload, 1) := by decide +kernel
theorem d_FR_from_36 : decode b_FR_from 36 = .ok (.iload_n 2, 1) := by decide +kernel
theorem d_FR_from_37 : decode b_FR_from 37 = .ok (.invokevirtual 141, 3) := by decide +kernel
theorem d_FR_from_40 : decode b_FR_from 40 = .ok (.ireturn, 1) := by decide +kernel
theorem d_FR_offLine_0 : decode b_FR_offLine 0 = .ok (.aload_n 0, 1) := by decide +kernel
theorem d_FR_offLine_1 : decode b_FR_offLine 1 = .ok (.iload_n 1, 1) := by decide +kernel
theorem d_FR_offLine_2 : decode b_FR_offLine 2 = .ok (.putfield 63, 3) := by decide +kernel
theorem d_FR_offLine_5 : decode b_FR_offLine 5 = .ok (.aload_n 0, 1) := by decide +kernel
theorem d_FR_offLine_6 : decode b_FR_offLine 6 = .ok (.iconst 0, 1) := by decide +kernel
theorem d_FR_offLine_7 : decode b_FR_offLine 7 = .ok (.putfield 53, 3) := by decide +kernel
theorem d_FR_offLine_10 : decode b_FR_offLine 10 = .ok (.return_, 1) := by decide +kernel
theorem d_FR_begin_0 : decode b_FR_begin 0 = .ok (.aload_n 0, 1) := by decide +kernel
theorem d_FR_begin_1 : decode b_FR_begin 1 = .ok (.iload_n 1, 1) := by decide +kernel
theorem d_FR_begin_2 : decode b_FR_begin 2 = .ok (.invokevirtual 135, 3) := by decide +kernel
theorem d_FR_begin_5 : decode b_FR_begin 5 = .ok (.ifCond .eq 15, 3) := by decide +kernel
theorem d_FR_begin_8 : decode b_FR_begin 8 = .ok (.aload_n 0, 1) := by decide +kernel
theorem d_FR_begin_9 : decode b_FR_begin 9 = .ok (.getfield 29, 3) := by decide +kernel
theorem d_FR_begin_12 : decode b_FR_begin 12 = .ok (.iload_n 1, 1) := by decide +kernel
theorem d_FR_begin_13 : decode b_FR_begin 13 = .ok (.aaload, 1) := by decide +kernel
theorem d_FR_begin_14 : decode b_FR_begin 14 = .ok (.invokevirtual 144, 3) := by decide +kernel
theorem d_FR_begin_17 : decode b_FR_begin 17 = .ok (.ifCond .eq 5, 3) := by decide +kernel
theorem d_FR_begin_20 : decode b_FR_begin 20 = .ok (.iconst (-1), 1) := by decide +kernel
theorem d_FR_begin_21 : decode b_FR_begin 21 = .ok (.ireturn, 1) := by decide +kernel
theorem d_FR_begin_22 : decode b_FR_begin 22 = .ok (.aload_n 0, 1) := by decide +kernel
theorem d_FR_begin_23 : decode b_FR_begin 23 = .ok (.getfield 29, 3) := by decide +kernel
theorem d_FR_begin_26 : decode b_FR_begin 26 = .ok (.iload_n 1, 1) := by decide +kernel
theorem d_FR_begin_27 : decode b_FR_begin 27 = .ok (.aaload, 1) := by decide +kernel
theorem d_FR_begin_28 : decode b_FR_begin 28 = .ok (.astore_n 2, 1) := by decide +kernel
theorem d_FR_begin_29 : decode b_FR_begin 29 = .ok (.aload_n 0, 1) := by decide +kernel
theorem d_FR_begin_30 : decode b_FR_begin 30 = .ok (.getfield 39, 3) := by decide +kernel
theorem d_FR_begin_33 : decode b_FR_begin 33 = .ok (.aload_n 2, 1) := by decide +kernel
theorem d_FR_begin_34 : decode b_FR_begin 34 = .ok (.getfield 132, 3) := by decide +kernel
theorem d_FR_begin_37 : decode b_FR_begin 37 = .ok (.invokevirtual 148, 3) := by decide +kernel
theorem d_FR_begin_40 : decode b_FR_begin 40 = .ok (.istore_n 3, 1) := by decide +kernel
theorem d_FR_begin_41 : decode b_FR_begin 41 = .ok (.iload_n 3, 1) := by decide +kernel
theorem d_FR_begin_42 : decode b_FR_begin 42 = .ok (.iconst (-1), 1) := by decide +kernel
theorem d_FR_begin_43 : decode b_FR_begin 43 = .ok (.if_icmp .eq 27, 3) := by decide +kernel
theorem d_FR_begin_46 : decode b_FR_begin 46 = .ok (.aload_n 2, 1) := by decide +kernel
theorem d_FR_begin_47 : decode b_FR_begin 47 = .ok (.getfield 152, 3) := by decide +kernel
theorem d_FR_begin_50 : decode b_FR_begin 50 = .ok (.aload_n 0, 1) := by decide +kernel
theorem d_FR_begin_51 : decode b_FR_begin 51 = .ok (.getfield 39, 3) := by decide +kernel
theorem d_FR_begin_54 : decode b_FR_begin 54 = .ok (.getfield 153, 3) := by decide +kernel
theorem d_FR_begin_57 : decode b_FR_begin 57 = .ok (.iload_n 3, 1) := by decide +kernel
theorem d_FR_begin_58 : decode b_FR_begin 58 = .ok (.aaload, 1) := by decide +kernel
theorem d_FR_begin_59 : decode b_FR_begin 59 = .ok (.invokevirtual 157, 3) := by decide +kernel
theorem d_FR_begin_62 : decode b_FR_begin 62 = .ok (.aload_n 2, 1) := by decide +kernel
theorem d_FR_begin_63 : decode b_FR_begin 63 = .ok (.iconst 3, 1) := by decide +kernel
theorem d_FR_begin_64 : decode b_FR_begin 64 = .ok (.putfield 138, 3) := by decide +kernel
theorem d_FR_begin_67 : decode b_FR_begin 67 = .ok (.goto 29, 3) := by decide +kernel
theorem d_FR_begin_70 : decode b_FR_begin 70 = .ok (.aload_n 0, 1) := by decide +kernel
theorem d_FR_begin_71 : decode b_FR_begin 71 = .ok (.getfield 63, 3) := by decide +kernel
theorem d_FR_begin_74 : decode b_FR_begin 74 = .ok (.ifCond .eq 16, 3) := by decide +kernel
theorem d_FR_begin_77 : decode b_FR_begin 77 = .ok (.aload_n 2, 1) := by decide +kernel
theorem d_FR_begin_78 : decode b_FR_begin 78 = .ok (.iconst 4, 1) := by decide +kernel
theorem d_FR_begin_79 : decode b_FR_begin 79 = .ok (.putfield 138, 3) := by decide +kernel
theorem d_FR_begin_82 : decode b_FR_begin 82 = .ok (.aload_n 0, 1) := by decide +kernel
theorem d_FR_begin_83 : decode b_FR_begin 83 = .ok (.iload_n 1, 1) := by decide +kernel
theorem d_FR_begin_84 : decode b_FR_begin 84 = .ok (.invokevirtual 161, 3) := by decide +kernel
theorem d_FR_begin_87 : decode b_FR_begin 87 = .ok (.goto 9, 3) := by decide +kernel
theorem d_FR_begin_90 : decode b_FR_begin 90 = .ok (.aload_n 0, 1) := by decide +kernel
theorem d_FR_begin_91 : decode b_FR_begin 91 = .ok (.aload_n 2, 1) := by decide +kernel
theorem d_FR_begin_92 : decode b_FR_begin 92 = .ok (.iconst 0, 1) := by decide +kernel
theorem d_FR_begin_93 : decode b_FR_begin 93 = .ok (.invokevirtual 164, 3) := by decide +kernel
theorem d_FR_begin_96 : decode b_FR_begin 96 = .ok (.aload_n 2, 1) := by decide +kernel
theorem d_FR_begin_97 : decode b_FR_begin 97 = .ok (.getfield 138, 3) := by decide +kernel
theorem d_FR_begin_100 : decode b_FR_begin 100 = .ok (.ireturn, 1) := by decide +kernel
theorem d_FR_tick_0 : decode b_FR_tick 0 = .ok (.iload_n 1, 1) := by decide +kernel
theorem d_FR_tick_1 : decode b_FR_tick 1 = .ok (.ifCond .lt 9, 3) := by decide +kernel
theorem d_FR_tick_4 : decode b_FR_tick 4 = .ok (.iload_n 1, 1) := by decide +kernel
theorem d_FR_tick_5 : decode b_FR_tick 5 = .ok (.bipush 50, 2) := by decide +kernel
theorem d_FR_tick_7 : decode b_FR_tick 7 = .ok (.if_icmp .le 5, 3) := by decide +kernel
theorem d_FR_tick_10 : decode b_FR_tick 10 = .ok (.iconst (-1), 1) := by decide +kernel
theorem d_FR_tick_11 : decode b_FR_tick 11 = .ok (.ireturn, 1) := by decide +kernel
theorem d_FR_tick_12 : decode b_FR_tick 12 = .ok (.iconst 0, 1) := by decide +kernel
theorem d_FR_tick_13 : decode b_FR_tick 13 = .ok (.istore_n 2, 1) := by decide +kernel
theorem d_FR_tick_14 : decode b_FR_tick 14 = .ok (.iload_n 2, 1) := by decide +kernel
theorem d_FR_tick_15 : decode b_FR_tick 15 = .ok (.iload_n 1, 1) := by decide +kernel
theorem d_FR_tick_16 : decode b_FR_tick 16 = .ok (.if_icmp .ge 13, 3) := by decide +kernel
theorem d_FR_tick_19 : decode b_FR_tick 19 = .ok (.aload_n 0, 1) := by decide +kernel
theorem d_FR_tick_20 : decode b_FR_tick 20 = .ok (.invokevirtual 168, 3) := by decide +kernel
theorem d_FR_tick_23 : decode b_FR_tick 23 = .ok (.iinc 2 1, 3) := by decide +kernel
theorem d_FR_tick_26 : decode b_FR_tick 26 = .ok (.goto (-12), 3) := by decide +kernel
theorem d_FR_tick_29 : decode b_FR_tick 29 = .ok (.aload_n 0, 1) := by decide +kernel
theorem d_FR_tick_30 : decode b_FR_tick 30 = .ok (.invokevirtual 171, 3) := by decide +kernel
theorem d_FR_tick_33 : decode b_FR_tick 33 = .ok (.ireturn, 1) := by decide +kernel
theorem d_FR_about_0 : decode b_FR_about 0 = .ok (.aload_n 0, 1) := by decide +kernel
theorem d_FR_about_1 : decode b_FR_about 1 = .ok (.iload_n 1, 1) := by decide +kernel
theorem d_FR_about_2 : decode b_FR_about 2 = .ok (.invokevirtual 135, 3) := by decide +kernel
theorem d_FR_about_5 : decode b_FR_about 5 = .ok (.ifCond .ne 5, 3) := by decide +kernel
theorem d_FR_about_8 : decode b_FR_about 8 = .ok (.iconst (-1), 1) := by decide +kernel
theorem d_FR_about_9 : decode b_FR_about 9 = .ok (.ireturn, 1) := by decide +kernel
theorem d_FR_about_10 : decode b_FR_about 10 = .ok (.aload_n 0, 1) := by decide +kernel
theorem d_FR_about_11 : decode b_FR_about 11 = .ok (.getfield 29, 3) := by decide +kernel
theorem d_FR_about_14 : decode b_FR_about 14 = .ok (.iload_n 1, 1) := by decide +kernel
theorem d_FR_about_15 : decode b_FR_about 15 = .ok (.aaload, 1) := by decide +kernel
theorem d_FR_about_16 : decode b_FR_about 16 = .ok (.astore_n 3, 1) := by decide +kernel
theorem d_FR_about_17 : decode b_FR_about 17 = .ok (.iload_n 2, 1) := by decide +kernel
theorem d_FR_about_18 : decode b_FR_about 18 = .ok (.tableswitch 85 0 4 #[34, 39, 55, 63, 80], 34) := by decide +kernel
theorem d_FR_about_52 : decode b_FR_about 52 = .ok (.aload_n 3, 1) := by decide +kernel
theorem d_FR_about_53 : decode b_FR_about 53 = .ok (.getfield 138, 3) := by decide +kernel
theorem d_FR_about_56 : decode b_FR_about 56 = .ok (.ireturn, 1) := by decide +kernel
theorem d_FR_about_57 : decode b_FR_about 57 = .ok (.aload_n 3, 1) := by decide +kernel
theorem d_FR_about_58 : decode b_FR_about 58 = .ok (.invokevirtual 144, 3) := by decide +kernel
theorem d_FR_about_61 : decode b_FR_about 61 = .ok (.ifCond .eq 10, 3) := by decide +kernel
theorem d_FR_about_64 : decode b_FR_about 64 = .ok (.aload_n 3, 1) := by decide +kernel
theorem d_FR_about_65 : decode b_FR_about 65 = .ok (.invokevirtual 174, 3) := by decide +kernel
theorem d_FR_about_68 : decode b_FR_about 68 = .ok (.goto 4, 3) := by decide +kernel
theorem d_FR_about_71 : decode b_FR_about 71 = .ok (.iconst (-1), 1) := by decide +kernel
theorem d_FR_about_72 : decode b_FR_about 72 = .ok (.ireturn, 1) := by decide +kernel
theorem d_FR_about_73 : decode b_FR_about 73 = .ok (.aload_n 3, 1) := by decide +kernel
theorem d_FR_about_74 : decode b_FR_about 74 = .ok (.getfield 152, 3) := by decide +kernel
theorem d_FR_about_77 : decode b_FR_about 77 = .ok (.getfield 101, 3) := by decide +kernel
theorem d_FR_about_80 : decode b_FR_about 80 = .ok (.ireturn, 1) := by decide +kernel
theorem d_FR_about_81 : decode b_FR_about 81 = .ok (.aload_n 3, 1) := by decide +kernel
theorem d_FR_about_82 : decode b_FR_about 82 = .ok (.getfield 138, 3) := by decide +kernel
theorem d_FR_about_85 : decode b_FR_about 85 = .ok (.iconst 2, 1) := by decide +kernel
theorem d_FR_about_86 : decode b_FR_about 86 = .ok (.if_icmp .ne 10, 3) := by decide +kernel
theorem d_FR_about_89 : decode b_FR_about 89 = .ok (.aload_n 3, 1) := by decide +kernel
theorem d_FR_about_90 : decode b_FR_about 90 = .ok (.getfield 177, 3) := by decide +kernel
theorem d_FR_about_93 : decode b_FR_about 93 = .ok (.goto 4, 3) := by decide +kernel
theorem d_FR_about_96 : decode b_FR_about 96 = .ok (.iconst (-1), 1) := by decide +kernel
theorem d_FR_about_97 : decode b_FR_about 97 = .ok (.ireturn, 1) := by decide +kernel
theorem d_FR_about_98 : decode b_FR_about 98 = .ok (.aload_n 3, 1) := by decide +kernel
theorem d_FR_about_99 : decode b_FR_about 99 = .ok (.getfield 180, 3) := by decide +kernel
theorem d_FR_about_102 : decode b_FR_about 102 = .ok (.ireturn, 1) := by decide +kernel
theorem d_FR_about_103 : decode b_FR_about 103 = .ok (.iconst (-1), 1) := by decide +kernel
theorem d_FR_about_104 : decode b_FR_about 104 = .ok (.ireturn, 1) := by decide +kernel
theorem d_FR_byteOf_0 : decode b_FR_byteOf 0 = .ok (.aload_n 0, 1) := by decide +kernel
theorem d_FR_byteOf_1 : decode b_FR_byteOf 1 = .ok (.iload_n 1, 1) := by decide +kernel
theorem d_FR_byteOf_2 : decode b_FR_byteOf 2 = .ok (.invokevirtual 135, 3) := by decide +kernel
theorem d_FR_byteOf_5 : decode b_FR_byteOf 5 = .ok (.ifCond .eq 19, 3) := by decide +kernel
theorem d_FR_byteOf_8 : decode b_FR_byteOf 8 = .ok (.aload_n 0, 1) := by decide +kernel
theorem d_FR_byteOf_9 : decode b_FR_byteOf 9 = .ok (.getfield 29, 3) := by decide +kernel
theorem d_FR_byteOf_12 : decode b_FR_byteOf 12 = .ok (.iload_n 1, 1) := by decide +kernel
theorem d_FR_byteOf_13 : decode b_FR_byteOf 13 = .ok (.aaload, 1) := by decide +kernel
theorem d_FR_byteOf_14 : decode b_FR_byteOf 14 = .ok (.getfield 152, 3) := by decide +kernel
theorem d_FR_byteOf_17 : decode b_FR_byteOf 17 = .ok (.iload_n 2, 1) := by decide +kernel
theorem d_FR_byteOf_18 : decode b_FR_byteOf 18 = .ok (.invokevirtual 183, 3) := by decide +kernel
theorem d_FR_byteOf_21 : decode b_FR_byteOf 21 = .ok (.goto 4, 3) := by decide +kernel
theorem d_FR_byteOf_24 : decode b_FR_byteOf 24 = .ok (.iconst (-1), 1) := by decide +kernel
theorem d_FR_byteOf_25 : decode b_FR_byteOf 25 = .ok (.ireturn, 1) := by decide +kernel
theorem d_FR_barred_0 : decode b_FR_barred 0 = .ok (.aload_n 0, 1) := by decide +kernel
theorem d_FR_barred_1 : decode b_FR_barred 1 = .ok (.getfield 46, 3) := by decide +kernel
theorem d_FR_barred_4 : decode b_FR_barred 4 = .ok (.iload_n 1, 1) := by decide +kernel
theorem d_FR_barred_5 : decode b_FR_barred 5 = .ok (.invokevirtual 186, 3) := by decide +kernel
theorem d_FR_barred_8 : decode b_FR_barred 8 = .ok (.ifCond .ne 5, 3) := by decide +kernel
theorem d_FR_barred_11 : decode b_FR_barred 11 = .ok (.iconst (-1), 1) := by decide +kernel
theorem d_FR_barred_12 : decode b_FR_barred 12 = .ok (.ireturn, 1) := by decide +kernel
theorem d_FR_barred_13 : decode b_FR_barred 13 = .ok (.iload_n 2, 1) := by decide +kernel
theorem d_FR_barred_14 : decode b_FR_barred 14 = .ok (.lookupswitch 46 #[(0, 26), (1, 36)], 26) := by decide +kernel
theorem d_FR_barred_40 : decode b_FR_barred 40 = .ok (.aload_n 0, 1) := by decide +kernel
theorem d_FR_barred_41 : decode b_FR_barred 41 = .ok (.getfield 46, 3) := by decide +kernel
theorem d_FR_barred_44 : decode b_FR_barred 44 = .ok (.getfield 189, 3) := by decide +kernel
theorem d_FR_barred_47 : decode b_FR_barred 47 = .ok (.iload_n 1, 1) := by decide +kernel
theorem d_FR_barred_48 : decode b_FR_barred 48 = .ok (.iaload, 1) := by decide +kernel
theorem d_FR_barred_49 : decode b_FR_barred 49 = .ok (.ireturn, 1) := by decide +kernel
theorem d_FR_barred_50 : decode b_FR_barred 50 = .ok (.aload_n 0, 1) := by decide +kernel
theorem d_FR_barred_51 : decode b_FR_barred 51 = .ok (.getfield 46, 3) := by decide +kernel
theorem d_FR_barred_54 : decode b_FR_barred 54 = .ok (.getfield 192, 3) := by decide +kernel
theorem d_FR_barred_57 : decode b_FR_barred 57 = .ok (.iload_n 1, 1) := by decide +kernel
theorem d_FR_barred_58 : decode b_FR_barred 58 = .ok (.iaload, 1) := by decide +kernel
theorem d_FR_barred_59 : decode b_FR_barred 59 = .ok (.ireturn, 1) := by decide +kernel
theorem d_FR_barred_60 : decode b_FR_barred 60 = .ok (.iconst (-1), 1) := by decide +kernel
theorem d_FR_barred_61 : decode b_FR_barred 61 = .ok (.ireturn, 1) := by decide +kernel
theorem d_FR_came_0 : decode b_FR_came 0 = .ok (.aload_n 0, 1) := by decide +kernel
theorem d_FR_came_1 : decode b_FR_came 1 = .ok (.getfield 46, 3) := by decide +kernel
theorem d_FR_came_4 : decode b_FR_came 4 = .ok (.iload_n 1, 1) := by decide +kernel
theorem d_FR_came_5 : decode b_FR_came 5 = .ok (.invokevirtual 186, 3) := by decide +kernel
theorem d_FR_came_8 : decode b_FR_came 8 = .ok (.ifCond .eq 15, 3) := by decide +kernel
theorem d_FR_came_11 : decode b_FR_came 11 = .ok (.aload_n 0, 1) := by decide +kernel
theorem d_FR_came_12 : decode b_FR_came 12 = .ok (.getfield 46, 3) := by decide +kernel
theorem d_FR_came_15 : decode b_FR_came 15 = .ok (.getfield 195, 3) := by decide +kernel
theorem d_FR_came_18 : decode b_FR_came 18 = .ok (.iload_n 1, 1) := by decide +kernel
theorem d_FR_came_19 : decode b_FR_came 19 = .ok (.iaload, 1) := by decide +kernel
theorem d_FR_came_20 : decode b_FR_came 20 = .ok (.goto 4, 3) := by decide +kernel
theorem d_FR_came_23 : decode b_FR_came 23 = .ok (.iconst 0, 1) := by decide +kernel
theorem d_FR_came_24 : decode b_FR_came 24 = .ok (.ireturn, 1) := by decide +kernel
theorem d_FR_lacks_0 : decode b_FR_lacks 0 = .ok (.iload_n 1, 1) := by decide +kernel
theorem d_FR_lacks_1 : decode b_FR_lacks 1 = .ok (.ifCond .lt 20, 3) := by decide +kernel
theorem d_FR_lacks_4 : decode b_FR_lacks 4 = .ok (.iload_n 1, 1) := by decide +kernel
