theorem d_Archive_findIllOfEntry_17 : decode b_Archive_findIllOfEntry 17 = .ok (.iload_n 1, 1) := by decide +kernel
theorem d_Archive_findIllOfEntry_18 : decode b_Archive_findIllOfEntry 18 = .ok (.ireturn, 1) := by decide +kernel
theorem d_Archive_findIllOfEntry_19 : decode b_Archive_findIllOfEntry 19 = .ok (.aload_n 0, 1) := by decide +kernel
theorem d_Archive_findIllOfEntry_20 : decode b_Archive_findIllOfEntry 20 = .ok (.iload_n 1, 1) := by decide +kernel
theorem d_Archive_findIllOfEntry_21 : decode b_Archive_findIllOfEntry 21 = .ok (.invokestatic 28, 3) := by decide +kernel
theorem d_Archive_findIllOfEntry_24 : decode b_Archive_findIllOfEntry 24 = .ok (.aload_n 0, 1) := by decide +kernel
theorem d_Archive_findIllOfEntry_25 : decode b_Archive_findIllOfEntry 25 = .ok (.getfield 9, 3) := by decide +kernel
theorem d_Archive_findIllOfEntry_28 : decode b_Archive_findIllOfEntry 28 = .ok (.if_icmp .lt 8, 3) := by decide +kernel
theorem d_Archive_findIllOfEntry_31 : decode b_Archive_findIllOfEntry 31 = .ok (.aload_n 0, 1) := by decide +kernel
theorem d_Archive_findIllOfEntry_32 : decode b_Archive_findIllOfEntry 32 = .ok (.getfield 9, 3) := by decide +kernel
theorem d_Archive_findIllOfEntry_35 : decode b_Archive_findIllOfEntry 35 = .ok (.ireturn, 1) := by decide +kernel
theorem d_Archive_findIllOfEntry_36 : decode b_Archive_findIllOfEntry 36 = .ok (.aload_n 0, 1) := by decide +kernel
theorem d_Archive_findIllOfEntry_37 : decode b_Archive_findIllOfEntry 37 = .ok (.iload_n 1, 1) := by decide +kernel
theorem d_Archive_findIllOfEntry_38 : decode b_Archive_findIllOfEntry 38 = .ok (.iconst 1, 1) := by decide +kernel
theorem d_Archive_findIllOfEntry_39 : decode b_Archive_findIllOfEntry 39 = .ok (.iadd, 1) := by decide +kernel
theorem d_Archive_findIllOfEntry_40 : decode b_Archive_findIllOfEntry 40 = .ok (.aload_n 0, 1) := by decide +kernel
theorem d_Archive_findIllOfEntry_41 : decode b_Archive_findIllOfEntry 41 = .ok (.iload_n 1, 1) := by decide +kernel
theorem d_Archive_findIllOfEntry_42 : decode b_Archive_findIllOfEntry 42 = .ok (.invokestatic 28, 3) := by decide +kernel
theorem d_Archive_findIllOfEntry_45 : decode b_Archive_findIllOfEntry 45 = .ok (.invokestatic 31, 3) := by decide +kernel
theorem d_Archive_findIllOfEntry_48 : decode b_Archive_findIllOfEntry 48 = .ok (.ifCond .ne 7, 3) := by decide +kernel
theorem d_Archive_findIllOfEntry_51 : decode b_Archive_findIllOfEntry 51 = .ok (.iload_n 1, 1) := by decide +kernel
theorem d_Archive_findIllOfEntry_52 : decode b_Archive_findIllOfEntry 52 = .ok (.iconst 1, 1) := by decide +kernel
theorem d_Archive_findIllOfEntry_53 : decode b_Archive_findIllOfEntry 53 = .ok (.iadd, 1) := by decide +kernel
theorem d_Archive_findIllOfEntry_54 : decode b_Archive_findIllOfEntry 54 = .ok (.ireturn, 1) := by decide +kernel
theorem d_Archive_findIllOfEntry_55 : decode b_Archive_findIllOfEntry 55 = .ok (.aload_n 0, 1) := by decide +kernel
theorem d_Archive_findIllOfEntry_56 : decode b_Archive_findIllOfEntry 56 = .ok (.iload_n 1, 1) := by decide +kernel
theorem d_Archive_findIllOfEntry_57 : decode b_Archive_findIllOfEntry 57 = .ok (.invokestatic 21, 3) := by decide +kernel
theorem d_Archive_findIllOfEntry_60 : decode b_Archive_findIllOfEntry 60 = .ok (.aload_n 0, 1) := by decide +kernel
theorem d_Archive_findIllOfEntry_61 : decode b_Archive_findIllOfEntry 61 = .ok (.getfield 9, 3) := by decide +kernel
theorem d_Archive_findIllOfEntry_64 : decode b_Archive_findIllOfEntry 64 = .ok (.if_icmp .le 10, 3) := by decide +kernel
theorem d_Archive_findIllOfEntry_67 : decode b_Archive_findIllOfEntry 67 = .ok (.aload_n 0, 1) := by decide +kernel
theorem d_Archive_findIllOfEntry_68 : decode b_Archive_findIllOfEntry 68 = .ok (.getfield 9, 3) := by decide +kernel
theorem d_Archive_findIllOfEntry_71 : decode b_Archive_findIllOfEntry 71 = .ok (.goto 4, 3) := by decide +kernel
theorem d_Archive_findIllOfEntry_74 : decode b_Archive_findIllOfEntry 74 = .ok (.iconst (-1), 1) := by decide +kernel
theorem d_Archive_findIllOfEntry_75 : decode b_Archive_findIllOfEntry 75 = .ok (.ireturn, 1) := by decide +kernel
theorem d_Archive_pathEnd_0 : decode b_Archive_pathEnd 0 = .ok (.iload_n 1, 1) := by decide +kernel
theorem d_Archive_pathEnd_1 : decode b_Archive_pathEnd 1 = .ok (.iconst 1, 1) := by decide +kernel
theorem d_Archive_pathEnd_2 : decode b_Archive_pathEnd 2 = .ok (.iadd, 1) := by decide +kernel
theorem d_Archive_pathEnd_3 : decode b_Archive_pathEnd 3 = .ok (.aload_n 0, 1) := by decide +kernel
theorem d_Archive_pathEnd_4 : decode b_Archive_pathEnd 4 = .ok (.iload_n 1, 1) := by decide +kernel
theorem d_Archive_pathEnd_5 : decode b_Archive_pathEnd 5 = .ok (.invokevirtual 24, 3) := by decide +kernel
theorem d_Archive_pathEnd_8 : decode b_Archive_pathEnd 8 = .ok (.iadd, 1) := by decide +kernel
theorem d_Archive_pathEnd_9 : decode b_Archive_pathEnd 9 = .ok (.ireturn, 1) := by decide +kernel
theorem d_Archive_entryEnd_0 : decode b_Archive_entryEnd 0 = .ok (.aload_n 0, 1) := by decide +kernel
theorem d_Archive_entryEnd_1 : decode b_Archive_entryEnd 1 = .ok (.iload_n 1, 1) := by decide +kernel
theorem d_Archive_entryEnd_2 : decode b_Archive_entryEnd 2 = .ok (.invokestatic 28, 3) := by decide +kernel
theorem d_Archive_entryEnd_5 : decode b_Archive_entryEnd 5 = .ok (.istore_n 2, 1) := by decide +kernel
theorem d_Archive_entryEnd_6 : decode b_Archive_entryEnd 6 = .ok (.iload_n 2, 1) := by decide +kernel
theorem d_Archive_entryEnd_7 : decode b_Archive_entryEnd 7 = .ok (.iconst 1, 1) := by decide +kernel
theorem d_Archive_entryEnd_8 : decode b_Archive_entryEnd 8 = .ok (.iadd, 1) := by decide +kernel
theorem d_Archive_entryEnd_9 : decode b_Archive_entryEnd 9 = .ok (.aload_n 0, 1) := by decide +kernel
theorem d_Archive_entryEnd_10 : decode b_Archive_entryEnd 10 = .ok (.iload_n 2, 1) := by decide +kernel
theorem d_Archive_entryEnd_11 : decode b_Archive_entryEnd 11 = .ok (.invokevirtual 24, 3) := by decide +kernel
theorem d_Archive_entryEnd_14 : decode b_Archive_entryEnd 14 = .ok (.iadd, 1) := by decide +kernel
theorem d_Archive_entryEnd_15 : decode b_Archive_entryEnd 15 = .ok (.ireturn, 1) := by decide +kernel
theorem d_Archive_isRightPath_0 : decode b_Archive_isRightPath 0 = .ok (.iload_n 1, 1) := by decide +kernel
theorem d_Archive_isRightPath_1 : decode b_Archive_isRightPath 1 = .ok (.istore_n 3, 1) := by decide +kernel
theorem d_Archive_isRightPath_2 : decode b_Archive_isRightPath 2 = .ok (.iload_n 1, 1) := by decide +kernel
theorem d_Archive_isRightPath_3 : decode b_Archive_isRightPath 3 = .ok (.istore 4, 2) := by decide +kernel
theorem d_Archive_isRightPath_5 : decode b_Archive_isRightPath 5 = .ok (.iload 4, 2) := by decide +kernel
theorem d_Archive_isRightPath_7 : decode b_Archive_isRightPath 7 = .ok (.iload_n 2, 1) := by decide +kernel
theorem d_Archive_isRightPath_8 : decode b_Archive_isRightPath 8 = .ok (.if_icmp .ge 54, 3) := by decide +kernel
theorem d_Archive_isRightPath_11 : decode b_Archive_isRightPath 11 = .ok (.aload_n 0, 1) := by decide +kernel
theorem d_Archive_isRightPath_12 : decode b_Archive_isRightPath 12 = .ok (.iload 4, 2) := by decide +kernel
theorem d_Archive_isRightPath_14 : decode b_Archive_isRightPath 14 = .ok (.invokevirtual 24, 3) := by decide +kernel
theorem d_Archive_isRightPath_17 : decode b_Archive_isRightPath 17 = .ok (.istore 5, 2) := by decide +kernel
theorem d_Archive_isRightPath_19 : decode b_Archive_isRightPath 19 = .ok (.iload 5, 2) := by decide +kernel
theorem d_Archive_isRightPath_21 : decode b_Archive_isRightPath 21 = .ok (.bipush 47, 2) := by decide +kernel
theorem d_Archive_isRightPath_23 : decode b_Archive_isRightPath 23 = .ok (.if_icmp .ne 23, 3) := by decide +kernel
theorem d_Archive_isRightPath_26 : decode b_Archive_isRightPath 26 = .ok (.aload_n 0, 1) := by decide +kernel
theorem d_Archive_isRightPath_27 : decode b_Archive_isRightPath 27 = .ok (.iload_n 3, 1) := by decide +kernel
theorem d_Archive_isRightPath_28 : decode b_Archive_isRightPath 28 = .ok (.iload 4, 2) := by decide +kernel
theorem d_Archive_isRightPath_30 : decode b_Archive_isRightPath 30 = .ok (.invokestatic 35, 3) := by decide +kernel
theorem d_Archive_isRightPath_33 : decode b_Archive_isRightPath 33 = .ok (.ifCond .ne 5, 3) := by decide +kernel
theorem d_Archive_isRightPath_36 : decode b_Archive_isRightPath 36 = .ok (.iconst 0, 1) := by decide +kernel
theorem d_Archive_isRightPath_37 : decode b_Archive_isRightPath 37 = .ok (.ireturn, 1) := by decide +kernel
theorem d_Archive_isRightPath_38 : decode b_Archive_isRightPath 38 = .ok (.iload 4, 2) := by decide +kernel
theorem d_Archive_isRightPath_40 : decode b_Archive_isRightPath 40 = .ok (.iconst 1, 1) := by decide +kernel
theorem d_Archive_isRightPath_41 : decode b_Archive_isRightPath 41 = .ok (.iadd, 1) := by decide +kernel
theorem d_Archive_isRightPath_42 : decode b_Archive_isRightPath 42 = .ok (.istore_n 3, 1) := by decide +kernel
theorem d_Archive_isRightPath_43 : decode b_Archive_isRightPath 43 = .ok (.goto 13, 3) := by decide +kernel
theorem d_Archive_isRightPath_46 : decode b_Archive_isRightPath 46 = .ok (.iload 5, 2) := by decide +kernel
theorem d_Archive_isRightPath_48 : decode b_Archive_isRightPath 48 = .ok (.invokestatic 38, 3) := by decide +kernel
theorem d_Archive_isRightPath_51 : decode b_Archive_isRightPath 51 = .ok (.ifCond .ne 5, 3) := by decide +kernel
theorem d_Archive_isRightPath_54 : decode b_Archive_isRightPath 54 = .ok (.iconst 0, 1) := by decide +kernel
theorem d_Archive_isRightPath_55 : decode b_Archive_isRightPath 55 = .ok (.ireturn, 1) := by decide +kernel
theorem d_Archive_isRightPath_56 : decode b_Archive_isRightPath 56 = .ok (.iinc 4 1, 3) := by decide +kernel
theorem d_Archive_isRightPath_59 : decode b_Archive_isRightPath 59 = .ok (.goto (-54), 3) := by decide +kernel
theorem d_Archive_isRightPath_62 : decode b_Archive_isRightPath 62 = .ok (.aload_n 0, 1) := by decide +kernel
theorem d_Archive_isRightPath_63 : decode b_Archive_isRightPath 63 = .ok (.iload_n 3, 1) := by decide +kernel
theorem d_Archive_isRightPath_64 : decode b_Archive_isRightPath 64 = .ok (.iload_n 2, 1) := by decide +kernel
theorem d_Archive_isRightPath_65 : decode b_Archive_isRightPath 65 = .ok (.invokestatic 35, 3) := by decide +kernel
theorem d_Archive_isRightPath_68 : decode b_Archive_isRightPath 68 = .ok (.ireturn, 1) := by decide +kernel
theorem d_Archive_isPathCharacter_0 : decode b_Archive_isPathCharacter 0 = .ok (.iload_n 0, 1) := by decide +kernel
theorem d_Archive_isPathCharacter_1 : decode b_Archive_isPathCharacter 1 = .ok (.bipush 97, 2) := by decide +kernel
theorem d_Archive_isPathCharacter_3 : decode b_Archive_isPathCharacter 3 = .ok (.if_icmp .lt 9, 3) := by decide +kernel
theorem d_Archive_isPathCharacter_6 : decode b_Archive_isPathCharacter 6 = .ok (.iload_n 0, 1) := by decide +kernel
theorem d_Archive_isPathCharacter_7 : decode b_Archive_isPathCharacter 7 = .ok (.bipush 122, 2) := by decide +kernel
theorem d_Archive_isPathCharacter_9 : decode b_Archive_isPathCharacter 9 = .ok (.if_icmp .le 21, 3) := by decide +kernel
theorem d_Archive_isPathCharacter_12 : decode b_Archive_isPathCharacter 12 = .ok (.iload_n 0, 1) := by decide +kernel
theorem d_Archive_isPathCharacter_13 : decode b_Archive_isPathCharacter 13 = .ok (.bipush 48, 2) := by decide +kernel
theorem d_Archive_isPathCharacter_15 : decode b_Archive_isPathCharacter 15 = .ok (.if_icmp .lt 9, 3) := by decide +kernel
theorem d_Archive_isPathCharacter_18 : decode b_Archive_isPathCharacter 18 = .ok (.iload_n 0, 1) := by decide +kernel
theorem d_Archive_isPathCharacter_19 : decode b_Archive_isPathCharacter 19 = .ok (.bipush 57, 2) := by decide +kernel
theorem d_Archive_isPathCharacter_21 : decode b_Archive_isPathCharacter 21 = .ok (.if_icmp .le 9, 3) := by decide +kernel
theorem d_Archive_isPathCharacter_24 : decode b_Archive_isPathCharacter 24 = .ok (.iload_n 0, 1) := by decide +kernel
theorem d_Archive_isPathCharacter_25 : decode b_Archive_isPathCharacter 25 = .ok (.bipush 46, 2) := by decide +kernel
theorem d_Archive_isPathCharacter_27 : decode b_Archive_isPathCharacter 27 = .ok (.if_icmp .ne 7, 3) := by decide +kernel
theorem d_Archive_isPathCharacter_30 : decode b_Archive_isPathCharacter 30 = .ok (.iconst 1, 1) := by decide +kernel
theorem d_Archive_isPathCharacter_31 : decode b_Archive_isPathCharacter 31 = .ok (.goto 4, 3) := by decide +kernel
theorem d_Archive_isPathCharacter_34 : decode b_Archive_isPathCharacter 34 = .ok (.iconst 0, 1) := by decide +kernel
theorem d_Archive_isPathCharacter_35 : decode b_Archive_isPathCharacter 35 = .ok (.ireturn, 1) := by decide +kernel
theorem d_Archive_isRightSegment_0 : decode b_Archive_isRightSegment 0 = .ok (.iload_n 2, 1) := by decide +kernel
theorem d_Archive_isRightSegment_1 : decode b_Archive_isRightSegment 1 = .ok (.iload_n 1, 1) := by decide +kernel
theorem d_Archive_isRightSegment_2 : decode b_Archive_isRightSegment 2 = .ok (.isub, 1) := by decide +kernel
theorem d_Archive_isRightSegment_3 : decode b_Archive_isRightSegment 3 = .ok (.istore_n 3, 1) := by decide +kernel
theorem d_Archive_isRightSegment_4 : decode b_Archive_isRightSegment 4 = .ok (.iload_n 3, 1) := by decide +kernel
theorem d_Archive_isRightSegment_5 : decode b_Archive_isRightSegment 5 = .ok (.ifCond .gt 5, 3) := by decide +kernel
theorem d_Archive_isRightSegment_8 : decode b_Archive_isRightSegment 8 = .ok (.iconst 0, 1) := by decide +kernel
theorem d_Archive_isRightSegment_9 : decode b_Archive_isRightSegment 9 = .ok (.ireturn, 1) := by decide +kernel
theorem d_Archive_isRightSegment_10 : decode b_Archive_isRightSegment 10 = .ok (.iload_n 3, 1) := by decide +kernel
theorem d_Archive_isRightSegment_11 : decode b_Archive_isRightSegment 11 = .ok (.iconst 2, 1) := by decide +kernel
theorem d_Archive_isRightSegment_12 : decode b_Archive_isRightSegment 12 = .ok (.if_icmp .gt 25, 3) := by decide +kernel
theorem d_Archive_isRightSegment_15 : decode b_Archive_isRightSegment 15 = .ok (.aload_n 0, 1) := by decide +kernel
theorem d_Archive_isRightSegment_16 : decode b_Archive_isRightSegment 16 = .ok (.iload_n 1, 1) := by decide +kernel
theorem d_Archive_isRightSegment_17 : decode b_Archive_isRightSegment 17 = .ok (.invokevirtual 24, 3) := by decide +kernel
theorem d_Archive_isRightSegment_20 : decode b_Archive_isRightSegment 20 = .ok (.bipush 46, 2) := by decide +kernel
theorem d_Archive_isRightSegment_22 : decode b_Archive_isRightSegment 22 = .ok (.if_icmp .ne 15, 3) := by decide +kernel
theorem d_Archive_isRightSegment_25 : decode b_Archive_isRightSegment 25 = .ok (.aload_n 0, 1) := by decide +kernel
theorem d_Archive_isRightSegment_26 : decode b_Archive_isRightSegment 26 = .ok (.iload_n 2, 1) := by decide +kernel
theorem d_Archive_isRightSegment_27 : decode b_Archive_isRightSegment 27 = .ok (.iconst 1, 1) := by decide +kernel
theorem d_Archive_isRightSegment_28 : decode b_Archive_isRightSegment 28 = .ok (.isub, 1) := by decide +kernel
theorem d_Archive_isRightSegment_29 : decode b_Archive_isRightSegment 29 = .ok (.invokevirtual 24, 3) := by decide +kernel
theorem d_Archive_isRightSegment_32 : decode b_Archive_isRightSegment 32 = .ok (.bipush 46, 2) := by decide +kernel
theorem d_Archive_isRightSegment_34 : decode b_Archive_isRightSegment 34 = .ok (.if_icmp .eq 7, 3) := by decide +kernel
theorem d_Archive_isRightSegment_37 : decode b_Archive_isRightSegment 37 = .ok (.iconst 1, 1) := by decide +kernel
theorem d_Archive_isRightSegment_38 : decode b_Archive_isRightSegment 38 = .ok (.goto 4, 3) := by decide +kernel
theorem d_Archive_isRightSegment_41 : decode b_Archive_isRightSegment 41 = .ok (.iconst 0, 1) := by decide +kernel
theorem d_Archive_isRightSegment_42 : decode b_Archive_isRightSegment 42 = .ok (.ireturn, 1) := by decide +kernel
theorem d_Archive_strippedStart_0 : decode b_Archive_strippedStart 0 = .ok (.iload_n 1, 1) := by decide +kernel
theorem d_Archive_strippedStart_1 : decode b_Archive_strippedStart 1 = .ok (.istore 4, 2) := by decide +kernel
theorem d_Archive_strippedStart_3 : decode b_Archive_strippedStart 3 = .ok (.iload_n 3, 1) := by decide +kernel
theorem d_Archive_strippedStart_4 : decode b_Archive_strippedStart 4 = .ok (.istore 5, 2) := by decide +kernel
theorem d_Archive_strippedStart_6 : decode b_Archive_strippedStart 6 = .ok (.iload_n 1, 1) := by decide +kernel
theorem d_Archive_strippedStart_7 : decode b_Archive_strippedStart 7 = .ok (.istore 6, 2) := by decide +kernel
theorem d_Archive_strippedStart_9 : decode b_Archive_strippedStart 9 = .ok (.iload 6, 2) := by decide +kernel
theorem d_Archive_strippedStart_11 : decode b_Archive_strippedStart 11 = .ok (.iload_n 2, 1) := by decide +kernel
theorem d_Archive_strippedStart_12 : decode b_Archive_strippedStart 12 = .ok (.if_icmp .ge 34, 3) := by decide +kernel
theorem d_Archive_strippedStart_15 : decode b_Archive_strippedStart 15 = .ok (.iload 5, 2) := by decide +kernel
theorem d_Archive_strippedStart_17 : decode b_Archive_strippedStart 17 = .ok (.ifCond .le 29, 3) := by decide +kernel
theorem d_Archive_strippedStart_20 : decode b_Archive_strippedStart 20 = .ok (.aload_n 0, 1) := by decide +kernel
theorem d_Archive_strippedStart_21 : decode b_Archive_strippedStart 21 = .ok (.iload 6, 2) := by decide +kernel
theorem d_Archive_strippedStart_23 : decode b_Archive_strippedStart 23 = .ok (.invokevirtual 24, 3) := by decide +kernel
theorem d_Archive_strippedStart_26 : decode b_Archive_strippedStart 26 = .ok (.bipush 47, 2) := by decide +kernel
theorem d_Archive_strippedStart_28 : decode b_Archive_strippedStart 28 = .ok (.if_icmp .ne 12, 3) := by decide +kernel
theorem d_Archive_strippedStart_31 : decode b_Archive_strippedStart 31 = .ok (.iload 6, 2) := by decide +kernel
theorem d_Archive_strippedStart_33 : decode b_Archive_strippedStart 33 = .ok (.iconst 1, 1) := by decide +kernel
theorem d_Archive_strippedStart_34 : decode b_Archive_strippedStart 34 = .ok (.iadd, 1) := by decide +kernel
theorem d_Archive_strippedStart_35 : decode b_Archive_strippedStart 35 = .ok (.istore 4, 2) := by decide +kernel
theorem d_Archive_strippedStart_37 : decode b_Archive_strippedStart 37 = .ok (.iinc 5 (-1), 3) := by decide +kernel
theorem d_Archive_strippedStart_40 : decode b_Archive_strippedStart 40 = .ok (.iinc 6 1, 3) := by decide +kernel
theorem d_Archive_strippedStart_43 : decode b_Archive_strippedStart 43 = .ok (.goto (-34), 3) := by decide +kernel
theorem d_Archive_strippedStart_46 : decode b_Archive_strippedStart 46 = .ok (.iload 5, 2) := by decide +kernel
theorem d_Archive_strippedStart_48 : decode b_Archive_strippedStart 48 = .ok (.ifCond .le 7, 3) := by decide +kernel
theorem d_Archive_strippedStart_51 : decode b_Archive_strippedStart 51 = .ok (.iload_n 2, 1) := by decide +kernel
theorem d_Archive_strippedStart_52 : decode b_Archive_strippedStart 52 = .ok (.goto 5, 3) := by decide +kernel
theorem d_Archive_strippedStart_55 : decode b_Archive_strippedStart 55 = .ok (.iload 4, 2) := by decide +kernel
theorem d_Archive_strippedStart_57 : decode b_Archive_strippedStart 57 = .ok (.ireturn, 1) := by decide +kernel
theorem d_Files_init_0 : decode b_Files_init 0 = .ok (.aload_n 0, 1) := by decide +kernel
theorem d_Files_init_1 : decode b_Files_init 1 = .ok (.invokespecial 3, 3) := by decide +kernel
theorem d_Files_init_4 : decode b_Files_init 4 = .ok (.aload_n 0, 1) := by decide +kernel
theorem d_Files_init_5 : decode b_Files_init 5 = .ok (.bipush 33, 2) := by decide +kernel
theorem d_Files_init_7 : decode b_Files_init 7 = .ok (.newarray .int, 2) := by decide +kernel
theorem d_Files_init_9 : decode b_Files_init 9 = .ok (.putfield 9, 3) := by decide +kernel
theorem d_Files_init_12 : decode b_Files_init 12 = .ok (.aload_n 0, 1) := by decide +kernel
theorem d_Files_init_13 : decode b_Files_init 13 = .ok (.bipush 33, 2) := by decide +kernel
theorem d_Files_init_15 : decode b_Files_init 15 = .ok (.newarray .int, 2) := by decide +kernel
theorem d_Files_init_17 : decode b_Files_init 17 = .ok (.putfield 15, 3) := by decide +kernel
theorem d_Files_init_20 : decode b_Files_init 20 = .ok (.aload_n 0, 1) := by decide +kernel
theorem d_Files_init_21 : decode b_Files_init 21 = .ok (.bipush 33, 2) := by decide +kernel
theorem d_Files_init_23 : decode b_Files_init 23 = .ok (.newarray .int, 2) := by decide +kernel
theorem d_Files_init_25 : decode b_Files_init 25 = .ok (.putfield 18, 3) := by decide +kernel
theorem d_Files_init_28 : decode b_Files_init 28 = .ok (.aload_n 0, 1) := by decide +kernel
theorem d_Files_init_29 : decode b_Files_init 29 = .ok (.bipush 33, 2) := by decide +kernel
theorem d_Files_init_31 : decode b_Files_init 31 = .ok (.newarray .int, 2) := by decide +kernel
theorem d_Files_init_33 : decode b_Files_init 33 = .ok (.putfield 21, 3) := by decide +kernel
theorem d_Files_init_36 : decode b_Files_init 36 = .ok (.aload_n 0, 1) := by decide +kernel
theorem d_Files_init_37 : decode b_Files_init 37 = .ok (.iconst 0, 1) := by decide +kernel
theorem d_Files_init_38 : decode b_Files_init 38 = .ok (.putfield 24, 3) := by decide +kernel
theorem d_Files_init_41 : decode b_Files_init 41 = .ok (.return_, 1) := by decide +kernel
theorem d_Files_has_0 : decode b_Files_has 0 = .ok (.iload_n 1, 1) := by decide +kernel
theorem d_Files_has_1 : decode b_Files_has 1 = .ok (.ifCond .lt 15, 3) := by decide +kernel
theorem d_Files_has_4 : decode b_Files_has 4 = .ok (.iload_n 1, 1) := by decide +kernel
theorem d_Files_has_5 : decode b_Files_has 5 = .ok (.aload_n 0, 1) := by decide +kernel
theorem d_Files_has_6 : decode b_Files_has 6 = .ok (.getfield 24, 3) := by decide +kernel
theorem d_Files_has_9 : decode b_Files_has 9 = .ok (.if_icmp .ge 7, 3) := by decide +kernel
theorem d_Files_has_12 : decode b_Files_has 12 = .ok (.iconst 1, 1) := by decide +kernel
theorem d_Files_has_13 : decode b_Files_has 13 = .ok (.goto 4, 3) := by decide +kernel
theorem d_Files_has_16 : decode b_Files_has 16 = .ok (.iconst 0, 1) := by decide +kernel
theorem d_Files_has_17 : decode b_Files_has 17 = .ok (.ireturn, 1) := by decide +kernel
theorem d_Files_fill_0 : decode b_Files_fill 0 = .ok (.aload_n 0, 1) := by decide +kernel
theorem d_Files_fill_1 : decode b_Files_fill 1 = .ok (.iconst 0, 1) := by decide +kernel
theorem d_Files_fill_2 : decode b_Files_fill 2 = .ok (.putfield 24, 3) := by decide +kernel
theorem d_Files_fill_5 : decode b_Files_fill 5 = .ok (.iconst 0, 1) := by decide +kernel
theorem d_Files_fill_6 : decode b_Files_fill 6 = .ok (.istore_n 3, 1) := by decide +kernel
theorem d_Files_fill_7 : decode b_Files_fill 7 = .ok (.iconst 0, 1) := by decide +kernel
theorem d_Files_fill_8 : decode b_Files_fill 8 = .ok (.istore 4, 2) := by decide +kernel
theorem d_Files_fill_10 : decode b_Files_fill 10 = .ok (.iload 4, 2) := by decide +kernel
theorem d_Files_fill_12 : decode b_Files_fill 12 = .ok (.bipush 33, 2) := by decide +kernel
theorem d_Files_fill_14 : decode b_Files_fill 14 = .ok (.if_icmp .ge 58, 3) := by decide +kernel
theorem d_Files_fill_17 : decode b_Files_fill 17 = .ok (.iload_n 3, 1) := by decide +kernel
theorem d_Files_fill_18 : decode b_Files_fill 18 = .ok (.aload_n 1, 1) := by decide +kernel
theorem d_Files_fill_19 : decode b_Files_fill 19 = .ok (.getfield 28, 3) := by decide +kernel
theorem d_Files_fill_22 : decode b_Files_fill 22 = .ok (.if_icmp .ge 50, 3) := by decide +kernel
theorem d_Files_fill_25 : decode b_Files_fill 25 = .ok (.aload_n 1, 1) := by decide +kernel
theorem d_Files_fill_26 : decode b_Files_fill 26 = .ok (.iload_n 3, 1) := by decide +kernel
theorem d_Files_fill_27 : decode b_Files_fill 27 = .ok (.invokestatic 33, 3) := by decide +kernel
theorem d_Files_fill_30 : decode b_Files_fill 30 = .ok (.istore 5, 2) := by decide +kernel
theorem d_Files_fill_32 : decode b_Files_fill 32 = .ok (.aload_n 1, 1) := by decide +kernel
theorem d_Files_fill_33 : decode b_Files_fill 33 = .ok (.iload_n 3, 1) := by decide +kernel
theorem d_Files_fill_34 : decode b_Files_fill 34 = .ok (.iconst 1, 1) := by decide +kernel
theorem d_Files_fill_35 : decode b_Files_fill 35 = .ok (.iadd, 1) := by decide +kernel
theorem d_Files_fill_36 : decode b_Files_fill 36 = .ok (.iload 5, 2) := by decide +kernel
theorem d_Files_fill_38 : decode b_Files_fill 38 = .ok (.iload_n 2, 1) := by decide +kernel
theorem d_Files_fill_39 : decode b_Files_fill 39 = .ok (.invokestatic 39, 3) := by decide +kernel
theorem d_Files_fill_42 : decode b_Files_fill 42 = .ok (.istore 6, 2) := by decide +kernel
theorem d_Files_fill_44 : decode b_Files_fill 44 = .ok (.iload 6, 2) := by decide +kernel
theorem d_Files_fill_46 : decode b_Files_fill 46 = .ok (.iload 5, 2) := by decide +kernel
theorem d_Files_fill_48 : decode b_Files_fill 48 = .ok (.if_icmp .ge 12, 3) := by decide +kernel
theorem d_Files_fill_51 : decode b_Files_fill 51 = .ok (.aload_n 0, 1) := by decide +kernel
theorem d_Files_fill_52 : decode b_Files_fill 52 = .ok (.aload_n 1, 1) := by decide +kernel
theorem d_Files_fill_53 : decode b_Files_fill 53 = .ok (.iload 6, 2) := by decide +kernel
theorem d_Files_fill_55 : decode b_Files_fill 55 = .ok (.iload 5, 2) := by decide +kernel
theorem d_Files_fill_57 : decode b_Files_fill 57 = .ok (.invokevirtual 43, 3) := by decide +kernel
theorem d_Files_fill_60 : decode b_Files_fill 60 = .ok (.aload_n 1, 1) := by decide +kernel
theorem d_Files_fill_61 : decode b_Files_fill 61 = .ok (.iload_n 3, 1) := by decide +kernel
theorem d_Files_fill_62 : decode b_Files_fill 62 = .ok (.invokestatic 47, 3) := by decide +kernel
theorem d_Files_fill_65 : decode b_Files_fill 65 = .ok (.istore_n 3, 1) := by decide +kernel
theorem d_Files_fill_66 : decode b_Files_fill 66 = .ok (.iinc 4 1, 3) := by decide +kernel
theorem d_Files_fill_69 : decode b_Files_fill 69 = .ok (.goto (-59), 3) := by decide +kernel
theorem d_Files_fill_72 : decode b_Files_fill 72 = .ok (.return_, 1) := by decide +kernel
theorem d_Files_put_0 : decode b_Files_put 0 = .ok (.iload_n 3, 1) := by decide +kernel
theorem d_Files_put_1 : decode b_Files_put 1 = .ok (.iload_n 2, 1) := by decide +kernel
theorem d_Files_put_2 : decode b_Files_put 2 = .ok (.isub, 1) := by decide +kernel
theorem d_Files_put_3 : decode b_Files_put 3 = .ok (.istore 4, 2) := by decide +kernel
theorem d_Files_put_5 : decode b_Files_put 5 = .ok (.aload_n 0, 1) := by decide +kernel
theorem d_Files_put_6 : decode b_Files_put 6 = .ok (.aload_n 1, 1) := by decide +kernel
theorem d_Files_put_7 : decode b_Files_put 7 = .ok (.iload_n 2, 1) := by decide +kernel
theorem d_Files_put_8 : decode b_Files_put 8 = .ok (.iload 4, 2) := by decide +kernel
theorem d_Files_put_10 : decode b_Files_put 10 = .ok (.invokevirtual 50, 3) := by decide +kernel
theorem d_Files_put_13 : decode b_Files_put 13 = .ok (.istore 5, 2) := by decide +kernel
theorem d_Files_put_15 : decode b_Files_put 15 = .ok (.iload 5, 2) := by decide +kernel
theorem d_Files_put_17 : decode b_Files_put 17 = .ok (.bipush 33, 2) := by decide +kernel
theorem d_Files_put_19 : decode b_Files_put 19 = .ok (.if_icmp .lt 4, 3) := by decide +kernel
theorem d_Files_put_22 : decode b_Files_put 22 = .ok (.return_, 1) := by decide +kernel
theorem d_Files_put_23 : decode b_Files_put 23 = .ok (.iload 5, 2) := by decide +kernel
theorem d_Files_put_25 : decode b_Files_put 25 = .ok (.aload_n 0, 1) := by decide +kernel
theorem d_Files_put_26 : decode b_Files_put 26 = .ok (.getfield 24, 3) := by decide +kernel
theorem d_Files_put_29 : decode b_Files_put 29 = .ok (.if_icmp .ne 30, 3) := by decide +kernel
theorem d_Files_put_32 : decode b_Files_put 32 = .ok (.aload_n 0, 1) := by decide +kernel
theorem d_Files_put_33 : decode b_Files_put 33 = .ok (.getfield 18, 3) := by decide +kernel
theorem d_Files_put_36 : decode b_Files_put 36 = .ok (.iload 5, 2) := by decide +kernel
theorem d_Files_put_38 : decode b_Files_put 38 = .ok (.iload_n 2, 1) := by decide +kernel
theorem d_Files_put_39 : decode b_Files_put 39 = .ok (.iastore, 1) := by decide +kernel
theorem d_Files_put_40 : decode b_Files_put 40 = .ok (.aload_n 0, 1) := by decide +kernel
theorem d_Files_put_41 : decode b_Files_put 41 = .ok (.getfield 21, 3) := by decide +kernel
theorem d_Files_put_44 : decode b_Files_put 44 = .ok (.iload 5, 2) := by decide +kernel
theorem d_Files_put_46 : decode b_Files_put 46 = .ok (.iload 4, 2) := by decide +kernel
theorem d_Files_put_48 : decode b_Files_put 48 = .ok (.iastore, 1) := by decide +kernel
theorem d_Files_put_49 : decode b_Files_put 49 = .ok (.aload_n 0, 1) := by decide +kernel
theorem d_Files_put_50 : decode b_Files_put 50 = .ok (.dup, 1) := by decide +kernel
theorem d_Files_put_51 : decode b_Files_put 51 = .ok (.getfield 24, 3) := by decide +kernel
theorem d_Files_put_54 : decode b_Files_put 54 = .ok (.iconst 1, 1) := by decide +kernel
theorem d_Files_put_55 : decode b_Files_put 55 = .ok (.iadd, 1) := by decide +kernel
theorem d_Files_put_56 : decode b_Files_put 56 = .ok (.putfield 24, 3) := by decide +kernel
theorem d_Files_put_59 : decode b_Files_put 59 = .ok (.aload_n 0, 1) := by decide +kernel
theorem d_Files_put_60 : decode b_Files_put 60 = .ok (.getfield 9, 3) := by decide +kernel
theorem d_Files_put_63 : decode b_Files_put 63 = .ok (.iload 5, 2) := by decide +kernel
theorem d_Files_put_65 : decode b_Files_put 65 = .ok (.iload_n 3, 1) := by decide +kernel
theorem d_Files_put_66 : decode b_Files_put 66 = .ok (.iconst 1, 1) := by decide +kernel
theorem d_Files_put_67 : decode b_Files_put 67 = .ok (.iadd, 1) := by decide +kernel
theorem d_Files_put_68 : decode b_Files_put 68 = .ok (.iastore, 1) := by decide +kernel
theorem d_Files_put_69 : decode b_Files_put 69 = .ok (.aload_n 0, 1) := by decide +kernel
theorem d_Files_put_70 : decode b_Files_put 70 = .ok (.getfield 15, 3) := by decide +kernel
theorem d_Files_put_73 : decode b_Files_put 73 = .ok (.iload 5, 2) := by decide +kernel
theorem d_Files_put_75 : decode b_Files_put 75 = .ok (.aload_n 1, 1) := by decide +kernel
theorem d_Files_put_76 : decode b_Files_put 76 = .ok (.iload_n 3, 1) := by decide +kernel
theorem d_Files_put_77 : decode b_Files_put 77 = .ok (.invokevirtual 54, 3) := by decide +kernel
theorem d_Files_put_80 : decode b_Files_put 80 = .ok (.iastore, 1) := by decide +kernel
theorem d_Files_put_81 : decode b_Files_put 81 = .ok (.return_, 1) := by decide +kernel
theorem d_Files_findPath_0 : decode b_Files_findPath 0 = .ok (.iconst 0, 1) := by decide +kernel
theorem d_Files_findPath_1 : decode b_Files_findPath 1 = .ok (.istore 4, 2) := by decide +kernel
theorem d_Files_findPath_3 : decode b_Files_findPath 3 = .ok (.iload 4, 2) := by decide +kernel
theorem d_Files_findPath_5 : decode b_Files_findPath 5 = .ok (.aload_n 0, 1) := by decide +kernel
theorem d_Files_findPath_6 : decode b_Files_findPath 6 = .ok (.getfield 24, 3) := by decide +kernel
theorem d_Files_findPath_9 : decode b_Files_findPath 9 = .ok (.if_icmp .ge 39, 3) := by decide +kernel
theorem d_Files_findPath_12 : decode b_Files_findPath 12 = .ok (.aload_n 0, 1) := by decide +kernel
theorem d_Files_findPath_13 : decode b_Files_findPath 13 = .ok (.getfield 21, 3) := by decide +kernel
theorem d_Files_findPath_16 : decode b_Files_findPath 16 = .ok (.iload 4, 2) := by decide +kernel
theorem d_Files_findPath_18 : decode b_Files_findPath 18 = .ok (.iaload, 1) := by decide +kernel
theorem d_Files_findPath_19 : decode b_Files_findPath 19 = .ok (.iload_n 3, 1) := by decide +kernel
theorem d_Files_findPath_20 : decode b_Files_findPath 20 = .ok (.if_icmp .ne 22, 3) := by decide +kernel
theorem d_Files_findPath_23 : decode b_Files_findPath 23 = .ok (.aload_n 1, 1) := by decide +kernel
theorem d_Files_findPath_24 : decode b_Files_findPath 24 = .ok (.aload_n 0, 1) := by decide +kernel
theorem d_Files_findPath_25 : decode b_Files_findPath 25 = .ok (.getfield 18, 3) := by decide +kernel
theorem d_Files_findPath_28 : decode b_Files_findPath 28 = .ok (.iload 4, 2) := by decide +kernel
theorem d_Files_findPath_30 : decode b_Files_findPath 30 = .ok (.iaload, 1) := by decide +kernel
theorem d_Files_findPath_31 : decode b_Files_findPath 31 = .ok (.iload_n 2, 1) := by decide +kernel
theorem d_Files_findPath_32 : decode b_Files_findPath 32 = .ok (.iload_n 3, 1) := by decide +kernel
theorem d_Files_findPath_33 : decode b_Files_findPath 33 = .ok (.invokevirtual 58, 3) := by decide +kernel
theorem d_Files_findPath_36 : decode b_Files_findPath 36 = .ok (.ifCond .eq 6, 3) := by decide +kernel
theorem d_Files_findPath_39 : decode b_Files_findPath 39 = .ok (.iload 4, 2) := by decide +kernel
theorem d_Files_findPath_41 : decode b_Files_findPath 41 = .ok (.ireturn, 1) := by decide +kernel
theorem d_Files_findPath_42 : decode b_Files_findPath 42 = .ok (.iinc 4 1, 3) := by decide +kernel
theorem d_Files_findPath_45 : decode b_Files_findPath 45 = .ok (.goto (-42), 3) := by decide +kernel
theorem d_Files_findPath_48 : decode b_Files_findPath 48 = .ok (.aload_n 0, 1) := by decide +kernel
theorem d_Files_findPath_49 : decode b_Files_findPath 49 = .ok (.getfield 24, 3) := by decide +kernel
theorem d_Files_findPath_52 : decode b_Files_findPath 52 = .ok (.ireturn, 1) := by decide +kernel
theorem d_Place_init_0 : decode b_Place_init 0 = .ok (.aload_n 0, 1) := by decide +kernel
theorem d_Place_init_1 : decode b_Place_init 1 = .ok (.invokespecial 3, 3) := by decide +kernel
theorem d_Place_init_4 : decode b_Place_init 4 = .ok (.aload_n 0, 1) := by decide +kernel
theorem d_Place_init_5 : decode b_Place_init 5 = .ok (.new 9, 3) := by decide +kernel
theorem d_Place_init_8 : decode b_Place_init 8 = .ok (.dup, 1) := by decide +kernel
theorem d_Place_init_9 : decode b_Place_init 9 = .ok (.invokespecial 11, 3) := by decide +kernel
theorem d_Place_init_12 : decode b_Place_init 12 = .ok (.putfield 12, 3) := by decide +kernel
theorem d_Place_init_15 : decode b_Place_init 15 = .ok (.aload_n 0, 1) := by decide +kernel
theorem d_Place_init_16 : decode b_Place_init 16 = .ok (.iconst 0, 1) := by decide +kernel
theorem d_Place_init_17 : decode b_Place_init 17 = .ok (.putfield 18, 3) := by decide +kernel
theorem d_Place_init_20 : decode b_Place_init 20 = .ok (.aload_n 0, 1) := by decide +kernel
theorem d_Place_init_21 : decode b_Place_init 21 = .ok (.iconst 1, 1) := by decide +kernel
theorem d_Place_init_22 : decode b_Place_init 22 = .ok (.putfield 22, 3) := by decide +kernel
theorem d_Place_init_25 : decode b_Place_init 25 = .ok (.aload_n 0, 1) := by decide +kernel
theorem d_Place_init_26 : decode b_Place_init 26 = .ok (.iconst (-1), 1) := by decide +kernel
theorem d_Place_init_27 : decode b_Place_init 27 = .ok (.putfield 25, 3) := by decide +kernel
theorem d_Place_init_30 : decode b_Place_init 30 = .ok (.aload_n 0, 1) := by decide +kernel
theorem d_Place_init_31 : decode b_Place_init 31 = .ok (.iconst 0, 1) := by decide +kernel
theorem d_Place_init_32 : decode b_Place_init 32 = .ok (.putfield 28, 3) := by decide +kernel
theorem d_Place_init_35 : decode b_Place_init 35 = .ok (.aload_n 0, 1) := by decide +kernel
theorem d_Place_init_36 : decode b_Place_init 36 = .ok (.iconst 0, 1) := by decide +kernel
theorem d_Place_init_37 : decode b_Place_init 37 = .ok (.putfield 31, 3) := by decide +kernel
theorem d_Place_init_40 : decode b_Place_init 40 = .ok (.aload_n 0, 1) := by decide +kernel
theorem d_Place_init_41 : decode b_Place_init 41 = .ok (.iconst 0, 1) := by decide +kernel
theorem d_Place_init_42 : decode b_Place_init 42 = .ok (.putfield 34, 3) := by decide +kernel
theorem d_Place_init_45 : decode b_Place_init 45 = .ok (.aload_n 0, 1) := by decide +kernel
theorem d_Place_init_46 : decode b_Place_init 46 = .ok (.iconst 0, 1) := by decide +kernel
theorem d_Place_init_47 : decode b_Place_init 47 = .ok (.putfield 38, 3) := by decide +kernel
theorem d_Place_init_50 : decode b_Place_init 50 = .ok (.aload_n 0, 1) := by decide +kernel
theorem d_Place_init_51 : decode b_Place_init 51 = .ok (.iconst 0, 1) := by decide +kernel
theorem d_Place_init_52 : decode b_Place_init 52 = .ok (.putfield 41, 3) := by decide +kernel
theorem d_Place_init_55 : decode b_Place_init 55 = .ok (.aload_n 0, 1) := by decide +kernel
theorem d_Place_init_56 : decode b_Place_init 56 = .ok (.iconst 0, 1) := by decide +kernel
theorem d_Place_init_57 : decode b_Place_init 57 = .ok (.putfield 44, 3) := by decide +kernel
theorem d_Place_init_60 : decode b_Place_init 60 = .ok (.return_, 1) := by decide +kernel
theorem d_Place_leadsOn_0 : decode b_Place_leadsOn 0 = .ok (.aload_n 0, 1) := by decide +kernel
theorem d_Place_leadsOn_1 : decode b_Place_leadsOn 1 = .ok (.getfield 34, 3) := by decide +kernel
theorem d_Place_leadsOn_4 : decode b_Place_leadsOn 4 = .ok (.ifCond .ne 15, 3) := by decide +kernel
theorem d_Place_leadsOn_7 : decode b_Place_leadsOn 7 = .ok (.aload_n 0, 1) := by decide +kernel
theorem d_Place_leadsOn_8 : decode b_Place_leadsOn 8 = .ok (.getfield 25, 3) := by decide +kernel
theorem d_Place_leadsOn_11 : decode b_Place_leadsOn 11 = .ok (.iconst (-1), 1) := by decide +kernel
theorem d_Place_leadsOn_12 : decode b_Place_leadsOn 12 = .ok (.if_icmp .eq 7, 3) := by decide +kernel
theorem d_Place_leadsOn_15 : decode b_Place_leadsOn 15 = .ok (.iconst 1, 1) := by decide +kernel
theorem d_Place_leadsOn_16 : decode b_Place_leadsOn 16 = .ok (.goto 4, 3) := by decide +kernel
theorem d_Place_leadsOn_19 : decode b_Place_leadsOn 19 = .ok (.iconst 0, 1) := by decide +kernel
theorem d_Place_leadsOn_20 : decode b_Place_leadsOn 20 = .ok (.ireturn, 1) := by decide +kernel
theorem d_Place_gives_0 : decode b_Place_gives 0 = .ok (.aload_n 0, 1) := by decide +kernel
theorem d_Place_gives_1 : decode b_Place_gives 1 = .ok (.getfield 34, 3) := by decide +kernel
theorem d_Place_gives_4 : decode b_Place_gives 4 = .ok (.ifCond .ne 26, 3) := by decide +kernel
theorem d_Place_gives_7 : decode b_Place_gives 7 = .ok (.aload_n 0, 1) := by decide +kernel
theorem d_Place_gives_8 : decode b_Place_gives 8 = .ok (.getfield 25, 3) := by decide +kernel
theorem d_Place_gives_11 : decode b_Place_gives 11 = .ok (.iconst (-1), 1) := by decide +kernel
theorem d_Place_gives_12 : decode b_Place_gives 12 = .ok (.if_icmp .ne 18, 3) := by decide +kernel
theorem d_Place_gives_15 : decode b_Place_gives 15 = .ok (.iload_n 1, 1) := by decide +kernel
theorem d_Place_gives_16 : decode b_Place_gives 16 = .ok (.ifCond .ne 10, 3) := by decide +kernel
theorem d_Place_gives_19 : decode b_Place_gives 19 = .ok (.aload_n 0, 1) := by decide +kernel
theorem d_Place_gives_20 : decode b_Place_gives 20 = .ok (.getfield 38, 3) := by decide +kernel
theorem d_Place_gives_23 : decode b_Place_gives 23 = .ok (.ifCond .ne 7, 3) := by decide +kernel
theorem d_Place_gives_26 : decode b_Place_gives 26 = .ok (.iconst 1, 1) := by decide +kernel
theorem d_Place_gives_27 : decode b_Place_gives 27 = .ok (.goto 4, 3) := by decide +kernel
theorem d_Place_gives_30 : decode b_Place_gives 30 = .ok (.iconst 0, 1) := by decide +kernel
theorem d_Place_gives_31 : decode b_Place_gives 31 = .ok (.ireturn, 1) := by decide +kernel
theorem d_Place_giveTo_0 : decode b_Place_giveTo 0 = .ok (.aload_n 0, 1) := by decide +kernel
theorem d_Place_giveTo_1 : decode b_Place_giveTo 1 = .ok (.getfield 28, 3) := by decide +kernel
theorem d_Place_giveTo_4 : decode b_Place_giveTo 4 = .ok (.ifCond .le 7, 3) := by decide +kernel
theorem d_Place_giveTo_7 : decode b_Place_giveTo 7 = .ok (.iconst 1, 1) := by decide +kernel
theorem d_Place_giveTo_8 : decode b_Place_giveTo 8 = .ok (.goto 4, 3) := by decide +kernel
theorem d_Place_giveTo_11 : decode b_Place_giveTo 11 = .ok (.iconst 0, 1) := by decide +kernel
theorem d_Place_giveTo_12 : decode b_Place_giveTo 12 = .ok (.istore_n 2, 1) := by decide +kernel
theorem d_Place_giveTo_13 : decode b_Place_giveTo 13 = .ok (.aload_n 0, 1) := by decide +kernel
theorem d_Place_giveTo_14 : decode b_Place_giveTo 14 = .ok (.getfield 22, 3) := by decide +kernel
theorem d_Place_giveTo_17 : decode b_Place_giveTo 17 = .ok (.istore_n 3, 1) := by decide +kernel
theorem d_Place_giveTo_18 : decode b_Place_giveTo 18 = .ok (.iload_n 2, 1) := by decide +kernel
theorem d_Place_giveTo_19 : decode b_Place_giveTo 19 = .ok (.ifCond .eq 22, 3) := by decide +kernel
theorem d_Place_giveTo_22 : decode b_Place_giveTo 22 = .ok (.aload_n 0, 1) := by decide +kernel
theorem d_Place_giveTo_23 : decode b_Place_giveTo 23 = .ok (.dup, 1) := by decide +kernel
theorem d_Place_giveTo_24 : decode b_Place_giveTo 24 = .ok (.getfield 28, 3) := by decide +kernel
theorem d_Place_giveTo_27 : decode b_Place_giveTo 27 = .ok (.iconst 1, 1) := by decide +kernel
theorem d_Place_giveTo_28 : decode b_Place_giveTo 28 = .ok (.isub, 1) := by decide +kernel
theorem d_Place_giveTo_29 : decode b_Place_giveTo 29 = .ok (.putfield 28, 3) := by decide +kernel
theorem d_Place_giveTo_32 : decode b_Place_giveTo 32 = .ok (.iload_n 3, 1) := by decide +kernel
theorem d_Place_giveTo_33 : decode b_Place_giveTo 33 = .ok (.aload_n 0, 1) := by decide +kernel
theorem d_Place_giveTo_34 : decode b_Place_giveTo 34 = .ok (.getfield 31, 3) := by decide +kernel
theorem d_Place_giveTo_37 : decode b_Place_giveTo 37 = .ok (.invokestatic 47, 3) := by decide +kernel
theorem d_Place_giveTo_40 : decode b_Place_giveTo 40 = .ok (.istore_n 3, 1) := by decide +kernel
theorem d_Place_giveTo_41 : decode b_Place_giveTo 41 = .ok (.aload_n 0, 1) := by decide +kernel
theorem d_Place_giveTo_42 : decode b_Place_giveTo 42 = .ok (.getfield 12, 3) := by decide +kernel
theorem d_Place_giveTo_45 : decode b_Place_giveTo 45 = .ok (.getfield 53, 3) := by decide +kernel
theorem d_Place_giveTo_48 : decode b_Place_giveTo 48 = .ok (.aload_n 1, 1) := by decide +kernel
theorem d_Place_giveTo_49 : decode b_Place_giveTo 49 = .ok (.getfield 53, 3) := by decide +kernel
theorem d_Place_giveTo_52 : decode b_Place_giveTo 52 = .ok (.iload_n 3, 1) := by decide +kernel
theorem d_Place_giveTo_53 : decode b_Place_giveTo 53 = .ok (.iadd, 1) := by decide +kernel
theorem d_Place_giveTo_54 : decode b_Place_giveTo 54 = .ok (.invokestatic 47, 3) := by decide +kernel
theorem d_Place_giveTo_57 : decode b_Place_giveTo 57 = .ok (.istore 4, 2) := by decide +kernel
theorem d_Place_giveTo_59 : decode b_Place_giveTo 59 = .ok (.aload_n 1, 1) := by decide +kernel
theorem d_Place_giveTo_60 : decode b_Place_giveTo 60 = .ok (.getfield 53, 3) := by decide +kernel
theorem d_Place_giveTo_63 : decode b_Place_giveTo 63 = .ok (.istore 5, 2) := by decide +kernel
theorem d_Place_giveTo_65 : decode b_Place_giveTo 65 = .ok (.iload 5, 2) := by decide +kernel
theorem d_Place_giveTo_67 : decode b_Place_giveTo 67 = .ok (.iload 4, 2) := by decide +kernel
theorem d_Place_giveTo_69 : decode b_Place_giveTo 69 = .ok (.if_icmp .ge 19, 3) := by decide +kernel
theorem d_Place_giveTo_72 : decode b_Place_giveTo 72 = .ok (.aload_n 1, 1) := by decide +kernel
theorem d_Place_giveTo_73 : decode b_Place_giveTo 73 = .ok (.aload_n 0, 1) := by decide +kernel
theorem d_Place_giveTo_74 : decode b_Place_giveTo 74 = .ok (.iload 5, 2) := by decide +kernel
theorem d_Place_giveTo_76 : decode b_Place_giveTo 76 = .ok (.invokevirtual 56, 3) := by decide +kernel
theorem d_Place_giveTo_79 : decode b_Place_giveTo 79 = .ok (.invokevirtual 60, 3) := by decide +kernel
theorem d_Place_giveTo_82 : decode b_Place_giveTo 82 = .ok (.iinc 5 1, 3) := by decide +kernel
theorem d_Place_giveTo_85 : decode b_Place_giveTo 85 = .ok (.goto (-20), 3) := by decide +kernel
theorem d_Place_giveTo_88 : decode b_Place_giveTo 88 = .ok (.iload_n 2, 1) := by decide +kernel
theorem d_Place_giveTo_89 : decode b_Place_giveTo 89 = .ok (.ireturn, 1) := by decide +kernel
theorem d_Place_givenByte_0 : decode b_Place_givenByte 0 = .ok (.iload_n 1, 1) := by decide +kernel
theorem d_Place_givenByte_1 : decode b_Place_givenByte 1 = .ok (.ifCond .ne 23, 3) := by decide +kernel
theorem d_Place_givenByte_4 : decode b_Place_givenByte 4 = .ok (.aload_n 0, 1) := by decide +kernel
theorem d_Place_givenByte_5 : decode b_Place_givenByte 5 = .ok (.getfield 41, 3) := by decide +kernel
theorem d_Place_givenByte_8 : decode b_Place_givenByte 8 = .ok (.ifCond .eq 16, 3) := by decide +kernel
theorem d_Place_givenByte_11 : decode b_Place_givenByte 11 = .ok (.aload_n 0, 1) := by decide +kernel
theorem d_Place_givenByte_12 : decode b_Place_givenByte 12 = .ok (.getfield 12, 3) := by decide +kernel
theorem d_Place_givenByte_15 : decode b_Place_givenByte 15 = .ok (.iload_n 1, 1) := by decide +kernel
theorem d_Place_givenByte_16 : decode b_Place_givenByte 16 = .ok (.invokevirtual 64, 3) := by decide +kernel
theorem d_Place_givenByte_19 : decode b_Place_givenByte 19 = .ok (.iconst 1, 1) := by decide +kernel
theorem d_Place_givenByte_20 : decode b_Place_givenByte 20 = .ok (.ixor, 1) := by decide +kernel
theorem d_Place_givenByte_21 : decode b_Place_givenByte 21 = .ok (.goto 11, 3) := by decide +kernel
theorem d_Place_givenByte_24 : decode b_Place_givenByte 24 = .ok (.aload_n 0, 1) := by decide +kernel
theorem d_Place_givenByte_25 : decode b_Place_givenByte 25 = .ok (.getfield 12, 3) := by decide +kernel
theorem d_Place_givenByte_28 : decode b_Place_givenByte 28 = .ok (.iload_n 1, 1) := by decide +kernel
theorem d_Place_givenByte_29 : decode b_Place_givenByte 29 = .ok (.invokevirtual 64, 3) := by decide +kernel
theorem d_Place_givenByte_32 : decode b_Place_givenByte 32 = .ok (.ireturn, 1) := by decide +kernel
theorem d_Row_init_0 : decode b_Row_init 0 = .ok (.aload_n 0, 1) := by decide +kernel
theorem d_Row_init_1 : decode b_Row_init 1 = .ok (.invokespecial 3, 3) := by decide +kernel
theorem d_Row_init_4 : decode b_Row_init 4 = .ok (.aload_n 0, 1) := by decide +kernel
theorem d_Row_init_5 : decode b_Row_init 5 = .ok (.bipush 100, 2) := by decide +kernel
theorem d_Row_init_7 : decode b_Row_init 7 = .ok (.newarray .int, 2) := by decide +kernel
theorem d_Row_init_9 : decode b_Row_init 9 = .ok (.putfield 9, 3) := by decide +kernel
theorem d_Row_init_12 : decode b_Row_init 12 = .ok (.aload_n 0, 1) := by decide +kernel
theorem d_Row_init_13 : decode b_Row_init 13 = .ok (.iconst 0, 1) := by decide +kernel
theorem d_Row_init_14 : decode b_Row_init 14 = .ok (.putfield 15, 3) := by decide +kernel
theorem d_Row_init_17 : decode b_Row_init 17 = .ok (.return_, 1) := by decide +kernel
theorem d_Row_at_0 : decode b_Row_at 0 = .ok (.iload_n 1, 1) := by decide +kernel
theorem d_Row_at_1 : decode b_Row_at 1 = .ok (.ifCond .lt 20, 3) := by decide +kernel
theorem d_Row_at_4 : decode b_Row_at 4 = .ok (.iload_n 1, 1) := by decide +kernel
theorem d_Row_at_5 : decode b_Row_at 5 = .ok (.aload_n 0, 1) := by decide +kernel
theorem d_Row_at_6 : decode b_Row_at 6 = .ok (.getfield 15, 3) := by decide +kernel
theorem d_Row_at_9 : decode b_Row_at 9 = .ok (.if_icmp .ge 12, 3) := by decide +kernel
theorem d_Row_at_12 : decode b_Row_at 12 = .ok (.aload_n 0, 1) := by decide +kernel
theorem d_Row_at_13 : decode b_Row_at 13 = .ok (.getfield 9, 3) := by decide +kernel
theorem d_Row_at_16 : decode b_Row_at 16 = .ok (.iload_n 1, 1) := by decide +kernel
theorem d_Row_at_17 : decode b_Row_at 17 = .ok (.iaload, 1) := by decide +kernel
theorem d_Row_at_18 : decode b_Row_at 18 = .ok (.goto 4, 3) := by decide +kernel
theorem d_Row_at_21 : decode b_Row_at 21 = .ok (.iconst (-1), 1) := by decide +kernel
theorem d_Row_at_22 : decode b_Row_at 22 = .ok (.ireturn, 1) := by decide +kernel
theorem d_Row_append_0 : decode b_Row_append 0 = .ok (.aload_n 0, 1) := by decide +kernel
theorem d_Row_append_1 : decode b_Row_append 1 = .ok (.getfield 15, 3) := by decide +kernel
theorem d_Row_append_4 : decode b_Row_append 4 = .ok (.bipush 100, 2) := by decide +kernel
theorem d_Row_append_6 : decode b_Row_append 6 = .ok (.if_icmp .ge 20, 3) := by decide +kernel
theorem d_Row_append_9 : decode b_Row_append 9 = .ok (.aload_n 0, 1) := by decide +kernel
theorem d_Row_append_10 : decode b_Row_append 10 = .ok (.getfield 9, 3) := by decide +kernel
theorem d_Row_append_13 : decode b_Row_append 13 = .ok (.aload_n 0, 1) := by decide +kernel
theorem d_Row_append_14 : decode b_Row_append 14 = .ok (.dup, 1) := by decide +kernel
theorem d_Row_append_15 : decode b_Row_append 15 = .ok (.getfield 15, 3) := by decide +kernel
theorem d_Row_append_18 : decode b_Row_append 18 = .ok (.dup_x1, 1) := by decide +kernel
theorem d_Row_append_19 : decode b_Row_append 19 = .ok (.iconst 1, 1) := by decide +kernel
theorem d_Row_append_20 : decode b_Row_append 20 = .ok (.iadd, 1) := by decide +kernel
theorem d_Row_append_21 : decode b_Row_append 21 = .ok (.putfield 15, 3) := by decide +kernel
theorem d_Row_append_24 : decode b_Row_append 24 = .ok (.iload_n 1, 1) := by decide +kernel
theorem d_Row_append_25 : decode b_Row_append 25 = .ok (.iastore, 1) := by decide +kernel
theorem d_Row_append_26 : decode b_Row_append 26 = .ok (.return_, 1) := by decide +kernel
theorem d_Row_copyFrom_0 : decode b_Row_copyFrom 0 = .ok (.aload_n 1, 1) := by decide +kernel
theorem d_Row_copyFrom_1 : decode b_Row_copyFrom 1 = .ok (.getfield 9, 3) := by decide +kernel
theorem d_Row_copyFrom_4 : decode b_Row_copyFrom 4 = .ok (.iconst 0, 1) := by decide +kernel
theorem d_Row_copyFrom_5 : decode b_Row_copyFrom 5 = .ok (.aload_n 0, 1) := by decide +kernel
theorem d_Row_copyFrom_6 : decode b_Row_copyFrom 6 = .ok (.getfield 9, 3) := by decide +kernel
theorem d_Row_copyFrom_9 : decode b_Row_copyFrom 9 = .ok (.iconst 0, 1) := by decide +kernel
theorem d_Row_copyFrom_10 : decode b_Row_copyFrom 10 = .ok (.aload_n 1, 1) := by decide +kernel
theorem d_Row_copyFrom_11 : decode b_Row_copyFrom 11 = .ok (.getfield 15, 3) := by decide +kernel
theorem d_Row_copyFrom_14 : decode b_Row_copyFrom 14 = .ok (.invokestatic 19, 3) := by decide +kernel
theorem d_Row_copyFrom_17 : decode b_Row_copyFrom 17 = .ok (.aload_n 0, 1) := by decide +kernel
theorem d_Row_copyFrom_18 : decode b_Row_copyFrom 18 = .ok (.aload_n 1, 1) := by decide +kernel
theorem d_Row_copyFrom_19 : decode b_Row_copyFrom 19 = .ok (.getfield 15, 3) := by decide +kernel
theorem d_Row_copyFrom_22 : decode b_Row_copyFrom 22 = .ok (.putfield 15, 3) := by decide +kernel
theorem d_Row_copyFrom_25 : decode b_Row_copyFrom 25 = .ok (.return_, 1) := by decide +kernel
theorem d_Row_computeDigest_0 : decode b_Row_computeDigest 0 = .ok (.iconst 0, 1) := by decide +kernel
theorem d_Row_computeDigest_1 : decode b_Row_computeDigest 1 = .ok (.istore_n 1, 1) := by decide +kernel
theorem d_Row_computeDigest_2 : decode b_Row_computeDigest 2 = .ok (.iconst 0, 1) := by decide +kernel
