theorem d_Row_computeDigest_3 : decode b_Row_computeDigest 3 = .ok (.istore_n 2, 1) := by decide +kernel
theorem d_Row_computeDigest_4 : decode b_Row_computeDigest 4 = .ok (.iload_n 2, 1) := by decide +kernel
theorem d_Row_computeDigest_5 : decode b_Row_computeDigest 5 = .ok (.aload_n 0, 1) := by decide +kernel
theorem d_Row_computeDigest_6 : decode b_Row_computeDigest 6 = .ok (.getfield 15, 3) := by decide +kernel
theorem d_Row_computeDigest_9 : decode b_Row_computeDigest 9 = .ok (.if_icmp .ge 30, 3) := by decide +kernel
theorem d_Row_computeDigest_12 : decode b_Row_computeDigest 12 = .ok (.iload_n 1, 1) := by decide +kernel
theorem d_Row_computeDigest_13 : decode b_Row_computeDigest 13 = .ok (.aload_n 0, 1) := by decide +kernel
theorem d_Row_computeDigest_14 : decode b_Row_computeDigest 14 = .ok (.getfield 9, 3) := by decide +kernel
theorem d_Row_computeDigest_17 : decode b_Row_computeDigest 17 = .ok (.iload_n 2, 1) := by decide +kernel
theorem d_Row_computeDigest_18 : decode b_Row_computeDigest 18 = .ok (.iaload, 1) := by decide +kernel
theorem d_Row_computeDigest_19 : decode b_Row_computeDigest 19 = .ok (.ixor, 1) := by decide +kernel
theorem d_Row_computeDigest_20 : decode b_Row_computeDigest 20 = .ok (.istore_n 3, 1) := by decide +kernel
theorem d_Row_computeDigest_21 : decode b_Row_computeDigest 21 = .ok (.iload_n 3, 1) := by decide +kernel
theorem d_Row_computeDigest_22 : decode b_Row_computeDigest 22 = .ok (.iconst 5, 1) := by decide +kernel
theorem d_Row_computeDigest_23 : decode b_Row_computeDigest 23 = .ok (.ishl, 1) := by decide +kernel
theorem d_Row_computeDigest_24 : decode b_Row_computeDigest 24 = .ok (.iload_n 3, 1) := by decide +kernel
theorem d_Row_computeDigest_25 : decode b_Row_computeDigest 25 = .ok (.bipush 27, 2) := by decide +kernel
theorem d_Row_computeDigest_27 : decode b_Row_computeDigest 27 = .ok (.iushr, 1) := by decide +kernel
theorem d_Row_computeDigest_28 : decode b_Row_computeDigest 28 = .ok (.ior, 1) := by decide +kernel
theorem d_Row_computeDigest_29 : decode b_Row_computeDigest 29 = .ok (.ldc 25, 2) := by decide +kernel
theorem d_Row_computeDigest_31 : decode b_Row_computeDigest 31 = .ok (.imul, 1) := by decide +kernel
theorem d_Row_computeDigest_32 : decode b_Row_computeDigest 32 = .ok (.istore_n 1, 1) := by decide +kernel
theorem d_Row_computeDigest_33 : decode b_Row_computeDigest 33 = .ok (.iinc 2 1, 3) := by decide +kernel
theorem d_Row_computeDigest_36 : decode b_Row_computeDigest 36 = .ok (.goto (-32), 3) := by decide +kernel
theorem d_Row_computeDigest_39 : decode b_Row_computeDigest 39 = .ok (.iload_n 1, 1) := by decide +kernel
theorem d_Row_computeDigest_40 : decode b_Row_computeDigest 40 = .ok (.ireturn, 1) := by decide +kernel
theorem d_Row_hasSame_0 : decode b_Row_hasSame 0 = .ok (.iconst 0, 1) := by decide +kernel
theorem d_Row_hasSame_1 : decode b_Row_hasSame 1 = .ok (.istore 4, 2) := by decide +kernel
theorem d_Row_hasSame_3 : decode b_Row_hasSame 3 = .ok (.iload 4, 2) := by decide +kernel
theorem d_Row_hasSame_5 : decode b_Row_hasSame 5 = .ok (.iload_n 3, 1) := by decide +kernel
theorem d_Row_hasSame_6 : decode b_Row_hasSame 6 = .ok (.if_icmp .ge 30, 3) := by decide +kernel
theorem d_Row_hasSame_9 : decode b_Row_hasSame 9 = .ok (.aload_n 0, 1) := by decide +kernel
theorem d_Row_hasSame_10 : decode b_Row_hasSame 10 = .ok (.iload_n 1, 1) := by decide +kernel
theorem d_Row_hasSame_11 : decode b_Row_hasSame 11 = .ok (.iload 4, 2) := by decide +kernel
theorem d_Row_hasSame_13 : decode b_Row_hasSame 13 = .ok (.iadd, 1) := by decide +kernel
theorem d_Row_hasSame_14 : decode b_Row_hasSame 14 = .ok (.invokevirtual 26, 3) := by decide +kernel
theorem d_Row_hasSame_17 : decode b_Row_hasSame 17 = .ok (.aload_n 0, 1) := by decide +kernel
theorem d_Row_hasSame_18 : decode b_Row_hasSame 18 = .ok (.iload_n 2, 1) := by decide +kernel
theorem d_Row_hasSame_19 : decode b_Row_hasSame 19 = .ok (.iload 4, 2) := by decide +kernel
theorem d_Row_hasSame_21 : decode b_Row_hasSame 21 = .ok (.iadd, 1) := by decide +kernel
theorem d_Row_hasSame_22 : decode b_Row_hasSame 22 = .ok (.invokevirtual 26, 3) := by decide +kernel
theorem d_Row_hasSame_25 : decode b_Row_hasSame 25 = .ok (.if_icmp .eq 5, 3) := by decide +kernel
theorem d_Row_hasSame_28 : decode b_Row_hasSame 28 = .ok (.iconst 0, 1) := by decide +kernel
theorem d_Row_hasSame_29 : decode b_Row_hasSame 29 = .ok (.ireturn, 1) := by decide +kernel
theorem d_Row_hasSame_30 : decode b_Row_hasSame 30 = .ok (.iinc 4 1, 3) := by decide +kernel
theorem d_Row_hasSame_33 : decode b_Row_hasSame 33 = .ok (.goto (-30), 3) := by decide +kernel
theorem d_Row_hasSame_36 : decode b_Row_hasSame 36 = .ok (.iconst 1, 1) := by decide +kernel
theorem d_Row_hasSame_37 : decode b_Row_hasSame 37 = .ok (.ireturn, 1) := by decide +kernel
theorem d_Store_init_0 : decode b_Store_init 0 = .ok (.aload_n 0, 1) := by decide +kernel
theorem d_Store_init_1 : decode b_Store_init 1 = .ok (.invokespecial 3, 3) := by decide +kernel
theorem d_Store_init_4 : decode b_Store_init 4 = .ok (.aload_n 0, 1) := by decide +kernel
theorem d_Store_init_5 : decode b_Store_init 5 = .ok (.bipush 10, 2) := by decide +kernel
theorem d_Store_init_7 : decode b_Store_init 7 = .ok (.newarray .int, 2) := by decide +kernel
theorem d_Store_init_9 : decode b_Store_init 9 = .ok (.putfield 9, 3) := by decide +kernel
theorem d_Store_init_12 : decode b_Store_init 12 = .ok (.aload_n 0, 1) := by decide +kernel
theorem d_Store_init_13 : decode b_Store_init 13 = .ok (.bipush 10, 2) := by decide +kernel
theorem d_Store_init_15 : decode b_Store_init 15 = .ok (.anewarray 15, 3) := by decide +kernel
theorem d_Store_init_18 : decode b_Store_init 18 = .ok (.putfield 17, 3) := by decide +kernel
theorem d_Store_init_21 : decode b_Store_init 21 = .ok (.aload_n 0, 1) := by decide +kernel
theorem d_Store_init_22 : decode b_Store_init 22 = .ok (.iconst 0, 1) := by decide +kernel
theorem d_Store_init_23 : decode b_Store_init 23 = .ok (.putfield 21, 3) := by decide +kernel
theorem d_Store_init_26 : decode b_Store_init 26 = .ok (.iconst 0, 1) := by decide +kernel
theorem d_Store_init_27 : decode b_Store_init 27 = .ok (.istore_n 1, 1) := by decide +kernel
theorem d_Store_init_28 : decode b_Store_init 28 = .ok (.iload_n 1, 1) := by decide +kernel
theorem d_Store_init_29 : decode b_Store_init 29 = .ok (.bipush 10, 2) := by decide +kernel
theorem d_Store_init_31 : decode b_Store_init 31 = .ok (.if_icmp .ge 22, 3) := by decide +kernel
theorem d_Store_init_34 : decode b_Store_init 34 = .ok (.aload_n 0, 1) := by decide +kernel
theorem d_Store_init_35 : decode b_Store_init 35 = .ok (.getfield 17, 3) := by decide +kernel
theorem d_Store_init_38 : decode b_Store_init 38 = .ok (.iload_n 1, 1) := by decide +kernel
theorem d_Store_init_39 : decode b_Store_init 39 = .ok (.new 15, 3) := by decide +kernel
theorem d_Store_init_42 : decode b_Store_init 42 = .ok (.dup, 1) := by decide +kernel
theorem d_Store_init_43 : decode b_Store_init 43 = .ok (.invokespecial 25, 3) := by decide +kernel
theorem d_Store_init_46 : decode b_Store_init 46 = .ok (.aastore, 1) := by decide +kernel
theorem d_Store_init_47 : decode b_Store_init 47 = .ok (.iinc 1 1, 3) := by decide +kernel
theorem d_Store_init_50 : decode b_Store_init 50 = .ok (.goto (-22), 3) := by decide +kernel
theorem d_Store_init_53 : decode b_Store_init 53 = .ok (.return_, 1) := by decide +kernel
theorem d_Store_find_0 : decode b_Store_find 0 = .ok (.iconst 0, 1) := by decide +kernel
theorem d_Store_find_1 : decode b_Store_find 1 = .ok (.istore_n 2, 1) := by decide +kernel
theorem d_Store_find_2 : decode b_Store_find 2 = .ok (.iload_n 2, 1) := by decide +kernel
theorem d_Store_find_3 : decode b_Store_find 3 = .ok (.aload_n 0, 1) := by decide +kernel
theorem d_Store_find_4 : decode b_Store_find 4 = .ok (.getfield 21, 3) := by decide +kernel
theorem d_Store_find_7 : decode b_Store_find 7 = .ok (.if_icmp .ge 21, 3) := by decide +kernel
theorem d_Store_find_10 : decode b_Store_find 10 = .ok (.aload_n 0, 1) := by decide +kernel
theorem d_Store_find_11 : decode b_Store_find 11 = .ok (.getfield 9, 3) := by decide +kernel
theorem d_Store_find_14 : decode b_Store_find 14 = .ok (.iload_n 2, 1) := by decide +kernel
theorem d_Store_find_15 : decode b_Store_find 15 = .ok (.iaload, 1) := by decide +kernel
theorem d_Store_find_16 : decode b_Store_find 16 = .ok (.iload_n 1, 1) := by decide +kernel
theorem d_Store_find_17 : decode b_Store_find 17 = .ok (.if_icmp .ne 5, 3) := by decide +kernel
theorem d_Store_find_20 : decode b_Store_find 20 = .ok (.iload_n 2, 1) := by decide +kernel
theorem d_Store_find_21 : decode b_Store_find 21 = .ok (.ireturn, 1) := by decide +kernel
theorem d_Store_find_22 : decode b_Store_find 22 = .ok (.iinc 2 1, 3) := by decide +kernel
theorem d_Store_find_25 : decode b_Store_find 25 = .ok (.goto (-23), 3) := by decide +kernel
theorem d_Store_find_28 : decode b_Store_find 28 = .ok (.iconst (-1), 1) := by decide +kernel
theorem d_Store_find_29 : decode b_Store_find 29 = .ok (.ireturn, 1) := by decide +kernel
theorem d_Store_keep_0 : decode b_Store_keep 0 = .ok (.aload_n 0, 1) := by decide +kernel
theorem d_Store_keep_1 : decode b_Store_keep 1 = .ok (.iload_n 1, 1) := by decide +kernel
theorem d_Store_keep_2 : decode b_Store_keep 2 = .ok (.invokevirtual 26, 3) := by decide +kernel
theorem d_Store_keep_5 : decode b_Store_keep 5 = .ok (.iconst (-1), 1) := by decide +kernel
theorem d_Store_keep_6 : decode b_Store_keep 6 = .ok (.if_icmp .ne 12, 3) := by decide +kernel
theorem d_Store_keep_9 : decode b_Store_keep 9 = .ok (.aload_n 0, 1) := by decide +kernel
theorem d_Store_keep_10 : decode b_Store_keep 10 = .ok (.getfield 21, 3) := by decide +kernel
theorem d_Store_keep_13 : decode b_Store_keep 13 = .ok (.bipush 10, 2) := by decide +kernel
theorem d_Store_keep_15 : decode b_Store_keep 15 = .ok (.if_icmp .lt 4, 3) := by decide +kernel
theorem d_Store_keep_18 : decode b_Store_keep 18 = .ok (.return_, 1) := by decide +kernel
theorem d_Store_keep_19 : decode b_Store_keep 19 = .ok (.aload_n 0, 1) := by decide +kernel
theorem d_Store_keep_20 : decode b_Store_keep 20 = .ok (.getfield 9, 3) := by decide +kernel
theorem d_Store_keep_23 : decode b_Store_keep 23 = .ok (.aload_n 0, 1) := by decide +kernel
theorem d_Store_keep_24 : decode b_Store_keep 24 = .ok (.getfield 21, 3) := by decide +kernel
theorem d_Store_keep_27 : decode b_Store_keep 27 = .ok (.iload_n 1, 1) := by decide +kernel
theorem d_Store_keep_28 : decode b_Store_keep 28 = .ok (.iastore, 1) := by decide +kernel
theorem d_Store_keep_29 : decode b_Store_keep 29 = .ok (.aload_n 0, 1) := by decide +kernel
theorem d_Store_keep_30 : decode b_Store_keep 30 = .ok (.getfield 17, 3) := by decide +kernel
theorem d_Store_keep_33 : decode b_Store_keep 33 = .ok (.aload_n 0, 1) := by decide +kernel
theorem d_Store_keep_34 : decode b_Store_keep 34 = .ok (.getfield 21, 3) := by decide +kernel
theorem d_Store_keep_37 : decode b_Store_keep 37 = .ok (.aaload, 1) := by decide +kernel
theorem d_Store_keep_38 : decode b_Store_keep 38 = .ok (.aload_n 2, 1) := by decide +kernel
theorem d_Store_keep_39 : decode b_Store_keep 39 = .ok (.invokevirtual 30, 3) := by decide +kernel
theorem d_Store_keep_42 : decode b_Store_keep 42 = .ok (.aload_n 0, 1) := by decide +kernel
theorem d_Store_keep_43 : decode b_Store_keep 43 = .ok (.dup, 1) := by decide +kernel
theorem d_Store_keep_44 : decode b_Store_keep 44 = .ok (.getfield 21, 3) := by decide +kernel
theorem d_Store_keep_47 : decode b_Store_keep 47 = .ok (.iconst 1, 1) := by decide +kernel
theorem d_Store_keep_48 : decode b_Store_keep 48 = .ok (.iadd, 1) := by decide +kernel
theorem d_Store_keep_49 : decode b_Store_keep 49 = .ok (.putfield 21, 3) := by decide +kernel
theorem d_Store_keep_52 : decode b_Store_keep 52 = .ok (.return_, 1) := by decide +kernel
theorem d_Tellings_init_0 : decode b_Tellings_init 0 = .ok (.aload_n 0, 1) := by decide +kernel
theorem d_Tellings_init_1 : decode b_Tellings_init 1 = .ok (.invokespecial 3, 3) := by decide +kernel
theorem d_Tellings_init_4 : decode b_Tellings_init 4 = .ok (.aload_n 0, 1) := by decide +kernel
theorem d_Tellings_init_5 : decode b_Tellings_init 5 = .ok (.bipush 60, 2) := by decide +kernel
theorem d_Tellings_init_7 : decode b_Tellings_init 7 = .ok (.newarray .int, 2) := by decide +kernel
theorem d_Tellings_init_9 : decode b_Tellings_init 9 = .ok (.putfield 9, 3) := by decide +kernel
theorem d_Tellings_init_12 : decode b_Tellings_init 12 = .ok (.aload_n 0, 1) := by decide +kernel
theorem d_Tellings_init_13 : decode b_Tellings_init 13 = .ok (.bipush 60, 2) := by decide +kernel
theorem d_Tellings_init_15 : decode b_Tellings_init 15 = .ok (.newarray .int, 2) := by decide +kernel
theorem d_Tellings_init_17 : decode b_Tellings_init 17 = .ok (.putfield 15, 3) := by decide +kernel
theorem d_Tellings_init_20 : decode b_Tellings_init 20 = .ok (.aload_n 0, 1) := by decide +kernel
theorem d_Tellings_init_21 : decode b_Tellings_init 21 = .ok (.bipush 60, 2) := by decide +kernel
theorem d_Tellings_init_23 : decode b_Tellings_init 23 = .ok (.newarray .int, 2) := by decide +kernel
theorem d_Tellings_init_25 : decode b_Tellings_init 25 = .ok (.putfield 18, 3) := by decide +kernel
theorem d_Tellings_init_28 : decode b_Tellings_init 28 = .ok (.aload_n 0, 1) := by decide +kernel
theorem d_Tellings_init_29 : decode b_Tellings_init 29 = .ok (.iconst 0, 1) := by decide +kernel
theorem d_Tellings_init_30 : decode b_Tellings_init 30 = .ok (.putfield 21, 3) := by decide +kernel
theorem d_Tellings_init_33 : decode b_Tellings_init 33 = .ok (.return_, 1) := by decide +kernel
theorem d_Tellings_has_0 : decode b_Tellings_has 0 = .ok (.iload_n 1, 1) := by decide +kernel
theorem d_Tellings_has_1 : decode b_Tellings_has 1 = .ok (.ifCond .lt 15, 3) := by decide +kernel
theorem d_Tellings_has_4 : decode b_Tellings_has 4 = .ok (.iload_n 1, 1) := by decide +kernel
theorem d_Tellings_has_5 : decode b_Tellings_has 5 = .ok (.aload_n 0, 1) := by decide +kernel
theorem d_Tellings_has_6 : decode b_Tellings_has 6 = .ok (.getfield 21, 3) := by decide +kernel
theorem d_Tellings_has_9 : decode b_Tellings_has 9 = .ok (.if_icmp .ge 7, 3) := by decide +kernel
theorem d_Tellings_has_12 : decode b_Tellings_has 12 = .ok (.iconst 1, 1) := by decide +kernel
theorem d_Tellings_has_13 : decode b_Tellings_has 13 = .ok (.goto 4, 3) := by decide +kernel
theorem d_Tellings_has_16 : decode b_Tellings_has 16 = .ok (.iconst 0, 1) := by decide +kernel
theorem d_Tellings_has_17 : decode b_Tellings_has 17 = .ok (.ireturn, 1) := by decide +kernel
theorem d_Tellings_tell_0 : decode b_Tellings_tell 0 = .ok (.aload_n 0, 1) := by decide +kernel
theorem d_Tellings_tell_1 : decode b_Tellings_tell 1 = .ok (.getfield 21, 3) := by decide +kernel
theorem d_Tellings_tell_4 : decode b_Tellings_tell 4 = .ok (.bipush 60, 2) := by decide +kernel
theorem d_Tellings_tell_6 : decode b_Tellings_tell 6 = .ok (.if_icmp .lt 4, 3) := by decide +kernel
theorem d_Tellings_tell_9 : decode b_Tellings_tell 9 = .ok (.return_, 1) := by decide +kernel
theorem d_Tellings_tell_10 : decode b_Tellings_tell 10 = .ok (.aload_n 0, 1) := by decide +kernel
theorem d_Tellings_tell_11 : decode b_Tellings_tell 11 = .ok (.getfield 9, 3) := by decide +kernel
theorem d_Tellings_tell_14 : decode b_Tellings_tell 14 = .ok (.aload_n 0, 1) := by decide +kernel
theorem d_Tellings_tell_15 : decode b_Tellings_tell 15 = .ok (.getfield 21, 3) := by decide +kernel
theorem d_Tellings_tell_18 : decode b_Tellings_tell 18 = .ok (.iload_n 1, 1) := by decide +kernel
theorem d_Tellings_tell_19 : decode b_Tellings_tell 19 = .ok (.iastore, 1) := by decide +kernel
theorem d_Tellings_tell_20 : decode b_Tellings_tell 20 = .ok (.aload_n 0, 1) := by decide +kernel
theorem d_Tellings_tell_21 : decode b_Tellings_tell 21 = .ok (.getfield 15, 3) := by decide +kernel
theorem d_Tellings_tell_24 : decode b_Tellings_tell 24 = .ok (.aload_n 0, 1) := by decide +kernel
theorem d_Tellings_tell_25 : decode b_Tellings_tell 25 = .ok (.getfield 21, 3) := by decide +kernel
theorem d_Tellings_tell_28 : decode b_Tellings_tell 28 = .ok (.iload_n 2, 1) := by decide +kernel
theorem d_Tellings_tell_29 : decode b_Tellings_tell 29 = .ok (.iastore, 1) := by decide +kernel
theorem d_Tellings_tell_30 : decode b_Tellings_tell 30 = .ok (.aload_n 0, 1) := by decide +kernel
theorem d_Tellings_tell_31 : decode b_Tellings_tell 31 = .ok (.getfield 18, 3) := by decide +kernel
theorem d_Tellings_tell_34 : decode b_Tellings_tell 34 = .ok (.aload_n 0, 1) := by decide +kernel
theorem d_Tellings_tell_35 : decode b_Tellings_tell 35 = .ok (.getfield 21, 3) := by decide +kernel
theorem d_Tellings_tell_38 : decode b_Tellings_tell 38 = .ok (.iload_n 3, 1) := by decide +kernel
theorem d_Tellings_tell_39 : decode b_Tellings_tell 39 = .ok (.iastore, 1) := by decide +kernel
theorem d_Tellings_tell_40 : decode b_Tellings_tell 40 = .ok (.aload_n 0, 1) := by decide +kernel
theorem d_Tellings_tell_41 : decode b_Tellings_tell 41 = .ok (.dup, 1) := by decide +kernel
theorem d_Tellings_tell_42 : decode b_Tellings_tell 42 = .ok (.getfield 21, 3) := by decide +kernel
theorem d_Tellings_tell_45 : decode b_Tellings_tell 45 = .ok (.iconst 1, 1) := by decide +kernel
theorem d_Tellings_tell_46 : decode b_Tellings_tell 46 = .ok (.iadd, 1) := by decide +kernel
theorem d_Tellings_tell_47 : decode b_Tellings_tell 47 = .ok (.putfield 21, 3) := by decide +kernel
theorem d_Tellings_tell_50 : decode b_Tellings_tell 50 = .ok (.return_, 1) := by decide +kernel
theorem d_Want_init_0 : decode b_Want_init 0 = .ok (.aload_n 0, 1) := by decide +kernel
theorem d_Want_init_1 : decode b_Want_init 1 = .ok (.invokespecial 3, 3) := by decide +kernel
theorem d_Want_init_4 : decode b_Want_init 4 = .ok (.aload_n 0, 1) := by decide +kernel
theorem d_Want_init_5 : decode b_Want_init 5 = .ok (.new 9, 3) := by decide +kernel
theorem d_Want_init_8 : decode b_Want_init 8 = .ok (.dup, 1) := by decide +kernel
theorem d_Want_init_9 : decode b_Want_init 9 = .ok (.invokespecial 11, 3) := by decide +kernel
theorem d_Want_init_12 : decode b_Want_init 12 = .ok (.putfield 12, 3) := by decide +kernel
theorem d_Want_init_15 : decode b_Want_init 15 = .ok (.aload_n 0, 1) := by decide +kernel
theorem d_Want_init_16 : decode b_Want_init 16 = .ok (.bipush 6, 2) := by decide +kernel
theorem d_Want_init_18 : decode b_Want_init 18 = .ok (.newarray .int, 2) := by decide +kernel
theorem d_Want_init_20 : decode b_Want_init 20 = .ok (.putfield 18, 3) := by decide +kernel
theorem d_Want_init_23 : decode b_Want_init 23 = .ok (.aload_n 0, 1) := by decide +kernel
theorem d_Want_init_24 : decode b_Want_init 24 = .ok (.iconst 0, 1) := by decide +kernel
theorem d_Want_init_25 : decode b_Want_init 25 = .ok (.putfield 22, 3) := by decide +kernel
theorem d_Want_init_28 : decode b_Want_init 28 = .ok (.aload_n 0, 1) := by decide +kernel
theorem d_Want_init_29 : decode b_Want_init 29 = .ok (.iconst 0, 1) := by decide +kernel
theorem d_Want_init_30 : decode b_Want_init 30 = .ok (.putfield 26, 3) := by decide +kernel
theorem d_Want_init_33 : decode b_Want_init 33 = .ok (.aload_n 0, 1) := by decide +kernel
theorem d_Want_init_34 : decode b_Want_init 34 = .ok (.iconst 0, 1) := by decide +kernel
theorem d_Want_init_35 : decode b_Want_init 35 = .ok (.putfield 29, 3) := by decide +kernel
theorem d_Want_init_38 : decode b_Want_init 38 = .ok (.aload_n 0, 1) := by decide +kernel
theorem d_Want_init_39 : decode b_Want_init 39 = .ok (.iconst 0, 1) := by decide +kernel
theorem d_Want_init_40 : decode b_Want_init 40 = .ok (.putfield 32, 3) := by decide +kernel
theorem d_Want_init_43 : decode b_Want_init 43 = .ok (.aload_n 0, 1) := by decide +kernel
theorem d_Want_init_44 : decode b_Want_init 44 = .ok (.iconst 0, 1) := by decide +kernel
theorem d_Want_init_45 : decode b_Want_init 45 = .ok (.putfield 35, 3) := by decide +kernel
theorem d_Want_init_48 : decode b_Want_init 48 = .ok (.aload_n 0, 1) := by decide +kernel
theorem d_Want_init_49 : decode b_Want_init 49 = .ok (.iconst 0, 1) := by decide +kernel
theorem d_Want_init_50 : decode b_Want_init 50 = .ok (.putfield 38, 3) := by decide +kernel
theorem d_Want_init_53 : decode b_Want_init 53 = .ok (.aload_n 0, 1) := by decide +kernel
theorem d_Want_init_54 : decode b_Want_init 54 = .ok (.iconst 0, 1) := by decide +kernel
theorem d_Want_init_55 : decode b_Want_init 55 = .ok (.putfield 41, 3) := by decide +kernel
theorem d_Want_init_58 : decode b_Want_init 58 = .ok (.return_, 1) := by decide +kernel
theorem d_Want_isBusy_0 : decode b_Want_isBusy 0 = .ok (.aload_n 0, 1) := by decide +kernel
theorem d_Want_isBusy_1 : decode b_Want_isBusy 1 = .ok (.getfield 29, 3) := by decide +kernel
theorem d_Want_isBusy_4 : decode b_Want_isBusy 4 = .ok (.iconst 1, 1) := by decide +kernel
theorem d_Want_isBusy_5 : decode b_Want_isBusy 5 = .ok (.if_icmp .eq 11, 3) := by decide +kernel
theorem d_Want_isBusy_8 : decode b_Want_isBusy 8 = .ok (.aload_n 0, 1) := by decide +kernel
theorem d_Want_isBusy_9 : decode b_Want_isBusy 9 = .ok (.getfield 29, 3) := by decide +kernel
theorem d_Want_isBusy_12 : decode b_Want_isBusy 12 = .ok (.iconst 2, 1) := by decide +kernel
theorem d_Want_isBusy_13 : decode b_Want_isBusy 13 = .ok (.if_icmp .ne 7, 3) := by decide +kernel
theorem d_Want_isBusy_16 : decode b_Want_isBusy 16 = .ok (.iconst 1, 1) := by decide +kernel
theorem d_Want_isBusy_17 : decode b_Want_isBusy 17 = .ok (.goto 4, 3) := by decide +kernel
theorem d_Want_isBusy_20 : decode b_Want_isBusy 20 = .ok (.iconst 0, 1) := by decide +kernel
theorem d_Want_isBusy_21 : decode b_Want_isBusy 21 = .ok (.ireturn, 1) := by decide +kernel
theorem d_Want_currentPlace_0 : decode b_Want_currentPlace 0 = .ok (.aload_n 0, 1) := by decide +kernel
theorem d_Want_currentPlace_1 : decode b_Want_currentPlace 1 = .ok (.getfield 32, 3) := by decide +kernel
theorem d_Want_currentPlace_4 : decode b_Want_currentPlace 4 = .ok (.ifCond .lt 26, 3) := by decide +kernel
theorem d_Want_currentPlace_7 : decode b_Want_currentPlace 7 = .ok (.aload_n 0, 1) := by decide +kernel
theorem d_Want_currentPlace_8 : decode b_Want_currentPlace 8 = .ok (.getfield 32, 3) := by decide +kernel
theorem d_Want_currentPlace_11 : decode b_Want_currentPlace 11 = .ok (.aload_n 0, 1) := by decide +kernel
theorem d_Want_currentPlace_12 : decode b_Want_currentPlace 12 = .ok (.getfield 22, 3) := by decide +kernel
theorem d_Want_currentPlace_15 : decode b_Want_currentPlace 15 = .ok (.if_icmp .ge 15, 3) := by decide +kernel
theorem d_Want_currentPlace_18 : decode b_Want_currentPlace 18 = .ok (.aload_n 0, 1) := by decide +kernel
theorem d_Want_currentPlace_19 : decode b_Want_currentPlace 19 = .ok (.getfield 18, 3) := by decide +kernel
theorem d_Want_currentPlace_22 : decode b_Want_currentPlace 22 = .ok (.aload_n 0, 1) := by decide +kernel
theorem d_Want_currentPlace_23 : decode b_Want_currentPlace 23 = .ok (.getfield 32, 3) := by decide +kernel
theorem d_Want_currentPlace_26 : decode b_Want_currentPlace 26 = .ok (.iaload, 1) := by decide +kernel
theorem d_Want_currentPlace_27 : decode b_Want_currentPlace 27 = .ok (.goto 4, 3) := by decide +kernel
theorem d_Want_currentPlace_30 : decode b_Want_currentPlace 30 = .ok (.iconst (-1), 1) := by decide +kernel
theorem d_Want_currentPlace_31 : decode b_Want_currentPlace 31 = .ok (.ireturn, 1) := by decide +kernel
theorem d_Want_addPlace_0 : decode b_Want_addPlace 0 = .ok (.aload_n 0, 1) := by decide +kernel
theorem d_Want_addPlace_1 : decode b_Want_addPlace 1 = .ok (.getfield 22, 3) := by decide +kernel
theorem d_Want_addPlace_4 : decode b_Want_addPlace 4 = .ok (.bipush 6, 2) := by decide +kernel
theorem d_Want_addPlace_6 : decode b_Want_addPlace 6 = .ok (.if_icmp .lt 5, 3) := by decide +kernel
theorem d_Want_addPlace_9 : decode b_Want_addPlace 9 = .ok (.iconst 0, 1) := by decide +kernel
theorem d_Want_addPlace_10 : decode b_Want_addPlace 10 = .ok (.ireturn, 1) := by decide +kernel
theorem d_Want_addPlace_11 : decode b_Want_addPlace 11 = .ok (.iconst 0, 1) := by decide +kernel
theorem d_Want_addPlace_12 : decode b_Want_addPlace 12 = .ok (.istore_n 2, 1) := by decide +kernel
theorem d_Want_addPlace_13 : decode b_Want_addPlace 13 = .ok (.iload_n 2, 1) := by decide +kernel
theorem d_Want_addPlace_14 : decode b_Want_addPlace 14 = .ok (.aload_n 0, 1) := by decide +kernel
theorem d_Want_addPlace_15 : decode b_Want_addPlace 15 = .ok (.getfield 22, 3) := by decide +kernel
theorem d_Want_addPlace_18 : decode b_Want_addPlace 18 = .ok (.if_icmp .ge 21, 3) := by decide +kernel
theorem d_Want_addPlace_21 : decode b_Want_addPlace 21 = .ok (.aload_n 0, 1) := by decide +kernel
theorem d_Want_addPlace_22 : decode b_Want_addPlace 22 = .ok (.getfield 18, 3) := by decide +kernel
theorem d_Want_addPlace_25 : decode b_Want_addPlace 25 = .ok (.iload_n 2, 1) := by decide +kernel
theorem d_Want_addPlace_26 : decode b_Want_addPlace 26 = .ok (.iaload, 1) := by decide +kernel
theorem d_Want_addPlace_27 : decode b_Want_addPlace 27 = .ok (.iload_n 1, 1) := by decide +kernel
theorem d_Want_addPlace_28 : decode b_Want_addPlace 28 = .ok (.if_icmp .ne 5, 3) := by decide +kernel
theorem d_Want_addPlace_31 : decode b_Want_addPlace 31 = .ok (.iconst 0, 1) := by decide +kernel
theorem d_Want_addPlace_32 : decode b_Want_addPlace 32 = .ok (.ireturn, 1) := by decide +kernel
theorem d_Want_addPlace_33 : decode b_Want_addPlace 33 = .ok (.iinc 2 1, 3) := by decide +kernel
theorem d_Want_addPlace_36 : decode b_Want_addPlace 36 = .ok (.goto (-23), 3) := by decide +kernel
theorem d_Want_addPlace_39 : decode b_Want_addPlace 39 = .ok (.aload_n 0, 1) := by decide +kernel
theorem d_Want_addPlace_40 : decode b_Want_addPlace 40 = .ok (.getfield 18, 3) := by decide +kernel
theorem d_Want_addPlace_43 : decode b_Want_addPlace 43 = .ok (.aload_n 0, 1) := by decide +kernel
theorem d_Want_addPlace_44 : decode b_Want_addPlace 44 = .ok (.dup, 1) := by decide +kernel
theorem d_Want_addPlace_45 : decode b_Want_addPlace 45 = .ok (.getfield 22, 3) := by decide +kernel
theorem d_Want_addPlace_48 : decode b_Want_addPlace 48 = .ok (.dup_x1, 1) := by decide +kernel
theorem d_Want_addPlace_49 : decode b_Want_addPlace 49 = .ok (.iconst 1, 1) := by decide +kernel
theorem d_Want_addPlace_50 : decode b_Want_addPlace 50 = .ok (.iadd, 1) := by decide +kernel
theorem d_Want_addPlace_51 : decode b_Want_addPlace 51 = .ok (.putfield 22, 3) := by decide +kernel
theorem d_Want_addPlace_54 : decode b_Want_addPlace 54 = .ok (.iload_n 1, 1) := by decide +kernel
theorem d_Want_addPlace_55 : decode b_Want_addPlace 55 = .ok (.iastore, 1) := by decide +kernel
theorem d_Want_addPlace_56 : decode b_Want_addPlace 56 = .ok (.iconst 1, 1) := by decide +kernel
theorem d_Want_addPlace_57 : decode b_Want_addPlace 57 = .ok (.ireturn, 1) := by decide +kernel
theorem d_Want_startAt_0 : decode b_Want_startAt 0 = .ok (.aload_n 0, 1) := by decide +kernel
theorem d_Want_startAt_1 : decode b_Want_startAt 1 = .ok (.iload_n 1, 1) := by decide +kernel
theorem d_Want_startAt_2 : decode b_Want_startAt 2 = .ok (.putfield 32, 3) := by decide +kernel
theorem d_Want_startAt_5 : decode b_Want_startAt 5 = .ok (.aload_n 0, 1) := by decide +kernel
theorem d_Want_startAt_6 : decode b_Want_startAt 6 = .ok (.iconst 0, 1) := by decide +kernel
theorem d_Want_startAt_7 : decode b_Want_startAt 7 = .ok (.putfield 35, 3) := by decide +kernel
theorem d_Want_startAt_10 : decode b_Want_startAt 10 = .ok (.aload_n 0, 1) := by decide +kernel
theorem d_Want_startAt_11 : decode b_Want_startAt 11 = .ok (.getfield 12, 3) := by decide +kernel
theorem d_Want_startAt_14 : decode b_Want_startAt 14 = .ok (.iconst 0, 1) := by decide +kernel
theorem d_Want_startAt_15 : decode b_Want_startAt 15 = .ok (.putfield 44, 3) := by decide +kernel
theorem d_Want_startAt_18 : decode b_Want_startAt 18 = .ok (.aload_n 0, 1) := by decide +kernel
theorem d_Want_startAt_19 : decode b_Want_startAt 19 = .ok (.iconst 1, 1) := by decide +kernel
theorem d_Want_startAt_20 : decode b_Want_startAt 20 = .ok (.putfield 29, 3) := by decide +kernel
theorem d_Want_startAt_23 : decode b_Want_startAt 23 = .ok (.return_, 1) := by decide +kernel
