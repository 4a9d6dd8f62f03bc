/-! decode rows -/
theorem d_CT_init_0 : decode b_CT_init 0 = .ok (.aload_n 0, 1) := by decide +kernel
theorem d_CT_init_1 : decode b_CT_init 1 = .ok (.invokespecial 3, 3) := by decide +kernel
theorem d_CT_init_4 : decode b_CT_init 4 = .ok (.aload_n 0, 1) := by decide +kernel
theorem d_CT_init_5 : decode b_CT_init 5 = .ok (.new 9, 3) := by decide +kernel
theorem d_CT_init_8 : decode b_CT_init 8 = .ok (.dup, 1) := by decide +kernel
theorem d_CT_init_9 : decode b_CT_init 9 = .ok (.invokespecial 11, 3) := by decide +kernel
theorem d_CT_init_12 : decode b_CT_init 12 = .ok (.putfield 12, 3) := by decide +kernel
theorem d_CT_init_15 : decode b_CT_init 15 = .ok (.aload_n 0, 1) := by decide +kernel
theorem d_CT_init_16 : decode b_CT_init 16 = .ok (.bipush 16, 2) := by decide +kernel
theorem d_CT_init_18 : decode b_CT_init 18 = .ok (.anewarray 18, 3) := by decide +kernel
theorem d_CT_init_21 : decode b_CT_init 21 = .ok (.putfield 20, 3) := by decide +kernel
theorem d_CT_init_24 : decode b_CT_init 24 = .ok (.aload_n 0, 1) := by decide +kernel
theorem d_CT_init_25 : decode b_CT_init 25 = .ok (.iconst 4, 1) := by decide +kernel
theorem d_CT_init_26 : decode b_CT_init 26 = .ok (.newarray .int, 2) := by decide +kernel
theorem d_CT_init_28 : decode b_CT_init 28 = .ok (.putfield 24, 3) := by decide +kernel
theorem d_CT_init_31 : decode b_CT_init 31 = .ok (.aload_n 0, 1) := by decide +kernel
theorem d_CT_init_32 : decode b_CT_init 32 = .ok (.iconst 4, 1) := by decide +kernel
theorem d_CT_init_33 : decode b_CT_init 33 = .ok (.bipush 16, 2) := by decide +kernel
theorem d_CT_init_35 : decode b_CT_init 35 = .ok (.multianewarray 28 2, 4) := by decide +kernel
theorem d_CT_init_39 : decode b_CT_init 39 = .ok (.putfield 30, 3) := by decide +kernel
theorem d_CT_init_42 : decode b_CT_init 42 = .ok (.iconst 0, 1) := by decide +kernel
theorem d_CT_init_43 : decode b_CT_init 43 = .ok (.istore_n 2, 1) := by decide +kernel
theorem d_CT_init_44 : decode b_CT_init 44 = .ok (.iload_n 2, 1) := by decide +kernel
theorem d_CT_init_45 : decode b_CT_init 45 = .ok (.bipush 16, 2) := by decide +kernel
theorem d_CT_init_47 : decode b_CT_init 47 = .ok (.if_icmp .ge 23, 3) := by decide +kernel
theorem d_CT_init_50 : decode b_CT_init 50 = .ok (.aload_n 0, 1) := by decide +kernel
theorem d_CT_init_51 : decode b_CT_init 51 = .ok (.getfield 20, 3) := by decide +kernel
theorem d_CT_init_54 : decode b_CT_init 54 = .ok (.iload_n 2, 1) := by decide +kernel
theorem d_CT_init_55 : decode b_CT_init 55 = .ok (.new 18, 3) := by decide +kernel
theorem d_CT_init_58 : decode b_CT_init 58 = .ok (.dup, 1) := by decide +kernel
theorem d_CT_init_59 : decode b_CT_init 59 = .ok (.iload_n 1, 1) := by decide +kernel
theorem d_CT_init_60 : decode b_CT_init 60 = .ok (.invokespecial 33, 3) := by decide +kernel
theorem d_CT_init_63 : decode b_CT_init 63 = .ok (.aastore, 1) := by decide +kernel
theorem d_CT_init_64 : decode b_CT_init 64 = .ok (.iinc 2 1, 3) := by decide +kernel
theorem d_CT_init_67 : decode b_CT_init 67 = .ok (.goto (-23), 3) := by decide +kernel
theorem d_CT_init_70 : decode b_CT_init 70 = .ok (.return_, 1) := by decide +kernel
theorem d_CT_hear_0 : decode b_CT_hear 0 = .ok (.lload_n 1, 1) := by decide +kernel
theorem d_CT_hear_1 : decode b_CT_hear 1 = .ok (.ldc2_w 36, 3) := by decide +kernel
theorem d_CT_hear_4 : decode b_CT_hear 4 = .ok (.lcmp, 1) := by decide +kernel
theorem d_CT_hear_5 : decode b_CT_hear 5 = .ok (.ifCond .eq 25, 3) := by decide +kernel
theorem d_CT_hear_8 : decode b_CT_hear 8 = .ok (.aload_n 0, 1) := by decide +kernel
theorem d_CT_hear_9 : decode b_CT_hear 9 = .ok (.getfield 12, 3) := by decide +kernel
theorem d_CT_hear_12 : decode b_CT_hear 12 = .ok (.lload_n 1, 1) := by decide +kernel
theorem d_CT_hear_13 : decode b_CT_hear 13 = .ok (.bipush 52, 2) := by decide +kernel
theorem d_CT_hear_15 : decode b_CT_hear 15 = .ok (.invokestatic 38, 3) := by decide +kernel
theorem d_CT_hear_18 : decode b_CT_hear 18 = .ok (.lload_n 1, 1) := by decide +kernel
theorem d_CT_hear_19 : decode b_CT_hear 19 = .ok (.bipush 48, 2) := by decide +kernel
theorem d_CT_hear_21 : decode b_CT_hear 21 = .ok (.invokestatic 38, 3) := by decide +kernel
theorem d_CT_hear_24 : decode b_CT_hear 24 = .ok (.invokevirtual 42, 3) := by decide +kernel
theorem d_CT_hear_27 : decode b_CT_hear 27 = .ok (.ifCond .ne 4, 3) := by decide +kernel
theorem d_CT_hear_30 : decode b_CT_hear 30 = .ok (.return_, 1) := by decide +kernel
theorem d_CT_hear_31 : decode b_CT_hear 31 = .ok (.aload_n 0, 1) := by decide +kernel
theorem d_CT_hear_32 : decode b_CT_hear 32 = .ok (.getfield 20, 3) := by decide +kernel
theorem d_CT_hear_35 : decode b_CT_hear 35 = .ok (.lload_n 1, 1) := by decide +kernel
theorem d_CT_hear_36 : decode b_CT_hear 36 = .ok (.bipush 40, 2) := by decide +kernel
theorem d_CT_hear_38 : decode b_CT_hear 38 = .ok (.invokestatic 38, 3) := by decide +kernel
theorem d_CT_hear_41 : decode b_CT_hear 41 = .ok (.aaload, 1) := by decide +kernel
theorem d_CT_hear_42 : decode b_CT_hear 42 = .ok (.astore_n 3, 1) := by decide +kernel
theorem d_CT_hear_43 : decode b_CT_hear 43 = .ok (.lload_n 1, 1) := by decide +kernel
theorem d_CT_hear_44 : decode b_CT_hear 44 = .ok (.bipush 32, 2) := by decide +kernel
theorem d_CT_hear_46 : decode b_CT_hear 46 = .ok (.lushr, 1) := by decide +kernel
theorem d_CT_hear_47 : decode b_CT_hear 47 = .ok (.l2i, 1) := by decide +kernel
theorem d_CT_hear_48 : decode b_CT_hear 48 = .ok (.sipush 255, 3) := by decide +kernel
theorem d_CT_hear_51 : decode b_CT_hear 51 = .ok (.iand, 1) := by decide +kernel
theorem d_CT_hear_52 : decode b_CT_hear 52 = .ok (.istore 4, 2) := by decide +kernel
theorem d_CT_hear_54 : decode b_CT_hear 54 = .ok (.aload_n 3, 1) := by decide +kernel
theorem d_CT_hear_55 : decode b_CT_hear 55 = .ok (.lload_n 1, 1) := by decide +kernel
theorem d_CT_hear_56 : decode b_CT_hear 56 = .ok (.bipush 44, 2) := by decide +kernel
theorem d_CT_hear_58 : decode b_CT_hear 58 = .ok (.invokestatic 38, 3) := by decide +kernel
theorem d_CT_hear_61 : decode b_CT_hear 61 = .ok (.iload 4, 2) := by decide +kernel
theorem d_CT_hear_63 : decode b_CT_hear 63 = .ok (.lload_n 1, 1) := by decide +kernel
theorem d_CT_hear_64 : decode b_CT_hear 64 = .ok (.l2i, 1) := by decide +kernel
theorem d_CT_hear_65 : decode b_CT_hear 65 = .ok (.invokevirtual 46, 3) := by decide +kernel
theorem d_CT_hear_68 : decode b_CT_hear 68 = .ok (.ifCond .eq 8, 3) := by decide +kernel
theorem d_CT_hear_71 : decode b_CT_hear 71 = .ok (.aload_n 0, 1) := by decide +kernel
theorem d_CT_hear_72 : decode b_CT_hear 72 = .ok (.aload_n 3, 1) := by decide +kernel
theorem d_CT_hear_73 : decode b_CT_hear 73 = .ok (.invokevirtual 50, 3) := by decide +kernel
theorem d_CT_hear_76 : decode b_CT_hear 76 = .ok (.return_, 1) := by decide +kernel
theorem d_CT_stepClocks_0 : decode b_CT_stepClocks 0 = .ok (.iconst 0, 1) := by decide +kernel
theorem d_CT_stepClocks_1 : decode b_CT_stepClocks 1 = .ok (.istore_n 1, 1) := by decide +kernel
theorem d_CT_stepClocks_2 : decode b_CT_stepClocks 2 = .ok (.iload_n 1, 1) := by decide +kernel
theorem d_CT_stepClocks_3 : decode b_CT_stepClocks 3 = .ok (.bipush 16, 2) := by decide +kernel
theorem d_CT_stepClocks_5 : decode b_CT_stepClocks 5 = .ok (.if_icmp .ge 18, 3) := by decide +kernel
theorem d_CT_stepClocks_8 : decode b_CT_stepClocks 8 = .ok (.aload_n 0, 1) := by decide +kernel
theorem d_CT_stepClocks_9 : decode b_CT_stepClocks 9 = .ok (.getfield 20, 3) := by decide +kernel
theorem d_CT_stepClocks_12 : decode b_CT_stepClocks 12 = .ok (.iload_n 1, 1) := by decide +kernel
theorem d_CT_stepClocks_13 : decode b_CT_stepClocks 13 = .ok (.aaload, 1) := by decide +kernel
theorem d_CT_stepClocks_14 : decode b_CT_stepClocks 14 = .ok (.invokevirtual 54, 3) := by decide +kernel
theorem d_CT_stepClocks_17 : decode b_CT_stepClocks 17 = .ok (.iinc 1 1, 3) := by decide +kernel
theorem d_CT_stepClocks_20 : decode b_CT_stepClocks 20 = .ok (.goto (-18), 3) := by decide +kernel
theorem d_CT_stepClocks_23 : decode b_CT_stepClocks 23 = .ok (.return_, 1) := by decide +kernel
theorem d_CT_nextInfo_0 : decode b_CT_nextInfo 0 = .ok (.iconst 0, 1) := by decide +kernel
theorem d_CT_nextInfo_1 : decode b_CT_nextInfo 1 = .ok (.istore_n 1, 1) := by decide +kernel
theorem d_CT_nextInfo_2 : decode b_CT_nextInfo 2 = .ok (.iload_n 1, 1) := by decide +kernel
theorem d_CT_nextInfo_3 : decode b_CT_nextInfo 3 = .ok (.bipush 16, 2) := by decide +kernel
theorem d_CT_nextInfo_5 : decode b_CT_nextInfo 5 = .ok (.if_icmp .ge 46, 3) := by decide +kernel
theorem d_CT_nextInfo_8 : decode b_CT_nextInfo 8 = .ok (.aload_n 0, 1) := by decide +kernel
theorem d_CT_nextInfo_9 : decode b_CT_nextInfo 9 = .ok (.getfield 20, 3) := by decide +kernel
theorem d_CT_nextInfo_12 : decode b_CT_nextInfo 12 = .ok (.iload_n 1, 1) := by decide +kernel
theorem d_CT_nextInfo_13 : decode b_CT_nextInfo 13 = .ok (.aaload, 1) := by decide +kernel
theorem d_CT_nextInfo_14 : decode b_CT_nextInfo 14 = .ok (.invokevirtual 57, 3) := by decide +kernel
theorem d_CT_nextInfo_17 : decode b_CT_nextInfo 17 = .ok (.ifCond .eq 28, 3) := by decide +kernel
theorem d_CT_nextInfo_20 : decode b_CT_nextInfo 20 = .ok (.aload_n 0, 1) := by decide +kernel
theorem d_CT_nextInfo_21 : decode b_CT_nextInfo 21 = .ok (.getfield 20, 3) := by decide +kernel
theorem d_CT_nextInfo_24 : decode b_CT_nextInfo 24 = .ok (.iload_n 1, 1) := by decide +kernel
theorem d_CT_nextInfo_25 : decode b_CT_nextInfo 25 = .ok (.aaload, 1) := by decide +kernel
theorem d_CT_nextInfo_26 : decode b_CT_nextInfo 26 = .ok (.invokevirtual 61, 3) := by decide +kernel
theorem d_CT_nextInfo_29 : decode b_CT_nextInfo 29 = .ok (.iload_n 1, 1) := by decide +kernel
theorem d_CT_nextInfo_30 : decode b_CT_nextInfo 30 = .ok (.i2l, 1) := by decide +kernel
theorem d_CT_nextInfo_31 : decode b_CT_nextInfo 31 = .ok (.bipush 12, 2) := by decide +kernel
theorem d_CT_nextInfo_33 : decode b_CT_nextInfo 33 = .ok (.lshl, 1) := by decide +kernel
theorem d_CT_nextInfo_34 : decode b_CT_nextInfo 34 = .ok (.lor, 1) := by decide +kernel
theorem d_CT_nextInfo_35 : decode b_CT_nextInfo 35 = .ok (.aload_n 0, 1) := by decide +kernel
theorem d_CT_nextInfo_36 : decode b_CT_nextInfo 36 = .ok (.getfield 12, 3) := by decide +kernel
theorem d_CT_nextInfo_39 : decode b_CT_nextInfo 39 = .ok (.invokevirtual 65, 3) := by decide +kernel
theorem d_CT_nextInfo_42 : decode b_CT_nextInfo 42 = .ok (.i2l, 1) := by decide +kernel
theorem d_CT_nextInfo_43 : decode b_CT_nextInfo 43 = .ok (.lor, 1) := by decide +kernel
theorem d_CT_nextInfo_44 : decode b_CT_nextInfo 44 = .ok (.lreturn, 1) := by decide +kernel
theorem d_CT_nextInfo_45 : decode b_CT_nextInfo 45 = .ok (.iinc 1 1, 3) := by decide +kernel
theorem d_CT_nextInfo_48 : decode b_CT_nextInfo 48 = .ok (.goto (-46), 3) := by decide +kernel
theorem d_CT_nextInfo_51 : decode b_CT_nextInfo 51 = .ok (.aload_n 0, 1) := by decide +kernel
theorem d_CT_nextInfo_52 : decode b_CT_nextInfo 52 = .ok (.getfield 12, 3) := by decide +kernel
theorem d_CT_nextInfo_55 : decode b_CT_nextInfo 55 = .ok (.invokevirtual 65, 3) := by decide +kernel
theorem d_CT_nextInfo_58 : decode b_CT_nextInfo 58 = .ok (.i2l, 1) := by decide +kernel
theorem d_CT_nextInfo_59 : decode b_CT_nextInfo 59 = .ok (.lreturn, 1) := by decide +kernel
theorem d_CT_countClosed_0 : decode b_CT_countClosed 0 = .ok (.iconst 0, 1) := by decide +kernel
theorem d_CT_countClosed_1 : decode b_CT_countClosed 1 = .ok (.istore_n 1, 1) := by decide +kernel
theorem d_CT_countClosed_2 : decode b_CT_countClosed 2 = .ok (.iconst 0, 1) := by decide +kernel
theorem d_CT_countClosed_3 : decode b_CT_countClosed 3 = .ok (.istore_n 2, 1) := by decide +kernel
theorem d_CT_countClosed_4 : decode b_CT_countClosed 4 = .ok (.iload_n 2, 1) := by decide +kernel
theorem d_CT_countClosed_5 : decode b_CT_countClosed 5 = .ok (.bipush 16, 2) := by decide +kernel
theorem d_CT_countClosed_7 : decode b_CT_countClosed 7 = .ok (.if_icmp .ge 25, 3) := by decide +kernel
theorem d_CT_countClosed_10 : decode b_CT_countClosed 10 = .ok (.aload_n 0, 1) := by decide +kernel
theorem d_CT_countClosed_11 : decode b_CT_countClosed 11 = .ok (.getfield 20, 3) := by decide +kernel
theorem d_CT_countClosed_14 : decode b_CT_countClosed 14 = .ok (.iload_n 2, 1) := by decide +kernel
theorem d_CT_countClosed_15 : decode b_CT_countClosed 15 = .ok (.aaload, 1) := by decide +kernel
theorem d_CT_countClosed_16 : decode b_CT_countClosed 16 = .ok (.getfield 69, 3) := by decide +kernel
theorem d_CT_countClosed_19 : decode b_CT_countClosed 19 = .ok (.iconst 3, 1) := by decide +kernel
theorem d_CT_countClosed_20 : decode b_CT_countClosed 20 = .ok (.if_icmp .ne 6, 3) := by decide +kernel
theorem d_CT_countClosed_23 : decode b_CT_countClosed 23 = .ok (.iinc 1 1, 3) := by decide +kernel
theorem d_CT_countClosed_26 : decode b_CT_countClosed 26 = .ok (.iinc 2 1, 3) := by decide +kernel
theorem d_CT_countClosed_29 : decode b_CT_countClosed 29 = .ok (.goto (-25), 3) := by decide +kernel
theorem d_CT_countClosed_32 : decode b_CT_countClosed 32 = .ok (.iload_n 1, 1) := by decide +kernel
theorem d_CT_countClosed_33 : decode b_CT_countClosed 33 = .ok (.ireturn, 1) := by decide +kernel
theorem d_CT_storedAt_0 : decode b_CT_storedAt 0 = .ok (.iload_n 2, 1) := by decide +kernel
theorem d_CT_storedAt_1 : decode b_CT_storedAt 1 = .ok (.iconst (-1), 1) := by decide +kernel
theorem d_CT_storedAt_2 : decode b_CT_storedAt 2 = .ok (.if_icmp .ne 10, 3) := by decide +kernel
theorem d_CT_storedAt_5 : decode b_CT_storedAt 5 = .ok (.aload_n 0, 1) := by decide +kernel
theorem d_CT_storedAt_6 : decode b_CT_storedAt 6 = .ok (.getfield 24, 3) := by decide +kernel
theorem d_CT_storedAt_9 : decode b_CT_storedAt 9 = .ok (.iload_n 1, 1) := by decide +kernel
theorem d_CT_storedAt_10 : decode b_CT_storedAt 10 = .ok (.iaload, 1) := by decide +kernel
theorem d_CT_storedAt_11 : decode b_CT_storedAt 11 = .ok (.ireturn, 1) := by decide +kernel
theorem d_CT_storedAt_12 : decode b_CT_storedAt 12 = .ok (.iload_n 2, 1) := by decide +kernel
theorem d_CT_storedAt_13 : decode b_CT_storedAt 13 = .ok (.aload_n 0, 1) := by decide +kernel
theorem d_CT_storedAt_14 : decode b_CT_storedAt 14 = .ok (.getfield 24, 3) := by decide +kernel
theorem d_CT_storedAt_17 : decode b_CT_storedAt 17 = .ok (.iload_n 1, 1) := by decide +kernel
theorem d_CT_storedAt_18 : decode b_CT_storedAt 18 = .ok (.iaload, 1) := by decide +kernel
theorem d_CT_storedAt_19 : decode b_CT_storedAt 19 = .ok (.invokestatic 73, 3) := by decide +kernel
theorem d_CT_storedAt_22 : decode b_CT_storedAt 22 = .ok (.ifCond .eq 14, 3) := by decide +kernel
theorem d_CT_storedAt_25 : decode b_CT_storedAt 25 = .ok (.aload_n 0, 1) := by decide +kernel
theorem d_CT_storedAt_26 : decode b_CT_storedAt 26 = .ok (.getfield 30, 3) := by decide +kernel
theorem d_CT_storedAt_29 : decode b_CT_storedAt 29 = .ok (.iload_n 1, 1) := by decide +kernel
theorem d_CT_storedAt_30 : decode b_CT_storedAt 30 = .ok (.aaload, 1) := by decide +kernel
theorem d_CT_storedAt_31 : decode b_CT_storedAt 31 = .ok (.iload_n 2, 1) := by decide +kernel
theorem d_CT_storedAt_32 : decode b_CT_storedAt 32 = .ok (.iaload, 1) := by decide +kernel
theorem d_CT_storedAt_33 : decode b_CT_storedAt 33 = .ok (.goto 4, 3) := by decide +kernel
theorem d_CT_storedAt_36 : decode b_CT_storedAt 36 = .ok (.iconst 0, 1) := by decide +kernel
theorem d_CT_storedAt_37 : decode b_CT_storedAt 37 = .ok (.ireturn, 1) := by decide +kernel
theorem d_CT_keep_0 : decode b_CT_keep 0 = .ok (.aload_n 0, 1) := by decide +kernel
theorem d_CT_keep_1 : decode b_CT_keep 1 = .ok (.getfield 24, 3) := by decide +kernel
theorem d_CT_keep_4 : decode b_CT_keep 4 = .ok (.aload_n 1, 1) := by decide +kernel
theorem d_CT_keep_5 : decode b_CT_keep 5 = .ok (.getfield 76, 3) := by decide +kernel
theorem d_CT_keep_8 : decode b_CT_keep 8 = .ok (.aload_n 1, 1) := by decide +kernel
theorem d_CT_keep_9 : decode b_CT_keep 9 = .ok (.getfield 79, 3) := by decide +kernel
theorem d_CT_keep_12 : decode b_CT_keep 12 = .ok (.iastore, 1) := by decide +kernel
theorem d_CT_keep_13 : decode b_CT_keep 13 = .ok (.iconst 0, 1) := by decide +kernel
theorem d_CT_keep_14 : decode b_CT_keep 14 = .ok (.istore_n 2, 1) := by decide +kernel
theorem d_CT_keep_15 : decode b_CT_keep 15 = .ok (.iload_n 2, 1) := by decide +kernel
theorem d_CT_keep_16 : decode b_CT_keep 16 = .ok (.aload_n 1, 1) := by decide +kernel
theorem d_CT_keep_17 : decode b_CT_keep 17 = .ok (.getfield 79, 3) := by decide +kernel
theorem d_CT_keep_20 : decode b_CT_keep 20 = .ok (.if_icmp .ge 26, 3) := by decide +kernel
theorem d_CT_keep_23 : decode b_CT_keep 23 = .ok (.aload_n 0, 1) := by decide +kernel
theorem d_CT_keep_24 : decode b_CT_keep 24 = .ok (.getfield 30, 3) := by decide +kernel
theorem d_CT_keep_27 : decode b_CT_keep 27 = .ok (.aload_n 1, 1) := by decide +kernel
theorem d_CT_keep_28 : decode b_CT_keep 28 = .ok (.getfield 76, 3) := by decide +kernel
theorem d_CT_keep_31 : decode b_CT_keep 31 = .ok (.aaload, 1) := by decide +kernel
theorem d_CT_keep_32 : decode b_CT_keep 32 = .ok (.iload_n 2, 1) := by decide +kernel
theorem d_CT_keep_33 : decode b_CT_keep 33 = .ok (.aload_n 1, 1) := by decide +kernel
theorem d_CT_keep_34 : decode b_CT_keep 34 = .ok (.getfield 82, 3) := by decide +kernel
theorem d_CT_keep_37 : decode b_CT_keep 37 = .ok (.iload_n 2, 1) := by decide +kernel
theorem d_CT_keep_38 : decode b_CT_keep 38 = .ok (.iaload, 1) := by decide +kernel
theorem d_CT_keep_39 : decode b_CT_keep 39 = .ok (.iastore, 1) := by decide +kernel
theorem d_CT_keep_40 : decode b_CT_keep 40 = .ok (.iinc 2 1, 3) := by decide +kernel
theorem d_CT_keep_43 : decode b_CT_keep 43 = .ok (.goto (-28), 3) := by decide +kernel
theorem d_CT_keep_46 : decode b_CT_keep 46 = .ok (.return_, 1) := by decide +kernel
theorem d_CF_init_0 : decode b_CF_init 0 = .ok (.aload_n 0, 1) := by decide +kernel
theorem d_CF_init_1 : decode b_CF_init 1 = .ok (.invokespecial 3, 3) := by decide +kernel
theorem d_CF_init_4 : decode b_CF_init 4 = .ok (.return_, 1) := by decide +kernel
theorem d_CF_giveOn_0 : decode b_CF_giveOn 0 = .ok (.iload_n 1, 1) := by decide +kernel
theorem d_CF_giveOn_1 : decode b_CF_giveOn 1 = .ok (.tableswitch 85 0 3 #[31, 52, 54, 66], 31) := by decide +kernel
theorem d_CF_giveOn_32 : decode b_CF_giveOn 32 = .ok (.aload_n 0, 1) := by decide +kernel
theorem d_CF_giveOn_33 : decode b_CF_giveOn 33 = .ok (.getfield 9, 3) := by decide +kernel
theorem d_CF_giveOn_36 : decode b_CF_giveOn 36 = .ok (.ifCond .ne 15, 3) := by decide +kernel
theorem d_CF_giveOn_39 : decode b_CF_giveOn 39 = .ok (.aload_n 0, 1) := by decide +kernel
theorem d_CF_giveOn_40 : decode b_CF_giveOn 40 = .ok (.iload_n 2, 1) := by decide +kernel
theorem d_CF_giveOn_41 : decode b_CF_giveOn 41 = .ok (.invokevirtual 15, 3) := by decide +kernel
theorem d_CF_giveOn_44 : decode b_CF_giveOn 44 = .ok (.ifCond .eq 7, 3) := by decide +kernel
theorem d_CF_giveOn_47 : decode b_CF_giveOn 47 = .ok (.iconst 1, 1) := by decide +kernel
theorem d_CF_giveOn_48 : decode b_CF_giveOn 48 = .ok (.goto 4, 3) := by decide +kernel
theorem d_CF_giveOn_51 : decode b_CF_giveOn 51 = .ok (.iconst 0, 1) := by decide +kernel
theorem d_CF_giveOn_52 : decode b_CF_giveOn 52 = .ok (.ireturn, 1) := by decide +kernel
theorem d_CF_giveOn_53 : decode b_CF_giveOn 53 = .ok (.iconst 1, 1) := by decide +kernel
theorem d_CF_giveOn_54 : decode b_CF_giveOn 54 = .ok (.ireturn, 1) := by decide +kernel
theorem d_CF_giveOn_55 : decode b_CF_giveOn 55 = .ok (.aload_n 0, 1) := by decide +kernel
theorem d_CF_giveOn_56 : decode b_CF_giveOn 56 = .ok (.iconst 0, 1) := by decide +kernel
theorem d_CF_giveOn_57 : decode b_CF_giveOn 57 = .ok (.putfield 9, 3) := by decide +kernel
theorem d_CF_giveOn_60 : decode b_CF_giveOn 60 = .ok (.aload_n 0, 1) := by decide +kernel
theorem d_CF_giveOn_61 : decode b_CF_giveOn 61 = .ok (.iconst 0, 1) := by decide +kernel
theorem d_CF_giveOn_62 : decode b_CF_giveOn 62 = .ok (.putfield 19, 3) := by decide +kernel
theorem d_CF_giveOn_65 : decode b_CF_giveOn 65 = .ok (.iconst 0, 1) := by decide +kernel
theorem d_CF_giveOn_66 : decode b_CF_giveOn 66 = .ok (.ireturn, 1) := by decide +kernel
theorem d_CF_giveOn_67 : decode b_CF_giveOn 67 = .ok (.aload_n 0, 1) := by decide +kernel
theorem d_CF_giveOn_68 : decode b_CF_giveOn 68 = .ok (.getfield 9, 3) := by decide +kernel
theorem d_CF_giveOn_71 : decode b_CF_giveOn 71 = .ok (.ifCond .ne 13, 3) := by decide +kernel
theorem d_CF_giveOn_74 : decode b_CF_giveOn 74 = .ok (.aload_n 0, 1) := by decide +kernel
theorem d_CF_giveOn_75 : decode b_CF_giveOn 75 = .ok (.iload_n 2, 1) := by decide +kernel
theorem d_CF_giveOn_76 : decode b_CF_giveOn 76 = .ok (.putfield 22, 3) := by decide +kernel
theorem d_CF_giveOn_79 : decode b_CF_giveOn 79 = .ok (.aload_n 0, 1) := by decide +kernel
theorem d_CF_giveOn_80 : decode b_CF_giveOn 80 = .ok (.iconst 0, 1) := by decide +kernel
theorem d_CF_giveOn_81 : decode b_CF_giveOn 81 = .ok (.putfield 19, 3) := by decide +kernel
theorem d_CF_giveOn_84 : decode b_CF_giveOn 84 = .ok (.iconst 0, 1) := by decide +kernel
theorem d_CF_giveOn_85 : decode b_CF_giveOn 85 = .ok (.ireturn, 1) := by decide +kernel
theorem d_CF_giveOn_86 : decode b_CF_giveOn 86 = .ok (.iconst 0, 1) := by decide +kernel
theorem d_CF_giveOn_87 : decode b_CF_giveOn 87 = .ok (.ireturn, 1) := by decide +kernel
theorem d_CF_giveOnInOrder_0 : decode b_CF_giveOnInOrder 0 = .ok (.iload_n 1, 1) := by decide +kernel
theorem d_CF_giveOnInOrder_1 : decode b_CF_giveOnInOrder 1 = .ok (.aload_n 0, 1) := by decide +kernel
theorem d_CF_giveOnInOrder_2 : decode b_CF_giveOnInOrder 2 = .ok (.getfield 22, 3) := by decide +kernel
theorem d_CF_giveOnInOrder_5 : decode b_CF_giveOnInOrder 5 = .ok (.isub, 1) := by decide +kernel
theorem d_CF_giveOnInOrder_6 : decode b_CF_giveOnInOrder 6 = .ok (.bipush 15, 2) := by decide +kernel
theorem d_CF_giveOnInOrder_8 : decode b_CF_giveOnInOrder 8 = .ok (.iand, 1) := by decide +kernel
theorem d_CF_giveOnInOrder_9 : decode b_CF_giveOnInOrder 9 = .ok (.istore_n 2, 1) := by decide +kernel
theorem d_CF_giveOnInOrder_10 : decode b_CF_giveOnInOrder 10 = .ok (.iload_n 2, 1) := by decide +kernel
theorem d_CF_giveOnInOrder_11 : decode b_CF_giveOnInOrder 11 = .ok (.ifCond .ne 23, 3) := by decide +kernel
theorem d_CF_giveOnInOrder_14 : decode b_CF_giveOnInOrder 14 = .ok (.aload_n 0, 1) := by decide +kernel
theorem d_CF_giveOnInOrder_15 : decode b_CF_giveOnInOrder 15 = .ok (.aload_n 0, 1) := by decide +kernel
theorem d_CF_giveOnInOrder_16 : decode b_CF_giveOnInOrder 16 = .ok (.getfield 22, 3) := by decide +kernel
theorem d_CF_giveOnInOrder_19 : decode b_CF_giveOnInOrder 19 = .ok (.iconst 1, 1) := by decide +kernel
theorem d_CF_giveOnInOrder_20 : decode b_CF_giveOnInOrder 20 = .ok (.iadd, 1) := by decide +kernel
theorem d_CF_giveOnInOrder_21 : decode b_CF_giveOnInOrder 21 = .ok (.bipush 15, 2) := by decide +kernel
theorem d_CF_giveOnInOrder_23 : decode b_CF_giveOnInOrder 23 = .ok (.iand, 1) := by decide +kernel
theorem d_CF_giveOnInOrder_24 : decode b_CF_giveOnInOrder 24 = .ok (.putfield 22, 3) := by decide +kernel
theorem d_CF_giveOnInOrder_27 : decode b_CF_giveOnInOrder 27 = .ok (.aload_n 0, 1) := by decide +kernel
theorem d_CF_giveOnInOrder_28 : decode b_CF_giveOnInOrder 28 = .ok (.iconst 0, 1) := by decide +kernel
theorem d_CF_giveOnInOrder_29 : decode b_CF_giveOnInOrder 29 = .ok (.putfield 19, 3) := by decide +kernel
theorem d_CF_giveOnInOrder_32 : decode b_CF_giveOnInOrder 32 = .ok (.iconst 1, 1) := by decide +kernel
theorem d_CF_giveOnInOrder_33 : decode b_CF_giveOnInOrder 33 = .ok (.ireturn, 1) := by decide +kernel
theorem d_CF_giveOnInOrder_34 : decode b_CF_giveOnInOrder 34 = .ok (.iload_n 2, 1) := by decide +kernel
theorem d_CF_giveOnInOrder_35 : decode b_CF_giveOnInOrder 35 = .ok (.bipush 8, 2) := by decide +kernel
theorem d_CF_giveOnInOrder_37 : decode b_CF_giveOnInOrder 37 = .ok (.if_icmp .ge 11, 3) := by decide +kernel
theorem d_CF_giveOnInOrder_40 : decode b_CF_giveOnInOrder 40 = .ok (.aload_n 0, 1) := by decide +kernel
theorem d_CF_giveOnInOrder_41 : decode b_CF_giveOnInOrder 41 = .ok (.iconst 1, 1) := by decide +kernel
theorem d_CF_giveOnInOrder_42 : decode b_CF_giveOnInOrder 42 = .ok (.putfield 19, 3) := by decide +kernel
theorem d_CF_giveOnInOrder_45 : decode b_CF_giveOnInOrder 45 = .ok (.goto 14, 3) := by decide +kernel
theorem d_CF_giveOnInOrder_48 : decode b_CF_giveOnInOrder 48 = .ok (.iload_n 2, 1) := by decide +kernel
theorem d_CF_giveOnInOrder_49 : decode b_CF_giveOnInOrder 49 = .ok (.bipush 8, 2) := by decide +kernel
theorem d_CF_giveOnInOrder_51 : decode b_CF_giveOnInOrder 51 = .ok (.if_icmp .ne 8, 3) := by decide +kernel
theorem d_CF_giveOnInOrder_54 : decode b_CF_giveOnInOrder 54 = .ok (.aload_n 0, 1) := by decide +kernel
theorem d_CF_giveOnInOrder_55 : decode b_CF_giveOnInOrder 55 = .ok (.iconst 1, 1) := by decide +kernel
theorem d_CF_giveOnInOrder_56 : decode b_CF_giveOnInOrder 56 = .ok (.putfield 9, 3) := by decide +kernel
theorem d_CF_giveOnInOrder_59 : decode b_CF_giveOnInOrder 59 = .ok (.iconst 0, 1) := by decide +kernel
theorem d_CF_giveOnInOrder_60 : decode b_CF_giveOnInOrder 60 = .ok (.ireturn, 1) := by decide +kernel
theorem d_CF_reportBits_0 : decode b_CF_reportBits 0 = .ok (.aload_n 0, 1) := by decide +kernel
theorem d_CF_reportBits_1 : decode b_CF_reportBits 1 = .ok (.getfield 22, 3) := by decide +kernel
theorem d_CF_reportBits_4 : decode b_CF_reportBits 4 = .ok (.aload_n 0, 1) := by decide +kernel
theorem d_CF_reportBits_5 : decode b_CF_reportBits 5 = .ok (.getfield 9, 3) := by decide +kernel
theorem d_CF_reportBits_8 : decode b_CF_reportBits 8 = .ok (.ifCond .eq 8, 3) := by decide +kernel
theorem d_CF_reportBits_11 : decode b_CF_reportBits 11 = .ok (.bipush 16, 2) := by decide +kernel
theorem d_CF_reportBits_13 : decode b_CF_reportBits 13 = .ok (.goto 4, 3) := by decide +kernel
theorem d_CF_reportBits_16 : decode b_CF_reportBits 16 = .ok (.iconst 0, 1) := by decide +kernel
theorem d_CF_reportBits_17 : decode b_CF_reportBits 17 = .ok (.iadd, 1) := by decide +kernel
theorem d_CF_reportBits_18 : decode b_CF_reportBits 18 = .ok (.aload_n 0, 1) := by decide +kernel
theorem d_CF_reportBits_19 : decode b_CF_reportBits 19 = .ok (.getfield 19, 3) := by decide +kernel
theorem d_CF_reportBits_22 : decode b_CF_reportBits 22 = .ok (.ifCond .eq 8, 3) := by decide +kernel
theorem d_CF_reportBits_25 : decode b_CF_reportBits 25 = .ok (.bipush 32, 2) := by decide +kernel
theorem d_CF_reportBits_27 : decode b_CF_reportBits 27 = .ok (.goto 4, 3) := by decide +kernel
theorem d_CF_reportBits_30 : decode b_CF_reportBits 30 = .ok (.iconst 0, 1) := by decide +kernel
theorem d_CF_reportBits_31 : decode b_CF_reportBits 31 = .ok (.iadd, 1) := by decide +kernel
theorem d_CF_reportBits_32 : decode b_CF_reportBits 32 = .ok (.ireturn, 1) := by decide +kernel
theorem d_CR_init_0 : decode b_CR_init 0 = .ok (.aload_n 0, 1) := by decide +kernel
theorem d_CR_init_1 : decode b_CR_init 1 = .ok (.invokespecial 3, 3) := by decide +kernel
theorem d_CR_init_4 : decode b_CR_init 4 = .ok (.aload_n 0, 1) := by decide +kernel
theorem d_CR_init_5 : decode b_CR_init 5 = .ok (.bipush 16, 2) := by decide +kernel
theorem d_CR_init_7 : decode b_CR_init 7 = .ok (.newarray .int, 2) := by decide +kernel
theorem d_CR_init_9 : decode b_CR_init 9 = .ok (.putfield 9, 3) := by decide +kernel
theorem d_CR_init_12 : decode b_CR_init 12 = .ok (.aload_n 0, 1) := by decide +kernel
theorem d_CR_init_13 : decode b_CR_init 13 = .ok (.iload_n 1, 1) := by decide +kernel
theorem d_CR_init_14 : decode b_CR_init 14 = .ok (.putfield 15, 3) := by decide +kernel
theorem d_CR_init_17 : decode b_CR_init 17 = .ok (.return_, 1) := by decide +kernel
theorem d_CR_hear_0 : decode b_CR_hear 0 = .ok (.aload_n 0, 1) := by decide +kernel
theorem d_CR_hear_1 : decode b_CR_hear 1 = .ok (.iload_n 1, 1) := by decide +kernel
theorem d_CR_hear_2 : decode b_CR_hear 2 = .ok (.invokevirtual 19, 3) := by decide +kernel
theorem d_CR_hear_5 : decode b_CR_hear 5 = .ok (.ifCond .ne 5, 3) := by decide +kernel
theorem d_CR_hear_8 : decode b_CR_hear 8 = .ok (.iconst 0, 1) := by decide +kernel
theorem d_CR_hear_9 : decode b_CR_hear 9 = .ok (.ireturn, 1) := by decide +kernel
theorem d_CR_hear_10 : decode b_CR_hear 10 = .ok (.aload_n 0, 1) := by decide +kernel
theorem d_CR_hear_11 : decode b_CR_hear 11 = .ok (.getfield 23, 3) := by decide +kernel
theorem d_CR_hear_14 : decode b_CR_hear 14 = .ok (.ifCond .ne 8, 3) := by decide +kernel
theorem d_CR_hear_17 : decode b_CR_hear 17 = .ok (.aload_n 0, 1) := by decide +kernel
theorem d_CR_hear_18 : decode b_CR_hear 18 = .ok (.iconst 1, 1) := by decide +kernel
theorem d_CR_hear_19 : decode b_CR_hear 19 = .ok (.putfield 23, 3) := by decide +kernel
theorem d_CR_hear_22 : decode b_CR_hear 22 = .ok (.iload_n 1, 1) := by decide +kernel
theorem d_CR_hear_23 : decode b_CR_hear 23 = .ok (.iconst 3, 1) := by decide +kernel
theorem d_CR_hear_24 : decode b_CR_hear 24 = .ok (.if_icmp .eq 8, 3) := by decide +kernel
theorem d_CR_hear_27 : decode b_CR_hear 27 = .ok (.iload_n 1, 1) := by decide +kernel
theorem d_CR_hear_28 : decode b_CR_hear 28 = .ok (.iconst 4, 1) := by decide +kernel
theorem d_CR_hear_29 : decode b_CR_hear 29 = .ok (.if_icmp .ne 8, 3) := by decide +kernel
theorem d_CR_hear_32 : decode b_CR_hear 32 = .ok (.aload_n 0, 1) := by decide +kernel
theorem d_CR_hear_33 : decode b_CR_hear 33 = .ok (.iconst 1, 1) := by decide +kernel
theorem d_CR_hear_34 : decode b_CR_hear 34 = .ok (.putfield 26, 3) := by decide +kernel
theorem d_CR_hear_37 : decode b_CR_hear 37 = .ok (.aload_n 0, 1) := by decide +kernel
theorem d_CR_hear_38 : decode b_CR_hear 38 = .ok (.getfield 23, 3) := by decide +kernel
theorem d_CR_hear_41 : decode b_CR_hear 41 = .ok (.iconst 1, 1) := by decide +kernel
theorem d_CR_hear_42 : decode b_CR_hear 42 = .ok (.if_icmp .ne 11, 3) := by decide +kernel
theorem d_CR_hear_45 : decode b_CR_hear 45 = .ok (.aload_n 0, 1) := by decide +kernel
theorem d_CR_hear_46 : decode b_CR_hear 46 = .ok (.iload_n 1, 1) := by decide +kernel
theorem d_CR_hear_47 : decode b_CR_hear 47 = .ok (.iload_n 2, 1) := by decide +kernel
theorem d_CR_hear_48 : decode b_CR_hear 48 = .ok (.iload_n 3, 1) := by decide +kernel
theorem d_CR_hear_49 : decode b_CR_hear 49 = .ok (.invokevirtual 30, 3) := by decide +kernel
theorem d_CR_hear_52 : decode b_CR_hear 52 = .ok (.ireturn, 1) := by decide +kernel
theorem d_CR_hear_53 : decode b_CR_hear 53 = .ok (.aload_n 0, 1) := by decide +kernel
theorem d_CR_hear_54 : decode b_CR_hear 54 = .ok (.getfield 23, 3) := by decide +kernel
theorem d_CR_hear_57 : decode b_CR_hear 57 = .ok (.iconst 2, 1) := by decide +kernel
theorem d_CR_hear_58 : decode b_CR_hear 58 = .ok (.if_icmp .ne 12, 3) := by decide +kernel
theorem d_CR_hear_61 : decode b_CR_hear 61 = .ok (.iload_n 1, 1) := by decide +kernel
theorem d_CR_hear_62 : decode b_CR_hear 62 = .ok (.iconst 5, 1) := by decide +kernel
theorem d_CR_hear_63 : decode b_CR_hear 63 = .ok (.if_icmp .ne 7, 3) := by decide +kernel
theorem d_CR_hear_66 : decode b_CR_hear 66 = .ok (.aload_n 0, 1) := by decide +kernel
theorem d_CR_hear_67 : decode b_CR_hear 67 = .ok (.invokevirtual 34, 3) := by decide +kernel
theorem d_CR_hear_70 : decode b_CR_hear 70 = .ok (.iconst 0, 1) := by decide +kernel
theorem d_CR_hear_71 : decode b_CR_hear 71 = .ok (.ireturn, 1) := by decide +kernel
theorem d_CR_looksAt_0 : decode b_CR_looksAt 0 = .ok (.aload_n 0, 1) := by decide +kernel
theorem d_CR_looksAt_1 : decode b_CR_looksAt 1 = .ok (.getfield 23, 3) := by decide +kernel
theorem d_CR_looksAt_4 : decode b_CR_looksAt 4 = .ok (.ifCond .ne 7, 3) := by decide +kernel
theorem d_CR_looksAt_7 : decode b_CR_looksAt 7 = .ok (.iconst 4, 1) := by decide +kernel
theorem d_CR_looksAt_8 : decode b_CR_looksAt 8 = .ok (.goto 4, 3) := by decide +kernel
theorem d_CR_looksAt_11 : decode b_CR_looksAt 11 = .ok (.iconst 5, 1) := by decide +kernel
theorem d_CR_looksAt_12 : decode b_CR_looksAt 12 = .ok (.istore_n 2, 1) := by decide +kernel
theorem d_CR_looksAt_13 : decode b_CR_looksAt 13 = .ok (.iload_n 1, 1) := by decide +kernel
theorem d_CR_looksAt_14 : decode b_CR_looksAt 14 = .ok (.iconst 1, 1) := by decide +kernel
theorem d_CR_looksAt_15 : decode b_CR_looksAt 15 = .ok (.if_icmp .lt 12, 3) := by decide +kernel
theorem d_CR_looksAt_18 : decode b_CR_looksAt 18 = .ok (.iload_n 1, 1) := by decide +kernel
theorem d_CR_looksAt_19 : decode b_CR_looksAt 19 = .ok (.iload_n 2, 1) := by decide +kernel
theorem d_CR_looksAt_20 : decode b_CR_looksAt 20 = .ok (.if_icmp .gt 7, 3) := by decide +kernel
theorem d_CR_looksAt_23 : decode b_CR_looksAt 23 = .ok (.iconst 1, 1) := by decide +kernel
theorem d_CR_looksAt_24 : decode b_CR_looksAt 24 = .ok (.goto 4, 3) := by decide +kernel
theorem d_CR_looksAt_27 : decode b_CR_looksAt 27 = .ok (.iconst 0, 1) := by decide +kernel
theorem d_CR_looksAt_28 : decode b_CR_looksAt 28 = .ok (.ireturn, 1) := by decide +kernel
theorem d_CR_hearOpen_0 : decode b_CR_hearOpen 0 = .ok (.aload_n 0, 1) := by decide +kernel
theorem d_CR_hearOpen_1 : decode b_CR_hearOpen 1 = .ok (.bipush 12, 2) := by decide +kernel
theorem d_CR_hearOpen_3 : decode b_CR_hearOpen 3 = .ok (.aload_n 0, 1) := by decide +kernel
theorem d_CR_hearOpen_4 : decode b_CR_hearOpen 4 = .ok (.getfield 15, 3) := by decide +kernel
theorem d_CR_hearOpen_7 : decode b_CR_hearOpen 7 = .ok (.imul, 1) := by decide +kernel
theorem d_CR_hearOpen_8 : decode b_CR_hearOpen 8 = .ok (.putfield 37, 3) := by decide +kernel
theorem d_CR_hearOpen_11 : decode b_CR_hearOpen 11 = .ok (.iload_n 1, 1) := by decide +kernel
theorem d_CR_hearOpen_12 : decode b_CR_hearOpen 12 = .ok (.iconst 4, 1) := by decide +kernel
theorem d_CR_hearOpen_13 : decode b_CR_hearOpen 13 = .ok (.if_icmp .ne 10, 3) := by decide +kernel
theorem d_CR_hearOpen_16 : decode b_CR_hearOpen 16 = .ok (.aload_n 0, 1) := by decide +kernel
theorem d_CR_hearOpen_17 : decode b_CR_hearOpen 17 = .ok (.iconst 5, 1) := by decide +kernel
theorem d_CR_hearOpen_18 : decode b_CR_hearOpen 18 = .ok (.invokevirtual 40, 3) := by decide +kernel
theorem d_CR_hearOpen_21 : decode b_CR_hearOpen 21 = .ok (.iconst 0, 1) := by decide +kernel
theorem d_CR_hearOpen_22 : decode b_CR_hearOpen 22 = .ok (.ireturn, 1) := by decide +kernel
theorem d_CR_hearOpen_23 : decode b_CR_hearOpen 23 = .ok (.iload_n 1, 1) := by decide +kernel
theorem d_CR_hearOpen_24 : decode b_CR_hearOpen 24 = .ok (.iconst 1, 1) := by decide +kernel
theorem d_CR_hearOpen_25 : decode b_CR_hearOpen 25 = .ok (.if_icmp .ne 12, 3) := by decide +kernel
theorem d_CR_hearOpen_28 : decode b_CR_hearOpen 28 = .ok (.aload_n 0, 1) := by decide +kernel
theorem d_CR_hearOpen_29 : decode b_CR_hearOpen 29 = .ok (.iload_n 2, 1) := by decide +kernel
theorem d_CR_hearOpen_30 : decode b_CR_hearOpen 30 = .ok (.iload_n 3, 1) := by decide +kernel
theorem d_CR_hearOpen_31 : decode b_CR_hearOpen 31 = .ok (.invokevirtual 44, 3) := by decide +kernel
theorem d_CR_hearOpen_34 : decode b_CR_hearOpen 34 = .ok (.ifCond .ne 31, 3) := by decide +kernel
theorem d_CR_hearOpen_37 : decode b_CR_hearOpen 37 = .ok (.iload_n 1, 1) := by decide +kernel
theorem d_CR_hearOpen_38 : decode b_CR_hearOpen 38 = .ok (.iconst 2, 1) := by decide +kernel
theorem d_CR_hearOpen_39 : decode b_CR_hearOpen 39 = .ok (.if_icmp .ne 12, 3) := by decide +kernel
theorem d_CR_hearOpen_42 : decode b_CR_hearOpen 42 = .ok (.aload_n 0, 1) := by decide +kernel
theorem d_CR_hearOpen_43 : decode b_CR_hearOpen 43 = .ok (.iload_n 2, 1) := by decide +kernel
theorem d_CR_hearOpen_44 : decode b_CR_hearOpen 44 = .ok (.iload_n 3, 1) := by decide +kernel
theorem d_CR_hearOpen_45 : decode b_CR_hearOpen 45 = .ok (.invokevirtual 48, 3) := by decide +kernel
theorem d_CR_hearOpen_48 : decode b_CR_hearOpen 48 = .ok (.ifCond .ne 17, 3) := by decide +kernel
theorem d_CR_hearOpen_51 : decode b_CR_hearOpen 51 = .ok (.iload_n 1, 1) := by decide +kernel
theorem d_CR_hearOpen_52 : decode b_CR_hearOpen 52 = .ok (.iconst 3, 1) := by decide +kernel
theorem d_CR_hearOpen_53 : decode b_CR_hearOpen 53 = .ok (.if_icmp .ne 16, 3) := by decide +kernel
theorem d_CR_hearOpen_56 : decode b_CR_hearOpen 56 = .ok (.aload_n 0, 1) := by decide +kernel
theorem d_CR_hearOpen_57 : decode b_CR_hearOpen 57 = .ok (.iload_n 2, 1) := by decide +kernel
theorem d_CR_hearOpen_58 : decode b_CR_hearOpen 58 = .ok (.iload_n 3, 1) := by decide +kernel
theorem d_CR_hearOpen_59 : decode b_CR_hearOpen 59 = .ok (.invokevirtual 51, 3) := by decide +kernel
theorem d_CR_hearOpen_62 : decode b_CR_hearOpen 62 = .ok (.ifCond .eq 7, 3) := by decide +kernel
theorem d_CR_hearOpen_65 : decode b_CR_hearOpen 65 = .ok (.iconst 1, 1) := by decide +kernel
theorem d_CR_hearOpen_66 : decode b_CR_hearOpen 66 = .ok (.goto 4, 3) := by decide +kernel
theorem d_CR_hearOpen_69 : decode b_CR_hearOpen 69 = .ok (.iconst 0, 1) := by decide +kernel
theorem d_CR_hearOpen_70 : decode b_CR_hearOpen 70 = .ok (.istore 4, 2) := by decide +kernel
theorem d_CR_hearOpen_72 : decode b_CR_hearOpen 72 = .ok (.iload 4, 2) := by decide +kernel
theorem d_CR_hearOpen_74 : decode b_CR_hearOpen 74 = .ok (.ifCond .ne 5, 3) := by decide +kernel
theorem d_CR_hearOpen_77 : decode b_CR_hearOpen 77 = .ok (.iconst 0, 1) := by decide +kernel
theorem d_CR_hearOpen_78 : decode b_CR_hearOpen 78 = .ok (.ireturn, 1) := by decide +kernel
theorem d_CR_hearOpen_79 : decode b_CR_hearOpen 79 = .ok (.aload_n 0, 1) := by decide +kernel
theorem d_CR_hearOpen_80 : decode b_CR_hearOpen 80 = .ok (.invokevirtual 54, 3) := by decide +kernel
theorem d_CR_hearOpen_83 : decode b_CR_hearOpen 83 = .ok (.ifCond .ne 56, 3) := by decide +kernel
theorem d_CR_hearOpen_86 : decode b_CR_hearOpen 86 = .ok (.aload_n 0, 1) := by decide +kernel
theorem d_CR_hearOpen_87 : decode b_CR_hearOpen 87 = .ok (.getfield 58, 3) := by decide +kernel
theorem d_CR_hearOpen_90 : decode b_CR_hearOpen 90 = .ok (.aload_n 0, 1) := by decide +kernel
theorem d_CR_hearOpen_91 : decode b_CR_hearOpen 91 = .ok (.getfield 61, 3) := by decide +kernel
theorem d_CR_hearOpen_94 : decode b_CR_hearOpen 94 = .ok (.if_icmp .ne 25, 3) := by decide +kernel
theorem d_CR_hearOpen_97 : decode b_CR_hearOpen 97 = .ok (.aload_n 0, 1) := by decide +kernel
theorem d_CR_hearOpen_98 : decode b_CR_hearOpen 98 = .ok (.getfield 61, 3) := by decide +kernel
theorem d_CR_hearOpen_101 : decode b_CR_hearOpen 101 = .ok (.aload_n 0, 1) := by decide +kernel
theorem d_CR_hearOpen_102 : decode b_CR_hearOpen 102 = .ok (.getfield 9, 3) := by decide +kernel
theorem d_CR_hearOpen_105 : decode b_CR_hearOpen 105 = .ok (.invokestatic 64, 3) := by decide +kernel
theorem d_CR_hearOpen_108 : decode b_CR_hearOpen 108 = .ok (.aload_n 0, 1) := by decide +kernel
theorem d_CR_hearOpen_109 : decode b_CR_hearOpen 109 = .ok (.getfield 68, 3) := by decide +kernel
theorem d_CR_hearOpen_112 : decode b_CR_hearOpen 112 = .ok (.if_icmp .ne 7, 3) := by decide +kernel
theorem d_CR_hearOpen_115 : decode b_CR_hearOpen 115 = .ok (.iconst 1, 1) := by decide +kernel
theorem d_CR_hearOpen_116 : decode b_CR_hearOpen 116 = .ok (.goto 4, 3) := by decide +kernel
theorem d_CR_hearOpen_119 : decode b_CR_hearOpen 119 = .ok (.iconst 0, 1) := by decide +kernel
theorem d_CR_hearOpen_120 : decode b_CR_hearOpen 120 = .ok (.istore 5, 2) := by decide +kernel
theorem d_CR_hearOpen_122 : decode b_CR_hearOpen 122 = .ok (.aload_n 0, 1) := by decide +kernel
theorem d_CR_hearOpen_123 : decode b_CR_hearOpen 123 = .ok (.iload 5, 2) := by decide +kernel
theorem d_CR_hearOpen_125 : decode b_CR_hearOpen 125 = .ok (.ifCond .eq 7, 3) := by decide +kernel
theorem d_CR_hearOpen_128 : decode b_CR_hearOpen 128 = .ok (.iconst 1, 1) := by decide +kernel
theorem d_CR_hearOpen_129 : decode b_CR_hearOpen 129 = .ok (.goto 4, 3) := by decide +kernel
theorem d_CR_hearOpen_132 : decode b_CR_hearOpen 132 = .ok (.iconst 2, 1) := by decide +kernel
theorem d_CR_hearOpen_133 : decode b_CR_hearOpen 133 = .ok (.invokevirtual 40, 3) := by decide +kernel
theorem d_CR_hearOpen_136 : decode b_CR_hearOpen 136 = .ok (.iload 5, 2) := by decide +kernel
theorem d_CR_hearOpen_138 : decode b_CR_hearOpen 138 = .ok (.ireturn, 1) := by decide +kernel
theorem d_CR_hearOpen_139 : decode b_CR_hearOpen 139 = .ok (.iload_n 1, 1) := by decide +kernel
theorem d_CR_hearOpen_140 : decode b_CR_hearOpen 140 = .ok (.iconst 3, 1) := by decide +kernel
theorem d_CR_hearOpen_141 : decode b_CR_hearOpen 141 = .ok (.if_icmp .ne 12, 3) := by decide +kernel
theorem d_CR_hearOpen_144 : decode b_CR_hearOpen 144 = .ok (.aload_n 0, 1) := by decide +kernel
theorem d_CR_hearOpen_145 : decode b_CR_hearOpen 145 = .ok (.iconst 1, 1) := by decide +kernel
theorem d_CR_hearOpen_146 : decode b_CR_hearOpen 146 = .ok (.putfield 71, 3) := by decide +kernel
theorem d_CR_hearOpen_149 : decode b_CR_hearOpen 149 = .ok (.aload_n 0, 1) := by decide +kernel
theorem d_CR_hearOpen_150 : decode b_CR_hearOpen 150 = .ok (.invokevirtual 74, 3) := by decide +kernel
theorem d_CR_hearOpen_153 : decode b_CR_hearOpen 153 = .ok (.iconst 0, 1) := by decide +kernel
theorem d_CR_hearOpen_154 : decode b_CR_hearOpen 154 = .ok (.ireturn, 1) := by decide +kernel
theorem d_CR_takeMetadata_0 : decode b_CR_takeMetadata 0 = .ok (.aload_n 0, 1) := by decide +kernel
theorem d_CR_takeMetadata_1 : decode b_CR_takeMetadata 1 = .ok (.ldc 77, 2) := by decide +kernel
theorem d_CR_takeMetadata_3 : decode b_CR_takeMetadata 3 = .ok (.invokevirtual 78, 3) := by decide +kernel
theorem d_CR_takeMetadata_6 : decode b_CR_takeMetadata 6 = .ok (.ifCond .ne 17, 3) := by decide +kernel
theorem d_CR_takeMetadata_9 : decode b_CR_takeMetadata 9 = .ok (.iload_n 1, 1) := by decide +kernel
theorem d_CR_takeMetadata_10 : decode b_CR_takeMetadata 10 = .ok (.bipush 16, 2) := by decide +kernel
theorem d_CR_takeMetadata_12 : decode b_CR_takeMetadata 12 = .ok (.if_icmp .gt 11, 3) := by decide +kernel
theorem d_CR_takeMetadata_15 : decode b_CR_takeMetadata 15 = .ok (.iload_n 2, 1) := by decide +kernel
theorem d_CR_takeMetadata_16 : decode b_CR_takeMetadata 16 = .ok (.iconst 4, 1) := by decide +kernel
theorem d_CR_takeMetadata_17 : decode b_CR_takeMetadata 17 = .ok (.invokestatic 81, 3) := by decide +kernel
theorem d_CR_takeMetadata_20 : decode b_CR_takeMetadata 20 = .ok (.ifCond .ne 5, 3) := by decide +kernel
theorem d_CR_takeMetadata_23 : decode b_CR_takeMetadata 23 = .ok (.iconst 0, 1) := by decide +kernel
theorem d_CR_takeMetadata_24 : decode b_CR_takeMetadata 24 = .ok (.ireturn, 1) := by decide +kernel
theorem d_CR_takeMetadata_25 : decode b_CR_takeMetadata 25 = .ok (.aload_n 0, 1) := by decide +kernel
theorem d_CR_takeMetadata_26 : decode b_CR_takeMetadata 26 = .ok (.dup, 1) := by decide +kernel
theorem d_CR_takeMetadata_27 : decode b_CR_takeMetadata 27 = .ok (.getfield 84, 3) := by decide +kernel
theorem d_CR_takeMetadata_30 : decode b_CR_takeMetadata 30 = .ok (.ldc 77, 2) := by decide +kernel
theorem d_CR_takeMetadata_32 : decode b_CR_takeMetadata 32 = .ok (.ior, 1) := by decide +kernel
theorem d_CR_takeMetadata_33 : decode b_CR_takeMetadata 33 = .ok (.putfield 84, 3) := by decide +kernel
theorem d_CR_takeMetadata_36 : decode b_CR_takeMetadata 36 = .ok (.aload_n 0, 1) := by decide +kernel
theorem d_CR_takeMetadata_37 : decode b_CR_takeMetadata 37 = .ok (.iload_n 1, 1) := by decide +kernel
theorem d_CR_takeMetadata_38 : decode b_CR_takeMetadata 38 = .ok (.putfield 58, 3) := by decide +kernel
theorem d_CR_takeMetadata_41 : decode b_CR_takeMetadata 41 = .ok (.aload_n 0, 1) := by decide +kernel
theorem d_CR_takeMetadata_42 : decode b_CR_takeMetadata 42 = .ok (.iload_n 2, 1) := by decide +kernel
theorem d_CR_takeMetadata_43 : decode b_CR_takeMetadata 43 = .ok (.putfield 87, 3) := by decide +kernel
theorem d_CR_takeMetadata_46 : decode b_CR_takeMetadata 46 = .ok (.aload_n 0, 1) := by decide +kernel
theorem d_CR_takeMetadata_47 : decode b_CR_takeMetadata 47 = .ok (.iconst 1, 1) := by decide +kernel
theorem d_CR_takeMetadata_48 : decode b_CR_takeMetadata 48 = .ok (.putfield 71, 3) := by decide +kernel
theorem d_CR_takeMetadata_51 : decode b_CR_takeMetadata 51 = .ok (.iconst 1, 1) := by decide +kernel
theorem d_CR_takeMetadata_52 : decode b_CR_takeMetadata 52 = .ok (.ireturn, 1) := by decide +kernel
theorem d_CR_takeData_0 : decode b_CR_takeData 0 = .ok (.iload_n 1, 1) := by decide +kernel
theorem d_CR_takeData_1 : decode b_CR_takeData 1 = .ok (.bipush 16, 2) := by decide +kernel
theorem d_CR_takeData_3 : decode b_CR_takeData 3 = .ok (.invokestatic 81, 3) := by decide +kernel
theorem d_CR_takeData_6 : decode b_CR_takeData 6 = .ok (.ifCond .eq 13, 3) := by decide +kernel
theorem d_CR_takeData_9 : decode b_CR_takeData 9 = .ok (.aload_n 0, 1) := by decide +kernel
theorem d_CR_takeData_10 : decode b_CR_takeData 10 = .ok (.iconst 1, 1) := by decide +kernel
theorem d_CR_takeData_11 : decode b_CR_takeData 11 = .ok (.iload_n 1, 1) := by decide +kernel
theorem d_CR_takeData_12 : decode b_CR_takeData 12 = .ok (.ishl, 1) := by decide +kernel
theorem d_CR_takeData_13 : decode b_CR_takeData 13 = .ok (.invokevirtual 78, 3) := by decide +kernel
theorem d_CR_takeData_16 : decode b_CR_takeData 16 = .ok (.ifCond .eq 5, 3) := by decide +kernel
theorem d_CR_takeData_19 : decode b_CR_takeData 19 = .ok (.iconst 0, 1) := by decide +kernel
theorem d_CR_takeData_20 : decode b_CR_takeData 20 = .ok (.ireturn, 1) := by decide +kernel
theorem d_CR_takeData_21 : decode b_CR_takeData 21 = .ok (.aload_n 0, 1) := by decide +kernel
theorem d_CR_takeData_22 : decode b_CR_takeData 22 = .ok (.dup, 1) := by decide +kernel
theorem d_CR_takeData_23 : decode b_CR_takeData 23 = .ok (.getfield 84, 3) := by decide +kernel
theorem d_CR_takeData_26 : decode b_CR_takeData 26 = .ok (.iconst 1, 1) := by decide +kernel
theorem d_CR_takeData_27 : decode b_CR_takeData 27 = .ok (.iload_n 1, 1) := by decide +kernel
theorem d_CR_takeData_28 : decode b_CR_takeData 28 = .ok (.ishl, 1) := by decide +kernel
theorem d_CR_takeData_29 : decode b_CR_takeData 29 = .ok (.ior, 1) := by decide +kernel
theorem d_CR_takeData_30 : decode b_CR_takeData 30 = .ok (.putfield 84, 3) := by decide +kernel
theorem d_CR_takeData_33 : decode b_CR_takeData 33 = .ok (.aload_n 0, 1) := by decide +kernel
theorem d_CR_takeData_34 : decode b_CR_takeData 34 = .ok (.getfield 9, 3) := by decide +kernel
theorem d_CR_takeData_37 : decode b_CR_takeData 37 = .ok (.iload_n 1, 1) := by decide +kernel
theorem d_CR_takeData_38 : decode b_CR_takeData 38 = .ok (.iload_n 2, 1) := by decide +kernel
theorem d_CR_takeData_39 : decode b_CR_takeData 39 = .ok (.iastore, 1) := by decide +kernel
theorem d_CR_takeData_40 : decode b_CR_takeData 40 = .ok (.aload_n 0, 1) := by decide +kernel
theorem d_CR_takeData_41 : decode b_CR_takeData 41 = .ok (.iconst 1, 1) := by decide +kernel
theorem d_CR_takeData_42 : decode b_CR_takeData 42 = .ok (.putfield 71, 3) := by decide +kernel
theorem d_CR_takeData_45 : decode b_CR_takeData 45 = .ok (.iconst 1, 1) := by decide +kernel
theorem d_CR_takeData_46 : decode b_CR_takeData 46 = .ok (.ireturn, 1) := by decide +kernel
theorem d_CR_takeEof_0 : decode b_CR_takeEof 0 = .ok (.aload_n 0, 1) := by decide +kernel
theorem d_CR_takeEof_1 : decode b_CR_takeEof 1 = .ok (.ldc 90, 2) := by decide +kernel
theorem d_CR_takeEof_3 : decode b_CR_takeEof 3 = .ok (.invokevirtual 78, 3) := by decide +kernel
theorem d_CR_takeEof_6 : decode b_CR_takeEof 6 = .ok (.ifCond .ne 9, 3) := by decide +kernel
theorem d_CR_takeEof_9 : decode b_CR_takeEof 9 = .ok (.iload_n 1, 1) := by decide +kernel
theorem d_CR_takeEof_10 : decode b_CR_takeEof 10 = .ok (.bipush 16, 2) := by decide +kernel
theorem d_CR_takeEof_12 : decode b_CR_takeEof 12 = .ok (.if_icmp .le 5, 3) := by decide +kernel
theorem d_CR_takeEof_15 : decode b_CR_takeEof 15 = .ok (.iconst 0, 1) := by decide +kernel
theorem d_CR_takeEof_16 : decode b_CR_takeEof 16 = .ok (.ireturn, 1) := by decide +kernel
theorem d_CR_takeEof_17 : decode b_CR_takeEof 17 = .ok (.aload_n 0, 1) := by decide +kernel
theorem d_CR_takeEof_18 : decode b_CR_takeEof 18 = .ok (.dup, 1) := by decide +kernel
theorem d_CR_takeEof_19 : decode b_CR_takeEof 19 = .ok (.getfield 84, 3) := by decide +kernel
theorem d_CR_takeEof_22 : decode b_CR_takeEof 22 = .ok (.ldc 90, 2) := by decide +kernel
theorem d_CR_takeEof_24 : decode b_CR_takeEof 24 = .ok (.ior, 1) := by decide +kernel
theorem d_CR_takeEof_25 : decode b_CR_takeEof 25 = .ok (.putfield 84, 3) := by decide +kernel
theorem d_CR_takeEof_28 : decode b_CR_takeEof 28 = .ok (.aload_n 0, 1) := by decide +kernel
theorem d_CR_takeEof_29 : decode b_CR_takeEof 29 = .ok (.iload_n 1, 1) := by decide +kernel
theorem d_CR_takeEof_30 : decode b_CR_takeEof 30 = .ok (.putfield 61, 3) := by decide +kernel
theorem d_CR_takeEof_33 : decode b_CR_takeEof 33 = .ok (.aload_n 0, 1) := by decide +kernel
theorem d_CR_takeEof_34 : decode b_CR_takeEof 34 = .ok (.iload_n 2, 1) := by decide +kernel
theorem d_CR_takeEof_35 : decode b_CR_takeEof 35 = .ok (.putfield 68, 3) := by decide +kernel
theorem d_CR_takeEof_38 : decode b_CR_takeEof 38 = .ok (.iconst 1, 1) := by decide +kernel
theorem d_CR_takeEof_39 : decode b_CR_takeEof 39 = .ok (.ireturn, 1) := by decide +kernel
theorem d_CR_has_0 : decode b_CR_has 0 = .ok (.aload_n 0, 1) := by decide +kernel
theorem d_CR_has_1 : decode b_CR_has 1 = .ok (.getfield 84, 3) := by decide +kernel
theorem d_CR_has_4 : decode b_CR_has 4 = .ok (.iload_n 1, 1) := by decide +kernel
theorem d_CR_has_5 : decode b_CR_has 5 = .ok (.iand, 1) := by decide +kernel
theorem d_CR_has_6 : decode b_CR_has 6 = .ok (.ifCond .eq 7, 3) := by decide +kernel
theorem d_CR_has_9 : decode b_CR_has 9 = .ok (.iconst 1, 1) := by decide +kernel
theorem d_CR_has_10 : decode b_CR_has 10 = .ok (.goto 4, 3) := by decide +kernel
theorem d_CR_has_13 : decode b_CR_has 13 = .ok (.iconst 0, 1) := by decide +kernel
theorem d_CR_has_14 : decode b_CR_has 14 = .ok (.ireturn, 1) := by decide +kernel
theorem d_CR_missingParts_0 : decode b_CR_missingParts 0 = .ok (.ldc 91, 2) := by decide +kernel
theorem d_CR_missingParts_2 : decode b_CR_missingParts 2 = .ok (.aload_n 0, 1) := by decide +kernel
theorem d_CR_missingParts_3 : decode b_CR_missingParts 3 = .ok (.getfield 84, 3) := by decide +kernel
theorem d_CR_missingParts_6 : decode b_CR_missingParts 6 = .ok (.iconst (-1), 1) := by decide +kernel
theorem d_CR_missingParts_7 : decode b_CR_missingParts 7 = .ok (.ixor, 1) := by decide +kernel
theorem d_CR_missingParts_8 : decode b_CR_missingParts 8 = .ok (.iand, 1) := by decide +kernel
theorem d_CR_missingParts_9 : decode b_CR_missingParts 9 = .ok (.ireturn, 1) := by decide +kernel
theorem d_CR_lackingParts_0 : decode b_CR_lackingParts 0 = .ok (.aload_n 0, 1) := by decide +kernel
theorem d_CR_lackingParts_1 : decode b_CR_lackingParts 1 = .ok (.invokevirtual 92, 3) := by decide +kernel
theorem d_CR_lackingParts_4 : decode b_CR_lackingParts 4 = .ok (.ldc 95, 2) := by decide +kernel
theorem d_CR_lackingParts_6 : decode b_CR_lackingParts 6 = .ok (.aload_n 0, 1) := by decide +kernel
theorem d_CR_lackingParts_7 : decode b_CR_lackingParts 7 = .ok (.getfield 61, 3) := by decide +kernel
theorem d_CR_lackingParts_10 : decode b_CR_lackingParts 10 = .ok (.invokestatic 96, 3) := by decide +kernel
theorem d_CR_lackingParts_13 : decode b_CR_lackingParts 13 = .ok (.ior, 1) := by decide +kernel
theorem d_CR_lackingParts_14 : decode b_CR_lackingParts 14 = .ok (.iand, 1) := by decide +kernel
theorem d_CR_lackingParts_15 : decode b_CR_lackingParts 15 = .ok (.ireturn, 1) := by decide +kernel
theorem d_CR_askForParts_0 : decode b_CR_askForParts 0 = .ok (.aload_n 0, 1) := by decide +kernel
theorem d_CR_askForParts_1 : decode b_CR_askForParts 1 = .ok (.iconst 1, 1) := by decide +kernel
theorem d_CR_askForParts_2 : decode b_CR_askForParts 2 = .ok (.putfield 100, 3) := by decide +kernel
theorem d_CR_askForParts_5 : decode b_CR_askForParts 5 = .ok (.aload_n 0, 1) := by decide +kernel
theorem d_CR_askForParts_6 : decode b_CR_askForParts 6 = .ok (.iconst 3, 1) := by decide +kernel
theorem d_CR_askForParts_7 : decode b_CR_askForParts 7 = .ok (.aload_n 0, 1) := by decide +kernel
theorem d_CR_askForParts_8 : decode b_CR_askForParts 8 = .ok (.getfield 15, 3) := by decide +kernel
theorem d_CR_askForParts_11 : decode b_CR_askForParts 11 = .ok (.imul, 1) := by decide +kernel
theorem d_CR_askForParts_12 : decode b_CR_askForParts 12 = .ok (.putfield 103, 3) := by decide +kernel
theorem d_CR_askForParts_15 : decode b_CR_askForParts 15 = .ok (.return_, 1) := by decide +kernel
theorem d_CR_endWith_0 : decode b_CR_endWith 0 = .ok (.aload_n 0, 1) := by decide +kernel
theorem d_CR_endWith_1 : decode b_CR_endWith 1 = .ok (.iconst 2, 1) := by decide +kernel
theorem d_CR_endWith_2 : decode b_CR_endWith 2 = .ok (.putfield 23, 3) := by decide +kernel
theorem d_CR_endWith_5 : decode b_CR_endWith 5 = .ok (.aload_n 0, 1) := by decide +kernel
theorem d_CR_endWith_6 : decode b_CR_endWith 6 = .ok (.iload_n 1, 1) := by decide +kernel
theorem d_CR_endWith_7 : decode b_CR_endWith 7 = .ok (.putfield 106, 3) := by decide +kernel
theorem d_CR_endWith_10 : decode b_CR_endWith 10 = .ok (.aload_n 0, 1) := by decide +kernel
theorem d_CR_endWith_11 : decode b_CR_endWith 11 = .ok (.iconst 1, 1) := by decide +kernel
theorem d_CR_endWith_12 : decode b_CR_endWith 12 = .ok (.putfield 71, 3) := by decide +kernel
theorem d_CR_endWith_15 : decode b_CR_endWith 15 = .ok (.aload_n 0, 1) := by decide +kernel
theorem d_CR_endWith_16 : decode b_CR_endWith 16 = .ok (.iconst 0, 1) := by decide +kernel
theorem d_CR_endWith_17 : decode b_CR_endWith 17 = .ok (.putfield 100, 3) := by decide +kernel
theorem d_CR_endWith_20 : decode b_CR_endWith 20 = .ok (.aload_n 0, 1) := by decide +kernel
theorem d_CR_endWith_21 : decode b_CR_endWith 21 = .ok (.invokevirtual 109, 3) := by decide +kernel
theorem d_CR_endWith_24 : decode b_CR_endWith 24 = .ok (.return_, 1) := by decide +kernel
theorem d_CR_tellFinished_0 : decode b_CR_tellFinished 0 = .ok (.aload_n 0, 1) := by decide +kernel
theorem d_CR_tellFinished_1 : decode b_CR_tellFinished 1 = .ok (.iconst 1, 1) := by decide +kernel
theorem d_CR_tellFinished_2 : decode b_CR_tellFinished 2 = .ok (.putfield 112, 3) := by decide +kernel
theorem d_CR_tellFinished_5 : decode b_CR_tellFinished 5 = .ok (.aload_n 0, 1) := by decide +kernel
theorem d_CR_tellFinished_6 : decode b_CR_tellFinished 6 = .ok (.iconst 3, 1) := by decide +kernel
theorem d_CR_tellFinished_7 : decode b_CR_tellFinished 7 = .ok (.aload_n 0, 1) := by decide +kernel
theorem d_CR_tellFinished_8 : decode b_CR_tellFinished 8 = .ok (.getfield 15, 3) := by decide +kernel
theorem d_CR_tellFinished_11 : decode b_CR_tellFinished 11 = .ok (.imul, 1) := by decide +kernel
theorem d_CR_tellFinished_12 : decode b_CR_tellFinished 12 = .ok (.putfield 103, 3) := by decide +kernel
theorem d_CR_tellFinished_15 : decode b_CR_tellFinished 15 = .ok (.return_, 1) := by decide +kernel
theorem d_CR_becomeClosed_0 : decode b_CR_becomeClosed 0 = .ok (.aload_n 0, 1) := by decide +kernel
theorem d_CR_becomeClosed_1 : decode b_CR_becomeClosed 1 = .ok (.iconst 3, 1) := by decide +kernel
theorem d_CR_becomeClosed_2 : decode b_CR_becomeClosed 2 = .ok (.putfield 23, 3) := by decide +kernel
theorem d_CR_becomeClosed_5 : decode b_CR_becomeClosed 5 = .ok (.aload_n 0, 1) := by decide +kernel
theorem d_CR_becomeClosed_6 : decode b_CR_becomeClosed 6 = .ok (.iconst 0, 1) := by decide +kernel
theorem d_CR_becomeClosed_7 : decode b_CR_becomeClosed 7 = .ok (.putfield 100, 3) := by decide +kernel
theorem d_CR_becomeClosed_10 : decode b_CR_becomeClosed 10 = .ok (.aload_n 0, 1) := by decide +kernel
theorem d_CR_becomeClosed_11 : decode b_CR_becomeClosed 11 = .ok (.iconst 0, 1) := by decide +kernel
theorem d_CR_becomeClosed_12 : decode b_CR_becomeClosed 12 = .ok (.putfield 112, 3) := by decide +kernel
theorem d_CR_becomeClosed_15 : decode b_CR_becomeClosed 15 = .ok (.return_, 1) := by decide +kernel
theorem d_CR_stepClocks_0 : decode b_CR_stepClocks 0 = .ok (.aload_n 0, 1) := by decide +kernel
theorem d_CR_stepClocks_1 : decode b_CR_stepClocks 1 = .ok (.getfield 23, 3) := by decide +kernel
theorem d_CR_stepClocks_4 : decode b_CR_stepClocks 4 = .ok (.iconst 1, 1) := by decide +kernel
theorem d_CR_stepClocks_5 : decode b_CR_stepClocks 5 = .ok (.if_icmp .ne 10, 3) := by decide +kernel
theorem d_CR_stepClocks_8 : decode b_CR_stepClocks 8 = .ok (.aload_n 0, 1) := by decide +kernel
theorem d_CR_stepClocks_9 : decode b_CR_stepClocks 9 = .ok (.invokevirtual 115, 3) := by decide +kernel
theorem d_CR_stepClocks_12 : decode b_CR_stepClocks 12 = .ok (.goto 15, 3) := by decide +kernel
theorem d_CR_stepClocks_15 : decode b_CR_stepClocks 15 = .ok (.aload_n 0, 1) := by decide +kernel
theorem d_CR_stepClocks_16 : decode b_CR_stepClocks 16 = .ok (.getfield 23, 3) := by decide +kernel
theorem d_CR_stepClocks_19 : decode b_CR_stepClocks 19 = .ok (.iconst 2, 1) := by decide +kernel
theorem d_CR_stepClocks_20 : decode b_CR_stepClocks 20 = .ok (.if_icmp .ne 7, 3) := by decide +kernel
theorem d_CR_stepClocks_23 : decode b_CR_stepClocks 23 = .ok (.aload_n 0, 1) := by decide +kernel
theorem d_CR_stepClocks_24 : decode b_CR_stepClocks 24 = .ok (.invokevirtual 118, 3) := by decide +kernel
theorem d_CR_stepClocks_27 : decode b_CR_stepClocks 27 = .ok (.return_, 1) := by decide +kernel
theorem d_CR_stepOpen_0 : decode b_CR_stepOpen 0 = .ok (.aload_n 0, 1) := by decide +kernel
theorem d_CR_stepOpen_1 : decode b_CR_stepOpen 1 = .ok (.dup, 1) := by decide +kernel
theorem d_CR_stepOpen_2 : decode b_CR_stepOpen 2 = .ok (.getfield 37, 3) := by decide +kernel
theorem d_CR_stepOpen_5 : decode b_CR_stepOpen 5 = .ok (.iconst 1, 1) := by decide +kernel
theorem d_CR_stepOpen_6 : decode b_CR_stepOpen 6 = .ok (.isub, 1) := by decide +kernel
theorem d_CR_stepOpen_7 : decode b_CR_stepOpen 7 = .ok (.putfield 37, 3) := by decide +kernel
theorem d_CR_stepOpen_10 : decode b_CR_stepOpen 10 = .ok (.aload_n 0, 1) := by decide +kernel
theorem d_CR_stepOpen_11 : decode b_CR_stepOpen 11 = .ok (.getfield 37, 3) := by decide +kernel
theorem d_CR_stepOpen_14 : decode b_CR_stepOpen 14 = .ok (.ifCond .ne 13, 3) := by decide +kernel
theorem d_CR_stepOpen_17 : decode b_CR_stepOpen 17 = .ok (.aload_n 0, 1) := by decide +kernel
theorem d_CR_stepOpen_18 : decode b_CR_stepOpen 18 = .ok (.iconst 4, 1) := by decide +kernel
theorem d_CR_stepOpen_19 : decode b_CR_stepOpen 19 = .ok (.putfield 106, 3) := by decide +kernel
theorem d_CR_stepOpen_22 : decode b_CR_stepOpen 22 = .ok (.aload_n 0, 1) := by decide +kernel
theorem d_CR_stepOpen_23 : decode b_CR_stepOpen 23 = .ok (.invokevirtual 34, 3) := by decide +kernel
theorem d_CR_stepOpen_26 : decode b_CR_stepOpen 26 = .ok (.return_, 1) := by decide +kernel
theorem d_CR_stepOpen_27 : decode b_CR_stepOpen 27 = .ok (.aload_n 0, 1) := by decide +kernel
theorem d_CR_stepOpen_28 : decode b_CR_stepOpen 28 = .ok (.ldc 90, 2) := by decide +kernel
theorem d_CR_stepOpen_30 : decode b_CR_stepOpen 30 = .ok (.invokevirtual 78, 3) := by decide +kernel
theorem d_CR_stepOpen_33 : decode b_CR_stepOpen 33 = .ok (.ifCond .ne 4, 3) := by decide +kernel
theorem d_CR_stepOpen_36 : decode b_CR_stepOpen 36 = .ok (.return_, 1) := by decide +kernel
theorem d_CR_stepOpen_37 : decode b_CR_stepOpen 37 = .ok (.aload_n 0, 1) := by decide +kernel
theorem d_CR_stepOpen_38 : decode b_CR_stepOpen 38 = .ok (.dup, 1) := by decide +kernel
theorem d_CR_stepOpen_39 : decode b_CR_stepOpen 39 = .ok (.getfield 103, 3) := by decide +kernel
theorem d_CR_stepOpen_42 : decode b_CR_stepOpen 42 = .ok (.iconst 1, 1) := by decide +kernel
theorem d_CR_stepOpen_43 : decode b_CR_stepOpen 43 = .ok (.isub, 1) := by decide +kernel
theorem d_CR_stepOpen_44 : decode b_CR_stepOpen 44 = .ok (.putfield 103, 3) := by decide +kernel
theorem d_CR_stepOpen_47 : decode b_CR_stepOpen 47 = .ok (.aload_n 0, 1) := by decide +kernel
theorem d_CR_stepOpen_48 : decode b_CR_stepOpen 48 = .ok (.getfield 103, 3) := by decide +kernel
theorem d_CR_stepOpen_51 : decode b_CR_stepOpen 51 = .ok (.ifCond .le 4, 3) := by decide +kernel
theorem d_CR_stepOpen_54 : decode b_CR_stepOpen 54 = .ok (.return_, 1) := by decide +kernel
theorem d_CR_stepOpen_55 : decode b_CR_stepOpen 55 = .ok (.aload_n 0, 1) := by decide +kernel
theorem d_CR_stepOpen_56 : decode b_CR_stepOpen 56 = .ok (.getfield 71, 3) := by decide +kernel
theorem d_CR_stepOpen_59 : decode b_CR_stepOpen 59 = .ok (.iconst 4, 1) := by decide +kernel
theorem d_CR_stepOpen_60 : decode b_CR_stepOpen 60 = .ok (.if_icmp .ne 11, 3) := by decide +kernel
theorem d_CR_stepOpen_63 : decode b_CR_stepOpen 63 = .ok (.aload_n 0, 1) := by decide +kernel
theorem d_CR_stepOpen_64 : decode b_CR_stepOpen 64 = .ok (.iconst 3, 1) := by decide +kernel
theorem d_CR_stepOpen_65 : decode b_CR_stepOpen 65 = .ok (.invokevirtual 40, 3) := by decide +kernel
theorem d_CR_stepOpen_68 : decode b_CR_stepOpen 68 = .ok (.goto 17, 3) := by decide +kernel
theorem d_CR_stepOpen_71 : decode b_CR_stepOpen 71 = .ok (.aload_n 0, 1) := by decide +kernel
theorem d_CR_stepOpen_72 : decode b_CR_stepOpen 72 = .ok (.dup, 1) := by decide +kernel
theorem d_CR_stepOpen_73 : decode b_CR_stepOpen 73 = .ok (.getfield 71, 3) := by decide +kernel
theorem d_CR_stepOpen_76 : decode b_CR_stepOpen 76 = .ok (.iconst 1, 1) := by decide +kernel
theorem d_CR_stepOpen_77 : decode b_CR_stepOpen 77 = .ok (.iadd, 1) := by decide +kernel
theorem d_CR_stepOpen_78 : decode b_CR_stepOpen 78 = .ok (.putfield 71, 3) := by decide +kernel
theorem d_CR_stepOpen_81 : decode b_CR_stepOpen 81 = .ok (.aload_n 0, 1) := by decide +kernel
theorem d_CR_stepOpen_82 : decode b_CR_stepOpen 82 = .ok (.invokevirtual 74, 3) := by decide +kernel
theorem d_CR_stepOpen_85 : decode b_CR_stepOpen 85 = .ok (.return_, 1) := by decide +kernel
theorem d_CR_stepEnding_0 : decode b_CR_stepEnding 0 = .ok (.aload_n 0, 1) := by decide +kernel
theorem d_CR_stepEnding_1 : decode b_CR_stepEnding 1 = .ok (.dup, 1) := by decide +kernel
theorem d_CR_stepEnding_2 : decode b_CR_stepEnding 2 = .ok (.getfield 103, 3) := by decide +kernel
theorem d_CR_stepEnding_5 : decode b_CR_stepEnding 5 = .ok (.iconst 1, 1) := by decide +kernel
theorem d_CR_stepEnding_6 : decode b_CR_stepEnding 6 = .ok (.isub, 1) := by decide +kernel
theorem d_CR_stepEnding_7 : decode b_CR_stepEnding 7 = .ok (.putfield 103, 3) := by decide +kernel
theorem d_CR_stepEnding_10 : decode b_CR_stepEnding 10 = .ok (.aload_n 0, 1) := by decide +kernel
theorem d_CR_stepEnding_11 : decode b_CR_stepEnding 11 = .ok (.getfield 103, 3) := by decide +kernel
theorem d_CR_stepEnding_14 : decode b_CR_stepEnding 14 = .ok (.ifCond .le 4, 3) := by decide +kernel
theorem d_CR_stepEnding_17 : decode b_CR_stepEnding 17 = .ok (.return_, 1) := by decide +kernel
theorem d_CR_stepEnding_18 : decode b_CR_stepEnding 18 = .ok (.aload_n 0, 1) := by decide +kernel
theorem d_CR_stepEnding_19 : decode b_CR_stepEnding 19 = .ok (.getfield 71, 3) := by decide +kernel
theorem d_CR_stepEnding_22 : decode b_CR_stepEnding 22 = .ok (.iconst 4, 1) := by decide +kernel
theorem d_CR_stepEnding_23 : decode b_CR_stepEnding 23 = .ok (.if_icmp .ne 10, 3) := by decide +kernel
theorem d_CR_stepEnding_26 : decode b_CR_stepEnding 26 = .ok (.aload_n 0, 1) := by decide +kernel
theorem d_CR_stepEnding_27 : decode b_CR_stepEnding 27 = .ok (.invokevirtual 34, 3) := by decide +kernel
theorem d_CR_stepEnding_30 : decode b_CR_stepEnding 30 = .ok (.goto 17, 3) := by decide +kernel
theorem d_CR_stepEnding_33 : decode b_CR_stepEnding 33 = .ok (.aload_n 0, 1) := by decide +kernel
theorem d_CR_stepEnding_34 : decode b_CR_stepEnding 34 = .ok (.dup, 1) := by decide +kernel
theorem d_CR_stepEnding_35 : decode b_CR_stepEnding 35 = .ok (.getfield 71, 3) := by decide +kernel
theorem d_CR_stepEnding_38 : decode b_CR_stepEnding 38 = .ok (.iconst 1, 1) := by decide +kernel
theorem d_CR_stepEnding_39 : decode b_CR_stepEnding 39 = .ok (.iadd, 1) := by decide +kernel
theorem d_CR_stepEnding_40 : decode b_CR_stepEnding 40 = .ok (.putfield 71, 3) := by decide +kernel
theorem d_CR_stepEnding_43 : decode b_CR_stepEnding 43 = .ok (.aload_n 0, 1) := by decide +kernel
theorem d_CR_stepEnding_44 : decode b_CR_stepEnding 44 = .ok (.invokevirtual 109, 3) := by decide +kernel
theorem d_CR_stepEnding_47 : decode b_CR_stepEnding 47 = .ok (.return_, 1) := by decide +kernel
theorem d_CR_owesAny_0 : decode b_CR_owesAny 0 = .ok (.aload_n 0, 1) := by decide +kernel
theorem d_CR_owesAny_1 : decode b_CR_owesAny 1 = .ok (.getfield 26, 3) := by decide +kernel
theorem d_CR_owesAny_4 : decode b_CR_owesAny 4 = .ok (.ifCond .ne 17, 3) := by decide +kernel
theorem d_CR_owesAny_7 : decode b_CR_owesAny 7 = .ok (.aload_n 0, 1) := by decide +kernel
theorem d_CR_owesAny_8 : decode b_CR_owesAny 8 = .ok (.getfield 100, 3) := by decide +kernel
theorem d_CR_owesAny_11 : decode b_CR_owesAny 11 = .ok (.ifCond .ne 10, 3) := by decide +kernel
theorem d_CR_owesAny_14 : decode b_CR_owesAny 14 = .ok (.aload_n 0, 1) := by decide +kernel
theorem d_CR_owesAny_15 : decode b_CR_owesAny 15 = .ok (.getfield 112, 3) := by decide +kernel
theorem d_CR_owesAny_18 : decode b_CR_owesAny 18 = .ok (.ifCond .eq 7, 3) := by decide +kernel
theorem d_CR_owesAny_21 : decode b_CR_owesAny 21 = .ok (.iconst 1, 1) := by decide +kernel
theorem d_CR_owesAny_22 : decode b_CR_owesAny 22 = .ok (.goto 4, 3) := by decide +kernel
theorem d_CR_owesAny_25 : decode b_CR_owesAny 25 = .ok (.iconst 0, 1) := by decide +kernel
theorem d_CR_owesAny_26 : decode b_CR_owesAny 26 = .ok (.ireturn, 1) := by decide +kernel
theorem d_CR_payOne_0 : decode b_CR_payOne 0 = .ok (.aload_n 0, 1) := by decide +kernel
theorem d_CR_payOne_1 : decode b_CR_payOne 1 = .ok (.getfield 26, 3) := by decide +kernel
theorem d_CR_payOne_4 : decode b_CR_payOne 4 = .ok (.ifCond .eq 12, 3) := by decide +kernel
theorem d_CR_payOne_7 : decode b_CR_payOne 7 = .ok (.aload_n 0, 1) := by decide +kernel
theorem d_CR_payOne_8 : decode b_CR_payOne 8 = .ok (.iconst 0, 1) := by decide +kernel
theorem d_CR_payOne_9 : decode b_CR_payOne 9 = .ok (.putfield 26, 3) := by decide +kernel
theorem d_CR_payOne_12 : decode b_CR_payOne 12 = .ok (.ldc2_w 121, 3) := by decide +kernel
theorem d_CR_payOne_15 : decode b_CR_payOne 15 = .ok (.lreturn, 1) := by decide +kernel
theorem d_CR_payOne_16 : decode b_CR_payOne 16 = .ok (.aload_n 0, 1) := by decide +kernel
theorem d_CR_payOne_17 : decode b_CR_payOne 17 = .ok (.getfield 100, 3) := by decide +kernel
theorem d_CR_payOne_20 : decode b_CR_payOne 20 = .ok (.ifCond .eq 21, 3) := by decide +kernel
theorem d_CR_payOne_23 : decode b_CR_payOne 23 = .ok (.aload_n 0, 1) := by decide +kernel
theorem d_CR_payOne_24 : decode b_CR_payOne 24 = .ok (.iconst 0, 1) := by decide +kernel
theorem d_CR_payOne_25 : decode b_CR_payOne 25 = .ok (.putfield 100, 3) := by decide +kernel
theorem d_CR_payOne_28 : decode b_CR_payOne 28 = .ok (.ldc2_w 123, 3) := by decide +kernel
theorem d_CR_payOne_31 : decode b_CR_payOne 31 = .ok (.aload_n 0, 1) := by decide +kernel
theorem d_CR_payOne_32 : decode b_CR_payOne 32 = .ok (.invokevirtual 54, 3) := by decide +kernel
theorem d_CR_payOne_35 : decode b_CR_payOne 35 = .ok (.i2l, 1) := by decide +kernel
theorem d_CR_payOne_36 : decode b_CR_payOne 36 = .ok (.bipush 16, 2) := by decide +kernel
theorem d_CR_payOne_38 : decode b_CR_payOne 38 = .ok (.lshl, 1) := by decide +kernel
theorem d_CR_payOne_39 : decode b_CR_payOne 39 = .ok (.lor, 1) := by decide +kernel
theorem d_CR_payOne_40 : decode b_CR_payOne 40 = .ok (.lreturn, 1) := by decide +kernel
theorem d_CR_payOne_41 : decode b_CR_payOne 41 = .ok (.aload_n 0, 1) := by decide +kernel
theorem d_CR_payOne_42 : decode b_CR_payOne 42 = .ok (.iconst 0, 1) := by decide +kernel
theorem d_CR_payOne_43 : decode b_CR_payOne 43 = .ok (.putfield 112, 3) := by decide +kernel
theorem d_CR_payOne_46 : decode b_CR_payOne 46 = .ok (.ldc2_w 125, 3) := by decide +kernel
theorem d_CR_payOne_49 : decode b_CR_payOne 49 = .ok (.aload_n 0, 1) := by decide +kernel
theorem d_CR_payOne_50 : decode b_CR_payOne 50 = .ok (.getfield 106, 3) := by decide +kernel
theorem d_CR_payOne_53 : decode b_CR_payOne 53 = .ok (.i2l, 1) := by decide +kernel
theorem d_CR_payOne_54 : decode b_CR_payOne 54 = .ok (.bipush 16, 2) := by decide +kernel
theorem d_CR_payOne_56 : decode b_CR_payOne 56 = .ok (.lshl, 1) := by decide +kernel
theorem d_CR_payOne_57 : decode b_CR_payOne 57 = .ok (.lor, 1) := by decide +kernel
theorem d_CR_payOne_58 : decode b_CR_payOne 58 = .ok (.lreturn, 1) := by decide +kernel
theorem d_CR_result_0 : decode b_CR_result 0 = .ok (.aload_n 0, 1) := by decide +kernel
theorem d_CR_result_1 : decode b_CR_result 1 = .ok (.getfield 23, 3) := by decide +kernel
theorem d_CR_result_4 : decode b_CR_result 4 = .ok (.tableswitch 43 1 3 #[28, 30, 35], 28) := by decide +kernel
theorem d_CR_result_32 : decode b_CR_result 32 = .ok (.iconst 0, 1) := by decide +kernel
theorem d_CR_result_33 : decode b_CR_result 33 = .ok (.ireturn, 1) := by decide +kernel
theorem d_CR_result_34 : decode b_CR_result 34 = .ok (.aload_n 0, 1) := by decide +kernel
theorem d_CR_result_35 : decode b_CR_result 35 = .ok (.getfield 106, 3) := by decide +kernel
theorem d_CR_result_38 : decode b_CR_result 38 = .ok (.ireturn, 1) := by decide +kernel
theorem d_CR_result_39 : decode b_CR_result 39 = .ok (.bipush 8, 2) := by decide +kernel
theorem d_CR_result_41 : decode b_CR_result 41 = .ok (.aload_n 0, 1) := by decide +kernel
theorem d_CR_result_42 : decode b_CR_result 42 = .ok (.getfield 106, 3) := by decide +kernel
theorem d_CR_result_45 : decode b_CR_result 45 = .ok (.iadd, 1) := by decide +kernel
theorem d_CR_result_46 : decode b_CR_result 46 = .ok (.ireturn, 1) := by decide +kernel
theorem d_CR_result_47 : decode b_CR_result 47 = .ok (.iconst (-1), 1) := by decide +kernel
theorem d_CR_result_48 : decode b_CR_result 48 = .ok (.ireturn, 1) := by decide +kernel
theorem d_DV_rest_0 : decode b_DV_rest 0 = .ok (.iconst 1, 1) := by decide +kernel
theorem d_DV_rest_1 : decode b_DV_rest 1 = .ok (.iload_n 3, 1) := by decide +kernel
theorem d_DV_rest_2 : decode b_DV_rest 2 = .ok (.ishl, 1) := by decide +kernel
theorem d_DV_rest_3 : decode b_DV_rest 3 = .ok (.iconst 1, 1) := by decide +kernel
theorem d_DV_rest_4 : decode b_DV_rest 4 = .ok (.isub, 1) := by decide +kernel
theorem d_DV_rest_5 : decode b_DV_rest 5 = .ok (.istore 5, 2) := by decide +kernel
theorem d_DV_rest_7 : decode b_DV_rest 7 = .ok (.iconst 0, 1) := by decide +kernel
theorem d_DV_rest_8 : decode b_DV_rest 8 = .ok (.istore 6, 2) := by decide +kernel
theorem d_DV_rest_10 : decode b_DV_rest 10 = .ok (.iload_n 2, 1) := by decide +kernel
theorem d_DV_rest_11 : decode b_DV_rest 11 = .ok (.iconst 4, 1) := by decide +kernel
theorem d_DV_rest_12 : decode b_DV_rest 12 = .ok (.isub, 1) := by decide +kernel
theorem d_DV_rest_13 : decode b_DV_rest 13 = .ok (.istore 7, 2) := by decide +kernel
theorem d_DV_rest_15 : decode b_DV_rest 15 = .ok (.iload 7, 2) := by decide +kernel
theorem d_DV_rest_17 : decode b_DV_rest 17 = .ok (.ifCond .lt 46, 3) := by decide +kernel
theorem d_DV_rest_20 : decode b_DV_rest 20 = .ok (.iload 6, 2) := by decide +kernel
theorem d_DV_rest_22 : decode b_DV_rest 22 = .ok (.iload_n 3, 1) := by decide +kernel
theorem d_DV_rest_23 : decode b_DV_rest 23 = .ok (.iconst 4, 1) := by decide +kernel
theorem d_DV_rest_24 : decode b_DV_rest 24 = .ok (.isub, 1) := by decide +kernel
theorem d_DV_rest_25 : decode b_DV_rest 25 = .ok (.iushr, 1) := by decide +kernel
theorem d_DV_rest_26 : decode b_DV_rest 26 = .ok (.istore 8, 2) := by decide +kernel
theorem d_DV_rest_28 : decode b_DV_rest 28 = .ok (.iload 8, 2) := by decide +kernel
theorem d_DV_rest_30 : decode b_DV_rest 30 = .ok (.lload_n 0, 1) := by decide +kernel
theorem d_DV_rest_31 : decode b_DV_rest 31 = .ok (.iload 7, 2) := by decide +kernel
theorem d_DV_rest_33 : decode b_DV_rest 33 = .ok (.invokestatic 9, 3) := by decide +kernel
theorem d_DV_rest_36 : decode b_DV_rest 36 = .ok (.ixor, 1) := by decide +kernel
theorem d_DV_rest_37 : decode b_DV_rest 37 = .ok (.bipush 15, 2) := by decide +kernel
theorem d_DV_rest_39 : decode b_DV_rest 39 = .ok (.iand, 1) := by decide +kernel
theorem d_DV_rest_40 : decode b_DV_rest 40 = .ok (.istore 9, 2) := by decide +kernel
theorem d_DV_rest_42 : decode b_DV_rest 42 = .ok (.iload 6, 2) := by decide +kernel
theorem d_DV_rest_44 : decode b_DV_rest 44 = .ok (.iconst 4, 1) := by decide +kernel
theorem d_DV_rest_45 : decode b_DV_rest 45 = .ok (.ishl, 1) := by decide +kernel
theorem d_DV_rest_46 : decode b_DV_rest 46 = .ok (.iload 5, 2) := by decide +kernel
theorem d_DV_rest_48 : decode b_DV_rest 48 = .ok (.iand, 1) := by decide +kernel
theorem d_DV_rest_49 : decode b_DV_rest 49 = .ok (.aload 4, 2) := by decide +kernel
theorem d_DV_rest_51 : decode b_DV_rest 51 = .ok (.iload 9, 2) := by decide +kernel
theorem d_DV_rest_53 : decode b_DV_rest 53 = .ok (.iaload, 1) := by decide +kernel
theorem d_DV_rest_54 : decode b_DV_rest 54 = .ok (.ixor, 1) := by decide +kernel
theorem d_DV_rest_55 : decode b_DV_rest 55 = .ok (.istore 6, 2) := by decide +kernel
theorem d_DV_rest_57 : decode b_DV_rest 57 = .ok (.iinc 7 (-4), 3) := by decide +kernel
theorem d_DV_rest_60 : decode b_DV_rest 60 = .ok (.goto (-45), 3) := by decide +kernel
theorem d_DV_rest_63 : decode b_DV_rest 63 = .ok (.iload 6, 2) := by decide +kernel
theorem d_DV_rest_65 : decode b_DV_rest 65 = .ok (.ireturn, 1) := by decide +kernel
theorem d_DC_blockOf_0 : decode b_DC_blockOf 0 = .ok (.lload_n 0, 1) := by decide +kernel
theorem d_DC_blockOf_1 : decode b_DC_blockOf 1 = .ok (.ldc2_w 11, 3) := by decide +kernel
theorem d_DC_blockOf_4 : decode b_DC_blockOf 4 = .ok (.land, 1) := by decide +kernel
theorem d_DC_blockOf_5 : decode b_DC_blockOf 5 = .ok (.lstore_n 2, 1) := by decide +kernel
theorem d_DC_blockOf_6 : decode b_DC_blockOf 6 = .ok (.lload_n 2, 1) := by decide +kernel
theorem d_DC_blockOf_7 : decode b_DC_blockOf 7 = .ok (.bipush 16, 2) := by decide +kernel
theorem d_DC_blockOf_9 : decode b_DC_blockOf 9 = .ok (.lshl, 1) := by decide +kernel
theorem d_DC_blockOf_10 : decode b_DC_blockOf 10 = .ok (.lload_n 2, 1) := by decide +kernel
theorem d_DC_blockOf_11 : decode b_DC_blockOf 11 = .ok (.bipush 44, 2) := by decide +kernel
theorem d_DC_blockOf_13 : decode b_DC_blockOf 13 = .ok (.bipush 16, 2) := by decide +kernel
theorem d_DC_blockOf_15 : decode b_DC_blockOf 15 = .ok (.getstatic 13, 3) := by decide +kernel
theorem d_DC_blockOf_18 : decode b_DC_blockOf 18 = .ok (.invokestatic 17, 3) := by decide +kernel
theorem d_DC_blockOf_21 : decode b_DC_blockOf 21 = .ok (.i2l, 1) := by decide +kernel
theorem d_DC_blockOf_22 : decode b_DC_blockOf 22 = .ok (.lor, 1) := by decide +kernel
theorem d_DC_blockOf_23 : decode b_DC_blockOf 23 = .ok (.lreturn, 1) := by decide +kernel
theorem d_DC_syndromeOf_0 : decode b_DC_syndromeOf 0 = .ok (.lload_n 0, 1) := by decide +kernel
theorem d_DC_syndromeOf_1 : decode b_DC_syndromeOf 1 = .ok (.bipush 16, 2) := by decide +kernel
theorem d_DC_syndromeOf_3 : decode b_DC_syndromeOf 3 = .ok (.lushr, 1) := by decide +kernel
theorem d_DC_syndromeOf_4 : decode b_DC_syndromeOf 4 = .ok (.bipush 44, 2) := by decide +kernel
theorem d_DC_syndromeOf_6 : decode b_DC_syndromeOf 6 = .ok (.bipush 16, 2) := by decide +kernel
theorem d_DC_syndromeOf_8 : decode b_DC_syndromeOf 8 = .ok (.getstatic 13, 3) := by decide +kernel
theorem d_DC_syndromeOf_11 : decode b_DC_syndromeOf 11 = .ok (.invokestatic 17, 3) := by decide +kernel
theorem d_DC_syndromeOf_14 : decode b_DC_syndromeOf 14 = .ok (.istore_n 2, 1) := by decide +kernel
theorem d_DC_syndromeOf_15 : decode b_DC_syndromeOf 15 = .ok (.iload_n 2, 1) := by decide +kernel
theorem d_DC_syndromeOf_16 : decode b_DC_syndromeOf 16 = .ok (.lload_n 0, 1) := by decide +kernel
theorem d_DC_syndromeOf_17 : decode b_DC_syndromeOf 17 = .ok (.ldc2_w 23, 3) := by decide +kernel
theorem d_DC_syndromeOf_20 : decode b_DC_syndromeOf 20 = .ok (.land, 1) := by decide +kernel
theorem d_DC_syndromeOf_21 : decode b_DC_syndromeOf 21 = .ok (.l2i, 1) := by decide +kernel
theorem d_DC_syndromeOf_22 : decode b_DC_syndromeOf 22 = .ok (.ixor, 1) := by decide +kernel
theorem d_DC_syndromeOf_23 : decode b_DC_syndromeOf 23 = .ok (.ireturn, 1) := by decide +kernel
theorem d_DC_infoOf_0 : decode b_DC_infoOf 0 = .ok (.lload_n 0, 1) := by decide +kernel
theorem d_DC_infoOf_1 : decode b_DC_infoOf 1 = .ok (.invokestatic 25, 3) := by decide +kernel
theorem d_DC_infoOf_4 : decode b_DC_infoOf 4 = .ok (.istore_n 2, 1) := by decide +kernel
theorem d_DC_infoOf_5 : decode b_DC_infoOf 5 = .ok (.iload_n 2, 1) := by decide +kernel
theorem d_DC_infoOf_6 : decode b_DC_infoOf 6 = .ok (.ifCond .ne 12, 3) := by decide +kernel
theorem d_DC_infoOf_9 : decode b_DC_infoOf 9 = .ok (.lload_n 0, 1) := by decide +kernel
theorem d_DC_infoOf_10 : decode b_DC_infoOf 10 = .ok (.bipush 16, 2) := by decide +kernel
theorem d_DC_infoOf_12 : decode b_DC_infoOf 12 = .ok (.lushr, 1) := by decide +kernel
theorem d_DC_infoOf_13 : decode b_DC_infoOf 13 = .ok (.ldc2_w 11, 3) := by decide +kernel
theorem d_DC_infoOf_16 : decode b_DC_infoOf 16 = .ok (.land, 1) := by decide +kernel
theorem d_DC_infoOf_17 : decode b_DC_infoOf 17 = .ok (.lreturn, 1) := by decide +kernel
theorem d_DC_infoOf_18 : decode b_DC_infoOf 18 = .ok (.iconst 1, 1) := by decide +kernel
theorem d_DC_infoOf_19 : decode b_DC_infoOf 19 = .ok (.iload_n 2, 1) := by decide +kernel
theorem d_DC_infoOf_20 : decode b_DC_infoOf 20 = .ok (.invokestatic 29, 3) := by decide +kernel
theorem d_DC_infoOf_23 : decode b_DC_infoOf 23 = .ok (.istore_n 3, 1) := by decide +kernel
theorem d_DC_infoOf_24 : decode b_DC_infoOf 24 = .ok (.iconst 2, 1) := by decide +kernel
theorem d_DC_infoOf_25 : decode b_DC_infoOf 25 = .ok (.iload_n 2, 1) := by decide +kernel
theorem d_DC_infoOf_26 : decode b_DC_infoOf 26 = .ok (.invokestatic 29, 3) := by decide +kernel
theorem d_DC_infoOf_29 : decode b_DC_infoOf 29 = .ok (.istore 4, 2) := by decide +kernel
theorem d_DC_infoOf_31 : decode b_DC_infoOf 31 = .ok (.iconst 3, 1) := by decide +kernel
theorem d_DC_infoOf_32 : decode b_DC_infoOf 32 = .ok (.iload_n 2, 1) := by decide +kernel
theorem d_DC_infoOf_33 : decode b_DC_infoOf 33 = .ok (.invokestatic 29, 3) := by decide +kernel
theorem d_DC_infoOf_36 : decode b_DC_infoOf 36 = .ok (.istore 5, 2) := by decide +kernel
theorem d_DC_infoOf_38 : decode b_DC_infoOf 38 = .ok (.iconst 4, 1) := by decide +kernel
theorem d_DC_infoOf_39 : decode b_DC_infoOf 39 = .ok (.iload_n 2, 1) := by decide +kernel
theorem d_DC_infoOf_40 : decode b_DC_infoOf 40 = .ok (.invokestatic 29, 3) := by decide +kernel
theorem d_DC_infoOf_43 : decode b_DC_infoOf 43 = .ok (.istore 6, 2) := by decide +kernel
theorem d_DC_infoOf_45 : decode b_DC_infoOf 45 = .ok (.iload_n 3, 1) := by decide +kernel
theorem d_DC_infoOf_46 : decode b_DC_infoOf 46 = .ok (.iload 5, 2) := by decide +kernel
theorem d_DC_infoOf_48 : decode b_DC_infoOf 48 = .ok (.invokestatic 33, 3) := by decide +kernel
theorem d_DC_infoOf_51 : decode b_DC_infoOf 51 = .ok (.iload 4, 2) := by decide +kernel
theorem d_DC_infoOf_53 : decode b_DC_infoOf 53 = .ok (.iload 4, 2) := by decide +kernel
theorem d_DC_infoOf_55 : decode b_DC_infoOf 55 = .ok (.invokestatic 33, 3) := by decide +kernel
theorem d_DC_infoOf_58 : decode b_DC_infoOf 58 = .ok (.ixor, 1) := by decide +kernel
theorem d_DC_infoOf_59 : decode b_DC_infoOf 59 = .ok (.istore 7, 2) := by decide +kernel
theorem d_DC_infoOf_61 : decode b_DC_infoOf 61 = .ok (.iload 7, 2) := by decide +kernel
theorem d_DC_infoOf_63 : decode b_DC_infoOf 63 = .ok (.ifCond .ne 14, 3) := by decide +kernel
theorem d_DC_infoOf_66 : decode b_DC_infoOf 66 = .ok (.iload_n 3, 1) := by decide +kernel
theorem d_DC_infoOf_67 : decode b_DC_infoOf 67 = .ok (.iload 4, 2) := by decide +kernel
theorem d_DC_infoOf_69 : decode b_DC_infoOf 69 = .ok (.iload 6, 2) := by decide +kernel
theorem d_DC_infoOf_71 : decode b_DC_infoOf 71 = .ok (.invokestatic 36, 3) := by decide +kernel
theorem d_DC_infoOf_74 : decode b_DC_infoOf 74 = .ok (.goto 15, 3) := by decide +kernel
theorem d_DC_infoOf_77 : decode b_DC_infoOf 77 = .ok (.iload_n 3, 1) := by decide +kernel
theorem d_DC_infoOf_78 : decode b_DC_infoOf 78 = .ok (.iload 4, 2) := by decide +kernel
theorem d_DC_infoOf_80 : decode b_DC_infoOf 80 = .ok (.iload 5, 2) := by decide +kernel
theorem d_DC_infoOf_82 : decode b_DC_infoOf 82 = .ok (.iload 6, 2) := by decide +kernel
theorem d_DC_infoOf_84 : decode b_DC_infoOf 84 = .ok (.iload 7, 2) := by decide +kernel
theorem d_DC_infoOf_86 : decode b_DC_infoOf 86 = .ok (.invokestatic 40, 3) := by decide +kernel
theorem d_DC_infoOf_89 : decode b_DC_infoOf 89 = .ok (.lstore 8, 2) := by decide +kernel
theorem d_DC_infoOf_91 : decode b_DC_infoOf 91 = .ok (.lload 8, 2) := by decide +kernel
theorem d_DC_infoOf_93 : decode b_DC_infoOf 93 = .ok (.ldc2_w 44, 3) := by decide +kernel
theorem d_DC_infoOf_96 : decode b_DC_infoOf 96 = .ok (.lcmp, 1) := by decide +kernel
theorem d_DC_infoOf_97 : decode b_DC_infoOf 97 = .ok (.ifCond .ne 9, 3) := by decide +kernel
theorem d_DC_infoOf_100 : decode b_DC_infoOf 100 = .ok (.ldc2_w 44, 3) := by decide +kernel
theorem d_DC_infoOf_103 : decode b_DC_infoOf 103 = .ok (.goto 14, 3) := by decide +kernel
theorem d_DC_infoOf_106 : decode b_DC_infoOf 106 = .ok (.lload_n 0, 1) := by decide +kernel
theorem d_DC_infoOf_107 : decode b_DC_infoOf 107 = .ok (.lload 8, 2) := by decide +kernel
theorem d_DC_infoOf_109 : decode b_DC_infoOf 109 = .ok (.lxor, 1) := by decide +kernel
theorem d_DC_infoOf_110 : decode b_DC_infoOf 110 = .ok (.bipush 16, 2) := by decide +kernel
theorem d_DC_infoOf_112 : decode b_DC_infoOf 112 = .ok (.lushr, 1) := by decide +kernel
theorem d_DC_infoOf_113 : decode b_DC_infoOf 113 = .ok (.ldc2_w 11, 3) := by decide +kernel
theorem d_DC_infoOf_116 : decode b_DC_infoOf 116 = .ok (.land, 1) := by decide +kernel
theorem d_DC_infoOf_117 : decode b_DC_infoOf 117 = .ok (.lreturn, 1) := by decide +kernel
theorem d_DC_oneError_0 : decode b_DC_oneError 0 = .ok (.iload_n 1, 1) := by decide +kernel
theorem d_DC_oneError_1 : decode b_DC_oneError 1 = .ok (.iload_n 0, 1) := by decide +kernel
theorem d_DC_oneError_2 : decode b_DC_oneError 2 = .ok (.invokestatic 46, 3) := by decide +kernel
theorem d_DC_oneError_5 : decode b_DC_oneError 5 = .ok (.istore_n 3, 1) := by decide +kernel
theorem d_DC_oneError_6 : decode b_DC_oneError 6 = .ok (.iload_n 1, 1) := by decide +kernel
theorem d_DC_oneError_7 : decode b_DC_oneError 7 = .ok (.iload_n 3, 1) := by decide +kernel
theorem d_DC_oneError_8 : decode b_DC_oneError 8 = .ok (.invokestatic 33, 3) := by decide +kernel
theorem d_DC_oneError_11 : decode b_DC_oneError 11 = .ok (.istore 4, 2) := by decide +kernel
theorem d_DC_oneError_13 : decode b_DC_oneError 13 = .ok (.iload_n 3, 1) := by decide +kernel
theorem d_DC_oneError_14 : decode b_DC_oneError 14 = .ok (.ifCond .eq 13, 3) := by decide +kernel
theorem d_DC_oneError_17 : decode b_DC_oneError 17 = .ok (.iload 4, 2) := by decide +kernel
theorem d_DC_oneError_19 : decode b_DC_oneError 19 = .ok (.iload_n 3, 1) := by decide +kernel
theorem d_DC_oneError_20 : decode b_DC_oneError 20 = .ok (.invokestatic 33, 3) := by decide +kernel
theorem d_DC_oneError_23 : decode b_DC_oneError 23 = .ok (.iload_n 2, 1) := by decide +kernel
theorem d_DC_oneError_24 : decode b_DC_oneError 24 = .ok (.if_icmp .eq 7, 3) := by decide +kernel
theorem d_DC_oneError_27 : decode b_DC_oneError 27 = .ok (.ldc2_w 44, 3) := by decide +kernel
theorem d_DC_oneError_30 : decode b_DC_oneError 30 = .ok (.lreturn, 1) := by decide +kernel
theorem d_DC_oneError_31 : decode b_DC_oneError 31 = .ok (.iload_n 3, 1) := by decide +kernel
theorem d_DC_oneError_32 : decode b_DC_oneError 32 = .ok (.iload_n 0, 1) := by decide +kernel
theorem d_DC_oneError_33 : decode b_DC_oneError 33 = .ok (.iload_n 3, 1) := by decide +kernel
theorem d_DC_oneError_34 : decode b_DC_oneError 34 = .ok (.invokestatic 46, 3) := by decide +kernel
theorem d_DC_oneError_37 : decode b_DC_oneError 37 = .ok (.invokestatic 49, 3) := by decide +kernel
theorem d_DC_oneError_40 : decode b_DC_oneError 40 = .ok (.lreturn, 1) := by decide +kernel
theorem d_DC_twoErrors_0 : decode b_DC_twoErrors 0 = .ok (.iload_n 0, 1) := by decide +kernel
theorem d_DC_twoErrors_1 : decode b_DC_twoErrors 1 = .ok (.iload_n 3, 1) := by decide +kernel
theorem d_DC_twoErrors_2 : decode b_DC_twoErrors 2 = .ok (.invokestatic 33, 3) := by decide +kernel
theorem d_DC_twoErrors_5 : decode b_DC_twoErrors 5 = .ok (.iload_n 1, 1) := by decide +kernel
theorem d_DC_twoErrors_6 : decode b_DC_twoErrors 6 = .ok (.iload_n 2, 1) := by decide +kernel
theorem d_DC_twoErrors_7 : decode b_DC_twoErrors 7 = .ok (.invokestatic 33, 3) := by decide +kernel
theorem d_DC_twoErrors_10 : decode b_DC_twoErrors 10 = .ok (.ixor, 1) := by decide +kernel
theorem d_DC_twoErrors_11 : decode b_DC_twoErrors 11 = .ok (.iload 4, 2) := by decide +kernel
theorem d_DC_twoErrors_13 : decode b_DC_twoErrors 13 = .ok (.invokestatic 46, 3) := by decide +kernel
theorem d_DC_twoErrors_16 : decode b_DC_twoErrors 16 = .ok (.istore 5, 2) := by decide +kernel
theorem d_DC_twoErrors_18 : decode b_DC_twoErrors 18 = .ok (.iload_n 1, 1) := by decide +kernel
theorem d_DC_twoErrors_19 : decode b_DC_twoErrors 19 = .ok (.iload_n 3, 1) := by decide +kernel
theorem d_DC_twoErrors_20 : decode b_DC_twoErrors 20 = .ok (.invokestatic 33, 3) := by decide +kernel
theorem d_DC_twoErrors_23 : decode b_DC_twoErrors 23 = .ok (.iload_n 2, 1) := by decide +kernel
theorem d_DC_twoErrors_24 : decode b_DC_twoErrors 24 = .ok (.iload_n 2, 1) := by decide +kernel
theorem d_DC_twoErrors_25 : decode b_DC_twoErrors 25 = .ok (.invokestatic 33, 3) := by decide +kernel
theorem d_DC_twoErrors_28 : decode b_DC_twoErrors 28 = .ok (.ixor, 1) := by decide +kernel
theorem d_DC_twoErrors_29 : decode b_DC_twoErrors 29 = .ok (.iload 4, 2) := by decide +kernel
theorem d_DC_twoErrors_31 : decode b_DC_twoErrors 31 = .ok (.invokestatic 46, 3) := by decide +kernel
theorem d_DC_twoErrors_34 : decode b_DC_twoErrors 34 = .ok (.istore 6, 2) := by decide +kernel
theorem d_DC_twoErrors_36 : decode b_DC_twoErrors 36 = .ok (.iconst 0, 1) := by decide +kernel
theorem d_DC_twoErrors_37 : decode b_DC_twoErrors 37 = .ok (.istore 7, 2) := by decide +kernel
theorem d_DC_twoErrors_39 : decode b_DC_twoErrors 39 = .ok (.iload 7, 2) := by decide +kernel
theorem d_DC_twoErrors_41 : decode b_DC_twoErrors 41 = .ok (.bipush 15, 2) := by decide +kernel
theorem d_DC_twoErrors_43 : decode b_DC_twoErrors 43 = .ok (.if_icmp .ge 100, 3) := by decide +kernel
theorem d_DC_twoErrors_46 : decode b_DC_twoErrors 46 = .ok (.getstatic 53, 3) := by decide +kernel
theorem d_DC_twoErrors_49 : decode b_DC_twoErrors 49 = .ok (.iload 7, 2) := by decide +kernel
theorem d_DC_twoErrors_51 : decode b_DC_twoErrors 51 = .ok (.iaload, 1) := by decide +kernel
theorem d_DC_twoErrors_52 : decode b_DC_twoErrors 52 = .ok (.istore 8, 2) := by decide +kernel
theorem d_DC_twoErrors_54 : decode b_DC_twoErrors 54 = .ok (.iload 8, 2) := by decide +kernel
theorem d_DC_twoErrors_56 : decode b_DC_twoErrors 56 = .ok (.iload 5, 2) := by decide +kernel
theorem d_DC_twoErrors_58 : decode b_DC_twoErrors 58 = .ok (.ixor, 1) := by decide +kernel
theorem d_DC_twoErrors_59 : decode b_DC_twoErrors 59 = .ok (.istore 9, 2) := by decide +kernel
theorem d_DC_twoErrors_61 : decode b_DC_twoErrors 61 = .ok (.iload 9, 2) := by decide +kernel
theorem d_DC_twoErrors_63 : decode b_DC_twoErrors 63 = .ok (.ifCond .eq 74, 3) := by decide +kernel
theorem d_DC_twoErrors_66 : decode b_DC_twoErrors 66 = .ok (.iload 9, 2) := by decide +kernel
theorem d_DC_twoErrors_68 : decode b_DC_twoErrors 68 = .ok (.iload 8, 2) := by decide +kernel
theorem d_DC_twoErrors_70 : decode b_DC_twoErrors 70 = .ok (.if_icmp .eq 67, 3) := by decide +kernel
theorem d_DC_twoErrors_73 : decode b_DC_twoErrors 73 = .ok (.iload 8, 2) := by decide +kernel
theorem d_DC_twoErrors_75 : decode b_DC_twoErrors 75 = .ok (.iload 9, 2) := by decide +kernel
theorem d_DC_twoErrors_77 : decode b_DC_twoErrors 77 = .ok (.invokestatic 33, 3) := by decide +kernel
theorem d_DC_twoErrors_80 : decode b_DC_twoErrors 80 = .ok (.iload 6, 2) := by decide +kernel
theorem d_DC_twoErrors_82 : decode b_DC_twoErrors 82 = .ok (.if_icmp .ne 55, 3) := by decide +kernel
theorem d_DC_twoErrors_85 : decode b_DC_twoErrors 85 = .ok (.iload_n 0, 1) := by decide +kernel
theorem d_DC_twoErrors_86 : decode b_DC_twoErrors 86 = .ok (.iload 9, 2) := by decide +kernel
theorem d_DC_twoErrors_88 : decode b_DC_twoErrors 88 = .ok (.invokestatic 33, 3) := by decide +kernel
theorem d_DC_twoErrors_91 : decode b_DC_twoErrors 91 = .ok (.iload_n 1, 1) := by decide +kernel
theorem d_DC_twoErrors_92 : decode b_DC_twoErrors 92 = .ok (.ixor, 1) := by decide +kernel
theorem d_DC_twoErrors_93 : decode b_DC_twoErrors 93 = .ok (.iload 8, 2) := by decide +kernel
theorem d_DC_twoErrors_95 : decode b_DC_twoErrors 95 = .ok (.iload 5, 2) := by decide +kernel
theorem d_DC_twoErrors_97 : decode b_DC_twoErrors 97 = .ok (.invokestatic 33, 3) := by decide +kernel
theorem d_DC_twoErrors_100 : decode b_DC_twoErrors 100 = .ok (.invokestatic 46, 3) := by decide +kernel
theorem d_DC_twoErrors_103 : decode b_DC_twoErrors 103 = .ok (.istore 10, 2) := by decide +kernel
theorem d_DC_twoErrors_105 : decode b_DC_twoErrors 105 = .ok (.iload_n 0, 1) := by decide +kernel
theorem d_DC_twoErrors_106 : decode b_DC_twoErrors 106 = .ok (.iload 10, 2) := by decide +kernel
theorem d_DC_twoErrors_108 : decode b_DC_twoErrors 108 = .ok (.iload 8, 2) := by decide +kernel
theorem d_DC_twoErrors_110 : decode b_DC_twoErrors 110 = .ok (.invokestatic 33, 3) := by decide +kernel
theorem d_DC_twoErrors_113 : decode b_DC_twoErrors 113 = .ok (.ixor, 1) := by decide +kernel
theorem d_DC_twoErrors_114 : decode b_DC_twoErrors 114 = .ok (.iload 9, 2) := by decide +kernel
theorem d_DC_twoErrors_116 : decode b_DC_twoErrors 116 = .ok (.invokestatic 46, 3) := by decide +kernel
theorem d_DC_twoErrors_119 : decode b_DC_twoErrors 119 = .ok (.istore 11, 2) := by decide +kernel
theorem d_DC_twoErrors_121 : decode b_DC_twoErrors 121 = .ok (.iload 8, 2) := by decide +kernel
theorem d_DC_twoErrors_123 : decode b_DC_twoErrors 123 = .ok (.iload 10, 2) := by decide +kernel
theorem d_DC_twoErrors_125 : decode b_DC_twoErrors 125 = .ok (.invokestatic 49, 3) := by decide +kernel
theorem d_DC_twoErrors_128 : decode b_DC_twoErrors 128 = .ok (.iload 9, 2) := by decide +kernel
theorem d_DC_twoErrors_130 : decode b_DC_twoErrors 130 = .ok (.iload 11, 2) := by decide +kernel
theorem d_DC_twoErrors_132 : decode b_DC_twoErrors 132 = .ok (.invokestatic 49, 3) := by decide +kernel
theorem d_DC_twoErrors_135 : decode b_DC_twoErrors 135 = .ok (.lxor, 1) := by decide +kernel
theorem d_DC_twoErrors_136 : decode b_DC_twoErrors 136 = .ok (.lreturn, 1) := by decide +kernel
theorem d_DC_twoErrors_137 : decode b_DC_twoErrors 137 = .ok (.iinc 7 1, 3) := by decide +kernel
theorem d_DC_twoErrors_140 : decode b_DC_twoErrors 140 = .ok (.goto (-101), 3) := by decide +kernel
theorem d_DC_twoErrors_143 : decode b_DC_twoErrors 143 = .ok (.ldc2_w 44, 3) := by decide +kernel
theorem d_DC_twoErrors_146 : decode b_DC_twoErrors 146 = .ok (.lreturn, 1) := by decide +kernel
theorem d_DC_errorAt_0 : decode b_DC_errorAt 0 = .ok (.iload_n 1, 1) := by decide +kernel
theorem d_DC_errorAt_1 : decode b_DC_errorAt 1 = .ok (.i2l, 1) := by decide +kernel
theorem d_DC_errorAt_2 : decode b_DC_errorAt 2 = .ok (.iconst 4, 1) := by decide +kernel
theorem d_DC_errorAt_3 : decode b_DC_errorAt 3 = .ok (.getstatic 56, 3) := by decide +kernel
theorem d_DC_errorAt_6 : decode b_DC_errorAt 6 = .ok (.iload_n 0, 1) := by decide +kernel
theorem d_DC_errorAt_7 : decode b_DC_errorAt 7 = .ok (.bipush 15, 2) := by decide +kernel
theorem d_DC_errorAt_9 : decode b_DC_errorAt 9 = .ok (.iand, 1) := by decide +kernel
theorem d_DC_errorAt_10 : decode b_DC_errorAt 10 = .ok (.iaload, 1) := by decide +kernel
theorem d_DC_errorAt_11 : decode b_DC_errorAt 11 = .ok (.imul, 1) := by decide +kernel
theorem d_DC_errorAt_12 : decode b_DC_errorAt 12 = .ok (.lshl, 1) := by decide +kernel
theorem d_DC_errorAt_13 : decode b_DC_errorAt 13 = .ok (.lreturn, 1) := by decide +kernel
theorem d_DC_valueAt_0 : decode b_DC_valueAt 0 = .ok (.iconst 0, 1) := by decide +kernel
theorem d_DC_valueAt_1 : decode b_DC_valueAt 1 = .ok (.istore_n 2, 1) := by decide +kernel
theorem d_DC_valueAt_2 : decode b_DC_valueAt 2 = .ok (.iconst 0, 1) := by decide +kernel
theorem d_DC_valueAt_3 : decode b_DC_valueAt 3 = .ok (.istore_n 3, 1) := by decide +kernel
theorem d_DC_valueAt_4 : decode b_DC_valueAt 4 = .ok (.iload_n 3, 1) := by decide +kernel
theorem d_DC_valueAt_5 : decode b_DC_valueAt 5 = .ok (.iconst 4, 1) := by decide +kernel
theorem d_DC_valueAt_6 : decode b_DC_valueAt 6 = .ok (.if_icmp .ge 33, 3) := by decide +kernel
theorem d_DC_valueAt_9 : decode b_DC_valueAt 9 = .ok (.iload_n 2, 1) := by decide +kernel
theorem d_DC_valueAt_10 : decode b_DC_valueAt 10 = .ok (.iload_n 1, 1) := by decide +kernel
theorem d_DC_valueAt_11 : decode b_DC_valueAt 11 = .ok (.i2l, 1) := by decide +kernel
theorem d_DC_valueAt_12 : decode b_DC_valueAt 12 = .ok (.iconst 4, 1) := by decide +kernel
theorem d_DC_valueAt_13 : decode b_DC_valueAt 13 = .ok (.iload_n 3, 1) := by decide +kernel
theorem d_DC_valueAt_14 : decode b_DC_valueAt 14 = .ok (.imul, 1) := by decide +kernel
theorem d_DC_valueAt_15 : decode b_DC_valueAt 15 = .ok (.invokestatic 59, 3) := by decide +kernel
theorem d_DC_valueAt_18 : decode b_DC_valueAt 18 = .ok (.getstatic 53, 3) := by decide +kernel
theorem d_DC_valueAt_21 : decode b_DC_valueAt 21 = .ok (.iload_n 0, 1) := by decide +kernel
theorem d_DC_valueAt_22 : decode b_DC_valueAt 22 = .ok (.iload_n 3, 1) := by decide +kernel
theorem d_DC_valueAt_23 : decode b_DC_valueAt 23 = .ok (.imul, 1) := by decide +kernel
theorem d_DC_valueAt_24 : decode b_DC_valueAt 24 = .ok (.bipush 15, 2) := by decide +kernel
theorem d_DC_valueAt_26 : decode b_DC_valueAt 26 = .ok (.irem, 1) := by decide +kernel
theorem d_DC_valueAt_27 : decode b_DC_valueAt 27 = .ok (.iaload, 1) := by decide +kernel
theorem d_DC_valueAt_28 : decode b_DC_valueAt 28 = .ok (.invokestatic 33, 3) := by decide +kernel
theorem d_DC_valueAt_31 : decode b_DC_valueAt 31 = .ok (.ixor, 1) := by decide +kernel
theorem d_DC_valueAt_32 : decode b_DC_valueAt 32 = .ok (.istore_n 2, 1) := by decide +kernel
theorem d_DC_valueAt_33 : decode b_DC_valueAt 33 = .ok (.iinc 3 1, 3) := by decide +kernel
theorem d_DC_valueAt_36 : decode b_DC_valueAt 36 = .ok (.goto (-32), 3) := by decide +kernel
theorem d_DC_valueAt_39 : decode b_DC_valueAt 39 = .ok (.iload_n 2, 1) := by decide +kernel
theorem d_DC_valueAt_40 : decode b_DC_valueAt 40 = .ok (.ireturn, 1) := by decide +kernel
theorem d_DC_times_0 : decode b_DC_times 0 = .ok (.iload_n 0, 1) := by decide +kernel
theorem d_DC_times_1 : decode b_DC_times 1 = .ok (.ifCond .eq 7, 3) := by decide +kernel
theorem d_DC_times_4 : decode b_DC_times 4 = .ok (.iload_n 1, 1) := by decide +kernel
theorem d_DC_times_5 : decode b_DC_times 5 = .ok (.ifCond .ne 5, 3) := by decide +kernel
theorem d_DC_times_8 : decode b_DC_times 8 = .ok (.iconst 0, 1) := by decide +kernel
theorem d_DC_times_9 : decode b_DC_times 9 = .ok (.ireturn, 1) := by decide +kernel
theorem d_DC_times_10 : decode b_DC_times 10 = .ok (.getstatic 53, 3) := by decide +kernel
theorem d_DC_times_13 : decode b_DC_times 13 = .ok (.getstatic 56, 3) := by decide +kernel
theorem d_DC_times_16 : decode b_DC_times 16 = .ok (.iload_n 0, 1) := by decide +kernel
theorem d_DC_times_17 : decode b_DC_times 17 = .ok (.bipush 15, 2) := by decide +kernel
theorem d_DC_times_19 : decode b_DC_times 19 = .ok (.iand, 1) := by decide +kernel
theorem d_DC_times_20 : decode b_DC_times 20 = .ok (.iaload, 1) := by decide +kernel
theorem d_DC_times_21 : decode b_DC_times 21 = .ok (.getstatic 56, 3) := by decide +kernel
theorem d_DC_times_24 : decode b_DC_times 24 = .ok (.iload_n 1, 1) := by decide +kernel
theorem d_DC_times_25 : decode b_DC_times 25 = .ok (.bipush 15, 2) := by decide +kernel
theorem d_DC_times_27 : decode b_DC_times 27 = .ok (.iand, 1) := by decide +kernel
theorem d_DC_times_28 : decode b_DC_times 28 = .ok (.iaload, 1) := by decide +kernel
theorem d_DC_times_29 : decode b_DC_times 29 = .ok (.iadd, 1) := by decide +kernel
theorem d_DC_times_30 : decode b_DC_times 30 = .ok (.bipush 15, 2) := by decide +kernel
theorem d_DC_times_32 : decode b_DC_times 32 = .ok (.irem, 1) := by decide +kernel
theorem d_DC_times_33 : decode b_DC_times 33 = .ok (.iaload, 1) := by decide +kernel
theorem d_DC_times_34 : decode b_DC_times 34 = .ok (.ireturn, 1) := by decide +kernel
theorem d_DC_over_0 : decode b_DC_over 0 = .ok (.iload_n 0, 1) := by decide +kernel
theorem d_DC_over_1 : decode b_DC_over 1 = .ok (.ifCond .eq 7, 3) := by decide +kernel
theorem d_DC_over_4 : decode b_DC_over 4 = .ok (.iload_n 1, 1) := by decide +kernel
theorem d_DC_over_5 : decode b_DC_over 5 = .ok (.ifCond .ne 5, 3) := by decide +kernel
theorem d_DC_over_8 : decode b_DC_over 8 = .ok (.iconst 0, 1) := by decide +kernel
theorem d_DC_over_9 : decode b_DC_over 9 = .ok (.ireturn, 1) := by decide +kernel
theorem d_DC_over_10 : decode b_DC_over 10 = .ok (.getstatic 53, 3) := by decide +kernel
theorem d_DC_over_13 : decode b_DC_over 13 = .ok (.getstatic 56, 3) := by decide +kernel
theorem d_DC_over_16 : decode b_DC_over 16 = .ok (.iload_n 0, 1) := by decide +kernel
theorem d_DC_over_17 : decode b_DC_over 17 = .ok (.bipush 15, 2) := by decide +kernel
theorem d_DC_over_19 : decode b_DC_over 19 = .ok (.iand, 1) := by decide +kernel
theorem d_DC_over_20 : decode b_DC_over 20 = .ok (.iaload, 1) := by decide +kernel
theorem d_DC_over_21 : decode b_DC_over 21 = .ok (.bipush 15, 2) := by decide +kernel
theorem d_DC_over_23 : decode b_DC_over 23 = .ok (.iadd, 1) := by decide +kernel
theorem d_DC_over_24 : decode b_DC_over 24 = .ok (.getstatic 56, 3) := by decide +kernel
theorem d_DC_over_27 : decode b_DC_over 27 = .ok (.iload_n 1, 1) := by decide +kernel
theorem d_DC_over_28 : decode b_DC_over 28 = .ok (.bipush 15, 2) := by decide +kernel
theorem d_DC_over_30 : decode b_DC_over 30 = .ok (.iand, 1) := by decide +kernel
theorem d_DC_over_31 : decode b_DC_over 31 = .ok (.iaload, 1) := by decide +kernel
theorem d_DC_over_32 : decode b_DC_over 32 = .ok (.isub, 1) := by decide +kernel
theorem d_DC_over_33 : decode b_DC_over 33 = .ok (.bipush 15, 2) := by decide +kernel
theorem d_DC_over_35 : decode b_DC_over 35 = .ok (.irem, 1) := by decide +kernel
theorem d_DC_over_36 : decode b_DC_over 36 = .ok (.iaload, 1) := by decide +kernel
theorem d_DC_over_37 : decode b_DC_over 37 = .ok (.ireturn, 1) := by decide +kernel
theorem d_UC_blockOf_0 : decode b_UC_blockOf 0 = .ok (.lload_n 0, 1) := by decide +kernel
theorem d_UC_blockOf_1 : decode b_UC_blockOf 1 = .ok (.ldc2_w 11, 3) := by decide +kernel
theorem d_UC_blockOf_4 : decode b_UC_blockOf 4 = .ok (.land, 1) := by decide +kernel
theorem d_UC_blockOf_5 : decode b_UC_blockOf 5 = .ok (.lstore_n 2, 1) := by decide +kernel
theorem d_UC_blockOf_6 : decode b_UC_blockOf 6 = .ok (.lload_n 2, 1) := by decide +kernel
theorem d_UC_blockOf_7 : decode b_UC_blockOf 7 = .ok (.bipush 56, 2) := by decide +kernel
theorem d_UC_blockOf_9 : decode b_UC_blockOf 9 = .ok (.bipush 7, 2) := by decide +kernel
theorem d_UC_blockOf_11 : decode b_UC_blockOf 11 = .ok (.getstatic 13, 3) := by decide +kernel
theorem d_UC_blockOf_14 : decode b_UC_blockOf 14 = .ok (.invokestatic 17, 3) := by decide +kernel
theorem d_UC_blockOf_17 : decode b_UC_blockOf 17 = .ok (.istore 4, 2) := by decide +kernel
theorem d_UC_blockOf_19 : decode b_UC_blockOf 19 = .ok (.lload_n 2, 1) := by decide +kernel
theorem d_UC_blockOf_20 : decode b_UC_blockOf 20 = .ok (.bipush 7, 2) := by decide +kernel
theorem d_UC_blockOf_22 : decode b_UC_blockOf 22 = .ok (.lshl, 1) := by decide +kernel
theorem d_UC_blockOf_23 : decode b_UC_blockOf 23 = .ok (.iload 4, 2) := by decide +kernel
theorem d_UC_blockOf_25 : decode b_UC_blockOf 25 = .ok (.bipush 127, 2) := by decide +kernel
theorem d_UC_blockOf_27 : decode b_UC_blockOf 27 = .ok (.ixor, 1) := by decide +kernel
theorem d_UC_blockOf_28 : decode b_UC_blockOf 28 = .ok (.i2l, 1) := by decide +kernel
theorem d_UC_blockOf_29 : decode b_UC_blockOf 29 = .ok (.lor, 1) := by decide +kernel
theorem d_UC_blockOf_30 : decode b_UC_blockOf 30 = .ok (.lreturn, 1) := by decide +kernel
theorem d_UC_syndromeOf_0 : decode b_UC_syndromeOf 0 = .ok (.lload_n 0, 1) := by decide +kernel
theorem d_UC_syndromeOf_1 : decode b_UC_syndromeOf 1 = .ok (.bipush 7, 2) := by decide +kernel
theorem d_UC_syndromeOf_3 : decode b_UC_syndromeOf 3 = .ok (.lushr, 1) := by decide +kernel
theorem d_UC_syndromeOf_4 : decode b_UC_syndromeOf 4 = .ok (.bipush 56, 2) := by decide +kernel
theorem d_UC_syndromeOf_6 : decode b_UC_syndromeOf 6 = .ok (.bipush 7, 2) := by decide +kernel
theorem d_UC_syndromeOf_8 : decode b_UC_syndromeOf 8 = .ok (.getstatic 13, 3) := by decide +kernel
theorem d_UC_syndromeOf_11 : decode b_UC_syndromeOf 11 = .ok (.invokestatic 17, 3) := by decide +kernel
theorem d_UC_syndromeOf_14 : decode b_UC_syndromeOf 14 = .ok (.istore_n 2, 1) := by decide +kernel
theorem d_UC_syndromeOf_15 : decode b_UC_syndromeOf 15 = .ok (.iload_n 2, 1) := by decide +kernel
theorem d_UC_syndromeOf_16 : decode b_UC_syndromeOf 16 = .ok (.bipush 127, 2) := by decide +kernel
theorem d_UC_syndromeOf_18 : decode b_UC_syndromeOf 18 = .ok (.ixor, 1) := by decide +kernel
theorem d_UC_syndromeOf_19 : decode b_UC_syndromeOf 19 = .ok (.lload_n 0, 1) := by decide +kernel
theorem d_UC_syndromeOf_20 : decode b_UC_syndromeOf 20 = .ok (.ldc2_w 23, 3) := by decide +kernel
theorem d_UC_syndromeOf_23 : decode b_UC_syndromeOf 23 = .ok (.land, 1) := by decide +kernel
theorem d_UC_syndromeOf_24 : decode b_UC_syndromeOf 24 = .ok (.l2i, 1) := by decide +kernel
theorem d_UC_syndromeOf_25 : decode b_UC_syndromeOf 25 = .ok (.ixor, 1) := by decide +kernel
theorem d_UC_syndromeOf_26 : decode b_UC_syndromeOf 26 = .ok (.ireturn, 1) := by decide +kernel
theorem d_UC_infoOf_0 : decode b_UC_infoOf 0 = .ok (.lload_n 0, 1) := by decide +kernel
theorem d_UC_infoOf_1 : decode b_UC_infoOf 1 = .ok (.bipush 7, 2) := by decide +kernel
theorem d_UC_infoOf_3 : decode b_UC_infoOf 3 = .ok (.lushr, 1) := by decide +kernel
theorem d_UC_infoOf_4 : decode b_UC_infoOf 4 = .ok (.ldc2_w 11, 3) := by decide +kernel
theorem d_UC_infoOf_7 : decode b_UC_infoOf 7 = .ok (.land, 1) := by decide +kernel
theorem d_UC_infoOf_8 : decode b_UC_infoOf 8 = .ok (.lstore_n 2, 1) := by decide +kernel
theorem d_UC_infoOf_9 : decode b_UC_infoOf 9 = .ok (.lload_n 0, 1) := by decide +kernel
theorem d_UC_infoOf_10 : decode b_UC_infoOf 10 = .ok (.invokestatic 25, 3) := by decide +kernel
theorem d_UC_infoOf_13 : decode b_UC_infoOf 13 = .ok (.istore 4, 2) := by decide +kernel
theorem d_UC_infoOf_15 : decode b_UC_infoOf 15 = .ok (.iload 4, 2) := by decide +kernel
theorem d_UC_infoOf_17 : decode b_UC_infoOf 17 = .ok (.ifCond .ne 5, 3) := by decide +kernel
theorem d_UC_infoOf_20 : decode b_UC_infoOf 20 = .ok (.lload_n 2, 1) := by decide +kernel
theorem d_UC_infoOf_21 : decode b_UC_infoOf 21 = .ok (.lreturn, 1) := by decide +kernel
theorem d_UC_infoOf_22 : decode b_UC_infoOf 22 = .ok (.iconst 1, 1) := by decide +kernel
theorem d_UC_infoOf_23 : decode b_UC_infoOf 23 = .ok (.istore 5, 2) := by decide +kernel
theorem d_UC_infoOf_25 : decode b_UC_infoOf 25 = .ok (.iconst 0, 1) := by decide +kernel
theorem d_UC_infoOf_26 : decode b_UC_infoOf 26 = .ok (.istore 6, 2) := by decide +kernel
theorem d_UC_infoOf_28 : decode b_UC_infoOf 28 = .ok (.iload 6, 2) := by decide +kernel
theorem d_UC_infoOf_30 : decode b_UC_infoOf 30 = .ok (.bipush 63, 2) := by decide +kernel
theorem d_UC_infoOf_32 : decode b_UC_infoOf 32 = .ok (.if_icmp .ge 33, 3) := by decide +kernel
theorem d_UC_infoOf_35 : decode b_UC_infoOf 35 = .ok (.iload 5, 2) := by decide +kernel
theorem d_UC_infoOf_37 : decode b_UC_infoOf 37 = .ok (.iload 4, 2) := by decide +kernel
theorem d_UC_infoOf_39 : decode b_UC_infoOf 39 = .ok (.if_icmp .ne 13, 3) := by decide +kernel
theorem d_UC_infoOf_42 : decode b_UC_infoOf 42 = .ok (.lload_n 2, 1) := by decide +kernel
theorem d_UC_infoOf_43 : decode b_UC_infoOf 43 = .ok (.lconst 1, 1) := by decide +kernel
theorem d_UC_infoOf_44 : decode b_UC_infoOf 44 = .ok (.iload 6, 2) := by decide +kernel
theorem d_UC_infoOf_46 : decode b_UC_infoOf 46 = .ok (.lshl, 1) := by decide +kernel
theorem d_UC_infoOf_47 : decode b_UC_infoOf 47 = .ok (.bipush 7, 2) := by decide +kernel
theorem d_UC_infoOf_49 : decode b_UC_infoOf 49 = .ok (.lushr, 1) := by decide +kernel
theorem d_UC_infoOf_50 : decode b_UC_infoOf 50 = .ok (.lxor, 1) := by decide +kernel
theorem d_UC_infoOf_51 : decode b_UC_infoOf 51 = .ok (.lreturn, 1) := by decide +kernel
theorem d_UC_infoOf_52 : decode b_UC_infoOf 52 = .ok (.iload 5, 2) := by decide +kernel
theorem d_UC_infoOf_54 : decode b_UC_infoOf 54 = .ok (.invokestatic 29, 3) := by decide +kernel
theorem d_UC_infoOf_57 : decode b_UC_infoOf 57 = .ok (.istore 5, 2) := by decide +kernel
theorem d_UC_infoOf_59 : decode b_UC_infoOf 59 = .ok (.iinc 6 1, 3) := by decide +kernel
theorem d_UC_infoOf_62 : decode b_UC_infoOf 62 = .ok (.goto (-34), 3) := by decide +kernel
theorem d_UC_infoOf_65 : decode b_UC_infoOf 65 = .ok (.ldc2_w 33, 3) := by decide +kernel
theorem d_UC_infoOf_68 : decode b_UC_infoOf 68 = .ok (.lreturn, 1) := by decide +kernel
theorem d_UC_timesX_0 : decode b_UC_timesX 0 = .ok (.iload_n 0, 1) := by decide +kernel
theorem d_UC_timesX_1 : decode b_UC_timesX 1 = .ok (.iconst 1, 1) := by decide +kernel
theorem d_UC_timesX_2 : decode b_UC_timesX 2 = .ok (.ishl, 1) := by decide +kernel
theorem d_UC_timesX_3 : decode b_UC_timesX 3 = .ok (.istore_n 1, 1) := by decide +kernel
theorem d_UC_timesX_4 : decode b_UC_timesX 4 = .ok (.iload_n 1, 1) := by decide +kernel
theorem d_UC_timesX_5 : decode b_UC_timesX 5 = .ok (.bipush 127, 2) := by decide +kernel
theorem d_UC_timesX_7 : decode b_UC_timesX 7 = .ok (.if_icmp .le 11, 3) := by decide +kernel
theorem d_UC_timesX_10 : decode b_UC_timesX 10 = .ok (.iload_n 1, 1) := by decide +kernel
theorem d_UC_timesX_11 : decode b_UC_timesX 11 = .ok (.sipush 197, 3) := by decide +kernel
theorem d_UC_timesX_14 : decode b_UC_timesX 14 = .ok (.ixor, 1) := by decide +kernel
theorem d_UC_timesX_15 : decode b_UC_timesX 15 = .ok (.goto 4, 3) := by decide +kernel
theorem d_UC_timesX_18 : decode b_UC_timesX 18 = .ok (.iload_n 1, 1) := by decide +kernel
theorem d_UC_timesX_19 : decode b_UC_timesX 19 = .ok (.ireturn, 1) := by decide +kernel
