/-! decode rows -/
theorem d_MD_groundClocks_0 : decode b_MD_groundClocks 0 = .ok (.aload_n 0, 1) := by decide +kernel
theorem d_MD_groundClocks_1 : decode b_MD_groundClocks 1 = .ok (.getfield 48, 3) := by decide +kernel
theorem d_MD_groundClocks_4 : decode b_MD_groundClocks 4 = .ok (.iload_n 1, 1) := by decide +kernel
theorem d_MD_groundClocks_5 : decode b_MD_groundClocks 5 = .ok (.baload, 1) := by decide +kernel
theorem d_MD_groundClocks_6 : decode b_MD_groundClocks 6 = .ok (.ifCond .ne 12, 3) := by decide +kernel
theorem d_MD_groundClocks_9 : decode b_MD_groundClocks 9 = .ok (.aload_n 0, 1) := by decide +kernel
theorem d_MD_groundClocks_10 : decode b_MD_groundClocks 10 = .ok (.getfield 63, 3) := by decide +kernel
theorem d_MD_groundClocks_13 : decode b_MD_groundClocks 13 = .ok (.iload_n 1, 1) := by decide +kernel
theorem d_MD_groundClocks_14 : decode b_MD_groundClocks 14 = .ok (.baload, 1) := by decide +kernel
theorem d_MD_groundClocks_15 : decode b_MD_groundClocks 15 = .ok (.ifCond .eq 4, 3) := by decide +kernel
theorem d_MD_groundClocks_18 : decode b_MD_groundClocks 18 = .ok (.return_, 1) := by decide +kernel
theorem d_MD_groundClocks_19 : decode b_MD_groundClocks 19 = .ok (.aload_n 0, 1) := by decide +kernel
theorem d_MD_groundClocks_20 : decode b_MD_groundClocks 20 = .ok (.getfield 60, 3) := by decide +kernel
theorem d_MD_groundClocks_23 : decode b_MD_groundClocks 23 = .ok (.iload_n 1, 1) := by decide +kernel
theorem d_MD_groundClocks_24 : decode b_MD_groundClocks 24 = .ok (.baload, 1) := by decide +kernel
theorem d_MD_groundClocks_25 : decode b_MD_groundClocks 25 = .ok (.ifCond .eq 31, 3) := by decide +kernel
theorem d_MD_groundClocks_28 : decode b_MD_groundClocks 28 = .ok (.aload_n 0, 1) := by decide +kernel
theorem d_MD_groundClocks_29 : decode b_MD_groundClocks 29 = .ok (.getfield 75, 3) := by decide +kernel
theorem d_MD_groundClocks_32 : decode b_MD_groundClocks 32 = .ok (.iload_n 1, 1) := by decide +kernel
theorem d_MD_groundClocks_33 : decode b_MD_groundClocks 33 = .ok (.dup2, 1) := by decide +kernel
theorem d_MD_groundClocks_34 : decode b_MD_groundClocks 34 = .ok (.iaload, 1) := by decide +kernel
theorem d_MD_groundClocks_35 : decode b_MD_groundClocks 35 = .ok (.iconst 1, 1) := by decide +kernel
theorem d_MD_groundClocks_36 : decode b_MD_groundClocks 36 = .ok (.isub, 1) := by decide +kernel
theorem d_MD_groundClocks_37 : decode b_MD_groundClocks 37 = .ok (.iastore, 1) := by decide +kernel
theorem d_MD_groundClocks_38 : decode b_MD_groundClocks 38 = .ok (.aload_n 0, 1) := by decide +kernel
theorem d_MD_groundClocks_39 : decode b_MD_groundClocks 39 = .ok (.getfield 75, 3) := by decide +kernel
theorem d_MD_groundClocks_42 : decode b_MD_groundClocks 42 = .ok (.iload_n 1, 1) := by decide +kernel
theorem d_MD_groundClocks_43 : decode b_MD_groundClocks 43 = .ok (.iaload, 1) := by decide +kernel
theorem d_MD_groundClocks_44 : decode b_MD_groundClocks 44 = .ok (.ifCond .ne 83, 3) := by decide +kernel
theorem d_MD_groundClocks_47 : decode b_MD_groundClocks 47 = .ok (.aload_n 0, 1) := by decide +kernel
theorem d_MD_groundClocks_48 : decode b_MD_groundClocks 48 = .ok (.iload_n 1, 1) := by decide +kernel
theorem d_MD_groundClocks_49 : decode b_MD_groundClocks 49 = .ok (.iconst 4, 1) := by decide +kernel
theorem d_MD_groundClocks_50 : decode b_MD_groundClocks 50 = .ok (.invokevirtual 315, 3) := by decide +kernel
theorem d_MD_groundClocks_53 : decode b_MD_groundClocks 53 = .ok (.goto 74, 3) := by decide +kernel
theorem d_MD_groundClocks_56 : decode b_MD_groundClocks 56 = .ok (.aload_n 0, 1) := by decide +kernel
theorem d_MD_groundClocks_57 : decode b_MD_groundClocks 57 = .ok (.getfield 66, 3) := by decide +kernel
theorem d_MD_groundClocks_60 : decode b_MD_groundClocks 60 = .ok (.iload_n 1, 1) := by decide +kernel
theorem d_MD_groundClocks_61 : decode b_MD_groundClocks 61 = .ok (.baload, 1) := by decide +kernel
theorem d_MD_groundClocks_62 : decode b_MD_groundClocks 62 = .ok (.ifCond .eq 65, 3) := by decide +kernel
theorem d_MD_groundClocks_65 : decode b_MD_groundClocks 65 = .ok (.aload_n 0, 1) := by decide +kernel
theorem d_MD_groundClocks_66 : decode b_MD_groundClocks 66 = .ok (.getfield 72, 3) := by decide +kernel
theorem d_MD_groundClocks_69 : decode b_MD_groundClocks 69 = .ok (.iload_n 1, 1) := by decide +kernel
theorem d_MD_groundClocks_70 : decode b_MD_groundClocks 70 = .ok (.dup2, 1) := by decide +kernel
theorem d_MD_groundClocks_71 : decode b_MD_groundClocks 71 = .ok (.iaload, 1) := by decide +kernel
theorem d_MD_groundClocks_72 : decode b_MD_groundClocks 72 = .ok (.iconst 1, 1) := by decide +kernel
theorem d_MD_groundClocks_73 : decode b_MD_groundClocks 73 = .ok (.isub, 1) := by decide +kernel
theorem d_MD_groundClocks_74 : decode b_MD_groundClocks 74 = .ok (.iastore, 1) := by decide +kernel
theorem d_MD_groundClocks_75 : decode b_MD_groundClocks 75 = .ok (.aload_n 0, 1) := by decide +kernel
theorem d_MD_groundClocks_76 : decode b_MD_groundClocks 76 = .ok (.getfield 72, 3) := by decide +kernel
theorem d_MD_groundClocks_79 : decode b_MD_groundClocks 79 = .ok (.iload_n 1, 1) := by decide +kernel
theorem d_MD_groundClocks_80 : decode b_MD_groundClocks 80 = .ok (.iaload, 1) := by decide +kernel
theorem d_MD_groundClocks_81 : decode b_MD_groundClocks 81 = .ok (.ifCond .ne 22, 3) := by decide +kernel
theorem d_MD_groundClocks_84 : decode b_MD_groundClocks 84 = .ok (.aload_n 0, 1) := by decide +kernel
theorem d_MD_groundClocks_85 : decode b_MD_groundClocks 85 = .ok (.getfield 69, 3) := by decide +kernel
theorem d_MD_groundClocks_88 : decode b_MD_groundClocks 88 = .ok (.iload_n 1, 1) := by decide +kernel
theorem d_MD_groundClocks_89 : decode b_MD_groundClocks 89 = .ok (.iaload, 1) := by decide +kernel
theorem d_MD_groundClocks_90 : decode b_MD_groundClocks 90 = .ok (.iconst 4, 1) := by decide +kernel
theorem d_MD_groundClocks_91 : decode b_MD_groundClocks 91 = .ok (.if_icmp .ne 12, 3) := by decide +kernel
theorem d_MD_groundClocks_94 : decode b_MD_groundClocks 94 = .ok (.aload_n 0, 1) := by decide +kernel
theorem d_MD_groundClocks_95 : decode b_MD_groundClocks 95 = .ok (.iload_n 1, 1) := by decide +kernel
theorem d_MD_groundClocks_96 : decode b_MD_groundClocks 96 = .ok (.iconst 3, 1) := by decide +kernel
theorem d_MD_groundClocks_97 : decode b_MD_groundClocks 97 = .ok (.invokevirtual 315, 3) := by decide +kernel
theorem d_MD_groundClocks_100 : decode b_MD_groundClocks 100 = .ok (.goto 27, 3) := by decide +kernel
theorem d_MD_groundClocks_103 : decode b_MD_groundClocks 103 = .ok (.aload_n 0, 1) := by decide +kernel
theorem d_MD_groundClocks_104 : decode b_MD_groundClocks 104 = .ok (.getfield 72, 3) := by decide +kernel
theorem d_MD_groundClocks_107 : decode b_MD_groundClocks 107 = .ok (.iload_n 1, 1) := by decide +kernel
theorem d_MD_groundClocks_108 : decode b_MD_groundClocks 108 = .ok (.iaload, 1) := by decide +kernel
theorem d_MD_groundClocks_109 : decode b_MD_groundClocks 109 = .ok (.ifCond .ne 18, 3) := by decide +kernel
theorem d_MD_groundClocks_112 : decode b_MD_groundClocks 112 = .ok (.aload_n 0, 1) := by decide +kernel
theorem d_MD_groundClocks_113 : decode b_MD_groundClocks 113 = .ok (.getfield 69, 3) := by decide +kernel
theorem d_MD_groundClocks_116 : decode b_MD_groundClocks 116 = .ok (.iload_n 1, 1) := by decide +kernel
theorem d_MD_groundClocks_117 : decode b_MD_groundClocks 117 = .ok (.dup2, 1) := by decide +kernel
theorem d_MD_groundClocks_118 : decode b_MD_groundClocks 118 = .ok (.iaload, 1) := by decide +kernel
theorem d_MD_groundClocks_119 : decode b_MD_groundClocks 119 = .ok (.iconst 1, 1) := by decide +kernel
theorem d_MD_groundClocks_120 : decode b_MD_groundClocks 120 = .ok (.iadd, 1) := by decide +kernel
theorem d_MD_groundClocks_121 : decode b_MD_groundClocks 121 = .ok (.iastore, 1) := by decide +kernel
theorem d_MD_groundClocks_122 : decode b_MD_groundClocks 122 = .ok (.aload_n 0, 1) := by decide +kernel
theorem d_MD_groundClocks_123 : decode b_MD_groundClocks 123 = .ok (.iload_n 1, 1) := by decide +kernel
theorem d_MD_groundClocks_124 : decode b_MD_groundClocks 124 = .ok (.invokevirtual 318, 3) := by decide +kernel
theorem d_MD_groundClocks_127 : decode b_MD_groundClocks 127 = .ok (.return_, 1) := by decide +kernel
theorem d_MD_makeEndDue_0 : decode b_MD_makeEndDue 0 = .ok (.aload_n 0, 1) := by decide +kernel
theorem d_MD_makeEndDue_1 : decode b_MD_makeEndDue 1 = .ok (.getfield 54, 3) := by decide +kernel
theorem d_MD_makeEndDue_4 : decode b_MD_makeEndDue 4 = .ok (.iload_n 1, 1) := by decide +kernel
theorem d_MD_makeEndDue_5 : decode b_MD_makeEndDue 5 = .ok (.aload_n 0, 1) := by decide +kernel
theorem d_MD_makeEndDue_6 : decode b_MD_makeEndDue 6 = .ok (.getfield 54, 3) := by decide +kernel
theorem d_MD_makeEndDue_9 : decode b_MD_makeEndDue 9 = .ok (.iload_n 1, 1) := by decide +kernel
theorem d_MD_makeEndDue_10 : decode b_MD_makeEndDue 10 = .ok (.iaload, 1) := by decide +kernel
theorem d_MD_makeEndDue_11 : decode b_MD_makeEndDue 11 = .ok (.ldc_w 321, 3) := by decide +kernel
theorem d_MD_makeEndDue_14 : decode b_MD_makeEndDue 14 = .ok (.ior, 1) := by decide +kernel
theorem d_MD_makeEndDue_15 : decode b_MD_makeEndDue 15 = .ok (.iastore, 1) := by decide +kernel
theorem d_MD_makeEndDue_16 : decode b_MD_makeEndDue 16 = .ok (.aload_n 0, 1) := by decide +kernel
theorem d_MD_makeEndDue_17 : decode b_MD_makeEndDue 17 = .ok (.getfield 66, 3) := by decide +kernel
theorem d_MD_makeEndDue_20 : decode b_MD_makeEndDue 20 = .ok (.iload_n 1, 1) := by decide +kernel
theorem d_MD_makeEndDue_21 : decode b_MD_makeEndDue 21 = .ok (.iconst 0, 1) := by decide +kernel
theorem d_MD_makeEndDue_22 : decode b_MD_makeEndDue 22 = .ok (.bastore, 1) := by decide +kernel
theorem d_MD_makeEndDue_23 : decode b_MD_makeEndDue 23 = .ok (.return_, 1) := by decide +kernel
theorem d_MD_sendUp_0 : decode b_MD_sendUp 0 = .ok (.aload_n 0, 1) := by decide +kernel
theorem d_MD_sendUp_1 : decode b_MD_sendUp 1 = .ok (.iconst 1, 1) := by decide +kernel
theorem d_MD_sendUp_2 : decode b_MD_sendUp 2 = .ok (.lload_n 1, 1) := by decide +kernel
theorem d_MD_sendUp_3 : decode b_MD_sendUp 3 = .ok (.invokevirtual 274, 3) := by decide +kernel
theorem d_MD_sendUp_6 : decode b_MD_sendUp 6 = .ok (.lstore_n 3, 1) := by decide +kernel
theorem d_MD_sendUp_7 : decode b_MD_sendUp 7 = .ok (.aload_n 0, 1) := by decide +kernel
theorem d_MD_sendUp_8 : decode b_MD_sendUp 8 = .ok (.iconst 0, 1) := by decide +kernel
theorem d_MD_sendUp_9 : decode b_MD_sendUp 9 = .ok (.lload_n 3, 1) := by decide +kernel
theorem d_MD_sendUp_10 : decode b_MD_sendUp 10 = .ok (.invokevirtual 277, 3) := by decide +kernel
theorem d_MD_sendUp_13 : decode b_MD_sendUp 13 = .ok (.return_, 1) := by decide +kernel
theorem d_MD_firstDue_0 : decode b_MD_firstDue 0 = .ok (.iload_n 1, 1) := by decide +kernel
theorem d_MD_firstDue_1 : decode b_MD_firstDue 1 = .ok (.bipush 18, 2) := by decide +kernel
theorem d_MD_firstDue_3 : decode b_MD_firstDue 3 = .ok (.ishr, 1) := by decide +kernel
theorem d_MD_firstDue_4 : decode b_MD_firstDue 4 = .ok (.iconst 1, 1) := by decide +kernel
theorem d_MD_firstDue_5 : decode b_MD_firstDue 5 = .ok (.iand, 1) := by decide +kernel
theorem d_MD_firstDue_6 : decode b_MD_firstDue 6 = .ok (.ifCond .eq 6, 3) := by decide +kernel
theorem d_MD_firstDue_9 : decode b_MD_firstDue 9 = .ok (.bipush 18, 2) := by decide +kernel
theorem d_MD_firstDue_11 : decode b_MD_firstDue 11 = .ok (.ireturn, 1) := by decide +kernel
theorem d_MD_firstDue_12 : decode b_MD_firstDue 12 = .ok (.iload_n 1, 1) := by decide +kernel
theorem d_MD_firstDue_13 : decode b_MD_firstDue 13 = .ok (.bipush 16, 2) := by decide +kernel
theorem d_MD_firstDue_15 : decode b_MD_firstDue 15 = .ok (.ishr, 1) := by decide +kernel
theorem d_MD_firstDue_16 : decode b_MD_firstDue 16 = .ok (.iconst 1, 1) := by decide +kernel
theorem d_MD_firstDue_17 : decode b_MD_firstDue 17 = .ok (.iand, 1) := by decide +kernel
theorem d_MD_firstDue_18 : decode b_MD_firstDue 18 = .ok (.ifCond .eq 6, 3) := by decide +kernel
theorem d_MD_firstDue_21 : decode b_MD_firstDue 21 = .ok (.bipush 16, 2) := by decide +kernel
theorem d_MD_firstDue_23 : decode b_MD_firstDue 23 = .ok (.ireturn, 1) := by decide +kernel
theorem d_MD_firstDue_24 : decode b_MD_firstDue 24 = .ok (.iconst 0, 1) := by decide +kernel
theorem d_MD_firstDue_25 : decode b_MD_firstDue 25 = .ok (.istore_n 2, 1) := by decide +kernel
theorem d_MD_firstDue_26 : decode b_MD_firstDue 26 = .ok (.iload_n 2, 1) := by decide +kernel
theorem d_MD_firstDue_27 : decode b_MD_firstDue 27 = .ok (.bipush 17, 2) := by decide +kernel
theorem d_MD_firstDue_29 : decode b_MD_firstDue 29 = .ok (.if_icmp .ge 17, 3) := by decide +kernel
theorem d_MD_firstDue_32 : decode b_MD_firstDue 32 = .ok (.iload_n 1, 1) := by decide +kernel
theorem d_MD_firstDue_33 : decode b_MD_firstDue 33 = .ok (.iload_n 2, 1) := by decide +kernel
theorem d_MD_firstDue_34 : decode b_MD_firstDue 34 = .ok (.ishr, 1) := by decide +kernel
theorem d_MD_firstDue_35 : decode b_MD_firstDue 35 = .ok (.iconst 1, 1) := by decide +kernel
theorem d_MD_firstDue_36 : decode b_MD_firstDue 36 = .ok (.iand, 1) := by decide +kernel
theorem d_MD_firstDue_37 : decode b_MD_firstDue 37 = .ok (.ifCond .ne 9, 3) := by decide +kernel
theorem d_MD_firstDue_40 : decode b_MD_firstDue 40 = .ok (.iinc 2 1, 3) := by decide +kernel
theorem d_MD_firstDue_43 : decode b_MD_firstDue 43 = .ok (.goto (-17), 3) := by decide +kernel
theorem d_MD_firstDue_46 : decode b_MD_firstDue 46 = .ok (.iload_n 2, 1) := by decide +kernel
theorem d_MD_firstDue_47 : decode b_MD_firstDue 47 = .ok (.ireturn, 1) := by decide +kernel
theorem d_MD_checksum_0 : decode b_MD_checksum 0 = .ok (.iconst 0, 1) := by decide +kernel
theorem d_MD_checksum_1 : decode b_MD_checksum 1 = .ok (.istore_n 2, 1) := by decide +kernel
theorem d_MD_checksum_2 : decode b_MD_checksum 2 = .ok (.iconst 0, 1) := by decide +kernel
theorem d_MD_checksum_3 : decode b_MD_checksum 3 = .ok (.istore_n 3, 1) := by decide +kernel
theorem d_MD_checksum_4 : decode b_MD_checksum 4 = .ok (.iload_n 3, 1) := by decide +kernel
theorem d_MD_checksum_5 : decode b_MD_checksum 5 = .ok (.aload_n 0, 1) := by decide +kernel
theorem d_MD_checksum_6 : decode b_MD_checksum 6 = .ok (.getfield 39, 3) := by decide +kernel
theorem d_MD_checksum_9 : decode b_MD_checksum 9 = .ok (.iload_n 1, 1) := by decide +kernel
theorem d_MD_checksum_10 : decode b_MD_checksum 10 = .ok (.iaload, 1) := by decide +kernel
theorem d_MD_checksum_11 : decode b_MD_checksum 11 = .ok (.if_icmp .ge 23, 3) := by decide +kernel
theorem d_MD_checksum_14 : decode b_MD_checksum 14 = .ok (.iload_n 2, 1) := by decide +kernel
theorem d_MD_checksum_15 : decode b_MD_checksum 15 = .ok (.aload_n 0, 1) := by decide +kernel
theorem d_MD_checksum_16 : decode b_MD_checksum 16 = .ok (.getfield 36, 3) := by decide +kernel
theorem d_MD_checksum_19 : decode b_MD_checksum 19 = .ok (.bipush 16, 2) := by decide +kernel
theorem d_MD_checksum_21 : decode b_MD_checksum 21 = .ok (.iload_n 1, 1) := by decide +kernel
theorem d_MD_checksum_22 : decode b_MD_checksum 22 = .ok (.imul, 1) := by decide +kernel
theorem d_MD_checksum_23 : decode b_MD_checksum 23 = .ok (.iload_n 3, 1) := by decide +kernel
theorem d_MD_checksum_24 : decode b_MD_checksum 24 = .ok (.iadd, 1) := by decide +kernel
theorem d_MD_checksum_25 : decode b_MD_checksum 25 = .ok (.iaload, 1) := by decide +kernel
theorem d_MD_checksum_26 : decode b_MD_checksum 26 = .ok (.iadd, 1) := by decide +kernel
theorem d_MD_checksum_27 : decode b_MD_checksum 27 = .ok (.istore_n 2, 1) := by decide +kernel
theorem d_MD_checksum_28 : decode b_MD_checksum 28 = .ok (.iinc 3 1, 3) := by decide +kernel
theorem d_MD_checksum_31 : decode b_MD_checksum 31 = .ok (.goto (-27), 3) := by decide +kernel
theorem d_MD_checksum_34 : decode b_MD_checksum 34 = .ok (.iload_n 2, 1) := by decide +kernel
theorem d_MD_checksum_35 : decode b_MD_checksum 35 = .ok (.ireturn, 1) := by decide +kernel
theorem d_MD_outside_0 : decode b_MD_outside 0 = .ok (.iload_n 0, 1) := by decide +kernel
theorem d_MD_outside_1 : decode b_MD_outside 1 = .ok (.ifCond .lt 8, 3) := by decide +kernel
theorem d_MD_outside_4 : decode b_MD_outside 4 = .ok (.iload_n 0, 1) := by decide +kernel
theorem d_MD_outside_5 : decode b_MD_outside 5 = .ok (.iload_n 1, 1) := by decide +kernel
theorem d_MD_outside_6 : decode b_MD_outside 6 = .ok (.if_icmp .le 7, 3) := by decide +kernel
theorem d_MD_outside_9 : decode b_MD_outside 9 = .ok (.iconst 1, 1) := by decide +kernel
theorem d_MD_outside_10 : decode b_MD_outside 10 = .ok (.goto 4, 3) := by decide +kernel
theorem d_MD_outside_13 : decode b_MD_outside 13 = .ok (.iconst 0, 1) := by decide +kernel
theorem d_MD_outside_14 : decode b_MD_outside 14 = .ok (.ireturn, 1) := by decide +kernel
theorem d_MD_write_0 : decode b_MD_write 0 = .ok (.iload_n 1, 1) := by decide +kernel
theorem d_MD_write_1 : decode b_MD_write 1 = .ok (.iconst 3, 1) := by decide +kernel
theorem d_MD_write_2 : decode b_MD_write 2 = .ok (.invokestatic 342, 3) := by decide +kernel
theorem d_MD_write_5 : decode b_MD_write 5 = .ok (.ifCond .ne 12, 3) := by decide +kernel
theorem d_MD_write_8 : decode b_MD_write 8 = .ok (.iload_n 2, 1) := by decide +kernel
theorem d_MD_write_9 : decode b_MD_write 9 = .ok (.bipush 15, 2) := by decide +kernel
theorem d_MD_write_11 : decode b_MD_write 11 = .ok (.invokestatic 342, 3) := by decide +kernel
theorem d_MD_write_14 : decode b_MD_write 14 = .ok (.ifCond .eq 5, 3) := by decide +kernel
theorem d_MD_write_17 : decode b_MD_write 17 = .ok (.iconst 0, 1) := by decide +kernel
theorem d_MD_write_18 : decode b_MD_write 18 = .ok (.ireturn, 1) := by decide +kernel
theorem d_MD_write_19 : decode b_MD_write 19 = .ok (.aload_n 0, 1) := by decide +kernel
theorem d_MD_write_20 : decode b_MD_write 20 = .ok (.getfield 33, 3) := by decide +kernel
theorem d_MD_write_23 : decode b_MD_write 23 = .ok (.bipush 16, 2) := by decide +kernel
theorem d_MD_write_25 : decode b_MD_write 25 = .ok (.iload_n 1, 1) := by decide +kernel
theorem d_MD_write_26 : decode b_MD_write 26 = .ok (.imul, 1) := by decide +kernel
theorem d_MD_write_27 : decode b_MD_write 27 = .ok (.iload_n 2, 1) := by decide +kernel
theorem d_MD_write_28 : decode b_MD_write 28 = .ok (.iadd, 1) := by decide +kernel
theorem d_MD_write_29 : decode b_MD_write 29 = .ok (.iload_n 3, 1) := by decide +kernel
theorem d_MD_write_30 : decode b_MD_write 30 = .ok (.iastore, 1) := by decide +kernel
theorem d_MD_write_31 : decode b_MD_write 31 = .ok (.iconst 1, 1) := by decide +kernel
theorem d_MD_write_32 : decode b_MD_write 32 = .ok (.ireturn, 1) := by decide +kernel
theorem d_MD_put_0 : decode b_MD_put 0 = .ok (.iload_n 1, 1) := by decide +kernel
theorem d_MD_put_1 : decode b_MD_put 1 = .ok (.iconst 3, 1) := by decide +kernel
theorem d_MD_put_2 : decode b_MD_put 2 = .ok (.invokestatic 342, 3) := by decide +kernel
theorem d_MD_put_5 : decode b_MD_put 5 = .ok (.ifCond .ne 29, 3) := by decide +kernel
theorem d_MD_put_8 : decode b_MD_put 8 = .ok (.iload_n 2, 1) := by decide +kernel
theorem d_MD_put_9 : decode b_MD_put 9 = .ok (.bipush 16, 2) := by decide +kernel
theorem d_MD_put_11 : decode b_MD_put 11 = .ok (.invokestatic 342, 3) := by decide +kernel
theorem d_MD_put_14 : decode b_MD_put 14 = .ok (.ifCond .ne 20, 3) := by decide +kernel
theorem d_MD_put_17 : decode b_MD_put 17 = .ok (.iload_n 3, 1) := by decide +kernel
theorem d_MD_put_18 : decode b_MD_put 18 = .ok (.iconst 3, 1) := by decide +kernel
theorem d_MD_put_19 : decode b_MD_put 19 = .ok (.invokestatic 342, 3) := by decide +kernel
theorem d_MD_put_22 : decode b_MD_put 22 = .ok (.ifCond .ne 12, 3) := by decide +kernel
theorem d_MD_put_25 : decode b_MD_put 25 = .ok (.aload_n 0, 1) := by decide +kernel
theorem d_MD_put_26 : decode b_MD_put 26 = .ok (.getfield 225, 3) := by decide +kernel
theorem d_MD_put_29 : decode b_MD_put 29 = .ok (.bipush 16, 2) := by decide +kernel
theorem d_MD_put_31 : decode b_MD_put 31 = .ok (.if_icmp .ne 5, 3) := by decide +kernel
theorem d_MD_put_34 : decode b_MD_put 34 = .ok (.iconst (-1), 1) := by decide +kernel
theorem d_MD_put_35 : decode b_MD_put 35 = .ok (.ireturn, 1) := by decide +kernel
theorem d_MD_put_36 : decode b_MD_put 36 = .ok (.aload_n 0, 1) := by decide +kernel
theorem d_MD_put_37 : decode b_MD_put 37 = .ok (.getfield 225, 3) := by decide +kernel
theorem d_MD_put_40 : decode b_MD_put 40 = .ok (.istore 5, 2) := by decide +kernel
theorem d_MD_put_42 : decode b_MD_put 42 = .ok (.aload_n 0, 1) := by decide +kernel
theorem d_MD_put_43 : decode b_MD_put 43 = .ok (.dup, 1) := by decide +kernel
theorem d_MD_put_44 : decode b_MD_put 44 = .ok (.getfield 225, 3) := by decide +kernel
theorem d_MD_put_47 : decode b_MD_put 47 = .ok (.iconst 1, 1) := by decide +kernel
theorem d_MD_put_48 : decode b_MD_put 48 = .ok (.iadd, 1) := by decide +kernel
theorem d_MD_put_49 : decode b_MD_put 49 = .ok (.putfield 225, 3) := by decide +kernel
theorem d_MD_put_52 : decode b_MD_put 52 = .ok (.iconst 0, 1) := by decide +kernel
theorem d_MD_put_53 : decode b_MD_put 53 = .ok (.istore 6, 2) := by decide +kernel
theorem d_MD_put_55 : decode b_MD_put 55 = .ok (.iload 6, 2) := by decide +kernel
theorem d_MD_put_57 : decode b_MD_put 57 = .ok (.iload_n 2, 1) := by decide +kernel
theorem d_MD_put_58 : decode b_MD_put 58 = .ok (.if_icmp .ge 34, 3) := by decide +kernel
theorem d_MD_put_61 : decode b_MD_put 61 = .ok (.aload_n 0, 1) := by decide +kernel
theorem d_MD_put_62 : decode b_MD_put 62 = .ok (.getfield 36, 3) := by decide +kernel
theorem d_MD_put_65 : decode b_MD_put 65 = .ok (.bipush 16, 2) := by decide +kernel
theorem d_MD_put_67 : decode b_MD_put 67 = .ok (.iload 5, 2) := by decide +kernel
theorem d_MD_put_69 : decode b_MD_put 69 = .ok (.imul, 1) := by decide +kernel
theorem d_MD_put_70 : decode b_MD_put 70 = .ok (.iload 6, 2) := by decide +kernel
theorem d_MD_put_72 : decode b_MD_put 72 = .ok (.iadd, 1) := by decide +kernel
theorem d_MD_put_73 : decode b_MD_put 73 = .ok (.aload_n 0, 1) := by decide +kernel
theorem d_MD_put_74 : decode b_MD_put 74 = .ok (.getfield 33, 3) := by decide +kernel
theorem d_MD_put_77 : decode b_MD_put 77 = .ok (.bipush 16, 2) := by decide +kernel
theorem d_MD_put_79 : decode b_MD_put 79 = .ok (.iload_n 1, 1) := by decide +kernel
theorem d_MD_put_80 : decode b_MD_put 80 = .ok (.imul, 1) := by decide +kernel
theorem d_MD_put_81 : decode b_MD_put 81 = .ok (.iload 6, 2) := by decide +kernel
theorem d_MD_put_83 : decode b_MD_put 83 = .ok (.iadd, 1) := by decide +kernel
theorem d_MD_put_84 : decode b_MD_put 84 = .ok (.iaload, 1) := by decide +kernel
theorem d_MD_put_85 : decode b_MD_put 85 = .ok (.iastore, 1) := by decide +kernel
theorem d_MD_put_86 : decode b_MD_put 86 = .ok (.iinc 6 1, 3) := by decide +kernel
theorem d_MD_put_89 : decode b_MD_put 89 = .ok (.goto (-34), 3) := by decide +kernel
theorem d_MD_put_92 : decode b_MD_put 92 = .ok (.aload_n 0, 1) := by decide +kernel
theorem d_MD_put_93 : decode b_MD_put 93 = .ok (.getfield 39, 3) := by decide +kernel
theorem d_MD_put_96 : decode b_MD_put 96 = .ok (.iload 5, 2) := by decide +kernel
theorem d_MD_put_98 : decode b_MD_put 98 = .ok (.iload_n 2, 1) := by decide +kernel
theorem d_MD_put_99 : decode b_MD_put 99 = .ok (.iastore, 1) := by decide +kernel
theorem d_MD_put_100 : decode b_MD_put 100 = .ok (.aload_n 0, 1) := by decide +kernel
theorem d_MD_put_101 : decode b_MD_put 101 = .ok (.getfield 42, 3) := by decide +kernel
theorem d_MD_put_104 : decode b_MD_put 104 = .ok (.iload 5, 2) := by decide +kernel
theorem d_MD_put_106 : decode b_MD_put 106 = .ok (.iload_n 3, 1) := by decide +kernel
theorem d_MD_put_107 : decode b_MD_put 107 = .ok (.iastore, 1) := by decide +kernel
theorem d_MD_put_108 : decode b_MD_put 108 = .ok (.aload_n 0, 1) := by decide +kernel
theorem d_MD_put_109 : decode b_MD_put 109 = .ok (.getfield 45, 3) := by decide +kernel
theorem d_MD_put_112 : decode b_MD_put 112 = .ok (.iload 5, 2) := by decide +kernel
theorem d_MD_put_114 : decode b_MD_put 114 = .ok (.iload 4, 2) := by decide +kernel
theorem d_MD_put_116 : decode b_MD_put 116 = .ok (.bastore, 1) := by decide +kernel
theorem d_MD_put_117 : decode b_MD_put 117 = .ok (.aload_n 0, 1) := by decide +kernel
theorem d_MD_put_118 : decode b_MD_put 118 = .ok (.getfield 54, 3) := by decide +kernel
theorem d_MD_put_121 : decode b_MD_put 121 = .ok (.iload 5, 2) := by decide +kernel
theorem d_MD_put_123 : decode b_MD_put 123 = .ok (.iconst 1, 1) := by decide +kernel
theorem d_MD_put_124 : decode b_MD_put 124 = .ok (.iload_n 2, 1) := by decide +kernel
theorem d_MD_put_125 : decode b_MD_put 125 = .ok (.ishl, 1) := by decide +kernel
theorem d_MD_put_126 : decode b_MD_put 126 = .ok (.iconst 1, 1) := by decide +kernel
theorem d_MD_put_127 : decode b_MD_put 127 = .ok (.isub, 1) := by decide +kernel
theorem d_MD_put_128 : decode b_MD_put 128 = .ok (.ldc_w 263, 3) := by decide +kernel
theorem d_MD_put_131 : decode b_MD_put 131 = .ok (.ior, 1) := by decide +kernel
theorem d_MD_put_132 : decode b_MD_put 132 = .ok (.ldc_w 321, 3) := by decide +kernel
theorem d_MD_put_135 : decode b_MD_put 135 = .ok (.ior, 1) := by decide +kernel
theorem d_MD_put_136 : decode b_MD_put 136 = .ok (.iastore, 1) := by decide +kernel
theorem d_MD_put_137 : decode b_MD_put 137 = .ok (.aload_n 0, 1) := by decide +kernel
theorem d_MD_put_138 : decode b_MD_put 138 = .ok (.getfield 69, 3) := by decide +kernel
theorem d_MD_put_141 : decode b_MD_put 141 = .ok (.iload 5, 2) := by decide +kernel
theorem d_MD_put_143 : decode b_MD_put 143 = .ok (.iconst 1, 1) := by decide +kernel
theorem d_MD_put_144 : decode b_MD_put 144 = .ok (.iastore, 1) := by decide +kernel
theorem d_MD_put_145 : decode b_MD_put 145 = .ok (.iload 5, 2) := by decide +kernel
theorem d_MD_put_147 : decode b_MD_put 147 = .ok (.ireturn, 1) := by decide +kernel
theorem d_MD_running_0 : decode b_MD_running 0 = .ok (.iload_n 1, 1) := by decide +kernel
theorem d_MD_running_1 : decode b_MD_running 1 = .ok (.ifCond .lt 24, 3) := by decide +kernel
theorem d_MD_running_4 : decode b_MD_running 4 = .ok (.iload_n 1, 1) := by decide +kernel
theorem d_MD_running_5 : decode b_MD_running 5 = .ok (.aload_n 0, 1) := by decide +kernel
theorem d_MD_running_6 : decode b_MD_running 6 = .ok (.getfield 225, 3) := by decide +kernel
theorem d_MD_running_9 : decode b_MD_running 9 = .ok (.if_icmp .ge 16, 3) := by decide +kernel
theorem d_MD_running_12 : decode b_MD_running 12 = .ok (.aload_n 0, 1) := by decide +kernel
theorem d_MD_running_13 : decode b_MD_running 13 = .ok (.getfield 48, 3) := by decide +kernel
theorem d_MD_running_16 : decode b_MD_running 16 = .ok (.iload_n 1, 1) := by decide +kernel
theorem d_MD_running_17 : decode b_MD_running 17 = .ok (.baload, 1) := by decide +kernel
theorem d_MD_running_18 : decode b_MD_running 18 = .ok (.ifCond .ne 7, 3) := by decide +kernel
theorem d_MD_running_21 : decode b_MD_running 21 = .ok (.iconst 1, 1) := by decide +kernel
theorem d_MD_running_22 : decode b_MD_running 22 = .ok (.goto 4, 3) := by decide +kernel
theorem d_MD_running_25 : decode b_MD_running 25 = .ok (.iconst 0, 1) := by decide +kernel
theorem d_MD_running_26 : decode b_MD_running 26 = .ok (.ireturn, 1) := by decide +kernel
theorem d_MD_cancel_0 : decode b_MD_cancel 0 = .ok (.aload_n 0, 1) := by decide +kernel
theorem d_MD_cancel_1 : decode b_MD_cancel 1 = .ok (.iload_n 1, 1) := by decide +kernel
theorem d_MD_cancel_2 : decode b_MD_cancel 2 = .ok (.invokevirtual 346, 3) := by decide +kernel
theorem d_MD_cancel_5 : decode b_MD_cancel 5 = .ok (.ifCond .eq 12, 3) := by decide +kernel
theorem d_MD_cancel_8 : decode b_MD_cancel 8 = .ok (.aload_n 0, 1) := by decide +kernel
theorem d_MD_cancel_9 : decode b_MD_cancel 9 = .ok (.getfield 57, 3) := by decide +kernel
theorem d_MD_cancel_12 : decode b_MD_cancel 12 = .ok (.iload_n 1, 1) := by decide +kernel
theorem d_MD_cancel_13 : decode b_MD_cancel 13 = .ok (.baload, 1) := by decide +kernel
theorem d_MD_cancel_14 : decode b_MD_cancel 14 = .ok (.ifCond .eq 5, 3) := by decide +kernel
theorem d_MD_cancel_17 : decode b_MD_cancel 17 = .ok (.iconst 0, 1) := by decide +kernel
theorem d_MD_cancel_18 : decode b_MD_cancel 18 = .ok (.ireturn, 1) := by decide +kernel
theorem d_MD_cancel_19 : decode b_MD_cancel 19 = .ok (.aload_n 0, 1) := by decide +kernel
theorem d_MD_cancel_20 : decode b_MD_cancel 20 = .ok (.getfield 57, 3) := by decide +kernel
theorem d_MD_cancel_23 : decode b_MD_cancel 23 = .ok (.iload_n 1, 1) := by decide +kernel
theorem d_MD_cancel_24 : decode b_MD_cancel 24 = .ok (.iconst 1, 1) := by decide +kernel
theorem d_MD_cancel_25 : decode b_MD_cancel 25 = .ok (.bastore, 1) := by decide +kernel
theorem d_MD_cancel_26 : decode b_MD_cancel 26 = .ok (.aload_n 0, 1) := by decide +kernel
theorem d_MD_cancel_27 : decode b_MD_cancel 27 = .ok (.getfield 54, 3) := by decide +kernel
theorem d_MD_cancel_30 : decode b_MD_cancel 30 = .ok (.iload_n 1, 1) := by decide +kernel
theorem d_MD_cancel_31 : decode b_MD_cancel 31 = .ok (.iconst 0, 1) := by decide +kernel
theorem d_MD_cancel_32 : decode b_MD_cancel 32 = .ok (.iastore, 1) := by decide +kernel
theorem d_MD_cancel_33 : decode b_MD_cancel 33 = .ok (.aload_n 0, 1) := by decide +kernel
theorem d_MD_cancel_34 : decode b_MD_cancel 34 = .ok (.iload_n 1, 1) := by decide +kernel
theorem d_MD_cancel_35 : decode b_MD_cancel 35 = .ok (.invokevirtual 318, 3) := by decide +kernel
theorem d_MD_cancel_38 : decode b_MD_cancel 38 = .ok (.aload_n 0, 1) := by decide +kernel
theorem d_MD_cancel_39 : decode b_MD_cancel 39 = .ok (.getfield 69, 3) := by decide +kernel
theorem d_MD_cancel_42 : decode b_MD_cancel 42 = .ok (.iload_n 1, 1) := by decide +kernel
theorem d_MD_cancel_43 : decode b_MD_cancel 43 = .ok (.iconst 1, 1) := by decide +kernel
theorem d_MD_cancel_44 : decode b_MD_cancel 44 = .ok (.iastore, 1) := by decide +kernel
theorem d_MD_cancel_45 : decode b_MD_cancel 45 = .ok (.aload_n 0, 1) := by decide +kernel
theorem d_MD_cancel_46 : decode b_MD_cancel 46 = .ok (.getfield 60, 3) := by decide +kernel
theorem d_MD_cancel_49 : decode b_MD_cancel 49 = .ok (.iload_n 1, 1) := by decide +kernel
theorem d_MD_cancel_50 : decode b_MD_cancel 50 = .ok (.iconst 0, 1) := by decide +kernel
theorem d_MD_cancel_51 : decode b_MD_cancel 51 = .ok (.bastore, 1) := by decide +kernel
theorem d_MD_cancel_52 : decode b_MD_cancel 52 = .ok (.iconst 1, 1) := by decide +kernel
theorem d_MD_cancel_53 : decode b_MD_cancel 53 = .ok (.ireturn, 1) := by decide +kernel
theorem d_MD_suspend_0 : decode b_MD_suspend 0 = .ok (.aload_n 0, 1) := by decide +kernel
theorem d_MD_suspend_1 : decode b_MD_suspend 1 = .ok (.iload_n 1, 1) := by decide +kernel
theorem d_MD_suspend_2 : decode b_MD_suspend 2 = .ok (.invokevirtual 346, 3) := by decide +kernel
theorem d_MD_suspend_5 : decode b_MD_suspend 5 = .ok (.ifCond .eq 13, 3) := by decide +kernel
theorem d_MD_suspend_8 : decode b_MD_suspend 8 = .ok (.aload_n 0, 1) := by decide +kernel
theorem d_MD_suspend_9 : decode b_MD_suspend 9 = .ok (.getfield 63, 3) := by decide +kernel
theorem d_MD_suspend_12 : decode b_MD_suspend 12 = .ok (.iload_n 1, 1) := by decide +kernel
theorem d_MD_suspend_13 : decode b_MD_suspend 13 = .ok (.baload, 1) := by decide +kernel
theorem d_MD_suspend_14 : decode b_MD_suspend 14 = .ok (.iload_n 2, 1) := by decide +kernel
theorem d_MD_suspend_15 : decode b_MD_suspend 15 = .ok (.if_icmp .ne 5, 3) := by decide +kernel
theorem d_MD_suspend_18 : decode b_MD_suspend 18 = .ok (.iconst 0, 1) := by decide +kernel
theorem d_MD_suspend_19 : decode b_MD_suspend 19 = .ok (.ireturn, 1) := by decide +kernel
theorem d_MD_suspend_20 : decode b_MD_suspend 20 = .ok (.aload_n 0, 1) := by decide +kernel
theorem d_MD_suspend_21 : decode b_MD_suspend 21 = .ok (.getfield 63, 3) := by decide +kernel
theorem d_MD_suspend_24 : decode b_MD_suspend 24 = .ok (.iload_n 1, 1) := by decide +kernel
theorem d_MD_suspend_25 : decode b_MD_suspend 25 = .ok (.iload_n 2, 1) := by decide +kernel
theorem d_MD_suspend_26 : decode b_MD_suspend 26 = .ok (.bastore, 1) := by decide +kernel
theorem d_MD_suspend_27 : decode b_MD_suspend 27 = .ok (.iconst 1, 1) := by decide +kernel
theorem d_MD_suspend_28 : decode b_MD_suspend 28 = .ok (.ireturn, 1) := by decide +kernel
theorem d_MD_noise_0 : decode b_MD_noise 0 = .ok (.iload_n 1, 1) := by decide +kernel
theorem d_MD_noise_1 : decode b_MD_noise 1 = .ok (.ifCond .eq 7, 3) := by decide +kernel
theorem d_MD_noise_4 : decode b_MD_noise 4 = .ok (.iconst 0, 1) := by decide +kernel
theorem d_MD_noise_5 : decode b_MD_noise 5 = .ok (.goto 4, 3) := by decide +kernel
theorem d_MD_noise_8 : decode b_MD_noise 8 = .ok (.iconst 1, 1) := by decide +kernel
theorem d_MD_noise_9 : decode b_MD_noise 9 = .ok (.istore 4, 2) := by decide +kernel
theorem d_MD_noise_11 : decode b_MD_noise 11 = .ok (.aload_n 0, 1) := by decide +kernel
theorem d_MD_noise_12 : decode b_MD_noise 12 = .ok (.getfield 17, 3) := by decide +kernel
theorem d_MD_noise_15 : decode b_MD_noise 15 = .ok (.iload 4, 2) := by decide +kernel
theorem d_MD_noise_17 : decode b_MD_noise 17 = .ok (.aload_n 0, 1) := by decide +kernel
theorem d_MD_noise_18 : decode b_MD_noise 18 = .ok (.getfield 17, 3) := by decide +kernel
theorem d_MD_noise_21 : decode b_MD_noise 21 = .ok (.iload 4, 2) := by decide +kernel
theorem d_MD_noise_23 : decode b_MD_noise 23 = .ok (.laload, 1) := by decide +kernel
theorem d_MD_noise_24 : decode b_MD_noise 24 = .ok (.lload_n 2, 1) := by decide +kernel
theorem d_MD_noise_25 : decode b_MD_noise 25 = .ok (.iload_n 1, 1) := by decide +kernel
theorem d_MD_noise_26 : decode b_MD_noise 26 = .ok (.ifCond .eq 9, 3) := by decide +kernel
theorem d_MD_noise_29 : decode b_MD_noise 29 = .ok (.ldc2_w 172, 3) := by decide +kernel
theorem d_MD_noise_32 : decode b_MD_noise 32 = .ok (.goto 6, 3) := by decide +kernel
theorem d_MD_noise_35 : decode b_MD_noise 35 = .ok (.ldc2_w 174, 3) := by decide +kernel
theorem d_MD_noise_38 : decode b_MD_noise 38 = .ok (.land, 1) := by decide +kernel
theorem d_MD_noise_39 : decode b_MD_noise 39 = .ok (.lxor, 1) := by decide +kernel
theorem d_MD_noise_40 : decode b_MD_noise 40 = .ok (.lastore, 1) := by decide +kernel
theorem d_MD_noise_41 : decode b_MD_noise 41 = .ok (.return_, 1) := by decide +kernel
theorem d_MD_outage_0 : decode b_MD_outage 0 = .ok (.iload_n 2, 1) := by decide +kernel
theorem d_MD_outage_1 : decode b_MD_outage 1 = .ok (.sipush 200, 3) := by decide +kernel
theorem d_MD_outage_4 : decode b_MD_outage 4 = .ok (.invokestatic 342, 3) := by decide +kernel
theorem d_MD_outage_7 : decode b_MD_outage 7 = .ok (.ifCond .eq 5, 3) := by decide +kernel
theorem d_MD_outage_10 : decode b_MD_outage 10 = .ok (.iconst 0, 1) := by decide +kernel
theorem d_MD_outage_11 : decode b_MD_outage 11 = .ok (.ireturn, 1) := by decide +kernel
theorem d_MD_outage_12 : decode b_MD_outage 12 = .ok (.aload_n 0, 1) := by decide +kernel
theorem d_MD_outage_13 : decode b_MD_outage 13 = .ok (.getfield 20, 3) := by decide +kernel
theorem d_MD_outage_16 : decode b_MD_outage 16 = .ok (.iload_n 1, 1) := by decide +kernel
theorem d_MD_outage_17 : decode b_MD_outage 17 = .ok (.ifCond .eq 7, 3) := by decide +kernel
theorem d_MD_outage_20 : decode b_MD_outage 20 = .ok (.iconst 0, 1) := by decide +kernel
theorem d_MD_outage_21 : decode b_MD_outage 21 = .ok (.goto 4, 3) := by decide +kernel
theorem d_MD_outage_24 : decode b_MD_outage 24 = .ok (.iconst 1, 1) := by decide +kernel
theorem d_MD_outage_25 : decode b_MD_outage 25 = .ok (.iload_n 2, 1) := by decide +kernel
theorem d_MD_outage_26 : decode b_MD_outage 26 = .ok (.iastore, 1) := by decide +kernel
theorem d_MD_outage_27 : decode b_MD_outage 27 = .ok (.iconst 1, 1) := by decide +kernel
theorem d_MD_outage_28 : decode b_MD_outage 28 = .ok (.ireturn, 1) := by decide +kernel
theorem d_MD_run_0 : decode b_MD_run 0 = .ok (.iload_n 1, 1) := by decide +kernel
theorem d_MD_run_1 : decode b_MD_run 1 = .ok (.bipush 100, 2) := by decide +kernel
theorem d_MD_run_3 : decode b_MD_run 3 = .ok (.invokestatic 342, 3) := by decide +kernel
theorem d_MD_run_6 : decode b_MD_run 6 = .ok (.ifCond .eq 5, 3) := by decide +kernel
theorem d_MD_run_9 : decode b_MD_run 9 = .ok (.iconst (-1), 1) := by decide +kernel
theorem d_MD_run_10 : decode b_MD_run 10 = .ok (.ireturn, 1) := by decide +kernel
theorem d_MD_run_11 : decode b_MD_run 11 = .ok (.aload_n 0, 1) := by decide +kernel
theorem d_MD_run_12 : decode b_MD_run 12 = .ok (.iconst 0, 1) := by decide +kernel
theorem d_MD_run_13 : decode b_MD_run 13 = .ok (.putfield 267, 3) := by decide +kernel
theorem d_MD_run_16 : decode b_MD_run 16 = .ok (.iconst 0, 1) := by decide +kernel
theorem d_MD_run_17 : decode b_MD_run 17 = .ok (.istore_n 2, 1) := by decide +kernel
theorem d_MD_run_18 : decode b_MD_run 18 = .ok (.iload_n 2, 1) := by decide +kernel
theorem d_MD_run_19 : decode b_MD_run 19 = .ok (.iload_n 1, 1) := by decide +kernel
theorem d_MD_run_20 : decode b_MD_run 20 = .ok (.if_icmp .ge 13, 3) := by decide +kernel
theorem d_MD_run_23 : decode b_MD_run 23 = .ok (.aload_n 0, 1) := by decide +kernel
theorem d_MD_run_24 : decode b_MD_run 24 = .ok (.invokevirtual 350, 3) := by decide +kernel
theorem d_MD_run_27 : decode b_MD_run 27 = .ok (.iinc 2 1, 3) := by decide +kernel
theorem d_MD_run_30 : decode b_MD_run 30 = .ok (.goto (-12), 3) := by decide +kernel
theorem d_MD_run_33 : decode b_MD_run 33 = .ok (.aload_n 0, 1) := by decide +kernel
theorem d_MD_run_34 : decode b_MD_run 34 = .ok (.getfield 267, 3) := by decide +kernel
theorem d_MD_run_37 : decode b_MD_run 37 = .ok (.ireturn, 1) := by decide +kernel
theorem d_MD_time_0 : decode b_MD_time 0 = .ok (.aload_n 0, 1) := by decide +kernel
theorem d_MD_time_1 : decode b_MD_time 1 = .ok (.getfield 194, 3) := by decide +kernel
theorem d_MD_time_4 : decode b_MD_time 4 = .ok (.ireturn, 1) := by decide +kernel
theorem d_MD_outcome_0 : decode b_MD_outcome 0 = .ok (.iload_n 1, 1) := by decide +kernel
theorem d_MD_outcome_1 : decode b_MD_outcome 1 = .ok (.ifCond .eq 61, 3) := by decide +kernel
theorem d_MD_outcome_4 : decode b_MD_outcome 4 = .ok (.iload_n 2, 1) := by decide +kernel
theorem d_MD_outcome_5 : decode b_MD_outcome 5 = .ok (.bipush 15, 2) := by decide +kernel
theorem d_MD_outcome_7 : decode b_MD_outcome 7 = .ok (.invokestatic 342, 3) := by decide +kernel
theorem d_MD_outcome_10 : decode b_MD_outcome 10 = .ok (.ifCond .ne 12, 3) := by decide +kernel
theorem d_MD_outcome_13 : decode b_MD_outcome 13 = .ok (.aload_n 0, 1) := by decide +kernel
theorem d_MD_outcome_14 : decode b_MD_outcome 14 = .ok (.getfield 88, 3) := by decide +kernel
theorem d_MD_outcome_17 : decode b_MD_outcome 17 = .ok (.iload_n 2, 1) := by decide +kernel
theorem d_MD_outcome_18 : decode b_MD_outcome 18 = .ok (.iaload, 1) := by decide +kernel
theorem d_MD_outcome_19 : decode b_MD_outcome 19 = .ok (.ifCond .ne 5, 3) := by decide +kernel
theorem d_MD_outcome_22 : decode b_MD_outcome 22 = .ok (.iconst (-1), 1) := by decide +kernel
theorem d_MD_outcome_23 : decode b_MD_outcome 23 = .ok (.ireturn, 1) := by decide +kernel
theorem d_MD_outcome_24 : decode b_MD_outcome 24 = .ok (.aload_n 0, 1) := by decide +kernel
theorem d_MD_outcome_25 : decode b_MD_outcome 25 = .ok (.getfield 88, 3) := by decide +kernel
theorem d_MD_outcome_28 : decode b_MD_outcome 28 = .ok (.iload_n 2, 1) := by decide +kernel
theorem d_MD_outcome_29 : decode b_MD_outcome 29 = .ok (.iaload, 1) := by decide +kernel
theorem d_MD_outcome_30 : decode b_MD_outcome 30 = .ok (.iconst 1, 1) := by decide +kernel
theorem d_MD_outcome_31 : decode b_MD_outcome 31 = .ok (.if_icmp .ne 7, 3) := by decide +kernel
theorem d_MD_outcome_34 : decode b_MD_outcome 34 = .ok (.iconst 0, 1) := by decide +kernel
theorem d_MD_outcome_35 : decode b_MD_outcome 35 = .ok (.goto 26, 3) := by decide +kernel
theorem d_MD_outcome_38 : decode b_MD_outcome 38 = .ok (.aload_n 0, 1) := by decide +kernel
theorem d_MD_outcome_39 : decode b_MD_outcome 39 = .ok (.getfield 91, 3) := by decide +kernel
theorem d_MD_outcome_42 : decode b_MD_outcome 42 = .ok (.iload_n 2, 1) := by decide +kernel
theorem d_MD_outcome_43 : decode b_MD_outcome 43 = .ok (.iaload, 1) := by decide +kernel
theorem d_MD_outcome_44 : decode b_MD_outcome 44 = .ok (.aload_n 0, 1) := by decide +kernel
theorem d_MD_outcome_45 : decode b_MD_outcome 45 = .ok (.getfield 88, 3) := by decide +kernel
theorem d_MD_outcome_48 : decode b_MD_outcome 48 = .ok (.iload_n 2, 1) := by decide +kernel
theorem d_MD_outcome_49 : decode b_MD_outcome 49 = .ok (.iaload, 1) := by decide +kernel
theorem d_MD_outcome_50 : decode b_MD_outcome 50 = .ok (.iconst 3, 1) := by decide +kernel
theorem d_MD_outcome_51 : decode b_MD_outcome 51 = .ok (.if_icmp .ne 8, 3) := by decide +kernel
theorem d_MD_outcome_54 : decode b_MD_outcome 54 = .ok (.bipush 8, 2) := by decide +kernel
theorem d_MD_outcome_56 : decode b_MD_outcome 56 = .ok (.goto 4, 3) := by decide +kernel
theorem d_MD_outcome_59 : decode b_MD_outcome 59 = .ok (.iconst 0, 1) := by decide +kernel
theorem d_MD_outcome_60 : decode b_MD_outcome 60 = .ok (.iadd, 1) := by decide +kernel
theorem d_MD_outcome_61 : decode b_MD_outcome 61 = .ok (.ireturn, 1) := by decide +kernel
theorem d_MD_outcome_62 : decode b_MD_outcome 62 = .ok (.iload_n 2, 1) := by decide +kernel
theorem d_MD_outcome_63 : decode b_MD_outcome 63 = .ok (.ifCond .lt 11, 3) := by decide +kernel
theorem d_MD_outcome_66 : decode b_MD_outcome 66 = .ok (.iload_n 2, 1) := by decide +kernel
theorem d_MD_outcome_67 : decode b_MD_outcome 67 = .ok (.aload_n 0, 1) := by decide +kernel
theorem d_MD_outcome_68 : decode b_MD_outcome 68 = .ok (.getfield 225, 3) := by decide +kernel
theorem d_MD_outcome_71 : decode b_MD_outcome 71 = .ok (.if_icmp .lt 5, 3) := by decide +kernel
theorem d_MD_outcome_74 : decode b_MD_outcome 74 = .ok (.iconst (-1), 1) := by decide +kernel
theorem d_MD_outcome_75 : decode b_MD_outcome 75 = .ok (.ireturn, 1) := by decide +kernel
theorem d_MD_outcome_76 : decode b_MD_outcome 76 = .ok (.aload_n 0, 1) := by decide +kernel
theorem d_MD_outcome_77 : decode b_MD_outcome 77 = .ok (.getfield 48, 3) := by decide +kernel
theorem d_MD_outcome_80 : decode b_MD_outcome 80 = .ok (.iload_n 2, 1) := by decide +kernel
theorem d_MD_outcome_81 : decode b_MD_outcome 81 = .ok (.baload, 1) := by decide +kernel
theorem d_MD_outcome_82 : decode b_MD_outcome 82 = .ok (.ifCond .eq 15, 3) := by decide +kernel
theorem d_MD_outcome_85 : decode b_MD_outcome 85 = .ok (.bipush 8, 2) := by decide +kernel
theorem d_MD_outcome_87 : decode b_MD_outcome 87 = .ok (.aload_n 0, 1) := by decide +kernel
theorem d_MD_outcome_88 : decode b_MD_outcome 88 = .ok (.getfield 51, 3) := by decide +kernel
theorem d_MD_outcome_91 : decode b_MD_outcome 91 = .ok (.iload_n 2, 1) := by decide +kernel
theorem d_MD_outcome_92 : decode b_MD_outcome 92 = .ok (.iaload, 1) := by decide +kernel
theorem d_MD_outcome_93 : decode b_MD_outcome 93 = .ok (.iadd, 1) := by decide +kernel
theorem d_MD_outcome_94 : decode b_MD_outcome 94 = .ok (.goto 4, 3) := by decide +kernel
theorem d_MD_outcome_97 : decode b_MD_outcome 97 = .ok (.iconst 0, 1) := by decide +kernel
theorem d_MD_outcome_98 : decode b_MD_outcome 98 = .ok (.ireturn, 1) := by decide +kernel
theorem d_MD_taken_0 : decode b_MD_taken 0 = .ok (.iload_n 1, 1) := by decide +kernel
theorem d_MD_taken_1 : decode b_MD_taken 1 = .ok (.bipush 15, 2) := by decide +kernel
theorem d_MD_taken_3 : decode b_MD_taken 3 = .ok (.invokestatic 342, 3) := by decide +kernel
theorem d_MD_taken_6 : decode b_MD_taken 6 = .ok (.ifCond .ne 12, 3) := by decide +kernel
theorem d_MD_taken_9 : decode b_MD_taken 9 = .ok (.iload_n 2, 1) := by decide +kernel
theorem d_MD_taken_10 : decode b_MD_taken 10 = .ok (.bipush 15, 2) := by decide +kernel
theorem d_MD_taken_12 : decode b_MD_taken 12 = .ok (.invokestatic 342, 3) := by decide +kernel
theorem d_MD_taken_15 : decode b_MD_taken 15 = .ok (.ifCond .eq 7, 3) := by decide +kernel
theorem d_MD_taken_18 : decode b_MD_taken 18 = .ok (.iconst 0, 1) := by decide +kernel
theorem d_MD_taken_19 : decode b_MD_taken 19 = .ok (.goto 14, 3) := by decide +kernel
theorem d_MD_taken_22 : decode b_MD_taken 22 = .ok (.aload_n 0, 1) := by decide +kernel
theorem d_MD_taken_23 : decode b_MD_taken 23 = .ok (.getfield 97, 3) := by decide +kernel
theorem d_MD_taken_26 : decode b_MD_taken 26 = .ok (.bipush 16, 2) := by decide +kernel
theorem d_MD_taken_28 : decode b_MD_taken 28 = .ok (.iload_n 1, 1) := by decide +kernel
theorem d_MD_taken_29 : decode b_MD_taken 29 = .ok (.imul, 1) := by decide +kernel
theorem d_MD_taken_30 : decode b_MD_taken 30 = .ok (.iload_n 2, 1) := by decide +kernel
theorem d_MD_taken_31 : decode b_MD_taken 31 = .ok (.iadd, 1) := by decide +kernel
theorem d_MD_taken_32 : decode b_MD_taken 32 = .ok (.iaload, 1) := by decide +kernel
theorem d_MD_taken_33 : decode b_MD_taken 33 = .ok (.ireturn, 1) := by decide +kernel
theorem d_MD_missing_0 : decode b_MD_missing 0 = .ok (.iload_n 1, 1) := by decide +kernel
theorem d_MD_missing_1 : decode b_MD_missing 1 = .ok (.bipush 15, 2) := by decide +kernel
theorem d_MD_missing_3 : decode b_MD_missing 3 = .ok (.invokestatic 342, 3) := by decide +kernel
theorem d_MD_missing_6 : decode b_MD_missing 6 = .ok (.ifCond .ne 12, 3) := by decide +kernel
theorem d_MD_missing_9 : decode b_MD_missing 9 = .ok (.aload_n 0, 1) := by decide +kernel
theorem d_MD_missing_10 : decode b_MD_missing 10 = .ok (.getfield 88, 3) := by decide +kernel
theorem d_MD_missing_13 : decode b_MD_missing 13 = .ok (.iload_n 1, 1) := by decide +kernel
theorem d_MD_missing_14 : decode b_MD_missing 14 = .ok (.iaload, 1) := by decide +kernel
theorem d_MD_missing_15 : decode b_MD_missing 15 = .ok (.ifCond .ne 7, 3) := by decide +kernel
theorem d_MD_missing_18 : decode b_MD_missing 18 = .ok (.iconst (-1), 1) := by decide +kernel
theorem d_MD_missing_19 : decode b_MD_missing 19 = .ok (.goto 15, 3) := by decide +kernel
theorem d_MD_missing_22 : decode b_MD_missing 22 = .ok (.aload_n 0, 1) := by decide +kernel
theorem d_MD_missing_23 : decode b_MD_missing 23 = .ok (.getfield 94, 3) := by decide +kernel
theorem d_MD_missing_26 : decode b_MD_missing 26 = .ok (.iload_n 1, 1) := by decide +kernel
theorem d_MD_missing_27 : decode b_MD_missing 27 = .ok (.iaload, 1) := by decide +kernel
theorem d_MD_missing_28 : decode b_MD_missing 28 = .ok (.iconst (-1), 1) := by decide +kernel
theorem d_MD_missing_29 : decode b_MD_missing 29 = .ok (.ixor, 1) := by decide +kernel
theorem d_MD_missing_30 : decode b_MD_missing 30 = .ok (.ldc_w 353, 3) := by decide +kernel
theorem d_MD_missing_33 : decode b_MD_missing 33 = .ok (.iand, 1) := by decide +kernel
theorem d_MD_missing_34 : decode b_MD_missing 34 = .ok (.ireturn, 1) := by decide +kernel
theorem d_MD_stored_0 : decode b_MD_stored 0 = .ok (.iload_n 1, 1) := by decide +kernel
theorem d_MD_stored_1 : decode b_MD_stored 1 = .ok (.iconst 3, 1) := by decide +kernel
theorem d_MD_stored_2 : decode b_MD_stored 2 = .ok (.invokestatic 342, 3) := by decide +kernel
theorem d_MD_stored_5 : decode b_MD_stored 5 = .ok (.ifCond .ne 8, 3) := by decide +kernel
theorem d_MD_stored_8 : decode b_MD_stored 8 = .ok (.iload_n 2, 1) := by decide +kernel
theorem d_MD_stored_9 : decode b_MD_stored 9 = .ok (.iconst (-1), 1) := by decide +kernel
theorem d_MD_stored_10 : decode b_MD_stored 10 = .ok (.if_icmp .ge 5, 3) := by decide +kernel
theorem d_MD_stored_13 : decode b_MD_stored 13 = .ok (.iconst 0, 1) := by decide +kernel
theorem d_MD_stored_14 : decode b_MD_stored 14 = .ok (.ireturn, 1) := by decide +kernel
theorem d_MD_stored_15 : decode b_MD_stored 15 = .ok (.iload_n 2, 1) := by decide +kernel
theorem d_MD_stored_16 : decode b_MD_stored 16 = .ok (.iconst (-1), 1) := by decide +kernel
theorem d_MD_stored_17 : decode b_MD_stored 17 = .ok (.if_icmp .ne 12, 3) := by decide +kernel
theorem d_MD_stored_20 : decode b_MD_stored 20 = .ok (.aload_n 0, 1) := by decide +kernel
theorem d_MD_stored_21 : decode b_MD_stored 21 = .ok (.getfield 130, 3) := by decide +kernel
theorem d_MD_stored_24 : decode b_MD_stored 24 = .ok (.iload_n 1, 1) := by decide +kernel
theorem d_MD_stored_25 : decode b_MD_stored 25 = .ok (.iaload, 1) := by decide +kernel
theorem d_MD_stored_26 : decode b_MD_stored 26 = .ok (.goto 28, 3) := by decide +kernel
theorem d_MD_stored_29 : decode b_MD_stored 29 = .ok (.iload_n 2, 1) := by decide +kernel
theorem d_MD_stored_30 : decode b_MD_stored 30 = .ok (.aload_n 0, 1) := by decide +kernel
theorem d_MD_stored_31 : decode b_MD_stored 31 = .ok (.getfield 130, 3) := by decide +kernel
theorem d_MD_stored_34 : decode b_MD_stored 34 = .ok (.iload_n 1, 1) := by decide +kernel
theorem d_MD_stored_35 : decode b_MD_stored 35 = .ok (.iaload, 1) := by decide +kernel
theorem d_MD_stored_36 : decode b_MD_stored 36 = .ok (.if_icmp .ge 17, 3) := by decide +kernel
theorem d_MD_stored_39 : decode b_MD_stored 39 = .ok (.aload_n 0, 1) := by decide +kernel
theorem d_MD_stored_40 : decode b_MD_stored 40 = .ok (.getfield 133, 3) := by decide +kernel
theorem d_MD_stored_43 : decode b_MD_stored 43 = .ok (.bipush 16, 2) := by decide +kernel
theorem d_MD_stored_45 : decode b_MD_stored 45 = .ok (.iload_n 1, 1) := by decide +kernel
theorem d_MD_stored_46 : decode b_MD_stored 46 = .ok (.imul, 1) := by decide +kernel
theorem d_MD_stored_47 : decode b_MD_stored 47 = .ok (.iload_n 2, 1) := by decide +kernel
theorem d_MD_stored_48 : decode b_MD_stored 48 = .ok (.iadd, 1) := by decide +kernel
theorem d_MD_stored_49 : decode b_MD_stored 49 = .ok (.iaload, 1) := by decide +kernel
theorem d_MD_stored_50 : decode b_MD_stored 50 = .ok (.goto 4, 3) := by decide +kernel
theorem d_MD_stored_53 : decode b_MD_stored 53 = .ok (.iconst 0, 1) := by decide +kernel
theorem d_MD_stored_54 : decode b_MD_stored 54 = .ok (.ireturn, 1) := by decide +kernel
theorem d_MD_report_0 : decode b_MD_report 0 = .ok (.aload_n 0, 1) := by decide +kernel
theorem d_MD_report_1 : decode b_MD_report 1 = .ok (.getfield 238, 3) := by decide +kernel
theorem d_MD_report_4 : decode b_MD_report 4 = .ok (.aload_n 0, 1) := by decide +kernel
theorem d_MD_report_5 : decode b_MD_report 5 = .ok (.getfield 234, 3) := by decide +kernel
theorem d_MD_report_8 : decode b_MD_report 8 = .ok (.ifCond .eq 8, 3) := by decide +kernel
theorem d_MD_report_11 : decode b_MD_report 11 = .ok (.bipush 16, 2) := by decide +kernel
theorem d_MD_report_13 : decode b_MD_report 13 = .ok (.goto 4, 3) := by decide +kernel
theorem d_MD_report_16 : decode b_MD_report 16 = .ok (.iconst 0, 1) := by decide +kernel
theorem d_MD_report_17 : decode b_MD_report 17 = .ok (.iadd, 1) := by decide +kernel
theorem d_MD_report_18 : decode b_MD_report 18 = .ok (.aload_n 0, 1) := by decide +kernel
theorem d_MD_report_19 : decode b_MD_report 19 = .ok (.getfield 241, 3) := by decide +kernel
theorem d_MD_report_22 : decode b_MD_report 22 = .ok (.ifCond .eq 8, 3) := by decide +kernel
theorem d_MD_report_25 : decode b_MD_report 25 = .ok (.bipush 32, 2) := by decide +kernel
theorem d_MD_report_27 : decode b_MD_report 27 = .ok (.goto 4, 3) := by decide +kernel
theorem d_MD_report_30 : decode b_MD_report 30 = .ok (.iconst 0, 1) := by decide +kernel
theorem d_MD_report_31 : decode b_MD_report 31 = .ok (.iadd, 1) := by decide +kernel
theorem d_MD_report_32 : decode b_MD_report 32 = .ok (.ireturn, 1) := by decide +kernel
theorem d_MD_window_0 : decode b_MD_window 0 = .ok (.iconst 0, 1) := by decide +kernel
theorem d_MD_window_1 : decode b_MD_window 1 = .ok (.istore_n 1, 1) := by decide +kernel
theorem d_MD_window_2 : decode b_MD_window 2 = .ok (.iconst 1, 1) := by decide +kernel
theorem d_MD_window_3 : decode b_MD_window 3 = .ok (.istore_n 2, 1) := by decide +kernel
theorem d_MD_window_4 : decode b_MD_window 4 = .ok (.iload_n 2, 1) := by decide +kernel
theorem d_MD_window_5 : decode b_MD_window 5 = .ok (.aload_n 0, 1) := by decide +kernel
theorem d_MD_window_6 : decode b_MD_window 6 = .ok (.getfield 284, 3) := by decide +kernel
theorem d_MD_window_9 : decode b_MD_window 9 = .ok (.if_icmp .gt 34, 3) := by decide +kernel
theorem d_MD_window_12 : decode b_MD_window 12 = .ok (.iload_n 1, 1) := by decide +kernel
theorem d_MD_window_13 : decode b_MD_window 13 = .ok (.aload_n 0, 1) := by decide +kernel
theorem d_MD_window_14 : decode b_MD_window 14 = .ok (.getfield 81, 3) := by decide +kernel
theorem d_MD_window_17 : decode b_MD_window 17 = .ok (.aload_n 0, 1) := by decide +kernel
theorem d_MD_window_18 : decode b_MD_window 18 = .ok (.getfield 299, 3) := by decide +kernel
theorem d_MD_window_21 : decode b_MD_window 21 = .ok (.iload_n 2, 1) := by decide +kernel
theorem d_MD_window_22 : decode b_MD_window 22 = .ok (.isub, 1) := by decide +kernel
theorem d_MD_window_23 : decode b_MD_window 23 = .ok (.bipush 15, 2) := by decide +kernel
theorem d_MD_window_25 : decode b_MD_window 25 = .ok (.iand, 1) := by decide +kernel
theorem d_MD_window_26 : decode b_MD_window 26 = .ok (.baload, 1) := by decide +kernel
theorem d_MD_window_27 : decode b_MD_window 27 = .ok (.ifCond .eq 7, 3) := by decide +kernel
theorem d_MD_window_30 : decode b_MD_window 30 = .ok (.iconst 1, 1) := by decide +kernel
theorem d_MD_window_31 : decode b_MD_window 31 = .ok (.goto 4, 3) := by decide +kernel
theorem d_MD_window_34 : decode b_MD_window 34 = .ok (.iconst 0, 1) := by decide +kernel
theorem d_MD_window_35 : decode b_MD_window 35 = .ok (.iadd, 1) := by decide +kernel
theorem d_MD_window_36 : decode b_MD_window 36 = .ok (.istore_n 1, 1) := by decide +kernel
theorem d_MD_window_37 : decode b_MD_window 37 = .ok (.iinc 2 1, 3) := by decide +kernel
theorem d_MD_window_40 : decode b_MD_window 40 = .ok (.goto (-36), 3) := by decide +kernel
theorem d_MD_window_43 : decode b_MD_window 43 = .ok (.aload_n 0, 1) := by decide +kernel
theorem d_MD_window_44 : decode b_MD_window 44 = .ok (.getfield 287, 3) := by decide +kernel
theorem d_MD_window_47 : decode b_MD_window 47 = .ok (.iconst 4, 1) := by decide +kernel
theorem d_MD_window_48 : decode b_MD_window 48 = .ok (.aload_n 0, 1) := by decide +kernel
theorem d_MD_window_49 : decode b_MD_window 49 = .ok (.getfield 299, 3) := by decide +kernel
theorem d_MD_window_52 : decode b_MD_window 52 = .ok (.imul, 1) := by decide +kernel
theorem d_MD_window_53 : decode b_MD_window 53 = .ok (.iadd, 1) := by decide +kernel
theorem d_MD_window_54 : decode b_MD_window 54 = .ok (.bipush 64, 2) := by decide +kernel
theorem d_MD_window_56 : decode b_MD_window 56 = .ok (.aload_n 0, 1) := by decide +kernel
theorem d_MD_window_57 : decode b_MD_window 57 = .ok (.getfield 284, 3) := by decide +kernel
theorem d_MD_window_60 : decode b_MD_window 60 = .ok (.imul, 1) := by decide +kernel
theorem d_MD_window_61 : decode b_MD_window 61 = .ok (.iadd, 1) := by decide +kernel
theorem d_MD_window_62 : decode b_MD_window 62 = .ok (.sipush 512, 3) := by decide +kernel
theorem d_MD_window_65 : decode b_MD_window 65 = .ok (.iload_n 1, 1) := by decide +kernel
theorem d_MD_window_66 : decode b_MD_window 66 = .ok (.imul, 1) := by decide +kernel
theorem d_MD_window_67 : decode b_MD_window 67 = .ok (.iadd, 1) := by decide +kernel
theorem d_MD_window_68 : decode b_MD_window 68 = .ok (.ireturn, 1) := by decide +kernel
theorem d_MD_alerts_0 : decode b_MD_alerts 0 = .ok (.aload_n 0, 1) := by decide +kernel
theorem d_MD_alerts_1 : decode b_MD_alerts 1 = .ok (.getfield 281, 3) := by decide +kernel
theorem d_MD_alerts_4 : decode b_MD_alerts 4 = .ok (.ireturn, 1) := by decide +kernel
theorem d_MD_sent_0 : decode b_MD_sent 0 = .ok (.aload_n 0, 1) := by decide +kernel
theorem d_MD_sent_1 : decode b_MD_sent 1 = .ok (.getfield 24, 3) := by decide +kernel
theorem d_MD_sent_4 : decode b_MD_sent 4 = .ok (.iload_n 1, 1) := by decide +kernel
theorem d_MD_sent_5 : decode b_MD_sent 5 = .ok (.ifCond .eq 7, 3) := by decide +kernel
theorem d_MD_sent_8 : decode b_MD_sent 8 = .ok (.iconst 0, 1) := by decide +kernel
theorem d_MD_sent_9 : decode b_MD_sent 9 = .ok (.goto 4, 3) := by decide +kernel
theorem d_MD_sent_12 : decode b_MD_sent 12 = .ok (.iconst 1, 1) := by decide +kernel
theorem d_MD_sent_13 : decode b_MD_sent 13 = .ok (.iaload, 1) := by decide +kernel
theorem d_MD_sent_14 : decode b_MD_sent 14 = .ok (.ireturn, 1) := by decide +kernel
theorem d_MD_faults_0 : decode b_MD_faults 0 = .ok (.aload_n 0, 1) := by decide +kernel
theorem d_MD_faults_1 : decode b_MD_faults 1 = .ok (.getfield 27, 3) := by decide +kernel
theorem d_MD_faults_4 : decode b_MD_faults 4 = .ok (.iload_n 1, 1) := by decide +kernel
theorem d_MD_faults_5 : decode b_MD_faults 5 = .ok (.ifCond .eq 7, 3) := by decide +kernel
theorem d_MD_faults_8 : decode b_MD_faults 8 = .ok (.iconst 0, 1) := by decide +kernel
theorem d_MD_faults_9 : decode b_MD_faults 9 = .ok (.goto 4, 3) := by decide +kernel
theorem d_MD_faults_12 : decode b_MD_faults 12 = .ok (.iconst 1, 1) := by decide +kernel
theorem d_MD_faults_13 : decode b_MD_faults 13 = .ok (.iaload, 1) := by decide +kernel
theorem d_MD_faults_14 : decode b_MD_faults 14 = .ok (.ldc_w 263, 3) := by decide +kernel
theorem d_MD_faults_17 : decode b_MD_faults 17 = .ok (.aload_n 0, 1) := by decide +kernel
theorem d_MD_faults_18 : decode b_MD_faults 18 = .ok (.getfield 30, 3) := by decide +kernel
theorem d_MD_faults_21 : decode b_MD_faults 21 = .ok (.iload_n 1, 1) := by decide +kernel
theorem d_MD_faults_22 : decode b_MD_faults 22 = .ok (.ifCond .eq 7, 3) := by decide +kernel
theorem d_MD_faults_25 : decode b_MD_faults 25 = .ok (.iconst 0, 1) := by decide +kernel
theorem d_MD_faults_26 : decode b_MD_faults 26 = .ok (.goto 4, 3) := by decide +kernel
theorem d_MD_faults_29 : decode b_MD_faults 29 = .ok (.iconst 1, 1) := by decide +kernel
theorem d_MD_faults_30 : decode b_MD_faults 30 = .ok (.iaload, 1) := by decide +kernel
theorem d_MD_faults_31 : decode b_MD_faults 31 = .ok (.imul, 1) := by decide +kernel
theorem d_MD_faults_32 : decode b_MD_faults 32 = .ok (.iadd, 1) := by decide +kernel
theorem d_MD_faults_33 : decode b_MD_faults 33 = .ok (.ireturn, 1) := by decide +kernel
