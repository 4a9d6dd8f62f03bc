/-! decode rows -/
theorem d_FL_init_0 : decode b_FL_init 0 = .ok (.aload_n 0, 1) := by decide +kernel
theorem d_FL_init_1 : decode b_FL_init 1 = .ok (.invokespecial 1, 3) := by decide +kernel
theorem d_FL_init_4 : decode b_FL_init 4 = .ok (.aload_n 0, 1) := by decide +kernel
theorem d_FL_init_5 : decode b_FL_init 5 = .ok (.iconst 4, 1) := by decide +kernel
theorem d_FL_init_6 : decode b_FL_init 6 = .ok (.bipush 16, 2) := by decide +kernel
theorem d_FL_init_8 : decode b_FL_init 8 = .ok (.multianewarray 9 2, 4) := by decide +kernel
theorem d_FL_init_12 : decode b_FL_init 12 = .ok (.putfield 11, 3) := by decide +kernel
theorem d_FL_init_15 : decode b_FL_init 15 = .ok (.iconst 1, 1) := by decide +kernel
theorem d_FL_init_16 : decode b_FL_init 16 = .ok (.iconst 5, 1) := by decide +kernel
theorem d_FL_init_17 : decode b_FL_init 17 = .ok (.iload_n 1, 1) := by decide +kernel
theorem d_FL_init_18 : decode b_FL_init 18 = .ok (.invokestatic 14, 3) := by decide +kernel
theorem d_FL_init_21 : decode b_FL_init 21 = .ok (.invokestatic 20, 3) := by decide +kernel
theorem d_FL_init_24 : decode b_FL_init 24 = .ok (.istore_n 2, 1) := by decide +kernel
theorem d_FL_init_25 : decode b_FL_init 25 = .ok (.iconst 2, 1) := by decide +kernel
theorem d_FL_init_26 : decode b_FL_init 26 = .ok (.iload_n 2, 1) := by decide +kernel
theorem d_FL_init_27 : decode b_FL_init 27 = .ok (.imul, 1) := by decide +kernel
theorem d_FL_init_28 : decode b_FL_init 28 = .ok (.bipush 6, 2) := by decide +kernel
theorem d_FL_init_30 : decode b_FL_init 30 = .ok (.iadd, 1) := by decide +kernel
theorem d_FL_init_31 : decode b_FL_init 31 = .ok (.istore_n 3, 1) := by decide +kernel
theorem d_FL_init_32 : decode b_FL_init 32 = .ok (.aload_n 0, 1) := by decide +kernel
theorem d_FL_init_33 : decode b_FL_init 33 = .ok (.new 23, 3) := by decide +kernel
theorem d_FL_init_36 : decode b_FL_init 36 = .ok (.dup, 1) := by decide +kernel
theorem d_FL_init_37 : decode b_FL_init 37 = .ok (.iconst 1, 1) := by decide +kernel
theorem d_FL_init_38 : decode b_FL_init 38 = .ok (.iload_n 2, 1) := by decide +kernel
theorem d_FL_init_39 : decode b_FL_init 39 = .ok (.invokespecial 25, 3) := by decide +kernel
theorem d_FL_init_42 : decode b_FL_init 42 = .ok (.putfield 28, 3) := by decide +kernel
theorem d_FL_init_45 : decode b_FL_init 45 = .ok (.aload_n 0, 1) := by decide +kernel
theorem d_FL_init_46 : decode b_FL_init 46 = .ok (.new 23, 3) := by decide +kernel
theorem d_FL_init_49 : decode b_FL_init 49 = .ok (.dup, 1) := by decide +kernel
theorem d_FL_init_50 : decode b_FL_init 50 = .ok (.iconst 0, 1) := by decide +kernel
theorem d_FL_init_51 : decode b_FL_init 51 = .ok (.iload_n 2, 1) := by decide +kernel
theorem d_FL_init_52 : decode b_FL_init 52 = .ok (.invokespecial 25, 3) := by decide +kernel
theorem d_FL_init_55 : decode b_FL_init 55 = .ok (.putfield 32, 3) := by decide +kernel
theorem d_FL_init_58 : decode b_FL_init 58 = .ok (.aload_n 0, 1) := by decide +kernel
theorem d_FL_init_59 : decode b_FL_init 59 = .ok (.new 35, 3) := by decide +kernel
theorem d_FL_init_62 : decode b_FL_init 62 = .ok (.dup, 1) := by decide +kernel
theorem d_FL_init_63 : decode b_FL_init 63 = .ok (.iload_n 3, 1) := by decide +kernel
theorem d_FL_init_64 : decode b_FL_init 64 = .ok (.invokespecial 37, 3) := by decide +kernel
theorem d_FL_init_67 : decode b_FL_init 67 = .ok (.putfield 40, 3) := by decide +kernel
theorem d_FL_init_70 : decode b_FL_init 70 = .ok (.aload_n 0, 1) := by decide +kernel
theorem d_FL_init_71 : decode b_FL_init 71 = .ok (.new 44, 3) := by decide +kernel
theorem d_FL_init_74 : decode b_FL_init 74 = .ok (.dup, 1) := by decide +kernel
theorem d_FL_init_75 : decode b_FL_init 75 = .ok (.iload_n 3, 1) := by decide +kernel
theorem d_FL_init_76 : decode b_FL_init 76 = .ok (.invokespecial 46, 3) := by decide +kernel
theorem d_FL_init_79 : decode b_FL_init 79 = .ok (.putfield 47, 3) := by decide +kernel
theorem d_FL_init_82 : decode b_FL_init 82 = .ok (.return_, 1) := by decide +kernel
theorem d_FL_write_0 : decode b_FL_write 0 = .ok (.iload_n 1, 1) := by decide +kernel
theorem d_FL_write_1 : decode b_FL_write 1 = .ok (.iconst 4, 1) := by decide +kernel
theorem d_FL_write_2 : decode b_FL_write 2 = .ok (.invokestatic 51, 3) := by decide +kernel
theorem d_FL_write_5 : decode b_FL_write 5 = .ok (.ifCond .eq 12, 3) := by decide +kernel
theorem d_FL_write_8 : decode b_FL_write 8 = .ok (.iload_n 2, 1) := by decide +kernel
theorem d_FL_write_9 : decode b_FL_write 9 = .ok (.bipush 16, 2) := by decide +kernel
theorem d_FL_write_11 : decode b_FL_write 11 = .ok (.invokestatic 51, 3) := by decide +kernel
theorem d_FL_write_14 : decode b_FL_write 14 = .ok (.ifCond .ne 5, 3) := by decide +kernel
theorem d_FL_write_17 : decode b_FL_write 17 = .ok (.iconst 0, 1) := by decide +kernel
theorem d_FL_write_18 : decode b_FL_write 18 = .ok (.ireturn, 1) := by decide +kernel
theorem d_FL_write_19 : decode b_FL_write 19 = .ok (.aload_n 0, 1) := by decide +kernel
theorem d_FL_write_20 : decode b_FL_write 20 = .ok (.getfield 11, 3) := by decide +kernel
theorem d_FL_write_23 : decode b_FL_write 23 = .ok (.iload_n 1, 1) := by decide +kernel
theorem d_FL_write_24 : decode b_FL_write 24 = .ok (.aaload, 1) := by decide +kernel
theorem d_FL_write_25 : decode b_FL_write 25 = .ok (.iload_n 2, 1) := by decide +kernel
theorem d_FL_write_26 : decode b_FL_write 26 = .ok (.iload_n 3, 1) := by decide +kernel
theorem d_FL_write_27 : decode b_FL_write 27 = .ok (.iastore, 1) := by decide +kernel
theorem d_FL_write_28 : decode b_FL_write 28 = .ok (.iconst 1, 1) := by decide +kernel
theorem d_FL_write_29 : decode b_FL_write 29 = .ok (.ireturn, 1) := by decide +kernel
theorem d_FL_put_0 : decode b_FL_put 0 = .ok (.iload_n 1, 1) := by decide +kernel
theorem d_FL_put_1 : decode b_FL_put 1 = .ok (.iconst 4, 1) := by decide +kernel
theorem d_FL_put_2 : decode b_FL_put 2 = .ok (.invokestatic 51, 3) := by decide +kernel
theorem d_FL_put_5 : decode b_FL_put 5 = .ok (.ifCond .eq 20, 3) := by decide +kernel
theorem d_FL_put_8 : decode b_FL_put 8 = .ok (.iload_n 2, 1) := by decide +kernel
theorem d_FL_put_9 : decode b_FL_put 9 = .ok (.bipush 17, 2) := by decide +kernel
theorem d_FL_put_11 : decode b_FL_put 11 = .ok (.invokestatic 51, 3) := by decide +kernel
theorem d_FL_put_14 : decode b_FL_put 14 = .ok (.ifCond .eq 11, 3) := by decide +kernel
theorem d_FL_put_17 : decode b_FL_put 17 = .ok (.iload_n 3, 1) := by decide +kernel
theorem d_FL_put_18 : decode b_FL_put 18 = .ok (.iconst 4, 1) := by decide +kernel
theorem d_FL_put_19 : decode b_FL_put 19 = .ok (.invokestatic 51, 3) := by decide +kernel
theorem d_FL_put_22 : decode b_FL_put 22 = .ok (.ifCond .ne 5, 3) := by decide +kernel
theorem d_FL_put_25 : decode b_FL_put 25 = .ok (.iconst (-1), 1) := by decide +kernel
theorem d_FL_put_26 : decode b_FL_put 26 = .ok (.ireturn, 1) := by decide +kernel
theorem d_FL_put_27 : decode b_FL_put 27 = .ok (.aload_n 0, 1) := by decide +kernel
theorem d_FL_put_28 : decode b_FL_put 28 = .ok (.getfield 40, 3) := by decide +kernel
theorem d_FL_put_31 : decode b_FL_put 31 = .ok (.aload_n 0, 1) := by decide +kernel
theorem d_FL_put_32 : decode b_FL_put 32 = .ok (.getfield 11, 3) := by decide +kernel
theorem d_FL_put_35 : decode b_FL_put 35 = .ok (.iload_n 1, 1) := by decide +kernel
theorem d_FL_put_36 : decode b_FL_put 36 = .ok (.aaload, 1) := by decide +kernel
theorem d_FL_put_37 : decode b_FL_put 37 = .ok (.iload_n 2, 1) := by decide +kernel
theorem d_FL_put_38 : decode b_FL_put 38 = .ok (.iload_n 3, 1) := by decide +kernel
theorem d_FL_put_39 : decode b_FL_put 39 = .ok (.iload 4, 2) := by decide +kernel
theorem d_FL_put_41 : decode b_FL_put 41 = .ok (.invokevirtual 55, 3) := by decide +kernel
theorem d_FL_put_44 : decode b_FL_put 44 = .ok (.ireturn, 1) := by decide +kernel
theorem d_FL_cancel_0 : decode b_FL_cancel 0 = .ok (.aload_n 0, 1) := by decide +kernel
theorem d_FL_cancel_1 : decode b_FL_cancel 1 = .ok (.getfield 40, 3) := by decide +kernel
theorem d_FL_cancel_4 : decode b_FL_cancel 4 = .ok (.iload_n 1, 1) := by decide +kernel
theorem d_FL_cancel_5 : decode b_FL_cancel 5 = .ok (.invokevirtual 59, 3) := by decide +kernel
theorem d_FL_cancel_8 : decode b_FL_cancel 8 = .ok (.ifCond .eq 22, 3) := by decide +kernel
theorem d_FL_cancel_11 : decode b_FL_cancel 11 = .ok (.aload_n 0, 1) := by decide +kernel
theorem d_FL_cancel_12 : decode b_FL_cancel 12 = .ok (.getfield 40, 3) := by decide +kernel
theorem d_FL_cancel_15 : decode b_FL_cancel 15 = .ok (.getfield 63, 3) := by decide +kernel
theorem d_FL_cancel_18 : decode b_FL_cancel 18 = .ok (.iload_n 1, 1) := by decide +kernel
theorem d_FL_cancel_19 : decode b_FL_cancel 19 = .ok (.aaload, 1) := by decide +kernel
theorem d_FL_cancel_20 : decode b_FL_cancel 20 = .ok (.invokevirtual 67, 3) := by decide +kernel
theorem d_FL_cancel_23 : decode b_FL_cancel 23 = .ok (.ifCond .eq 7, 3) := by decide +kernel
theorem d_FL_cancel_26 : decode b_FL_cancel 26 = .ok (.iconst 1, 1) := by decide +kernel
theorem d_FL_cancel_27 : decode b_FL_cancel 27 = .ok (.goto 4, 3) := by decide +kernel
theorem d_FL_cancel_30 : decode b_FL_cancel 30 = .ok (.iconst 0, 1) := by decide +kernel
theorem d_FL_cancel_31 : decode b_FL_cancel 31 = .ok (.ireturn, 1) := by decide +kernel
theorem d_FL_suspend_0 : decode b_FL_suspend 0 = .ok (.aload_n 0, 1) := by decide +kernel
theorem d_FL_suspend_1 : decode b_FL_suspend 1 = .ok (.getfield 40, 3) := by decide +kernel
theorem d_FL_suspend_4 : decode b_FL_suspend 4 = .ok (.iload_n 1, 1) := by decide +kernel
theorem d_FL_suspend_5 : decode b_FL_suspend 5 = .ok (.invokevirtual 59, 3) := by decide +kernel
theorem d_FL_suspend_8 : decode b_FL_suspend 8 = .ok (.ifCond .eq 23, 3) := by decide +kernel
theorem d_FL_suspend_11 : decode b_FL_suspend 11 = .ok (.aload_n 0, 1) := by decide +kernel
theorem d_FL_suspend_12 : decode b_FL_suspend 12 = .ok (.getfield 40, 3) := by decide +kernel
theorem d_FL_suspend_15 : decode b_FL_suspend 15 = .ok (.getfield 63, 3) := by decide +kernel
theorem d_FL_suspend_18 : decode b_FL_suspend 18 = .ok (.iload_n 1, 1) := by decide +kernel
theorem d_FL_suspend_19 : decode b_FL_suspend 19 = .ok (.aaload, 1) := by decide +kernel
theorem d_FL_suspend_20 : decode b_FL_suspend 20 = .ok (.iload_n 2, 1) := by decide +kernel
theorem d_FL_suspend_21 : decode b_FL_suspend 21 = .ok (.invokevirtual 73, 3) := by decide +kernel
theorem d_FL_suspend_24 : decode b_FL_suspend 24 = .ok (.ifCond .eq 7, 3) := by decide +kernel
theorem d_FL_suspend_27 : decode b_FL_suspend 27 = .ok (.iconst 1, 1) := by decide +kernel
theorem d_FL_suspend_28 : decode b_FL_suspend 28 = .ok (.goto 4, 3) := by decide +kernel
theorem d_FL_suspend_31 : decode b_FL_suspend 31 = .ok (.iconst 0, 1) := by decide +kernel
theorem d_FL_suspend_32 : decode b_FL_suspend 32 = .ok (.ireturn, 1) := by decide +kernel
theorem d_FL_noise_0 : decode b_FL_noise 0 = .ok (.aload_n 0, 1) := by decide +kernel
theorem d_FL_noise_1 : decode b_FL_noise 1 = .ok (.iload_n 1, 1) := by decide +kernel
theorem d_FL_noise_2 : decode b_FL_noise 2 = .ok (.invokevirtual 77, 3) := by decide +kernel
theorem d_FL_noise_5 : decode b_FL_noise 5 = .ok (.lload_n 2, 1) := by decide +kernel
theorem d_FL_noise_6 : decode b_FL_noise 6 = .ok (.invokevirtual 81, 3) := by decide +kernel
theorem d_FL_noise_9 : decode b_FL_noise 9 = .ok (.return_, 1) := by decide +kernel
theorem d_FL_outage_0 : decode b_FL_outage 0 = .ok (.iload_n 2, 1) := by decide +kernel
theorem d_FL_outage_1 : decode b_FL_outage 1 = .ok (.sipush 201, 3) := by decide +kernel
theorem d_FL_outage_4 : decode b_FL_outage 4 = .ok (.invokestatic 51, 3) := by decide +kernel
theorem d_FL_outage_7 : decode b_FL_outage 7 = .ok (.ifCond .ne 5, 3) := by decide +kernel
theorem d_FL_outage_10 : decode b_FL_outage 10 = .ok (.iconst 0, 1) := by decide +kernel
theorem d_FL_outage_11 : decode b_FL_outage 11 = .ok (.ireturn, 1) := by decide +kernel
theorem d_FL_outage_12 : decode b_FL_outage 12 = .ok (.aload_n 0, 1) := by decide +kernel
theorem d_FL_outage_13 : decode b_FL_outage 13 = .ok (.iload_n 1, 1) := by decide +kernel
theorem d_FL_outage_14 : decode b_FL_outage 14 = .ok (.invokevirtual 77, 3) := by decide +kernel
theorem d_FL_outage_17 : decode b_FL_outage 17 = .ok (.iload_n 2, 1) := by decide +kernel
theorem d_FL_outage_18 : decode b_FL_outage 18 = .ok (.putfield 85, 3) := by decide +kernel
theorem d_FL_outage_21 : decode b_FL_outage 21 = .ok (.iconst 1, 1) := by decide +kernel
theorem d_FL_outage_22 : decode b_FL_outage 22 = .ok (.ireturn, 1) := by decide +kernel
theorem d_FL_run_0 : decode b_FL_run 0 = .ok (.iload_n 1, 1) := by decide +kernel
theorem d_FL_run_1 : decode b_FL_run 1 = .ok (.bipush 101, 2) := by decide +kernel
theorem d_FL_run_3 : decode b_FL_run 3 = .ok (.invokestatic 51, 3) := by decide +kernel
theorem d_FL_run_6 : decode b_FL_run 6 = .ok (.ifCond .ne 5, 3) := by decide +kernel
theorem d_FL_run_9 : decode b_FL_run 9 = .ok (.iconst (-1), 1) := by decide +kernel
theorem d_FL_run_10 : decode b_FL_run 10 = .ok (.ireturn, 1) := by decide +kernel
theorem d_FL_run_11 : decode b_FL_run 11 = .ok (.aload_n 0, 1) := by decide +kernel
theorem d_FL_run_12 : decode b_FL_run 12 = .ok (.getfield 40, 3) := by decide +kernel
theorem d_FL_run_15 : decode b_FL_run 15 = .ok (.invokevirtual 89, 3) := by decide +kernel
theorem d_FL_run_18 : decode b_FL_run 18 = .ok (.aload_n 0, 1) := by decide +kernel
theorem d_FL_run_19 : decode b_FL_run 19 = .ok (.getfield 47, 3) := by decide +kernel
theorem d_FL_run_22 : decode b_FL_run 22 = .ok (.invokevirtual 93, 3) := by decide +kernel
theorem d_FL_run_25 : decode b_FL_run 25 = .ok (.iadd, 1) := by decide +kernel
theorem d_FL_run_26 : decode b_FL_run 26 = .ok (.istore_n 2, 1) := by decide +kernel
theorem d_FL_run_27 : decode b_FL_run 27 = .ok (.iconst 0, 1) := by decide +kernel
theorem d_FL_run_28 : decode b_FL_run 28 = .ok (.istore_n 3, 1) := by decide +kernel
theorem d_FL_run_29 : decode b_FL_run 29 = .ok (.iload_n 3, 1) := by decide +kernel
theorem d_FL_run_30 : decode b_FL_run 30 = .ok (.iload_n 1, 1) := by decide +kernel
theorem d_FL_run_31 : decode b_FL_run 31 = .ok (.if_icmp .ge 13, 3) := by decide +kernel
theorem d_FL_run_34 : decode b_FL_run 34 = .ok (.aload_n 0, 1) := by decide +kernel
theorem d_FL_run_35 : decode b_FL_run 35 = .ok (.invokevirtual 96, 3) := by decide +kernel
theorem d_FL_run_38 : decode b_FL_run 38 = .ok (.iinc 3 1, 3) := by decide +kernel
theorem d_FL_run_41 : decode b_FL_run 41 = .ok (.goto (-12), 3) := by decide +kernel
theorem d_FL_run_44 : decode b_FL_run 44 = .ok (.aload_n 0, 1) := by decide +kernel
theorem d_FL_run_45 : decode b_FL_run 45 = .ok (.getfield 40, 3) := by decide +kernel
theorem d_FL_run_48 : decode b_FL_run 48 = .ok (.invokevirtual 89, 3) := by decide +kernel
theorem d_FL_run_51 : decode b_FL_run 51 = .ok (.aload_n 0, 1) := by decide +kernel
theorem d_FL_run_52 : decode b_FL_run 52 = .ok (.getfield 47, 3) := by decide +kernel
theorem d_FL_run_55 : decode b_FL_run 55 = .ok (.invokevirtual 93, 3) := by decide +kernel
theorem d_FL_run_58 : decode b_FL_run 58 = .ok (.iadd, 1) := by decide +kernel
theorem d_FL_run_59 : decode b_FL_run 59 = .ok (.iload_n 2, 1) := by decide +kernel
theorem d_FL_run_60 : decode b_FL_run 60 = .ok (.isub, 1) := by decide +kernel
theorem d_FL_run_61 : decode b_FL_run 61 = .ok (.ireturn, 1) := by decide +kernel
theorem d_FL_time_0 : decode b_FL_time 0 = .ok (.aload_n 0, 1) := by decide +kernel
theorem d_FL_time_1 : decode b_FL_time 1 = .ok (.getfield 99, 3) := by decide +kernel
theorem d_FL_time_4 : decode b_FL_time 4 = .ok (.ireturn, 1) := by decide +kernel
theorem d_FL_outcome_0 : decode b_FL_outcome 0 = .ok (.iload_n 1, 1) := by decide +kernel
theorem d_FL_outcome_1 : decode b_FL_outcome 1 = .ok (.ifCond .eq 29, 3) := by decide +kernel
theorem d_FL_outcome_4 : decode b_FL_outcome 4 = .ok (.iload_n 2, 1) := by decide +kernel
theorem d_FL_outcome_5 : decode b_FL_outcome 5 = .ok (.bipush 16, 2) := by decide +kernel
theorem d_FL_outcome_7 : decode b_FL_outcome 7 = .ok (.invokestatic 51, 3) := by decide +kernel
theorem d_FL_outcome_10 : decode b_FL_outcome 10 = .ok (.ifCond .eq 18, 3) := by decide +kernel
theorem d_FL_outcome_13 : decode b_FL_outcome 13 = .ok (.aload_n 0, 1) := by decide +kernel
theorem d_FL_outcome_14 : decode b_FL_outcome 14 = .ok (.getfield 47, 3) := by decide +kernel
theorem d_FL_outcome_17 : decode b_FL_outcome 17 = .ok (.getfield 102, 3) := by decide +kernel
theorem d_FL_outcome_20 : decode b_FL_outcome 20 = .ok (.iload_n 2, 1) := by decide +kernel
theorem d_FL_outcome_21 : decode b_FL_outcome 21 = .ok (.aaload, 1) := by decide +kernel
theorem d_FL_outcome_22 : decode b_FL_outcome 22 = .ok (.invokevirtual 106, 3) := by decide +kernel
theorem d_FL_outcome_25 : decode b_FL_outcome 25 = .ok (.goto 4, 3) := by decide +kernel
theorem d_FL_outcome_28 : decode b_FL_outcome 28 = .ok (.iconst (-1), 1) := by decide +kernel
theorem d_FL_outcome_29 : decode b_FL_outcome 29 = .ok (.ireturn, 1) := by decide +kernel
theorem d_FL_outcome_30 : decode b_FL_outcome 30 = .ok (.aload_n 0, 1) := by decide +kernel
theorem d_FL_outcome_31 : decode b_FL_outcome 31 = .ok (.getfield 40, 3) := by decide +kernel
theorem d_FL_outcome_34 : decode b_FL_outcome 34 = .ok (.iload_n 2, 1) := by decide +kernel
theorem d_FL_outcome_35 : decode b_FL_outcome 35 = .ok (.invokevirtual 59, 3) := by decide +kernel
theorem d_FL_outcome_38 : decode b_FL_outcome 38 = .ok (.ifCond .eq 18, 3) := by decide +kernel
theorem d_FL_outcome_41 : decode b_FL_outcome 41 = .ok (.aload_n 0, 1) := by decide +kernel
theorem d_FL_outcome_42 : decode b_FL_outcome 42 = .ok (.getfield 40, 3) := by decide +kernel
theorem d_FL_outcome_45 : decode b_FL_outcome 45 = .ok (.getfield 63, 3) := by decide +kernel
theorem d_FL_outcome_48 : decode b_FL_outcome 48 = .ok (.iload_n 2, 1) := by decide +kernel
theorem d_FL_outcome_49 : decode b_FL_outcome 49 = .ok (.aaload, 1) := by decide +kernel
theorem d_FL_outcome_50 : decode b_FL_outcome 50 = .ok (.invokevirtual 111, 3) := by decide +kernel
theorem d_FL_outcome_53 : decode b_FL_outcome 53 = .ok (.goto 4, 3) := by decide +kernel
theorem d_FL_outcome_56 : decode b_FL_outcome 56 = .ok (.iconst (-1), 1) := by decide +kernel
theorem d_FL_outcome_57 : decode b_FL_outcome 57 = .ok (.ireturn, 1) := by decide +kernel
theorem d_FL_taken_0 : decode b_FL_taken 0 = .ok (.iload_n 1, 1) := by decide +kernel
theorem d_FL_taken_1 : decode b_FL_taken 1 = .ok (.bipush 16, 2) := by decide +kernel
theorem d_FL_taken_3 : decode b_FL_taken 3 = .ok (.invokestatic 51, 3) := by decide +kernel
theorem d_FL_taken_6 : decode b_FL_taken 6 = .ok (.ifCond .eq 12, 3) := by decide +kernel
theorem d_FL_taken_9 : decode b_FL_taken 9 = .ok (.iload_n 2, 1) := by decide +kernel
theorem d_FL_taken_10 : decode b_FL_taken 10 = .ok (.bipush 16, 2) := by decide +kernel
theorem d_FL_taken_12 : decode b_FL_taken 12 = .ok (.invokestatic 51, 3) := by decide +kernel
theorem d_FL_taken_15 : decode b_FL_taken 15 = .ok (.ifCond .ne 5, 3) := by decide +kernel
theorem d_FL_taken_18 : decode b_FL_taken 18 = .ok (.iconst 0, 1) := by decide +kernel
theorem d_FL_taken_19 : decode b_FL_taken 19 = .ok (.ireturn, 1) := by decide +kernel
theorem d_FL_taken_20 : decode b_FL_taken 20 = .ok (.aload_n 0, 1) := by decide +kernel
theorem d_FL_taken_21 : decode b_FL_taken 21 = .ok (.getfield 47, 3) := by decide +kernel
theorem d_FL_taken_24 : decode b_FL_taken 24 = .ok (.getfield 102, 3) := by decide +kernel
theorem d_FL_taken_27 : decode b_FL_taken 27 = .ok (.iload_n 1, 1) := by decide +kernel
theorem d_FL_taken_28 : decode b_FL_taken 28 = .ok (.aaload, 1) := by decide +kernel
theorem d_FL_taken_29 : decode b_FL_taken 29 = .ok (.getfield 112, 3) := by decide +kernel
theorem d_FL_taken_32 : decode b_FL_taken 32 = .ok (.iload_n 2, 1) := by decide +kernel
theorem d_FL_taken_33 : decode b_FL_taken 33 = .ok (.iaload, 1) := by decide +kernel
theorem d_FL_taken_34 : decode b_FL_taken 34 = .ok (.ireturn, 1) := by decide +kernel
theorem d_FL_missing_0 : decode b_FL_missing 0 = .ok (.iload_n 1, 1) := by decide +kernel
theorem d_FL_missing_1 : decode b_FL_missing 1 = .ok (.bipush 16, 2) := by decide +kernel
theorem d_FL_missing_3 : decode b_FL_missing 3 = .ok (.invokestatic 51, 3) := by decide +kernel
theorem d_FL_missing_6 : decode b_FL_missing 6 = .ok (.ifCond .eq 18, 3) := by decide +kernel
theorem d_FL_missing_9 : decode b_FL_missing 9 = .ok (.aload_n 0, 1) := by decide +kernel
theorem d_FL_missing_10 : decode b_FL_missing 10 = .ok (.getfield 47, 3) := by decide +kernel
theorem d_FL_missing_13 : decode b_FL_missing 13 = .ok (.getfield 102, 3) := by decide +kernel
theorem d_FL_missing_16 : decode b_FL_missing 16 = .ok (.iload_n 1, 1) := by decide +kernel
theorem d_FL_missing_17 : decode b_FL_missing 17 = .ok (.aaload, 1) := by decide +kernel
theorem d_FL_missing_18 : decode b_FL_missing 18 = .ok (.getfield 116, 3) := by decide +kernel
theorem d_FL_missing_21 : decode b_FL_missing 21 = .ok (.ifCond .ne 5, 3) := by decide +kernel
theorem d_FL_missing_24 : decode b_FL_missing 24 = .ok (.iconst (-1), 1) := by decide +kernel
theorem d_FL_missing_25 : decode b_FL_missing 25 = .ok (.ireturn, 1) := by decide +kernel
theorem d_FL_missing_26 : decode b_FL_missing 26 = .ok (.aload_n 0, 1) := by decide +kernel
theorem d_FL_missing_27 : decode b_FL_missing 27 = .ok (.getfield 47, 3) := by decide +kernel
theorem d_FL_missing_30 : decode b_FL_missing 30 = .ok (.getfield 102, 3) := by decide +kernel
theorem d_FL_missing_33 : decode b_FL_missing 33 = .ok (.iload_n 1, 1) := by decide +kernel
theorem d_FL_missing_34 : decode b_FL_missing 34 = .ok (.aaload, 1) := by decide +kernel
theorem d_FL_missing_35 : decode b_FL_missing 35 = .ok (.invokevirtual 119, 3) := by decide +kernel
theorem d_FL_missing_38 : decode b_FL_missing 38 = .ok (.ireturn, 1) := by decide +kernel
theorem d_FL_stored_0 : decode b_FL_stored 0 = .ok (.iload_n 1, 1) := by decide +kernel
theorem d_FL_stored_1 : decode b_FL_stored 1 = .ok (.iconst 4, 1) := by decide +kernel
theorem d_FL_stored_2 : decode b_FL_stored 2 = .ok (.invokestatic 51, 3) := by decide +kernel
theorem d_FL_stored_5 : decode b_FL_stored 5 = .ok (.ifCond .eq 15, 3) := by decide +kernel
theorem d_FL_stored_8 : decode b_FL_stored 8 = .ok (.aload_n 0, 1) := by decide +kernel
theorem d_FL_stored_9 : decode b_FL_stored 9 = .ok (.getfield 47, 3) := by decide +kernel
theorem d_FL_stored_12 : decode b_FL_stored 12 = .ok (.iload_n 1, 1) := by decide +kernel
theorem d_FL_stored_13 : decode b_FL_stored 13 = .ok (.iload_n 2, 1) := by decide +kernel
theorem d_FL_stored_14 : decode b_FL_stored 14 = .ok (.invokevirtual 122, 3) := by decide +kernel
theorem d_FL_stored_17 : decode b_FL_stored 17 = .ok (.goto 4, 3) := by decide +kernel
theorem d_FL_stored_20 : decode b_FL_stored 20 = .ok (.iconst 0, 1) := by decide +kernel
theorem d_FL_stored_21 : decode b_FL_stored 21 = .ok (.ireturn, 1) := by decide +kernel
theorem d_FL_report_0 : decode b_FL_report 0 = .ok (.aload_n 0, 1) := by decide +kernel
theorem d_FL_report_1 : decode b_FL_report 1 = .ok (.getfield 47, 3) := by decide +kernel
theorem d_FL_report_4 : decode b_FL_report 4 = .ok (.getfield 125, 3) := by decide +kernel
theorem d_FL_report_7 : decode b_FL_report 7 = .ok (.invokevirtual 129, 3) := by decide +kernel
theorem d_FL_report_10 : decode b_FL_report 10 = .ok (.ireturn, 1) := by decide +kernel
theorem d_FL_window_0 : decode b_FL_window 0 = .ok (.aload_n 0, 1) := by decide +kernel
theorem d_FL_window_1 : decode b_FL_window 1 = .ok (.getfield 40, 3) := by decide +kernel
theorem d_FL_window_4 : decode b_FL_window 4 = .ok (.getfield 134, 3) := by decide +kernel
theorem d_FL_window_7 : decode b_FL_window 7 = .ok (.invokevirtual 137, 3) := by decide +kernel
theorem d_FL_window_10 : decode b_FL_window 10 = .ok (.ireturn, 1) := by decide +kernel
theorem d_FL_alerts_0 : decode b_FL_alerts 0 = .ok (.aload_n 0, 1) := by decide +kernel
theorem d_FL_alerts_1 : decode b_FL_alerts 1 = .ok (.getfield 40, 3) := by decide +kernel
theorem d_FL_alerts_4 : decode b_FL_alerts 4 = .ok (.getfield 134, 3) := by decide +kernel
theorem d_FL_alerts_7 : decode b_FL_alerts 7 = .ok (.getfield 142, 3) := by decide +kernel
theorem d_FL_alerts_10 : decode b_FL_alerts 10 = .ok (.ireturn, 1) := by decide +kernel
theorem d_FL_sent_0 : decode b_FL_sent 0 = .ok (.aload_n 0, 1) := by decide +kernel
theorem d_FL_sent_1 : decode b_FL_sent 1 = .ok (.iload_n 1, 1) := by decide +kernel
theorem d_FL_sent_2 : decode b_FL_sent 2 = .ok (.invokevirtual 77, 3) := by decide +kernel
theorem d_FL_sent_5 : decode b_FL_sent 5 = .ok (.getfield 145, 3) := by decide +kernel
theorem d_FL_sent_8 : decode b_FL_sent 8 = .ok (.ireturn, 1) := by decide +kernel
theorem d_FL_faults_0 : decode b_FL_faults 0 = .ok (.aload_n 0, 1) := by decide +kernel
theorem d_FL_faults_1 : decode b_FL_faults 1 = .ok (.iload_n 1, 1) := by decide +kernel
theorem d_FL_faults_2 : decode b_FL_faults 2 = .ok (.invokevirtual 77, 3) := by decide +kernel
theorem d_FL_faults_5 : decode b_FL_faults 5 = .ok (.getfield 148, 3) := by decide +kernel
theorem d_FL_faults_8 : decode b_FL_faults 8 = .ok (.ldc 151, 2) := by decide +kernel
theorem d_FL_faults_10 : decode b_FL_faults 10 = .ok (.aload_n 0, 1) := by decide +kernel
theorem d_FL_faults_11 : decode b_FL_faults 11 = .ok (.iload_n 1, 1) := by decide +kernel
theorem d_FL_faults_12 : decode b_FL_faults 12 = .ok (.invokevirtual 77, 3) := by decide +kernel
theorem d_FL_faults_15 : decode b_FL_faults 15 = .ok (.getfield 152, 3) := by decide +kernel
theorem d_FL_faults_18 : decode b_FL_faults 18 = .ok (.imul, 1) := by decide +kernel
theorem d_FL_faults_19 : decode b_FL_faults 19 = .ok (.iadd, 1) := by decide +kernel
theorem d_FL_faults_20 : decode b_FL_faults 20 = .ok (.ireturn, 1) := by decide +kernel
theorem d_FL_encode_0 : decode b_FL_encode 0 = .ok (.iload_n 1, 1) := by decide +kernel
theorem d_FL_encode_1 : decode b_FL_encode 1 = .ok (.ifCond .eq 10, 3) := by decide +kernel
theorem d_FL_encode_4 : decode b_FL_encode 4 = .ok (.lload_n 2, 1) := by decide +kernel
theorem d_FL_encode_5 : decode b_FL_encode 5 = .ok (.invokestatic 155, 3) := by decide +kernel
theorem d_FL_encode_8 : decode b_FL_encode 8 = .ok (.goto 7, 3) := by decide +kernel
theorem d_FL_encode_11 : decode b_FL_encode 11 = .ok (.lload_n 2, 1) := by decide +kernel
theorem d_FL_encode_12 : decode b_FL_encode 12 = .ok (.invokestatic 161, 3) := by decide +kernel
theorem d_FL_encode_15 : decode b_FL_encode 15 = .ok (.lreturn, 1) := by decide +kernel
theorem d_FL_decode_0 : decode b_FL_decode 0 = .ok (.iload_n 1, 1) := by decide +kernel
theorem d_FL_decode_1 : decode b_FL_decode 1 = .ok (.ifCond .eq 10, 3) := by decide +kernel
theorem d_FL_decode_4 : decode b_FL_decode 4 = .ok (.lload_n 2, 1) := by decide +kernel
theorem d_FL_decode_5 : decode b_FL_decode 5 = .ok (.invokestatic 164, 3) := by decide +kernel
theorem d_FL_decode_8 : decode b_FL_decode 8 = .ok (.goto 7, 3) := by decide +kernel
theorem d_FL_decode_11 : decode b_FL_decode 11 = .ok (.lload_n 2, 1) := by decide +kernel
theorem d_FL_decode_12 : decode b_FL_decode 12 = .ok (.invokestatic 167, 3) := by decide +kernel
theorem d_FL_decode_15 : decode b_FL_decode 15 = .ok (.lreturn, 1) := by decide +kernel
theorem d_FL_way_0 : decode b_FL_way 0 = .ok (.iload_n 1, 1) := by decide +kernel
theorem d_FL_way_1 : decode b_FL_way 1 = .ok (.ifCond .eq 10, 3) := by decide +kernel
theorem d_FL_way_4 : decode b_FL_way 4 = .ok (.aload_n 0, 1) := by decide +kernel
theorem d_FL_way_5 : decode b_FL_way 5 = .ok (.getfield 28, 3) := by decide +kernel
theorem d_FL_way_8 : decode b_FL_way 8 = .ok (.goto 7, 3) := by decide +kernel
theorem d_FL_way_11 : decode b_FL_way 11 = .ok (.aload_n 0, 1) := by decide +kernel
theorem d_FL_way_12 : decode b_FL_way 12 = .ok (.getfield 32, 3) := by decide +kernel
theorem d_FL_way_15 : decode b_FL_way 15 = .ok (.areturn, 1) := by decide +kernel
theorem d_FL_tick_0 : decode b_FL_tick 0 = .ok (.aload_n 0, 1) := by decide +kernel
theorem d_FL_tick_1 : decode b_FL_tick 1 = .ok (.dup, 1) := by decide +kernel
theorem d_FL_tick_2 : decode b_FL_tick 2 = .ok (.getfield 99, 3) := by decide +kernel
theorem d_FL_tick_5 : decode b_FL_tick 5 = .ok (.iconst 1, 1) := by decide +kernel
theorem d_FL_tick_6 : decode b_FL_tick 6 = .ok (.iadd, 1) := by decide +kernel
theorem d_FL_tick_7 : decode b_FL_tick 7 = .ok (.putfield 99, 3) := by decide +kernel
theorem d_FL_tick_10 : decode b_FL_tick 10 = .ok (.aload_n 0, 1) := by decide +kernel
theorem d_FL_tick_11 : decode b_FL_tick 11 = .ok (.getfield 47, 3) := by decide +kernel
theorem d_FL_tick_14 : decode b_FL_tick 14 = .ok (.aload_n 0, 1) := by decide +kernel
theorem d_FL_tick_15 : decode b_FL_tick 15 = .ok (.getfield 28, 3) := by decide +kernel
theorem d_FL_tick_18 : decode b_FL_tick 18 = .ok (.aload_n 0, 1) := by decide +kernel
theorem d_FL_tick_19 : decode b_FL_tick 19 = .ok (.getfield 99, 3) := by decide +kernel
theorem d_FL_tick_22 : decode b_FL_tick 22 = .ok (.invokevirtual 168, 3) := by decide +kernel
theorem d_FL_tick_25 : decode b_FL_tick 25 = .ok (.invokevirtual 172, 3) := by decide +kernel
theorem d_FL_tick_28 : decode b_FL_tick 28 = .ok (.aload_n 0, 1) := by decide +kernel
theorem d_FL_tick_29 : decode b_FL_tick 29 = .ok (.getfield 47, 3) := by decide +kernel
theorem d_FL_tick_32 : decode b_FL_tick 32 = .ok (.invokevirtual 174, 3) := by decide +kernel
theorem d_FL_tick_35 : decode b_FL_tick 35 = .ok (.aload_n 0, 1) := by decide +kernel
theorem d_FL_tick_36 : decode b_FL_tick 36 = .ok (.getfield 32, 3) := by decide +kernel
theorem d_FL_tick_39 : decode b_FL_tick 39 = .ok (.aload_n 0, 1) := by decide +kernel
theorem d_FL_tick_40 : decode b_FL_tick 40 = .ok (.getfield 99, 3) := by decide +kernel
theorem d_FL_tick_43 : decode b_FL_tick 43 = .ok (.aload_n 0, 1) := by decide +kernel
theorem d_FL_tick_44 : decode b_FL_tick 44 = .ok (.getfield 47, 3) := by decide +kernel
theorem d_FL_tick_47 : decode b_FL_tick 47 = .ok (.invokevirtual 177, 3) := by decide +kernel
theorem d_FL_tick_50 : decode b_FL_tick 50 = .ok (.invokevirtual 181, 3) := by decide +kernel
theorem d_FL_tick_53 : decode b_FL_tick 53 = .ok (.aload_n 0, 1) := by decide +kernel
theorem d_FL_tick_54 : decode b_FL_tick 54 = .ok (.getfield 40, 3) := by decide +kernel
theorem d_FL_tick_57 : decode b_FL_tick 57 = .ok (.aload_n 0, 1) := by decide +kernel
theorem d_FL_tick_58 : decode b_FL_tick 58 = .ok (.getfield 32, 3) := by decide +kernel
theorem d_FL_tick_61 : decode b_FL_tick 61 = .ok (.aload_n 0, 1) := by decide +kernel
theorem d_FL_tick_62 : decode b_FL_tick 62 = .ok (.getfield 99, 3) := by decide +kernel
theorem d_FL_tick_65 : decode b_FL_tick 65 = .ok (.invokevirtual 168, 3) := by decide +kernel
theorem d_FL_tick_68 : decode b_FL_tick 68 = .ok (.invokevirtual 185, 3) := by decide +kernel
theorem d_FL_tick_71 : decode b_FL_tick 71 = .ok (.aload_n 0, 1) := by decide +kernel
theorem d_FL_tick_72 : decode b_FL_tick 72 = .ok (.getfield 40, 3) := by decide +kernel
theorem d_FL_tick_75 : decode b_FL_tick 75 = .ok (.invokevirtual 186, 3) := by decide +kernel
theorem d_FL_tick_78 : decode b_FL_tick 78 = .ok (.aload_n 0, 1) := by decide +kernel
theorem d_FL_tick_79 : decode b_FL_tick 79 = .ok (.getfield 40, 3) := by decide +kernel
theorem d_FL_tick_82 : decode b_FL_tick 82 = .ok (.invokevirtual 187, 3) := by decide +kernel
theorem d_FL_tick_85 : decode b_FL_tick 85 = .ok (.lstore_n 1, 1) := by decide +kernel
theorem d_FL_tick_86 : decode b_FL_tick 86 = .ok (.lload_n 1, 1) := by decide +kernel
theorem d_FL_tick_87 : decode b_FL_tick 87 = .ok (.ldc2_w 188, 3) := by decide +kernel
theorem d_FL_tick_90 : decode b_FL_tick 90 = .ok (.lcmp, 1) := by decide +kernel
theorem d_FL_tick_91 : decode b_FL_tick 91 = .ok (.ifCond .eq 15, 3) := by decide +kernel
theorem d_FL_tick_94 : decode b_FL_tick 94 = .ok (.aload_n 0, 1) := by decide +kernel
theorem d_FL_tick_95 : decode b_FL_tick 95 = .ok (.getfield 28, 3) := by decide +kernel
theorem d_FL_tick_98 : decode b_FL_tick 98 = .ok (.aload_n 0, 1) := by decide +kernel
theorem d_FL_tick_99 : decode b_FL_tick 99 = .ok (.getfield 99, 3) := by decide +kernel
theorem d_FL_tick_102 : decode b_FL_tick 102 = .ok (.lload_n 1, 1) := by decide +kernel
theorem d_FL_tick_103 : decode b_FL_tick 103 = .ok (.invokevirtual 181, 3) := by decide +kernel
theorem d_FL_tick_106 : decode b_FL_tick 106 = .ok (.return_, 1) := by decide +kernel
theorem d_FL_isBelow_0 : decode b_FL_isBelow 0 = .ok (.iload_n 0, 1) := by decide +kernel
theorem d_FL_isBelow_1 : decode b_FL_isBelow 1 = .ok (.ifCond .lt 12, 3) := by decide +kernel
theorem d_FL_isBelow_4 : decode b_FL_isBelow 4 = .ok (.iload_n 0, 1) := by decide +kernel
theorem d_FL_isBelow_5 : decode b_FL_isBelow 5 = .ok (.iload_n 1, 1) := by decide +kernel
theorem d_FL_isBelow_6 : decode b_FL_isBelow 6 = .ok (.if_icmp .ge 7, 3) := by decide +kernel
theorem d_FL_isBelow_9 : decode b_FL_isBelow 9 = .ok (.iconst 1, 1) := by decide +kernel
theorem d_FL_isBelow_10 : decode b_FL_isBelow 10 = .ok (.goto 4, 3) := by decide +kernel
theorem d_FL_isBelow_13 : decode b_FL_isBelow 13 = .ok (.iconst 0, 1) := by decide +kernel
theorem d_FL_isBelow_14 : decode b_FL_isBelow 14 = .ok (.ireturn, 1) := by decide +kernel
theorem d_FL_wordsBelow_0 : decode b_FL_wordsBelow 0 = .ok (.iconst 1, 1) := by decide +kernel
theorem d_FL_wordsBelow_1 : decode b_FL_wordsBelow 1 = .ok (.iload_n 0, 1) := by decide +kernel
theorem d_FL_wordsBelow_2 : decode b_FL_wordsBelow 2 = .ok (.ishl, 1) := by decide +kernel
theorem d_FL_wordsBelow_3 : decode b_FL_wordsBelow 3 = .ok (.iconst 1, 1) := by decide +kernel
theorem d_FL_wordsBelow_4 : decode b_FL_wordsBelow 4 = .ok (.isub, 1) := by decide +kernel
theorem d_FL_wordsBelow_5 : decode b_FL_wordsBelow 5 = .ok (.ireturn, 1) := by decide +kernel
theorem d_FL_sumBelow_0 : decode b_FL_sumBelow 0 = .ok (.iconst 0, 1) := by decide +kernel
theorem d_FL_sumBelow_1 : decode b_FL_sumBelow 1 = .ok (.istore_n 2, 1) := by decide +kernel
theorem d_FL_sumBelow_2 : decode b_FL_sumBelow 2 = .ok (.iconst 0, 1) := by decide +kernel
theorem d_FL_sumBelow_3 : decode b_FL_sumBelow 3 = .ok (.istore_n 3, 1) := by decide +kernel
theorem d_FL_sumBelow_4 : decode b_FL_sumBelow 4 = .ok (.iload_n 3, 1) := by decide +kernel
theorem d_FL_sumBelow_5 : decode b_FL_sumBelow 5 = .ok (.iload_n 0, 1) := by decide +kernel
theorem d_FL_sumBelow_6 : decode b_FL_sumBelow 6 = .ok (.if_icmp .ge 21, 3) := by decide +kernel
theorem d_FL_sumBelow_9 : decode b_FL_sumBelow 9 = .ok (.iload_n 3, 1) := by decide +kernel
theorem d_FL_sumBelow_10 : decode b_FL_sumBelow 10 = .ok (.aload_n 1, 1) := by decide +kernel
theorem d_FL_sumBelow_11 : decode b_FL_sumBelow 11 = .ok (.arraylength, 1) := by decide +kernel
theorem d_FL_sumBelow_12 : decode b_FL_sumBelow 12 = .ok (.if_icmp .ge 15, 3) := by decide +kernel
theorem d_FL_sumBelow_15 : decode b_FL_sumBelow 15 = .ok (.iload_n 2, 1) := by decide +kernel
theorem d_FL_sumBelow_16 : decode b_FL_sumBelow 16 = .ok (.aload_n 1, 1) := by decide +kernel
theorem d_FL_sumBelow_17 : decode b_FL_sumBelow 17 = .ok (.iload_n 3, 1) := by decide +kernel
theorem d_FL_sumBelow_18 : decode b_FL_sumBelow 18 = .ok (.iaload, 1) := by decide +kernel
theorem d_FL_sumBelow_19 : decode b_FL_sumBelow 19 = .ok (.iadd, 1) := by decide +kernel
theorem d_FL_sumBelow_20 : decode b_FL_sumBelow 20 = .ok (.istore_n 2, 1) := by decide +kernel
theorem d_FL_sumBelow_21 : decode b_FL_sumBelow 21 = .ok (.iinc 3 1, 3) := by decide +kernel
theorem d_FL_sumBelow_24 : decode b_FL_sumBelow 24 = .ok (.goto (-20), 3) := by decide +kernel
theorem d_FL_sumBelow_27 : decode b_FL_sumBelow 27 = .ok (.iload_n 2, 1) := by decide +kernel
theorem d_FL_sumBelow_28 : decode b_FL_sumBelow 28 = .ok (.ireturn, 1) := by decide +kernel
theorem d_FL_fourBitsAt_0 : decode b_FL_fourBitsAt 0 = .ok (.lload_n 0, 1) := by decide +kernel
theorem d_FL_fourBitsAt_1 : decode b_FL_fourBitsAt 1 = .ok (.iload_n 2, 1) := by decide +kernel
theorem d_FL_fourBitsAt_2 : decode b_FL_fourBitsAt 2 = .ok (.lushr, 1) := by decide +kernel
theorem d_FL_fourBitsAt_3 : decode b_FL_fourBitsAt 3 = .ok (.l2i, 1) := by decide +kernel
theorem d_FL_fourBitsAt_4 : decode b_FL_fourBitsAt 4 = .ok (.bipush 15, 2) := by decide +kernel
theorem d_FL_fourBitsAt_6 : decode b_FL_fourBitsAt 6 = .ok (.iand, 1) := by decide +kernel
theorem d_FL_fourBitsAt_7 : decode b_FL_fourBitsAt 7 = .ok (.ireturn, 1) := by decide +kernel
theorem d_GR_init_0 : decode b_GR_init 0 = .ok (.aload_n 0, 1) := by decide +kernel
theorem d_GR_init_1 : decode b_GR_init 1 = .ok (.invokespecial 3, 3) := by decide +kernel
theorem d_GR_init_4 : decode b_GR_init 4 = .ok (.aload_n 0, 1) := by decide +kernel
theorem d_GR_init_5 : decode b_GR_init 5 = .ok (.bipush 16, 2) := by decide +kernel
theorem d_GR_init_7 : decode b_GR_init 7 = .ok (.anewarray 9, 3) := by decide +kernel
theorem d_GR_init_10 : decode b_GR_init 10 = .ok (.putfield 11, 3) := by decide +kernel
theorem d_GR_init_13 : decode b_GR_init 13 = .ok (.aload_n 0, 1) := by decide +kernel
theorem d_GR_init_14 : decode b_GR_init 14 = .ok (.new 17, 3) := by decide +kernel
theorem d_GR_init_17 : decode b_GR_init 17 = .ok (.dup, 1) := by decide +kernel
theorem d_GR_init_18 : decode b_GR_init 18 = .ok (.iload_n 1, 1) := by decide +kernel
theorem d_GR_init_19 : decode b_GR_init 19 = .ok (.invokespecial 19, 3) := by decide +kernel
theorem d_GR_init_22 : decode b_GR_init 22 = .ok (.putfield 22, 3) := by decide +kernel
theorem d_GR_init_25 : decode b_GR_init 25 = .ok (.iconst 0, 1) := by decide +kernel
theorem d_GR_init_26 : decode b_GR_init 26 = .ok (.istore_n 2, 1) := by decide +kernel
theorem d_GR_init_27 : decode b_GR_init 27 = .ok (.iload_n 2, 1) := by decide +kernel
theorem d_GR_init_28 : decode b_GR_init 28 = .ok (.bipush 16, 2) := by decide +kernel
theorem d_GR_init_30 : decode b_GR_init 30 = .ok (.if_icmp .ge 24, 3) := by decide +kernel
theorem d_GR_init_33 : decode b_GR_init 33 = .ok (.aload_n 0, 1) := by decide +kernel
theorem d_GR_init_34 : decode b_GR_init 34 = .ok (.getfield 11, 3) := by decide +kernel
theorem d_GR_init_37 : decode b_GR_init 37 = .ok (.iload_n 2, 1) := by decide +kernel
theorem d_GR_init_38 : decode b_GR_init 38 = .ok (.new 9, 3) := by decide +kernel
theorem d_GR_init_41 : decode b_GR_init 41 = .ok (.dup, 1) := by decide +kernel
theorem d_GR_init_42 : decode b_GR_init 42 = .ok (.iload_n 2, 1) := by decide +kernel
theorem d_GR_init_43 : decode b_GR_init 43 = .ok (.iload_n 1, 1) := by decide +kernel
theorem d_GR_init_44 : decode b_GR_init 44 = .ok (.invokespecial 26, 3) := by decide +kernel
theorem d_GR_init_47 : decode b_GR_init 47 = .ok (.aastore, 1) := by decide +kernel
theorem d_GR_init_48 : decode b_GR_init 48 = .ok (.iinc 2 1, 3) := by decide +kernel
theorem d_GR_init_51 : decode b_GR_init 51 = .ok (.goto (-24), 3) := by decide +kernel
theorem d_GR_init_54 : decode b_GR_init 54 = .ok (.return_, 1) := by decide +kernel
theorem d_GR_has_0 : decode b_GR_has 0 = .ok (.iload_n 1, 1) := by decide +kernel
theorem d_GR_has_1 : decode b_GR_has 1 = .ok (.aload_n 0, 1) := by decide +kernel
theorem d_GR_has_2 : decode b_GR_has 2 = .ok (.getfield 29, 3) := by decide +kernel
theorem d_GR_has_5 : decode b_GR_has 5 = .ok (.invokestatic 33, 3) := by decide +kernel
theorem d_GR_has_8 : decode b_GR_has 8 = .ok (.ireturn, 1) := by decide +kernel
theorem d_GR_begin_0 : decode b_GR_begin 0 = .ok (.aload_n 0, 1) := by decide +kernel
theorem d_GR_begin_1 : decode b_GR_begin 1 = .ok (.getfield 29, 3) := by decide +kernel
theorem d_GR_begin_4 : decode b_GR_begin 4 = .ok (.bipush 16, 2) := by decide +kernel
theorem d_GR_begin_6 : decode b_GR_begin 6 = .ok (.if_icmp .lt 5, 3) := by decide +kernel
theorem d_GR_begin_9 : decode b_GR_begin 9 = .ok (.iconst (-1), 1) := by decide +kernel
theorem d_GR_begin_10 : decode b_GR_begin 10 = .ok (.ireturn, 1) := by decide +kernel
theorem d_GR_begin_11 : decode b_GR_begin 11 = .ok (.aload_n 0, 1) := by decide +kernel
theorem d_GR_begin_12 : decode b_GR_begin 12 = .ok (.getfield 11, 3) := by decide +kernel
theorem d_GR_begin_15 : decode b_GR_begin 15 = .ok (.aload_n 0, 1) := by decide +kernel
theorem d_GR_begin_16 : decode b_GR_begin 16 = .ok (.getfield 29, 3) := by decide +kernel
theorem d_GR_begin_19 : decode b_GR_begin 19 = .ok (.aaload, 1) := by decide +kernel
theorem d_GR_begin_20 : decode b_GR_begin 20 = .ok (.aload_n 1, 1) := by decide +kernel
theorem d_GR_begin_21 : decode b_GR_begin 21 = .ok (.iload_n 2, 1) := by decide +kernel
theorem d_GR_begin_22 : decode b_GR_begin 22 = .ok (.iload_n 3, 1) := by decide +kernel
theorem d_GR_begin_23 : decode b_GR_begin 23 = .ok (.iload 4, 2) := by decide +kernel
theorem d_GR_begin_25 : decode b_GR_begin 25 = .ok (.invokevirtual 37, 3) := by decide +kernel
theorem d_GR_begin_28 : decode b_GR_begin 28 = .ok (.aload_n 0, 1) := by decide +kernel
theorem d_GR_begin_29 : decode b_GR_begin 29 = .ok (.dup, 1) := by decide +kernel
theorem d_GR_begin_30 : decode b_GR_begin 30 = .ok (.getfield 29, 3) := by decide +kernel
theorem d_GR_begin_33 : decode b_GR_begin 33 = .ok (.iconst 1, 1) := by decide +kernel
theorem d_GR_begin_34 : decode b_GR_begin 34 = .ok (.iadd, 1) := by decide +kernel
theorem d_GR_begin_35 : decode b_GR_begin 35 = .ok (.putfield 29, 3) := by decide +kernel
theorem d_GR_begin_38 : decode b_GR_begin 38 = .ok (.aload_n 0, 1) := by decide +kernel
theorem d_GR_begin_39 : decode b_GR_begin 39 = .ok (.getfield 29, 3) := by decide +kernel
theorem d_GR_begin_42 : decode b_GR_begin 42 = .ok (.iconst 1, 1) := by decide +kernel
theorem d_GR_begin_43 : decode b_GR_begin 43 = .ok (.isub, 1) := by decide +kernel
theorem d_GR_begin_44 : decode b_GR_begin 44 = .ok (.ireturn, 1) := by decide +kernel
theorem d_GR_hear_0 : decode b_GR_hear 0 = .ok (.lload_n 1, 1) := by decide +kernel
theorem d_GR_hear_1 : decode b_GR_hear 1 = .ok (.ldc2_w 41, 3) := by decide +kernel
theorem d_GR_hear_4 : decode b_GR_hear 4 = .ok (.lcmp, 1) := by decide +kernel
theorem d_GR_hear_5 : decode b_GR_hear 5 = .ok (.ifCond .ne 4, 3) := by decide +kernel
theorem d_GR_hear_8 : decode b_GR_hear 8 = .ok (.return_, 1) := by decide +kernel
theorem d_GR_hear_9 : decode b_GR_hear 9 = .ok (.aload_n 0, 1) := by decide +kernel
theorem d_GR_hear_10 : decode b_GR_hear 10 = .ok (.getfield 22, 3) := by decide +kernel
theorem d_GR_hear_13 : decode b_GR_hear 13 = .ok (.lload_n 1, 1) := by decide +kernel
theorem d_GR_hear_14 : decode b_GR_hear 14 = .ok (.iconst 0, 1) := by decide +kernel
theorem d_GR_hear_15 : decode b_GR_hear 15 = .ok (.invokestatic 43, 3) := by decide +kernel
theorem d_GR_hear_18 : decode b_GR_hear 18 = .ok (.lload_n 1, 1) := by decide +kernel
theorem d_GR_hear_19 : decode b_GR_hear 19 = .ok (.ldc2_w 47, 3) := by decide +kernel
theorem d_GR_hear_22 : decode b_GR_hear 22 = .ok (.land, 1) := by decide +kernel
theorem d_GR_hear_23 : decode b_GR_hear 23 = .ok (.lconst 0, 1) := by decide +kernel
theorem d_GR_hear_24 : decode b_GR_hear 24 = .ok (.lcmp, 1) := by decide +kernel
theorem d_GR_hear_25 : decode b_GR_hear 25 = .ok (.ifCond .eq 7, 3) := by decide +kernel
theorem d_GR_hear_28 : decode b_GR_hear 28 = .ok (.iconst 1, 1) := by decide +kernel
theorem d_GR_hear_29 : decode b_GR_hear 29 = .ok (.goto 4, 3) := by decide +kernel
theorem d_GR_hear_32 : decode b_GR_hear 32 = .ok (.iconst 0, 1) := by decide +kernel
theorem d_GR_hear_33 : decode b_GR_hear 33 = .ok (.lload_n 1, 1) := by decide +kernel
theorem d_GR_hear_34 : decode b_GR_hear 34 = .ok (.ldc2_w 49, 3) := by decide +kernel
theorem d_GR_hear_37 : decode b_GR_hear 37 = .ok (.land, 1) := by decide +kernel
theorem d_GR_hear_38 : decode b_GR_hear 38 = .ok (.lconst 0, 1) := by decide +kernel
theorem d_GR_hear_39 : decode b_GR_hear 39 = .ok (.lcmp, 1) := by decide +kernel
theorem d_GR_hear_40 : decode b_GR_hear 40 = .ok (.ifCond .eq 7, 3) := by decide +kernel
theorem d_GR_hear_43 : decode b_GR_hear 43 = .ok (.iconst 1, 1) := by decide +kernel
theorem d_GR_hear_44 : decode b_GR_hear 44 = .ok (.goto 4, 3) := by decide +kernel
theorem d_GR_hear_47 : decode b_GR_hear 47 = .ok (.iconst 0, 1) := by decide +kernel
theorem d_GR_hear_48 : decode b_GR_hear 48 = .ok (.invokevirtual 51, 3) := by decide +kernel
theorem d_GR_hear_51 : decode b_GR_hear 51 = .ok (.lload_n 1, 1) := by decide +kernel
theorem d_GR_hear_52 : decode b_GR_hear 52 = .ok (.bipush 12, 2) := by decide +kernel
theorem d_GR_hear_54 : decode b_GR_hear 54 = .ok (.invokestatic 43, 3) := by decide +kernel
theorem d_GR_hear_57 : decode b_GR_hear 57 = .ok (.istore_n 3, 1) := by decide +kernel
theorem d_GR_hear_58 : decode b_GR_hear 58 = .ok (.aload_n 0, 1) := by decide +kernel
theorem d_GR_hear_59 : decode b_GR_hear 59 = .ok (.iload_n 3, 1) := by decide +kernel
theorem d_GR_hear_60 : decode b_GR_hear 60 = .ok (.invokevirtual 55, 3) := by decide +kernel
theorem d_GR_hear_63 : decode b_GR_hear 63 = .ok (.ifCond .eq 26, 3) := by decide +kernel
theorem d_GR_hear_66 : decode b_GR_hear 66 = .ok (.aload_n 0, 1) := by decide +kernel
theorem d_GR_hear_67 : decode b_GR_hear 67 = .ok (.getfield 11, 3) := by decide +kernel
theorem d_GR_hear_70 : decode b_GR_hear 70 = .ok (.iload_n 3, 1) := by decide +kernel
theorem d_GR_hear_71 : decode b_GR_hear 71 = .ok (.aaload, 1) := by decide +kernel
theorem d_GR_hear_72 : decode b_GR_hear 72 = .ok (.lload_n 1, 1) := by decide +kernel
theorem d_GR_hear_73 : decode b_GR_hear 73 = .ok (.bipush 8, 2) := by decide +kernel
theorem d_GR_hear_75 : decode b_GR_hear 75 = .ok (.invokestatic 43, 3) := by decide +kernel
theorem d_GR_hear_78 : decode b_GR_hear 78 = .ok (.lload_n 1, 1) := by decide +kernel
theorem d_GR_hear_79 : decode b_GR_hear 79 = .ok (.bipush 16, 2) := by decide +kernel
theorem d_GR_hear_81 : decode b_GR_hear 81 = .ok (.lushr, 1) := by decide +kernel
theorem d_GR_hear_82 : decode b_GR_hear 82 = .ok (.l2i, 1) := by decide +kernel
theorem d_GR_hear_83 : decode b_GR_hear 83 = .ok (.ldc 59, 2) := by decide +kernel
theorem d_GR_hear_85 : decode b_GR_hear 85 = .ok (.iand, 1) := by decide +kernel
theorem d_GR_hear_86 : decode b_GR_hear 86 = .ok (.invokevirtual 60, 3) := by decide +kernel
theorem d_GR_hear_89 : decode b_GR_hear 89 = .ok (.return_, 1) := by decide +kernel
theorem d_GR_stepClocks_0 : decode b_GR_stepClocks 0 = .ok (.aload_n 0, 1) := by decide +kernel
theorem d_GR_stepClocks_1 : decode b_GR_stepClocks 1 = .ok (.getfield 22, 3) := by decide +kernel
theorem d_GR_stepClocks_4 : decode b_GR_stepClocks 4 = .ok (.invokevirtual 62, 3) := by decide +kernel
theorem d_GR_stepClocks_7 : decode b_GR_stepClocks 7 = .ok (.iconst 0, 1) := by decide +kernel
theorem d_GR_stepClocks_8 : decode b_GR_stepClocks 8 = .ok (.istore_n 1, 1) := by decide +kernel
theorem d_GR_stepClocks_9 : decode b_GR_stepClocks 9 = .ok (.iload_n 1, 1) := by decide +kernel
theorem d_GR_stepClocks_10 : decode b_GR_stepClocks 10 = .ok (.aload_n 0, 1) := by decide +kernel
theorem d_GR_stepClocks_11 : decode b_GR_stepClocks 11 = .ok (.getfield 29, 3) := by decide +kernel
theorem d_GR_stepClocks_14 : decode b_GR_stepClocks 14 = .ok (.if_icmp .ge 18, 3) := by decide +kernel
theorem d_GR_stepClocks_17 : decode b_GR_stepClocks 17 = .ok (.aload_n 0, 1) := by decide +kernel
theorem d_GR_stepClocks_18 : decode b_GR_stepClocks 18 = .ok (.getfield 11, 3) := by decide +kernel
theorem d_GR_stepClocks_21 : decode b_GR_stepClocks 21 = .ok (.iload_n 1, 1) := by decide +kernel
theorem d_GR_stepClocks_22 : decode b_GR_stepClocks 22 = .ok (.aaload, 1) := by decide +kernel
theorem d_GR_stepClocks_23 : decode b_GR_stepClocks 23 = .ok (.invokevirtual 65, 3) := by decide +kernel
theorem d_GR_stepClocks_26 : decode b_GR_stepClocks 26 = .ok (.iinc 1 1, 3) := by decide +kernel
theorem d_GR_stepClocks_29 : decode b_GR_stepClocks 29 = .ok (.goto (-20), 3) := by decide +kernel
theorem d_GR_stepClocks_32 : decode b_GR_stepClocks 32 = .ok (.return_, 1) := by decide +kernel
theorem d_GR_nextInfo_0 : decode b_GR_nextInfo 0 = .ok (.aload_n 0, 1) := by decide +kernel
theorem d_GR_nextInfo_1 : decode b_GR_nextInfo 1 = .ok (.getfield 22, 3) := by decide +kernel
theorem d_GR_nextInfo_4 : decode b_GR_nextInfo 4 = .ok (.getfield 68, 3) := by decide +kernel
theorem d_GR_nextInfo_7 : decode b_GR_nextInfo 7 = .ok (.ifCond .eq 11, 3) := by decide +kernel
theorem d_GR_nextInfo_10 : decode b_GR_nextInfo 10 = .ok (.aload_n 0, 1) := by decide +kernel
theorem d_GR_nextInfo_11 : decode b_GR_nextInfo 11 = .ok (.getfield 22, 3) := by decide +kernel
theorem d_GR_nextInfo_14 : decode b_GR_nextInfo 14 = .ok (.invokevirtual 72, 3) := by decide +kernel
theorem d_GR_nextInfo_17 : decode b_GR_nextInfo 17 = .ok (.lreturn, 1) := by decide +kernel
theorem d_GR_nextInfo_18 : decode b_GR_nextInfo 18 = .ok (.aload_n 0, 1) := by decide +kernel
theorem d_GR_nextInfo_19 : decode b_GR_nextInfo 19 = .ok (.getfield 22, 3) := by decide +kernel
theorem d_GR_nextInfo_22 : decode b_GR_nextInfo 22 = .ok (.invokevirtual 76, 3) := by decide +kernel
theorem d_GR_nextInfo_25 : decode b_GR_nextInfo 25 = .ok (.lstore_n 1, 1) := by decide +kernel
theorem d_GR_nextInfo_26 : decode b_GR_nextInfo 26 = .ok (.lload_n 1, 1) := by decide +kernel
theorem d_GR_nextInfo_27 : decode b_GR_nextInfo 27 = .ok (.ldc2_w 41, 3) := by decide +kernel
theorem d_GR_nextInfo_30 : decode b_GR_nextInfo 30 = .ok (.lcmp, 1) := by decide +kernel
theorem d_GR_nextInfo_31 : decode b_GR_nextInfo 31 = .ok (.ifCond .eq 5, 3) := by decide +kernel
theorem d_GR_nextInfo_34 : decode b_GR_nextInfo 34 = .ok (.lload_n 1, 1) := by decide +kernel
theorem d_GR_nextInfo_35 : decode b_GR_nextInfo 35 = .ok (.lreturn, 1) := by decide +kernel
theorem d_GR_nextInfo_36 : decode b_GR_nextInfo 36 = .ok (.aload_n 0, 1) := by decide +kernel
theorem d_GR_nextInfo_37 : decode b_GR_nextInfo 37 = .ok (.getfield 22, 3) := by decide +kernel
theorem d_GR_nextInfo_40 : decode b_GR_nextInfo 40 = .ok (.invokevirtual 79, 3) := by decide +kernel
theorem d_GR_nextInfo_43 : decode b_GR_nextInfo 43 = .ok (.istore_n 3, 1) := by decide +kernel
theorem d_GR_nextInfo_44 : decode b_GR_nextInfo 44 = .ok (.iconst 0, 1) := by decide +kernel
theorem d_GR_nextInfo_45 : decode b_GR_nextInfo 45 = .ok (.istore 4, 2) := by decide +kernel
theorem d_GR_nextInfo_47 : decode b_GR_nextInfo 47 = .ok (.iload 4, 2) := by decide +kernel
theorem d_GR_nextInfo_49 : decode b_GR_nextInfo 49 = .ok (.aload_n 0, 1) := by decide +kernel
theorem d_GR_nextInfo_50 : decode b_GR_nextInfo 50 = .ok (.getfield 29, 3) := by decide +kernel
theorem d_GR_nextInfo_53 : decode b_GR_nextInfo 53 = .ok (.if_icmp .ge 69, 3) := by decide +kernel
theorem d_GR_nextInfo_56 : decode b_GR_nextInfo 56 = .ok (.aload_n 0, 1) := by decide +kernel
theorem d_GR_nextInfo_57 : decode b_GR_nextInfo 57 = .ok (.getfield 11, 3) := by decide +kernel
theorem d_GR_nextInfo_60 : decode b_GR_nextInfo 60 = .ok (.iload 4, 2) := by decide +kernel
theorem d_GR_nextInfo_62 : decode b_GR_nextInfo 62 = .ok (.aaload, 1) := by decide +kernel
theorem d_GR_nextInfo_63 : decode b_GR_nextInfo 63 = .ok (.astore 5, 2) := by decide +kernel
theorem d_GR_nextInfo_65 : decode b_GR_nextInfo 65 = .ok (.aload 5, 2) := by decide +kernel
theorem d_GR_nextInfo_67 : decode b_GR_nextInfo 67 = .ok (.invokevirtual 83, 3) := by decide +kernel
theorem d_GR_nextInfo_70 : decode b_GR_nextInfo 70 = .ok (.ifCond .eq 21, 3) := by decide +kernel
theorem d_GR_nextInfo_73 : decode b_GR_nextInfo 73 = .ok (.aload 5, 2) := by decide +kernel
theorem d_GR_nextInfo_75 : decode b_GR_nextInfo 75 = .ok (.getfield 86, 3) := by decide +kernel
theorem d_GR_nextInfo_78 : decode b_GR_nextInfo 78 = .ok (.ifCond .eq 13, 3) := by decide +kernel
theorem d_GR_nextInfo_81 : decode b_GR_nextInfo 81 = .ok (.ldc2_w 89, 3) := by decide +kernel
theorem d_GR_nextInfo_84 : decode b_GR_nextInfo 84 = .ok (.aload 5, 2) := by decide +kernel
theorem d_GR_nextInfo_86 : decode b_GR_nextInfo 86 = .ok (.invokevirtual 91, 3) := by decide +kernel
theorem d_GR_nextInfo_89 : decode b_GR_nextInfo 89 = .ok (.lor, 1) := by decide +kernel
theorem d_GR_nextInfo_90 : decode b_GR_nextInfo 90 = .ok (.lreturn, 1) := by decide +kernel
theorem d_GR_nextInfo_91 : decode b_GR_nextInfo 91 = .ok (.aload 5, 2) := by decide +kernel
theorem d_GR_nextInfo_93 : decode b_GR_nextInfo 93 = .ok (.invokevirtual 83, 3) := by decide +kernel
theorem d_GR_nextInfo_96 : decode b_GR_nextInfo 96 = .ok (.ifCond .eq 20, 3) := by decide +kernel
theorem d_GR_nextInfo_99 : decode b_GR_nextInfo 99 = .ok (.iload_n 3, 1) := by decide +kernel
theorem d_GR_nextInfo_100 : decode b_GR_nextInfo 100 = .ok (.ifCond .eq 16, 3) := by decide +kernel
theorem d_GR_nextInfo_103 : decode b_GR_nextInfo 103 = .ok (.aload_n 0, 1) := by decide +kernel
theorem d_GR_nextInfo_104 : decode b_GR_nextInfo 104 = .ok (.getfield 22, 3) := by decide +kernel
theorem d_GR_nextInfo_107 : decode b_GR_nextInfo 107 = .ok (.aload 5, 2) := by decide +kernel
theorem d_GR_nextInfo_109 : decode b_GR_nextInfo 109 = .ok (.invokevirtual 91, 3) := by decide +kernel
theorem d_GR_nextInfo_112 : decode b_GR_nextInfo 112 = .ok (.invokevirtual 94, 3) := by decide +kernel
theorem d_GR_nextInfo_115 : decode b_GR_nextInfo 115 = .ok (.lreturn, 1) := by decide +kernel
theorem d_GR_nextInfo_116 : decode b_GR_nextInfo 116 = .ok (.iinc 4 1, 3) := by decide +kernel
theorem d_GR_nextInfo_119 : decode b_GR_nextInfo 119 = .ok (.goto (-72), 3) := by decide +kernel
theorem d_GR_nextInfo_122 : decode b_GR_nextInfo 122 = .ok (.ldc2_w 41, 3) := by decide +kernel
theorem d_GR_nextInfo_125 : decode b_GR_nextInfo 125 = .ok (.lreturn, 1) := by decide +kernel
theorem d_GR_countEnded_0 : decode b_GR_countEnded 0 = .ok (.iconst 0, 1) := by decide +kernel
theorem d_GR_countEnded_1 : decode b_GR_countEnded 1 = .ok (.istore_n 1, 1) := by decide +kernel
theorem d_GR_countEnded_2 : decode b_GR_countEnded 2 = .ok (.iconst 0, 1) := by decide +kernel
theorem d_GR_countEnded_3 : decode b_GR_countEnded 3 = .ok (.istore_n 2, 1) := by decide +kernel
theorem d_GR_countEnded_4 : decode b_GR_countEnded 4 = .ok (.iload_n 2, 1) := by decide +kernel
theorem d_GR_countEnded_5 : decode b_GR_countEnded 5 = .ok (.aload_n 0, 1) := by decide +kernel
theorem d_GR_countEnded_6 : decode b_GR_countEnded 6 = .ok (.getfield 29, 3) := by decide +kernel
theorem d_GR_countEnded_9 : decode b_GR_countEnded 9 = .ok (.if_icmp .ge 24, 3) := by decide +kernel
theorem d_GR_countEnded_12 : decode b_GR_countEnded 12 = .ok (.aload_n 0, 1) := by decide +kernel
theorem d_GR_countEnded_13 : decode b_GR_countEnded 13 = .ok (.getfield 11, 3) := by decide +kernel
theorem d_GR_countEnded_16 : decode b_GR_countEnded 16 = .ok (.iload_n 2, 1) := by decide +kernel
theorem d_GR_countEnded_17 : decode b_GR_countEnded 17 = .ok (.aaload, 1) := by decide +kernel
theorem d_GR_countEnded_18 : decode b_GR_countEnded 18 = .ok (.getfield 98, 3) := by decide +kernel
theorem d_GR_countEnded_21 : decode b_GR_countEnded 21 = .ok (.ifCond .eq 6, 3) := by decide +kernel
theorem d_GR_countEnded_24 : decode b_GR_countEnded 24 = .ok (.iinc 1 1, 3) := by decide +kernel
theorem d_GR_countEnded_27 : decode b_GR_countEnded 27 = .ok (.iinc 2 1, 3) := by decide +kernel
theorem d_GR_countEnded_30 : decode b_GR_countEnded 30 = .ok (.goto (-26), 3) := by decide +kernel
theorem d_GR_countEnded_33 : decode b_GR_countEnded 33 = .ok (.iload_n 1, 1) := by decide +kernel
theorem d_GR_countEnded_34 : decode b_GR_countEnded 34 = .ok (.ireturn, 1) := by decide +kernel
theorem d_GF_init_0 : decode b_GF_init 0 = .ok (.aload_n 0, 1) := by decide +kernel
theorem d_GF_init_1 : decode b_GF_init 1 = .ok (.invokespecial 3, 3) := by decide +kernel
theorem d_GF_init_4 : decode b_GF_init 4 = .ok (.aload_n 0, 1) := by decide +kernel
theorem d_GF_init_5 : decode b_GF_init 5 = .ok (.bipush 16, 2) := by decide +kernel
theorem d_GF_init_7 : decode b_GF_init 7 = .ok (.newarray .long, 2) := by decide +kernel
theorem d_GF_init_9 : decode b_GF_init 9 = .ok (.putfield 9, 3) := by decide +kernel
theorem d_GF_init_12 : decode b_GF_init 12 = .ok (.aload_n 0, 1) := by decide +kernel
theorem d_GF_init_13 : decode b_GF_init 13 = .ok (.bipush 16, 2) := by decide +kernel
theorem d_GF_init_15 : decode b_GF_init 15 = .ok (.newarray .boolean, 2) := by decide +kernel
theorem d_GF_init_17 : decode b_GF_init 17 = .ok (.putfield 15, 3) := by decide +kernel
theorem d_GF_init_20 : decode b_GF_init 20 = .ok (.aload_n 0, 1) := by decide +kernel
theorem d_GF_init_21 : decode b_GF_init 21 = .ok (.iconst 0, 1) := by decide +kernel
theorem d_GF_init_22 : decode b_GF_init 22 = .ok (.putfield 19, 3) := by decide +kernel
theorem d_GF_init_25 : decode b_GF_init 25 = .ok (.aload_n 0, 1) := by decide +kernel
theorem d_GF_init_26 : decode b_GF_init 26 = .ok (.iconst 1, 1) := by decide +kernel
theorem d_GF_init_27 : decode b_GF_init 27 = .ok (.putfield 23, 3) := by decide +kernel
theorem d_GF_init_30 : decode b_GF_init 30 = .ok (.aload_n 0, 1) := by decide +kernel
theorem d_GF_init_31 : decode b_GF_init 31 = .ok (.iload_n 1, 1) := by decide +kernel
theorem d_GF_init_32 : decode b_GF_init 32 = .ok (.putfield 26, 3) := by decide +kernel
theorem d_GF_init_35 : decode b_GF_init 35 = .ok (.return_, 1) := by decide +kernel
theorem d_GF_hear_0 : decode b_GF_hear 0 = .ok (.aload_n 0, 1) := by decide +kernel
theorem d_GF_hear_1 : decode b_GF_hear 1 = .ok (.getfield 19, 3) := by decide +kernel
theorem d_GF_hear_4 : decode b_GF_hear 4 = .ok (.ifCond .ne 13, 3) := by decide +kernel
theorem d_GF_hear_7 : decode b_GF_hear 7 = .ok (.aload_n 0, 1) := by decide +kernel
theorem d_GF_hear_8 : decode b_GF_hear 8 = .ok (.iload_n 1, 1) := by decide +kernel
theorem d_GF_hear_9 : decode b_GF_hear 9 = .ok (.iload_n 2, 1) := by decide +kernel
theorem d_GF_hear_10 : decode b_GF_hear 10 = .ok (.iload_n 3, 1) := by decide +kernel
theorem d_GF_hear_11 : decode b_GF_hear 11 = .ok (.invokevirtual 29, 3) := by decide +kernel
theorem d_GF_hear_14 : decode b_GF_hear 14 = .ok (.goto 57, 3) := by decide +kernel
theorem d_GF_hear_17 : decode b_GF_hear 17 = .ok (.aload_n 0, 1) := by decide +kernel
theorem d_GF_hear_18 : decode b_GF_hear 18 = .ok (.getfield 19, 3) := by decide +kernel
theorem d_GF_hear_21 : decode b_GF_hear 21 = .ok (.iconst 1, 1) := by decide +kernel
theorem d_GF_hear_22 : decode b_GF_hear 22 = .ok (.if_icmp .ne 15, 3) := by decide +kernel
theorem d_GF_hear_25 : decode b_GF_hear 25 = .ok (.iload_n 2, 1) := by decide +kernel
theorem d_GF_hear_26 : decode b_GF_hear 26 = .ok (.ifCond .ne 45, 3) := by decide +kernel
theorem d_GF_hear_29 : decode b_GF_hear 29 = .ok (.aload_n 0, 1) := by decide +kernel
theorem d_GF_hear_30 : decode b_GF_hear 30 = .ok (.iconst 2, 1) := by decide +kernel
theorem d_GF_hear_31 : decode b_GF_hear 31 = .ok (.invokevirtual 33, 3) := by decide +kernel
theorem d_GF_hear_34 : decode b_GF_hear 34 = .ok (.goto 37, 3) := by decide +kernel
theorem d_GF_hear_37 : decode b_GF_hear 37 = .ok (.iload_n 2, 1) := by decide +kernel
theorem d_GF_hear_38 : decode b_GF_hear 38 = .ok (.ifCond .eq 11, 3) := by decide +kernel
theorem d_GF_hear_41 : decode b_GF_hear 41 = .ok (.aload_n 0, 1) := by decide +kernel
theorem d_GF_hear_42 : decode b_GF_hear 42 = .ok (.iconst 1, 1) := by decide +kernel
theorem d_GF_hear_43 : decode b_GF_hear 43 = .ok (.invokevirtual 33, 3) := by decide +kernel
theorem d_GF_hear_46 : decode b_GF_hear 46 = .ok (.goto 25, 3) := by decide +kernel
theorem d_GF_hear_49 : decode b_GF_hear 49 = .ok (.iload_n 1, 1) := by decide +kernel
theorem d_GF_hear_50 : decode b_GF_hear 50 = .ok (.aload_n 0, 1) := by decide +kernel
theorem d_GF_hear_51 : decode b_GF_hear 51 = .ok (.getfield 37, 3) := by decide +kernel
theorem d_GF_hear_54 : decode b_GF_hear 54 = .ok (.if_icmp .ne 17, 3) := by decide +kernel
theorem d_GF_hear_57 : decode b_GF_hear 57 = .ok (.iload_n 3, 1) := by decide +kernel
theorem d_GF_hear_58 : decode b_GF_hear 58 = .ok (.ifCond .ne 13, 3) := by decide +kernel
theorem d_GF_hear_61 : decode b_GF_hear 61 = .ok (.aload_n 0, 1) := by decide +kernel
theorem d_GF_hear_62 : decode b_GF_hear 62 = .ok (.iconst 0, 1) := by decide +kernel
theorem d_GF_hear_63 : decode b_GF_hear 63 = .ok (.putfield 19, 3) := by decide +kernel
theorem d_GF_hear_66 : decode b_GF_hear 66 = .ok (.aload_n 0, 1) := by decide +kernel
theorem d_GF_hear_67 : decode b_GF_hear 67 = .ok (.iconst 0, 1) := by decide +kernel
theorem d_GF_hear_68 : decode b_GF_hear 68 = .ok (.putfield 40, 3) := by decide +kernel
theorem d_GF_hear_71 : decode b_GF_hear 71 = .ok (.return_, 1) := by decide +kernel
theorem d_GF_hearActive_0 : decode b_GF_hearActive 0 = .ok (.iload_n 1, 1) := by decide +kernel
theorem d_GF_hearActive_1 : decode b_GF_hearActive 1 = .ok (.aload_n 0, 1) := by decide +kernel
theorem d_GF_hearActive_2 : decode b_GF_hearActive 2 = .ok (.getfield 37, 3) := by decide +kernel
theorem d_GF_hearActive_5 : decode b_GF_hearActive 5 = .ok (.isub, 1) := by decide +kernel
theorem d_GF_hearActive_6 : decode b_GF_hearActive 6 = .ok (.aload_n 0, 1) := by decide +kernel
theorem d_GF_hearActive_7 : decode b_GF_hearActive 7 = .ok (.getfield 44, 3) := by decide +kernel
theorem d_GF_hearActive_10 : decode b_GF_hearActive 10 = .ok (.iadd, 1) := by decide +kernel
theorem d_GF_hearActive_11 : decode b_GF_hearActive 11 = .ok (.bipush 15, 2) := by decide +kernel
theorem d_GF_hearActive_13 : decode b_GF_hearActive 13 = .ok (.iand, 1) := by decide +kernel
theorem d_GF_hearActive_14 : decode b_GF_hearActive 14 = .ok (.istore 4, 2) := by decide +kernel
theorem d_GF_hearActive_16 : decode b_GF_hearActive 16 = .ok (.iload_n 2, 1) := by decide +kernel
theorem d_GF_hearActive_17 : decode b_GF_hearActive 17 = .ok (.ifCond .eq 11, 3) := by decide +kernel
theorem d_GF_hearActive_20 : decode b_GF_hearActive 20 = .ok (.aload_n 0, 1) := by decide +kernel
theorem d_GF_hearActive_21 : decode b_GF_hearActive 21 = .ok (.iconst 1, 1) := by decide +kernel
theorem d_GF_hearActive_22 : decode b_GF_hearActive 22 = .ok (.invokevirtual 47, 3) := by decide +kernel
theorem d_GF_hearActive_25 : decode b_GF_hearActive 25 = .ok (.goto 71, 3) := by decide +kernel
theorem d_GF_hearActive_28 : decode b_GF_hearActive 28 = .ok (.iload 4, 2) := by decide +kernel
theorem d_GF_hearActive_30 : decode b_GF_hearActive 30 = .ok (.aload_n 0, 1) := by decide +kernel
theorem d_GF_hearActive_31 : decode b_GF_hearActive 31 = .ok (.getfield 44, 3) := by decide +kernel
theorem d_GF_hearActive_34 : decode b_GF_hearActive 34 = .ok (.if_icmp .le 11, 3) := by decide +kernel
theorem d_GF_hearActive_37 : decode b_GF_hearActive 37 = .ok (.aload_n 0, 1) := by decide +kernel
theorem d_GF_hearActive_38 : decode b_GF_hearActive 38 = .ok (.iconst 2, 1) := by decide +kernel
theorem d_GF_hearActive_39 : decode b_GF_hearActive 39 = .ok (.invokevirtual 47, 3) := by decide +kernel
theorem d_GF_hearActive_42 : decode b_GF_hearActive 42 = .ok (.goto 54, 3) := by decide +kernel
theorem d_GF_hearActive_45 : decode b_GF_hearActive 45 = .ok (.aload_n 0, 1) := by decide +kernel
theorem d_GF_hearActive_46 : decode b_GF_hearActive 46 = .ok (.iload 4, 2) := by decide +kernel
theorem d_GF_hearActive_48 : decode b_GF_hearActive 48 = .ok (.invokevirtual 50, 3) := by decide +kernel
theorem d_GF_hearActive_51 : decode b_GF_hearActive 51 = .ok (.iload_n 3, 1) := by decide +kernel
theorem d_GF_hearActive_52 : decode b_GF_hearActive 52 = .ok (.ifCond .ne 11, 3) := by decide +kernel
theorem d_GF_hearActive_55 : decode b_GF_hearActive 55 = .ok (.aload_n 0, 1) := by decide +kernel
theorem d_GF_hearActive_56 : decode b_GF_hearActive 56 = .ok (.iconst 0, 1) := by decide +kernel
theorem d_GF_hearActive_57 : decode b_GF_hearActive 57 = .ok (.putfield 53, 3) := by decide +kernel
theorem d_GF_hearActive_60 : decode b_GF_hearActive 60 = .ok (.goto 36, 3) := by decide +kernel
theorem d_GF_hearActive_63 : decode b_GF_hearActive 63 = .ok (.aload_n 0, 1) := by decide +kernel
theorem d_GF_hearActive_64 : decode b_GF_hearActive 64 = .ok (.getfield 44, 3) := by decide +kernel
theorem d_GF_hearActive_67 : decode b_GF_hearActive 67 = .ok (.ifCond .le 29, 3) := by decide +kernel
theorem d_GF_hearActive_70 : decode b_GF_hearActive 70 = .ok (.iload 4, 2) := by decide +kernel
theorem d_GF_hearActive_72 : decode b_GF_hearActive 72 = .ok (.ifCond .gt 10, 3) := by decide +kernel
theorem d_GF_hearActive_75 : decode b_GF_hearActive 75 = .ok (.aload_n 0, 1) := by decide +kernel
theorem d_GF_hearActive_76 : decode b_GF_hearActive 76 = .ok (.getfield 53, 3) := by decide +kernel
theorem d_GF_hearActive_79 : decode b_GF_hearActive 79 = .ok (.ifCond .ne 17, 3) := by decide +kernel
theorem d_GF_hearActive_82 : decode b_GF_hearActive 82 = .ok (.aload_n 0, 1) := by decide +kernel
theorem d_GF_hearActive_83 : decode b_GF_hearActive 83 = .ok (.iload 4, 2) := by decide +kernel
theorem d_GF_hearActive_85 : decode b_GF_hearActive 85 = .ok (.ifCond .le 7, 3) := by decide +kernel
theorem d_GF_hearActive_88 : decode b_GF_hearActive 88 = .ok (.iconst 1, 1) := by decide +kernel
theorem d_GF_hearActive_89 : decode b_GF_hearActive 89 = .ok (.goto 4, 3) := by decide +kernel
theorem d_GF_hearActive_92 : decode b_GF_hearActive 92 = .ok (.iconst 0, 1) := by decide +kernel
theorem d_GF_hearActive_93 : decode b_GF_hearActive 93 = .ok (.invokevirtual 56, 3) := by decide +kernel
theorem d_GF_hearActive_96 : decode b_GF_hearActive 96 = .ok (.return_, 1) := by decide +kernel
theorem d_GF_confirm_0 : decode b_GF_confirm 0 = .ok (.iload_n 1, 1) := by decide +kernel
theorem d_GF_confirm_1 : decode b_GF_confirm 1 = .ok (.ifCond .le 26, 3) := by decide +kernel
theorem d_GF_confirm_4 : decode b_GF_confirm 4 = .ok (.aload_n 0, 1) := by decide +kernel
theorem d_GF_confirm_5 : decode b_GF_confirm 5 = .ok (.dup, 1) := by decide +kernel
theorem d_GF_confirm_6 : decode b_GF_confirm 6 = .ok (.getfield 44, 3) := by decide +kernel
theorem d_GF_confirm_9 : decode b_GF_confirm 9 = .ok (.iload_n 1, 1) := by decide +kernel
theorem d_GF_confirm_10 : decode b_GF_confirm 10 = .ok (.isub, 1) := by decide +kernel
theorem d_GF_confirm_11 : decode b_GF_confirm 11 = .ok (.putfield 44, 3) := by decide +kernel
theorem d_GF_confirm_14 : decode b_GF_confirm 14 = .ok (.aload_n 0, 1) := by decide +kernel
theorem d_GF_confirm_15 : decode b_GF_confirm 15 = .ok (.iconst 1, 1) := by decide +kernel
theorem d_GF_confirm_16 : decode b_GF_confirm 16 = .ok (.putfield 23, 3) := by decide +kernel
theorem d_GF_confirm_19 : decode b_GF_confirm 19 = .ok (.aload_n 0, 1) := by decide +kernel
theorem d_GF_confirm_20 : decode b_GF_confirm 20 = .ok (.aload_n 0, 1) := by decide +kernel
theorem d_GF_confirm_21 : decode b_GF_confirm 21 = .ok (.getfield 26, 3) := by decide +kernel
theorem d_GF_confirm_24 : decode b_GF_confirm 24 = .ok (.putfield 60, 3) := by decide +kernel
theorem d_GF_confirm_27 : decode b_GF_confirm 27 = .ok (.return_, 1) := by decide +kernel
theorem d_GF_recover_0 : decode b_GF_recover 0 = .ok (.iload_n 1, 1) := by decide +kernel
theorem d_GF_recover_1 : decode b_GF_recover 1 = .ok (.ifCond .ne 17, 3) := by decide +kernel
theorem d_GF_recover_4 : decode b_GF_recover 4 = .ok (.aload_n 0, 1) := by decide +kernel
theorem d_GF_recover_5 : decode b_GF_recover 5 = .ok (.getfield 23, 3) := by decide +kernel
theorem d_GF_recover_8 : decode b_GF_recover 8 = .ok (.iconst 4, 1) := by decide +kernel
theorem d_GF_recover_9 : decode b_GF_recover 9 = .ok (.if_icmp .ne 9, 3) := by decide +kernel
theorem d_GF_recover_12 : decode b_GF_recover 12 = .ok (.aload_n 0, 1) := by decide +kernel
theorem d_GF_recover_13 : decode b_GF_recover 13 = .ok (.iconst 2, 1) := by decide +kernel
theorem d_GF_recover_14 : decode b_GF_recover 14 = .ok (.invokevirtual 47, 3) := by decide +kernel
theorem d_GF_recover_17 : decode b_GF_recover 17 = .ok (.return_, 1) := by decide +kernel
theorem d_GF_recover_18 : decode b_GF_recover 18 = .ok (.iload_n 1, 1) := by decide +kernel
theorem d_GF_recover_19 : decode b_GF_recover 19 = .ok (.ifCond .ne 13, 3) := by decide +kernel
theorem d_GF_recover_22 : decode b_GF_recover 22 = .ok (.aload_n 0, 1) := by decide +kernel
theorem d_GF_recover_23 : decode b_GF_recover 23 = .ok (.dup, 1) := by decide +kernel
theorem d_GF_recover_24 : decode b_GF_recover 24 = .ok (.getfield 23, 3) := by decide +kernel
theorem d_GF_recover_27 : decode b_GF_recover 27 = .ok (.iconst 1, 1) := by decide +kernel
theorem d_GF_recover_28 : decode b_GF_recover 28 = .ok (.iadd, 1) := by decide +kernel
theorem d_GF_recover_29 : decode b_GF_recover 29 = .ok (.putfield 23, 3) := by decide +kernel
theorem d_GF_recover_32 : decode b_GF_recover 32 = .ok (.aload_n 0, 1) := by decide +kernel
theorem d_GF_recover_33 : decode b_GF_recover 33 = .ok (.invokevirtual 63, 3) := by decide +kernel
theorem d_GF_recover_36 : decode b_GF_recover 36 = .ok (.aload_n 0, 1) := by decide +kernel
theorem d_GF_recover_37 : decode b_GF_recover 37 = .ok (.iconst 1, 1) := by decide +kernel
theorem d_GF_recover_38 : decode b_GF_recover 38 = .ok (.putfield 53, 3) := by decide +kernel
theorem d_GF_recover_41 : decode b_GF_recover 41 = .ok (.aload_n 0, 1) := by decide +kernel
theorem d_GF_recover_42 : decode b_GF_recover 42 = .ok (.aload_n 0, 1) := by decide +kernel
theorem d_GF_recover_43 : decode b_GF_recover 43 = .ok (.getfield 26, 3) := by decide +kernel
theorem d_GF_recover_46 : decode b_GF_recover 46 = .ok (.putfield 60, 3) := by decide +kernel
theorem d_GF_recover_49 : decode b_GF_recover 49 = .ok (.return_, 1) := by decide +kernel
theorem d_GF_alert_0 : decode b_GF_alert 0 = .ok (.aload_n 0, 1) := by decide +kernel
theorem d_GF_alert_1 : decode b_GF_alert 1 = .ok (.dup, 1) := by decide +kernel
theorem d_GF_alert_2 : decode b_GF_alert 2 = .ok (.getfield 66, 3) := by decide +kernel
theorem d_GF_alert_5 : decode b_GF_alert 5 = .ok (.iconst 1, 1) := by decide +kernel
theorem d_GF_alert_6 : decode b_GF_alert 6 = .ok (.iadd, 1) := by decide +kernel
theorem d_GF_alert_7 : decode b_GF_alert 7 = .ok (.putfield 66, 3) := by decide +kernel
theorem d_GF_alert_10 : decode b_GF_alert 10 = .ok (.aload_n 0, 1) := by decide +kernel
theorem d_GF_alert_11 : decode b_GF_alert 11 = .ok (.iconst 0, 1) := by decide +kernel
theorem d_GF_alert_12 : decode b_GF_alert 12 = .ok (.putfield 44, 3) := by decide +kernel
theorem d_GF_alert_15 : decode b_GF_alert 15 = .ok (.aload_n 0, 1) := by decide +kernel
theorem d_GF_alert_16 : decode b_GF_alert 16 = .ok (.iconst 1, 1) := by decide +kernel
theorem d_GF_alert_17 : decode b_GF_alert 17 = .ok (.putfield 23, 3) := by decide +kernel
theorem d_GF_alert_20 : decode b_GF_alert 20 = .ok (.aload_n 0, 1) := by decide +kernel
theorem d_GF_alert_21 : decode b_GF_alert 21 = .ok (.iconst 0, 1) := by decide +kernel
theorem d_GF_alert_22 : decode b_GF_alert 22 = .ok (.putfield 53, 3) := by decide +kernel
theorem d_GF_alert_25 : decode b_GF_alert 25 = .ok (.aload_n 0, 1) := by decide +kernel
theorem d_GF_alert_26 : decode b_GF_alert 26 = .ok (.aload_n 0, 1) := by decide +kernel
theorem d_GF_alert_27 : decode b_GF_alert 27 = .ok (.getfield 26, 3) := by decide +kernel
theorem d_GF_alert_30 : decode b_GF_alert 30 = .ok (.putfield 60, 3) := by decide +kernel
theorem d_GF_alert_33 : decode b_GF_alert 33 = .ok (.aload_n 0, 1) := by decide +kernel
theorem d_GF_alert_34 : decode b_GF_alert 34 = .ok (.iload_n 1, 1) := by decide +kernel
theorem d_GF_alert_35 : decode b_GF_alert 35 = .ok (.putfield 19, 3) := by decide +kernel
theorem d_GF_alert_38 : decode b_GF_alert 38 = .ok (.aload_n 0, 1) := by decide +kernel
theorem d_GF_alert_39 : decode b_GF_alert 39 = .ok (.iconst 1, 1) := by decide +kernel
theorem d_GF_alert_40 : decode b_GF_alert 40 = .ok (.putfield 40, 3) := by decide +kernel
theorem d_GF_alert_43 : decode b_GF_alert 43 = .ok (.return_, 1) := by decide +kernel
theorem d_GF_direct_0 : decode b_GF_direct 0 = .ok (.aload_n 0, 1) := by decide +kernel
theorem d_GF_direct_1 : decode b_GF_direct 1 = .ok (.iload_n 1, 1) := by decide +kernel
theorem d_GF_direct_2 : decode b_GF_direct 2 = .ok (.putfield 19, 3) := by decide +kernel
theorem d_GF_direct_5 : decode b_GF_direct 5 = .ok (.aload_n 0, 1) := by decide +kernel
theorem d_GF_direct_6 : decode b_GF_direct 6 = .ok (.iconst 1, 1) := by decide +kernel
theorem d_GF_direct_7 : decode b_GF_direct 7 = .ok (.putfield 40, 3) := by decide +kernel
theorem d_GF_direct_10 : decode b_GF_direct 10 = .ok (.return_, 1) := by decide +kernel
theorem d_GF_stepClock_0 : decode b_GF_stepClock 0 = .ok (.aload_n 0, 1) := by decide +kernel
theorem d_GF_stepClock_1 : decode b_GF_stepClock 1 = .ok (.getfield 19, 3) := by decide +kernel
theorem d_GF_stepClock_4 : decode b_GF_stepClock 4 = .ok (.ifCond .ne 11, 3) := by decide +kernel
theorem d_GF_stepClock_7 : decode b_GF_stepClock 7 = .ok (.aload_n 0, 1) := by decide +kernel
theorem d_GF_stepClock_8 : decode b_GF_stepClock 8 = .ok (.getfield 44, 3) := by decide +kernel
theorem d_GF_stepClock_11 : decode b_GF_stepClock 11 = .ok (.ifCond .ne 4, 3) := by decide +kernel
theorem d_GF_stepClock_14 : decode b_GF_stepClock 14 = .ok (.return_, 1) := by decide +kernel
theorem d_GF_stepClock_15 : decode b_GF_stepClock 15 = .ok (.aload_n 0, 1) := by decide +kernel
theorem d_GF_stepClock_16 : decode b_GF_stepClock 16 = .ok (.dup, 1) := by decide +kernel
theorem d_GF_stepClock_17 : decode b_GF_stepClock 17 = .ok (.getfield 60, 3) := by decide +kernel
theorem d_GF_stepClock_20 : decode b_GF_stepClock 20 = .ok (.iconst 1, 1) := by decide +kernel
theorem d_GF_stepClock_21 : decode b_GF_stepClock 21 = .ok (.isub, 1) := by decide +kernel
theorem d_GF_stepClock_22 : decode b_GF_stepClock 22 = .ok (.putfield 60, 3) := by decide +kernel
theorem d_GF_stepClock_25 : decode b_GF_stepClock 25 = .ok (.aload_n 0, 1) := by decide +kernel
theorem d_GF_stepClock_26 : decode b_GF_stepClock 26 = .ok (.getfield 60, 3) := by decide +kernel
theorem d_GF_stepClock_29 : decode b_GF_stepClock 29 = .ok (.ifCond .le 4, 3) := by decide +kernel
theorem d_GF_stepClock_32 : decode b_GF_stepClock 32 = .ok (.return_, 1) := by decide +kernel
theorem d_GF_stepClock_33 : decode b_GF_stepClock 33 = .ok (.aload_n 0, 1) := by decide +kernel
theorem d_GF_stepClock_34 : decode b_GF_stepClock 34 = .ok (.aload_n 0, 1) := by decide +kernel
theorem d_GF_stepClock_35 : decode b_GF_stepClock 35 = .ok (.getfield 26, 3) := by decide +kernel
theorem d_GF_stepClock_38 : decode b_GF_stepClock 38 = .ok (.putfield 60, 3) := by decide +kernel
theorem d_GF_stepClock_41 : decode b_GF_stepClock 41 = .ok (.aload_n 0, 1) := by decide +kernel
theorem d_GF_stepClock_42 : decode b_GF_stepClock 42 = .ok (.getfield 19, 3) := by decide +kernel
theorem d_GF_stepClock_45 : decode b_GF_stepClock 45 = .ok (.ifCond .eq 11, 3) := by decide +kernel
theorem d_GF_stepClock_48 : decode b_GF_stepClock 48 = .ok (.aload_n 0, 1) := by decide +kernel
theorem d_GF_stepClock_49 : decode b_GF_stepClock 49 = .ok (.iconst 1, 1) := by decide +kernel
theorem d_GF_stepClock_50 : decode b_GF_stepClock 50 = .ok (.putfield 40, 3) := by decide +kernel
theorem d_GF_stepClock_53 : decode b_GF_stepClock 53 = .ok (.goto 33, 3) := by decide +kernel
theorem d_GF_stepClock_56 : decode b_GF_stepClock 56 = .ok (.aload_n 0, 1) := by decide +kernel
theorem d_GF_stepClock_57 : decode b_GF_stepClock 57 = .ok (.getfield 23, 3) := by decide +kernel
theorem d_GF_stepClock_60 : decode b_GF_stepClock 60 = .ok (.iconst 4, 1) := by decide +kernel
theorem d_GF_stepClock_61 : decode b_GF_stepClock 61 = .ok (.if_icmp .ne 11, 3) := by decide +kernel
theorem d_GF_stepClock_64 : decode b_GF_stepClock 64 = .ok (.aload_n 0, 1) := by decide +kernel
theorem d_GF_stepClock_65 : decode b_GF_stepClock 65 = .ok (.iconst 2, 1) := by decide +kernel
theorem d_GF_stepClock_66 : decode b_GF_stepClock 66 = .ok (.invokevirtual 47, 3) := by decide +kernel
theorem d_GF_stepClock_69 : decode b_GF_stepClock 69 = .ok (.goto 17, 3) := by decide +kernel
theorem d_GF_stepClock_72 : decode b_GF_stepClock 72 = .ok (.aload_n 0, 1) := by decide +kernel
theorem d_GF_stepClock_73 : decode b_GF_stepClock 73 = .ok (.dup, 1) := by decide +kernel
theorem d_GF_stepClock_74 : decode b_GF_stepClock 74 = .ok (.getfield 23, 3) := by decide +kernel
theorem d_GF_stepClock_77 : decode b_GF_stepClock 77 = .ok (.iconst 1, 1) := by decide +kernel
theorem d_GF_stepClock_78 : decode b_GF_stepClock 78 = .ok (.iadd, 1) := by decide +kernel
theorem d_GF_stepClock_79 : decode b_GF_stepClock 79 = .ok (.putfield 23, 3) := by decide +kernel
theorem d_GF_stepClock_82 : decode b_GF_stepClock 82 = .ok (.aload_n 0, 1) := by decide +kernel
theorem d_GF_stepClock_83 : decode b_GF_stepClock 83 = .ok (.invokevirtual 63, 3) := by decide +kernel
theorem d_GF_stepClock_86 : decode b_GF_stepClock 86 = .ok (.return_, 1) := by decide +kernel
theorem d_GF_hasRoom_0 : decode b_GF_hasRoom 0 = .ok (.aload_n 0, 1) := by decide +kernel
theorem d_GF_hasRoom_1 : decode b_GF_hasRoom 1 = .ok (.getfield 19, 3) := by decide +kernel
theorem d_GF_hasRoom_4 : decode b_GF_hasRoom 4 = .ok (.ifCond .ne 16, 3) := by decide +kernel
theorem d_GF_hasRoom_7 : decode b_GF_hasRoom 7 = .ok (.aload_n 0, 1) := by decide +kernel
theorem d_GF_hasRoom_8 : decode b_GF_hasRoom 8 = .ok (.getfield 44, 3) := by decide +kernel
theorem d_GF_hasRoom_11 : decode b_GF_hasRoom 11 = .ok (.bipush 7, 2) := by decide +kernel
theorem d_GF_hasRoom_13 : decode b_GF_hasRoom 13 = .ok (.if_icmp .ge 7, 3) := by decide +kernel
theorem d_GF_hasRoom_16 : decode b_GF_hasRoom 16 = .ok (.iconst 1, 1) := by decide +kernel
theorem d_GF_hasRoom_17 : decode b_GF_hasRoom 17 = .ok (.goto 4, 3) := by decide +kernel
theorem d_GF_hasRoom_20 : decode b_GF_hasRoom 20 = .ok (.iconst 0, 1) := by decide +kernel
theorem d_GF_hasRoom_21 : decode b_GF_hasRoom 21 = .ok (.ireturn, 1) := by decide +kernel
theorem d_GF_sendDirective_0 : decode b_GF_sendDirective 0 = .ok (.aload_n 0, 1) := by decide +kernel
theorem d_GF_sendDirective_1 : decode b_GF_sendDirective 1 = .ok (.iconst 0, 1) := by decide +kernel
theorem d_GF_sendDirective_2 : decode b_GF_sendDirective 2 = .ok (.putfield 40, 3) := by decide +kernel
theorem d_GF_sendDirective_5 : decode b_GF_sendDirective 5 = .ok (.aload_n 0, 1) := by decide +kernel
theorem d_GF_sendDirective_6 : decode b_GF_sendDirective 6 = .ok (.aload_n 0, 1) := by decide +kernel
theorem d_GF_sendDirective_7 : decode b_GF_sendDirective 7 = .ok (.getfield 26, 3) := by decide +kernel
theorem d_GF_sendDirective_10 : decode b_GF_sendDirective 10 = .ok (.putfield 60, 3) := by decide +kernel
theorem d_GF_sendDirective_13 : decode b_GF_sendDirective 13 = .ok (.aload_n 0, 1) := by decide +kernel
theorem d_GF_sendDirective_14 : decode b_GF_sendDirective 14 = .ok (.getfield 19, 3) := by decide +kernel
theorem d_GF_sendDirective_17 : decode b_GF_sendDirective 17 = .ok (.iconst 1, 1) := by decide +kernel
theorem d_GF_sendDirective_18 : decode b_GF_sendDirective 18 = .ok (.if_icmp .ne 9, 3) := by decide +kernel
theorem d_GF_sendDirective_21 : decode b_GF_sendDirective 21 = .ok (.ldc2_w 69, 3) := by decide +kernel
theorem d_GF_sendDirective_24 : decode b_GF_sendDirective 24 = .ok (.goto 15, 3) := by decide +kernel
theorem d_GF_sendDirective_27 : decode b_GF_sendDirective 27 = .ok (.ldc2_w 71, 3) := by decide +kernel
theorem d_GF_sendDirective_30 : decode b_GF_sendDirective 30 = .ok (.aload_n 0, 1) := by decide +kernel
theorem d_GF_sendDirective_31 : decode b_GF_sendDirective 31 = .ok (.getfield 37, 3) := by decide +kernel
theorem d_GF_sendDirective_34 : decode b_GF_sendDirective 34 = .ok (.i2l, 1) := by decide +kernel
theorem d_GF_sendDirective_35 : decode b_GF_sendDirective 35 = .ok (.bipush 48, 2) := by decide +kernel
theorem d_GF_sendDirective_37 : decode b_GF_sendDirective 37 = .ok (.lshl, 1) := by decide +kernel
theorem d_GF_sendDirective_38 : decode b_GF_sendDirective 38 = .ok (.lor, 1) := by decide +kernel
theorem d_GF_sendDirective_39 : decode b_GF_sendDirective 39 = .ok (.lreturn, 1) := by decide +kernel
theorem d_GF_sendMarked_0 : decode b_GF_sendMarked 0 = .ok (.aload_n 0, 1) := by decide +kernel
theorem d_GF_sendMarked_1 : decode b_GF_sendMarked 1 = .ok (.getfield 44, 3) := by decide +kernel
theorem d_GF_sendMarked_4 : decode b_GF_sendMarked 4 = .ok (.istore_n 1, 1) := by decide +kernel
theorem d_GF_sendMarked_5 : decode b_GF_sendMarked 5 = .ok (.iload_n 1, 1) := by decide +kernel
theorem d_GF_sendMarked_6 : decode b_GF_sendMarked 6 = .ok (.ifCond .le 50, 3) := by decide +kernel
theorem d_GF_sendMarked_9 : decode b_GF_sendMarked 9 = .ok (.aload_n 0, 1) := by decide +kernel
theorem d_GF_sendMarked_10 : decode b_GF_sendMarked 10 = .ok (.getfield 37, 3) := by decide +kernel
theorem d_GF_sendMarked_13 : decode b_GF_sendMarked 13 = .ok (.iload_n 1, 1) := by decide +kernel
theorem d_GF_sendMarked_14 : decode b_GF_sendMarked 14 = .ok (.isub, 1) := by decide +kernel
theorem d_GF_sendMarked_15 : decode b_GF_sendMarked 15 = .ok (.bipush 15, 2) := by decide +kernel
theorem d_GF_sendMarked_17 : decode b_GF_sendMarked 17 = .ok (.iand, 1) := by decide +kernel
theorem d_GF_sendMarked_18 : decode b_GF_sendMarked 18 = .ok (.istore_n 2, 1) := by decide +kernel
theorem d_GF_sendMarked_19 : decode b_GF_sendMarked 19 = .ok (.aload_n 0, 1) := by decide +kernel
theorem d_GF_sendMarked_20 : decode b_GF_sendMarked 20 = .ok (.getfield 15, 3) := by decide +kernel
theorem d_GF_sendMarked_23 : decode b_GF_sendMarked 23 = .ok (.iload_n 2, 1) := by decide +kernel
theorem d_GF_sendMarked_24 : decode b_GF_sendMarked 24 = .ok (.baload, 1) := by decide +kernel
theorem d_GF_sendMarked_25 : decode b_GF_sendMarked 25 = .ok (.ifCond .eq 25, 3) := by decide +kernel
theorem d_GF_sendMarked_28 : decode b_GF_sendMarked 28 = .ok (.aload_n 0, 1) := by decide +kernel
theorem d_GF_sendMarked_29 : decode b_GF_sendMarked 29 = .ok (.getfield 15, 3) := by decide +kernel
theorem d_GF_sendMarked_32 : decode b_GF_sendMarked 32 = .ok (.iload_n 2, 1) := by decide +kernel
theorem d_GF_sendMarked_33 : decode b_GF_sendMarked 33 = .ok (.iconst 0, 1) := by decide +kernel
theorem d_GF_sendMarked_34 : decode b_GF_sendMarked 34 = .ok (.bastore, 1) := by decide +kernel
theorem d_GF_sendMarked_35 : decode b_GF_sendMarked 35 = .ok (.aload_n 0, 1) := by decide +kernel
theorem d_GF_sendMarked_36 : decode b_GF_sendMarked 36 = .ok (.aload_n 0, 1) := by decide +kernel
theorem d_GF_sendMarked_37 : decode b_GF_sendMarked 37 = .ok (.getfield 26, 3) := by decide +kernel
theorem d_GF_sendMarked_40 : decode b_GF_sendMarked 40 = .ok (.putfield 60, 3) := by decide +kernel
theorem d_GF_sendMarked_43 : decode b_GF_sendMarked 43 = .ok (.aload_n 0, 1) := by decide +kernel
theorem d_GF_sendMarked_44 : decode b_GF_sendMarked 44 = .ok (.getfield 9, 3) := by decide +kernel
theorem d_GF_sendMarked_47 : decode b_GF_sendMarked 47 = .ok (.iload_n 2, 1) := by decide +kernel
theorem d_GF_sendMarked_48 : decode b_GF_sendMarked 48 = .ok (.laload, 1) := by decide +kernel
theorem d_GF_sendMarked_49 : decode b_GF_sendMarked 49 = .ok (.lreturn, 1) := by decide +kernel
theorem d_GF_sendMarked_50 : decode b_GF_sendMarked 50 = .ok (.iinc 1 (-1), 3) := by decide +kernel
theorem d_GF_sendMarked_53 : decode b_GF_sendMarked 53 = .ok (.goto (-48), 3) := by decide +kernel
theorem d_GF_sendMarked_56 : decode b_GF_sendMarked 56 = .ok (.ldc2_w 73, 3) := by decide +kernel
theorem d_GF_sendMarked_59 : decode b_GF_sendMarked 59 = .ok (.lreturn, 1) := by decide +kernel
theorem d_GF_sendInOrder_0 : decode b_GF_sendInOrder 0 = .ok (.aload_n 0, 1) := by decide +kernel
theorem d_GF_sendInOrder_1 : decode b_GF_sendInOrder 1 = .ok (.getfield 37, 3) := by decide +kernel
theorem d_GF_sendInOrder_4 : decode b_GF_sendInOrder 4 = .ok (.istore_n 3, 1) := by decide +kernel
theorem d_GF_sendInOrder_5 : decode b_GF_sendInOrder 5 = .ok (.aload_n 0, 1) := by decide +kernel
theorem d_GF_sendInOrder_6 : decode b_GF_sendInOrder 6 = .ok (.getfield 9, 3) := by decide +kernel
theorem d_GF_sendInOrder_9 : decode b_GF_sendInOrder 9 = .ok (.iload_n 3, 1) := by decide +kernel
theorem d_GF_sendInOrder_10 : decode b_GF_sendInOrder 10 = .ok (.lload_n 1, 1) := by decide +kernel
theorem d_GF_sendInOrder_11 : decode b_GF_sendInOrder 11 = .ok (.iload_n 3, 1) := by decide +kernel
theorem d_GF_sendInOrder_12 : decode b_GF_sendInOrder 12 = .ok (.i2l, 1) := by decide +kernel
theorem d_GF_sendInOrder_13 : decode b_GF_sendInOrder 13 = .ok (.bipush 48, 2) := by decide +kernel
theorem d_GF_sendInOrder_15 : decode b_GF_sendInOrder 15 = .ok (.lshl, 1) := by decide +kernel
theorem d_GF_sendInOrder_16 : decode b_GF_sendInOrder 16 = .ok (.lor, 1) := by decide +kernel
theorem d_GF_sendInOrder_17 : decode b_GF_sendInOrder 17 = .ok (.lastore, 1) := by decide +kernel
theorem d_GF_sendInOrder_18 : decode b_GF_sendInOrder 18 = .ok (.aload_n 0, 1) := by decide +kernel
theorem d_GF_sendInOrder_19 : decode b_GF_sendInOrder 19 = .ok (.getfield 15, 3) := by decide +kernel
theorem d_GF_sendInOrder_22 : decode b_GF_sendInOrder 22 = .ok (.iload_n 3, 1) := by decide +kernel
theorem d_GF_sendInOrder_23 : decode b_GF_sendInOrder 23 = .ok (.iconst 0, 1) := by decide +kernel
theorem d_GF_sendInOrder_24 : decode b_GF_sendInOrder 24 = .ok (.bastore, 1) := by decide +kernel
theorem d_GF_sendInOrder_25 : decode b_GF_sendInOrder 25 = .ok (.aload_n 0, 1) := by decide +kernel
theorem d_GF_sendInOrder_26 : decode b_GF_sendInOrder 26 = .ok (.aload_n 0, 1) := by decide +kernel
theorem d_GF_sendInOrder_27 : decode b_GF_sendInOrder 27 = .ok (.getfield 37, 3) := by decide +kernel
theorem d_GF_sendInOrder_30 : decode b_GF_sendInOrder 30 = .ok (.iconst 1, 1) := by decide +kernel
theorem d_GF_sendInOrder_31 : decode b_GF_sendInOrder 31 = .ok (.iadd, 1) := by decide +kernel
theorem d_GF_sendInOrder_32 : decode b_GF_sendInOrder 32 = .ok (.bipush 15, 2) := by decide +kernel
theorem d_GF_sendInOrder_34 : decode b_GF_sendInOrder 34 = .ok (.iand, 1) := by decide +kernel
theorem d_GF_sendInOrder_35 : decode b_GF_sendInOrder 35 = .ok (.putfield 37, 3) := by decide +kernel
theorem d_GF_sendInOrder_38 : decode b_GF_sendInOrder 38 = .ok (.aload_n 0, 1) := by decide +kernel
theorem d_GF_sendInOrder_39 : decode b_GF_sendInOrder 39 = .ok (.dup, 1) := by decide +kernel
theorem d_GF_sendInOrder_40 : decode b_GF_sendInOrder 40 = .ok (.getfield 44, 3) := by decide +kernel
theorem d_GF_sendInOrder_43 : decode b_GF_sendInOrder 43 = .ok (.iconst 1, 1) := by decide +kernel
theorem d_GF_sendInOrder_44 : decode b_GF_sendInOrder 44 = .ok (.iadd, 1) := by decide +kernel
theorem d_GF_sendInOrder_45 : decode b_GF_sendInOrder 45 = .ok (.putfield 44, 3) := by decide +kernel
theorem d_GF_sendInOrder_48 : decode b_GF_sendInOrder 48 = .ok (.aload_n 0, 1) := by decide +kernel
theorem d_GF_sendInOrder_49 : decode b_GF_sendInOrder 49 = .ok (.aload_n 0, 1) := by decide +kernel
theorem d_GF_sendInOrder_50 : decode b_GF_sendInOrder 50 = .ok (.getfield 26, 3) := by decide +kernel
theorem d_GF_sendInOrder_53 : decode b_GF_sendInOrder 53 = .ok (.putfield 60, 3) := by decide +kernel
theorem d_GF_sendInOrder_56 : decode b_GF_sendInOrder 56 = .ok (.aload_n 0, 1) := by decide +kernel
theorem d_GF_sendInOrder_57 : decode b_GF_sendInOrder 57 = .ok (.getfield 44, 3) := by decide +kernel
theorem d_GF_sendInOrder_60 : decode b_GF_sendInOrder 60 = .ok (.iconst 1, 1) := by decide +kernel
theorem d_GF_sendInOrder_61 : decode b_GF_sendInOrder 61 = .ok (.if_icmp .ne 8, 3) := by decide +kernel
theorem d_GF_sendInOrder_64 : decode b_GF_sendInOrder 64 = .ok (.aload_n 0, 1) := by decide +kernel
theorem d_GF_sendInOrder_65 : decode b_GF_sendInOrder 65 = .ok (.iconst 1, 1) := by decide +kernel
theorem d_GF_sendInOrder_66 : decode b_GF_sendInOrder 66 = .ok (.putfield 23, 3) := by decide +kernel
theorem d_GF_sendInOrder_69 : decode b_GF_sendInOrder 69 = .ok (.aload_n 0, 1) := by decide +kernel
theorem d_GF_sendInOrder_70 : decode b_GF_sendInOrder 70 = .ok (.getfield 9, 3) := by decide +kernel
theorem d_GF_sendInOrder_73 : decode b_GF_sendInOrder 73 = .ok (.iload_n 3, 1) := by decide +kernel
theorem d_GF_sendInOrder_74 : decode b_GF_sendInOrder 74 = .ok (.laload, 1) := by decide +kernel
theorem d_GF_sendInOrder_75 : decode b_GF_sendInOrder 75 = .ok (.lreturn, 1) := by decide +kernel
theorem d_GF_markAll_0 : decode b_GF_markAll 0 = .ok (.aload_n 0, 1) := by decide +kernel
theorem d_GF_markAll_1 : decode b_GF_markAll 1 = .ok (.getfield 44, 3) := by decide +kernel
theorem d_GF_markAll_4 : decode b_GF_markAll 4 = .ok (.istore_n 1, 1) := by decide +kernel
theorem d_GF_markAll_5 : decode b_GF_markAll 5 = .ok (.iload_n 1, 1) := by decide +kernel
theorem d_GF_markAll_6 : decode b_GF_markAll 6 = .ok (.ifCond .le 24, 3) := by decide +kernel
theorem d_GF_markAll_9 : decode b_GF_markAll 9 = .ok (.aload_n 0, 1) := by decide +kernel
theorem d_GF_markAll_10 : decode b_GF_markAll 10 = .ok (.getfield 15, 3) := by decide +kernel
theorem d_GF_markAll_13 : decode b_GF_markAll 13 = .ok (.aload_n 0, 1) := by decide +kernel
theorem d_GF_markAll_14 : decode b_GF_markAll 14 = .ok (.getfield 37, 3) := by decide +kernel
theorem d_GF_markAll_17 : decode b_GF_markAll 17 = .ok (.iload_n 1, 1) := by decide +kernel
theorem d_GF_markAll_18 : decode b_GF_markAll 18 = .ok (.isub, 1) := by decide +kernel
theorem d_GF_markAll_19 : decode b_GF_markAll 19 = .ok (.bipush 15, 2) := by decide +kernel
theorem d_GF_markAll_21 : decode b_GF_markAll 21 = .ok (.iand, 1) := by decide +kernel
theorem d_GF_markAll_22 : decode b_GF_markAll 22 = .ok (.iconst 1, 1) := by decide +kernel
theorem d_GF_markAll_23 : decode b_GF_markAll 23 = .ok (.bastore, 1) := by decide +kernel
theorem d_GF_markAll_24 : decode b_GF_markAll 24 = .ok (.iinc 1 (-1), 3) := by decide +kernel
theorem d_GF_markAll_27 : decode b_GF_markAll 27 = .ok (.goto (-22), 3) := by decide +kernel
theorem d_GF_markAll_30 : decode b_GF_markAll 30 = .ok (.return_, 1) := by decide +kernel
theorem d_GF_countMarked_0 : decode b_GF_countMarked 0 = .ok (.iconst 0, 1) := by decide +kernel
theorem d_GF_countMarked_1 : decode b_GF_countMarked 1 = .ok (.istore_n 1, 1) := by decide +kernel
theorem d_GF_countMarked_2 : decode b_GF_countMarked 2 = .ok (.aload_n 0, 1) := by decide +kernel
theorem d_GF_countMarked_3 : decode b_GF_countMarked 3 = .ok (.getfield 44, 3) := by decide +kernel
theorem d_GF_countMarked_6 : decode b_GF_countMarked 6 = .ok (.istore_n 2, 1) := by decide +kernel
theorem d_GF_countMarked_7 : decode b_GF_countMarked 7 = .ok (.iload_n 2, 1) := by decide +kernel
theorem d_GF_countMarked_8 : decode b_GF_countMarked 8 = .ok (.ifCond .le 29, 3) := by decide +kernel
theorem d_GF_countMarked_11 : decode b_GF_countMarked 11 = .ok (.aload_n 0, 1) := by decide +kernel
theorem d_GF_countMarked_12 : decode b_GF_countMarked 12 = .ok (.getfield 15, 3) := by decide +kernel
theorem d_GF_countMarked_15 : decode b_GF_countMarked 15 = .ok (.aload_n 0, 1) := by decide +kernel
theorem d_GF_countMarked_16 : decode b_GF_countMarked 16 = .ok (.getfield 37, 3) := by decide +kernel
theorem d_GF_countMarked_19 : decode b_GF_countMarked 19 = .ok (.iload_n 2, 1) := by decide +kernel
theorem d_GF_countMarked_20 : decode b_GF_countMarked 20 = .ok (.isub, 1) := by decide +kernel
theorem d_GF_countMarked_21 : decode b_GF_countMarked 21 = .ok (.bipush 15, 2) := by decide +kernel
theorem d_GF_countMarked_23 : decode b_GF_countMarked 23 = .ok (.iand, 1) := by decide +kernel
theorem d_GF_countMarked_24 : decode b_GF_countMarked 24 = .ok (.baload, 1) := by decide +kernel
theorem d_GF_countMarked_25 : decode b_GF_countMarked 25 = .ok (.ifCond .eq 6, 3) := by decide +kernel
theorem d_GF_countMarked_28 : decode b_GF_countMarked 28 = .ok (.iinc 1 1, 3) := by decide +kernel
theorem d_GF_countMarked_31 : decode b_GF_countMarked 31 = .ok (.iinc 2 (-1), 3) := by decide +kernel
theorem d_GF_countMarked_34 : decode b_GF_countMarked 34 = .ok (.goto (-27), 3) := by decide +kernel
theorem d_GF_countMarked_37 : decode b_GF_countMarked 37 = .ok (.iload_n 1, 1) := by decide +kernel
theorem d_GF_countMarked_38 : decode b_GF_countMarked 38 = .ok (.ireturn, 1) := by decide +kernel
theorem d_GF_summary_0 : decode b_GF_summary 0 = .ok (.aload_n 0, 1) := by decide +kernel
theorem d_GF_summary_1 : decode b_GF_summary 1 = .ok (.getfield 19, 3) := by decide +kernel
theorem d_GF_summary_4 : decode b_GF_summary 4 = .ok (.iconst 4, 1) := by decide +kernel
theorem d_GF_summary_5 : decode b_GF_summary 5 = .ok (.aload_n 0, 1) := by decide +kernel
theorem d_GF_summary_6 : decode b_GF_summary 6 = .ok (.getfield 37, 3) := by decide +kernel
theorem d_GF_summary_9 : decode b_GF_summary 9 = .ok (.imul, 1) := by decide +kernel
theorem d_GF_summary_10 : decode b_GF_summary 10 = .ok (.iadd, 1) := by decide +kernel
theorem d_GF_summary_11 : decode b_GF_summary 11 = .ok (.bipush 64, 2) := by decide +kernel
theorem d_GF_summary_13 : decode b_GF_summary 13 = .ok (.aload_n 0, 1) := by decide +kernel
theorem d_GF_summary_14 : decode b_GF_summary 14 = .ok (.getfield 44, 3) := by decide +kernel
theorem d_GF_summary_17 : decode b_GF_summary 17 = .ok (.imul, 1) := by decide +kernel
theorem d_GF_summary_18 : decode b_GF_summary 18 = .ok (.iadd, 1) := by decide +kernel
theorem d_GF_summary_19 : decode b_GF_summary 19 = .ok (.sipush 512, 3) := by decide +kernel
theorem d_GF_summary_22 : decode b_GF_summary 22 = .ok (.aload_n 0, 1) := by decide +kernel
theorem d_GF_summary_23 : decode b_GF_summary 23 = .ok (.invokevirtual 75, 3) := by decide +kernel
theorem d_GF_summary_26 : decode b_GF_summary 26 = .ok (.imul, 1) := by decide +kernel
theorem d_GF_summary_27 : decode b_GF_summary 27 = .ok (.iadd, 1) := by decide +kernel
theorem d_GF_summary_28 : decode b_GF_summary 28 = .ok (.ireturn, 1) := by decide +kernel
theorem d_TR_init_0 : decode b_TR_init 0 = .ok (.aload_n 0, 1) := by decide +kernel
theorem d_TR_init_1 : decode b_TR_init 1 = .ok (.invokespecial 3, 3) := by decide +kernel
theorem d_TR_init_4 : decode b_TR_init 4 = .ok (.aload_n 0, 1) := by decide +kernel
theorem d_TR_init_5 : decode b_TR_init 5 = .ok (.bipush 16, 2) := by decide +kernel
theorem d_TR_init_7 : decode b_TR_init 7 = .ok (.newarray .int, 2) := by decide +kernel
theorem d_TR_init_9 : decode b_TR_init 9 = .ok (.putfield 9, 3) := by decide +kernel
theorem d_TR_init_12 : decode b_TR_init 12 = .ok (.aload_n 0, 1) := by decide +kernel
theorem d_TR_init_13 : decode b_TR_init 13 = .ok (.iload_n 1, 1) := by decide +kernel
theorem d_TR_init_14 : decode b_TR_init 14 = .ok (.putfield 15, 3) := by decide +kernel
theorem d_TR_init_17 : decode b_TR_init 17 = .ok (.aload_n 0, 1) := by decide +kernel
theorem d_TR_init_18 : decode b_TR_init 18 = .ok (.iload_n 2, 1) := by decide +kernel
theorem d_TR_init_19 : decode b_TR_init 19 = .ok (.putfield 19, 3) := by decide +kernel
theorem d_TR_init_22 : decode b_TR_init 22 = .ok (.return_, 1) := by decide +kernel
theorem d_TR_begin_0 : decode b_TR_begin 0 = .ok (.aload_n 1, 1) := by decide +kernel
theorem d_TR_begin_1 : decode b_TR_begin 1 = .ok (.iconst 0, 1) := by decide +kernel
theorem d_TR_begin_2 : decode b_TR_begin 2 = .ok (.aload_n 0, 1) := by decide +kernel
theorem d_TR_begin_3 : decode b_TR_begin 3 = .ok (.getfield 9, 3) := by decide +kernel
theorem d_TR_begin_6 : decode b_TR_begin 6 = .ok (.iconst 0, 1) := by decide +kernel
theorem d_TR_begin_7 : decode b_TR_begin 7 = .ok (.bipush 16, 2) := by decide +kernel
theorem d_TR_begin_9 : decode b_TR_begin 9 = .ok (.invokestatic 22, 3) := by decide +kernel
theorem d_TR_begin_12 : decode b_TR_begin 12 = .ok (.aload_n 0, 1) := by decide +kernel
theorem d_TR_begin_13 : decode b_TR_begin 13 = .ok (.iload_n 2, 1) := by decide +kernel
theorem d_TR_begin_14 : decode b_TR_begin 14 = .ok (.putfield 28, 3) := by decide +kernel
theorem d_TR_begin_17 : decode b_TR_begin 17 = .ok (.aload_n 0, 1) := by decide +kernel
theorem d_TR_begin_18 : decode b_TR_begin 18 = .ok (.iload_n 3, 1) := by decide +kernel
theorem d_TR_begin_19 : decode b_TR_begin 19 = .ok (.putfield 31, 3) := by decide +kernel
theorem d_TR_begin_22 : decode b_TR_begin 22 = .ok (.aload_n 0, 1) := by decide +kernel
theorem d_TR_begin_23 : decode b_TR_begin 23 = .ok (.iload 4, 2) := by decide +kernel
theorem d_TR_begin_25 : decode b_TR_begin 25 = .ok (.putfield 34, 3) := by decide +kernel
theorem d_TR_begin_28 : decode b_TR_begin 28 = .ok (.aload_n 0, 1) := by decide +kernel
theorem d_TR_begin_29 : decode b_TR_begin 29 = .ok (.ldc 38, 2) := by decide +kernel
theorem d_TR_begin_31 : decode b_TR_begin 31 = .ok (.aload_n 0, 1) := by decide +kernel
theorem d_TR_begin_32 : decode b_TR_begin 32 = .ok (.getfield 28, 3) := by decide +kernel
theorem d_TR_begin_35 : decode b_TR_begin 35 = .ok (.invokestatic 39, 3) := by decide +kernel
theorem d_TR_begin_38 : decode b_TR_begin 38 = .ok (.ior, 1) := by decide +kernel
theorem d_TR_begin_39 : decode b_TR_begin 39 = .ok (.putfield 43, 3) := by decide +kernel
theorem d_TR_begin_42 : decode b_TR_begin 42 = .ok (.aload_n 0, 1) := by decide +kernel
theorem d_TR_begin_43 : decode b_TR_begin 43 = .ok (.iconst 1, 1) := by decide +kernel
theorem d_TR_begin_44 : decode b_TR_begin 44 = .ok (.putfield 46, 3) := by decide +kernel
theorem d_TR_begin_47 : decode b_TR_begin 47 = .ok (.return_, 1) := by decide +kernel
theorem d_TR_becomeCancelled_0 : decode b_TR_becomeCancelled 0 = .ok (.aload_n 0, 1) := by decide +kernel
theorem d_TR_becomeCancelled_1 : decode b_TR_becomeCancelled 1 = .ok (.getfield 49, 3) := by decide +kernel
theorem d_TR_becomeCancelled_4 : decode b_TR_becomeCancelled 4 = .ok (.ifCond .ne 10, 3) := by decide +kernel
theorem d_TR_becomeCancelled_7 : decode b_TR_becomeCancelled 7 = .ok (.aload_n 0, 1) := by decide +kernel
theorem d_TR_becomeCancelled_8 : decode b_TR_becomeCancelled 8 = .ok (.getfield 52, 3) := by decide +kernel
theorem d_TR_becomeCancelled_11 : decode b_TR_becomeCancelled 11 = .ok (.ifCond .eq 5, 3) := by decide +kernel
theorem d_TR_becomeCancelled_14 : decode b_TR_becomeCancelled 14 = .ok (.iconst 0, 1) := by decide +kernel
theorem d_TR_becomeCancelled_15 : decode b_TR_becomeCancelled 15 = .ok (.ireturn, 1) := by decide +kernel
theorem d_TR_becomeCancelled_16 : decode b_TR_becomeCancelled 16 = .ok (.aload_n 0, 1) := by decide +kernel
theorem d_TR_becomeCancelled_17 : decode b_TR_becomeCancelled 17 = .ok (.iconst 1, 1) := by decide +kernel
theorem d_TR_becomeCancelled_18 : decode b_TR_becomeCancelled 18 = .ok (.putfield 52, 3) := by decide +kernel
theorem d_TR_becomeCancelled_21 : decode b_TR_becomeCancelled 21 = .ok (.aload_n 0, 1) := by decide +kernel
theorem d_TR_becomeCancelled_22 : decode b_TR_becomeCancelled 22 = .ok (.ldc 55, 2) := by decide +kernel
theorem d_TR_becomeCancelled_24 : decode b_TR_becomeCancelled 24 = .ok (.putfield 43, 3) := by decide +kernel
theorem d_TR_becomeCancelled_27 : decode b_TR_becomeCancelled 27 = .ok (.aload_n 0, 1) := by decide +kernel
theorem d_TR_becomeCancelled_28 : decode b_TR_becomeCancelled 28 = .ok (.iconst 1, 1) := by decide +kernel
theorem d_TR_becomeCancelled_29 : decode b_TR_becomeCancelled 29 = .ok (.putfield 46, 3) := by decide +kernel
theorem d_TR_becomeCancelled_32 : decode b_TR_becomeCancelled 32 = .ok (.aload_n 0, 1) := by decide +kernel
theorem d_TR_becomeCancelled_33 : decode b_TR_becomeCancelled 33 = .ok (.iconst 0, 1) := by decide +kernel
theorem d_TR_becomeCancelled_34 : decode b_TR_becomeCancelled 34 = .ok (.putfield 56, 3) := by decide +kernel
theorem d_TR_becomeCancelled_37 : decode b_TR_becomeCancelled 37 = .ok (.iconst 1, 1) := by decide +kernel
theorem d_TR_becomeCancelled_38 : decode b_TR_becomeCancelled 38 = .ok (.ireturn, 1) := by decide +kernel
theorem d_TR_becomeSuspended_0 : decode b_TR_becomeSuspended 0 = .ok (.aload_n 0, 1) := by decide +kernel
theorem d_TR_becomeSuspended_1 : decode b_TR_becomeSuspended 1 = .ok (.getfield 49, 3) := by decide +kernel
theorem d_TR_becomeSuspended_4 : decode b_TR_becomeSuspended 4 = .ok (.ifCond .ne 11, 3) := by decide +kernel
theorem d_TR_becomeSuspended_7 : decode b_TR_becomeSuspended 7 = .ok (.aload_n 0, 1) := by decide +kernel
theorem d_TR_becomeSuspended_8 : decode b_TR_becomeSuspended 8 = .ok (.getfield 59, 3) := by decide +kernel
theorem d_TR_becomeSuspended_11 : decode b_TR_becomeSuspended 11 = .ok (.iload_n 1, 1) := by decide +kernel
theorem d_TR_becomeSuspended_12 : decode b_TR_becomeSuspended 12 = .ok (.if_icmp .ne 5, 3) := by decide +kernel
theorem d_TR_becomeSuspended_15 : decode b_TR_becomeSuspended 15 = .ok (.iconst 0, 1) := by decide +kernel
theorem d_TR_becomeSuspended_16 : decode b_TR_becomeSuspended 16 = .ok (.ireturn, 1) := by decide +kernel
theorem d_TR_becomeSuspended_17 : decode b_TR_becomeSuspended 17 = .ok (.aload_n 0, 1) := by decide +kernel
theorem d_TR_becomeSuspended_18 : decode b_TR_becomeSuspended 18 = .ok (.iload_n 1, 1) := by decide +kernel
theorem d_TR_becomeSuspended_19 : decode b_TR_becomeSuspended 19 = .ok (.putfield 59, 3) := by decide +kernel
theorem d_TR_becomeSuspended_22 : decode b_TR_becomeSuspended 22 = .ok (.iconst 1, 1) := by decide +kernel
theorem d_TR_becomeSuspended_23 : decode b_TR_becomeSuspended 23 = .ok (.ireturn, 1) := by decide +kernel
theorem d_TR_hear_0 : decode b_TR_hear 0 = .ok (.iload_n 1, 1) := by decide +kernel
theorem d_TR_hear_1 : decode b_TR_hear 1 = .ok (.iconst 1, 1) := by decide +kernel
theorem d_TR_hear_2 : decode b_TR_hear 2 = .ok (.if_icmp .lt 8, 3) := by decide +kernel
theorem d_TR_hear_5 : decode b_TR_hear 5 = .ok (.iload_n 1, 1) := by decide +kernel
theorem d_TR_hear_6 : decode b_TR_hear 6 = .ok (.iconst 3, 1) := by decide +kernel
theorem d_TR_hear_7 : decode b_TR_hear 7 = .ok (.if_icmp .le 4, 3) := by decide +kernel
theorem d_TR_hear_10 : decode b_TR_hear 10 = .ok (.return_, 1) := by decide +kernel
theorem d_TR_hear_11 : decode b_TR_hear 11 = .ok (.aload_n 0, 1) := by decide +kernel
theorem d_TR_hear_12 : decode b_TR_hear 12 = .ok (.bipush 12, 2) := by decide +kernel
theorem d_TR_hear_14 : decode b_TR_hear 14 = .ok (.aload_n 0, 1) := by decide +kernel
theorem d_TR_hear_15 : decode b_TR_hear 15 = .ok (.getfield 19, 3) := by decide +kernel
theorem d_TR_hear_18 : decode b_TR_hear 18 = .ok (.imul, 1) := by decide +kernel
theorem d_TR_hear_19 : decode b_TR_hear 19 = .ok (.putfield 62, 3) := by decide +kernel
theorem d_TR_hear_22 : decode b_TR_hear 22 = .ok (.aload_n 0, 1) := by decide +kernel
theorem d_TR_hear_23 : decode b_TR_hear 23 = .ok (.getfield 49, 3) := by decide +kernel
theorem d_TR_hear_26 : decode b_TR_hear 26 = .ok (.ifCond .ne 9, 3) := by decide +kernel
theorem d_TR_hear_29 : decode b_TR_hear 29 = .ok (.aload_n 0, 1) := by decide +kernel
theorem d_TR_hear_30 : decode b_TR_hear 30 = .ok (.iload_n 1, 1) := by decide +kernel
theorem d_TR_hear_31 : decode b_TR_hear 31 = .ok (.iload_n 2, 1) := by decide +kernel
theorem d_TR_hear_32 : decode b_TR_hear 32 = .ok (.invokevirtual 65, 3) := by decide +kernel
theorem d_TR_hear_35 : decode b_TR_hear 35 = .ok (.iload_n 1, 1) := by decide +kernel
theorem d_TR_hear_36 : decode b_TR_hear 36 = .ok (.iconst 3, 1) := by decide +kernel
theorem d_TR_hear_37 : decode b_TR_hear 37 = .ok (.if_icmp .ne 14, 3) := by decide +kernel
theorem d_TR_hear_40 : decode b_TR_hear 40 = .ok (.aload_n 0, 1) := by decide +kernel
theorem d_TR_hear_41 : decode b_TR_hear 41 = .ok (.dup, 1) := by decide +kernel
theorem d_TR_hear_42 : decode b_TR_hear 42 = .ok (.getfield 43, 3) := by decide +kernel
theorem d_TR_hear_45 : decode b_TR_hear 45 = .ok (.ldc 69, 2) := by decide +kernel
theorem d_TR_hear_47 : decode b_TR_hear 47 = .ok (.ior, 1) := by decide +kernel
theorem d_TR_hear_48 : decode b_TR_hear 48 = .ok (.putfield 43, 3) := by decide +kernel
theorem d_TR_hear_51 : decode b_TR_hear 51 = .ok (.return_, 1) := by decide +kernel
theorem d_TR_hearUnderWay_0 : decode b_TR_hearUnderWay 0 = .ok (.iload_n 1, 1) := by decide +kernel
theorem d_TR_hearUnderWay_1 : decode b_TR_hearUnderWay 1 = .ok (.iconst 1, 1) := by decide +kernel
theorem d_TR_hearUnderWay_2 : decode b_TR_hearUnderWay 2 = .ok (.if_icmp .ne 11, 3) := by decide +kernel
theorem d_TR_hearUnderWay_5 : decode b_TR_hearUnderWay 5 = .ok (.aload_n 0, 1) := by decide +kernel
theorem d_TR_hearUnderWay_6 : decode b_TR_hearUnderWay 6 = .ok (.iconst 1, 1) := by decide +kernel
theorem d_TR_hearUnderWay_7 : decode b_TR_hearUnderWay 7 = .ok (.putfield 56, 3) := by decide +kernel
theorem d_TR_hearUnderWay_10 : decode b_TR_hearUnderWay 10 = .ok (.goto 44, 3) := by decide +kernel
theorem d_TR_hearUnderWay_13 : decode b_TR_hearUnderWay 13 = .ok (.iload_n 1, 1) := by decide +kernel
theorem d_TR_hearUnderWay_14 : decode b_TR_hearUnderWay 14 = .ok (.iconst 3, 1) := by decide +kernel
theorem d_TR_hearUnderWay_15 : decode b_TR_hearUnderWay 15 = .ok (.if_icmp .ne 11, 3) := by decide +kernel
theorem d_TR_hearUnderWay_18 : decode b_TR_hearUnderWay 18 = .ok (.aload_n 0, 1) := by decide +kernel
theorem d_TR_hearUnderWay_19 : decode b_TR_hearUnderWay 19 = .ok (.iload_n 2, 1) := by decide +kernel
theorem d_TR_hearUnderWay_20 : decode b_TR_hearUnderWay 20 = .ok (.invokevirtual 70, 3) := by decide +kernel
theorem d_TR_hearUnderWay_23 : decode b_TR_hearUnderWay 23 = .ok (.goto 31, 3) := by decide +kernel
theorem d_TR_hearUnderWay_26 : decode b_TR_hearUnderWay 26 = .ok (.aload_n 0, 1) := by decide +kernel
theorem d_TR_hearUnderWay_27 : decode b_TR_hearUnderWay 27 = .ok (.getfield 52, 3) := by decide +kernel
theorem d_TR_hearUnderWay_30 : decode b_TR_hearUnderWay 30 = .ok (.ifCond .ne 24, 3) := by decide +kernel
theorem d_TR_hearUnderWay_33 : decode b_TR_hearUnderWay 33 = .ok (.aload_n 0, 1) := by decide +kernel
theorem d_TR_hearUnderWay_34 : decode b_TR_hearUnderWay 34 = .ok (.dup, 1) := by decide +kernel
theorem d_TR_hearUnderWay_35 : decode b_TR_hearUnderWay 35 = .ok (.getfield 43, 3) := by decide +kernel
theorem d_TR_hearUnderWay_38 : decode b_TR_hearUnderWay 38 = .ok (.iload_n 2, 1) := by decide +kernel
theorem d_TR_hearUnderWay_39 : decode b_TR_hearUnderWay 39 = .ok (.ldc 74, 2) := by decide +kernel
theorem d_TR_hearUnderWay_41 : decode b_TR_hearUnderWay 41 = .ok (.aload_n 0, 1) := by decide +kernel
theorem d_TR_hearUnderWay_42 : decode b_TR_hearUnderWay 42 = .ok (.getfield 28, 3) := by decide +kernel
theorem d_TR_hearUnderWay_45 : decode b_TR_hearUnderWay 45 = .ok (.invokestatic 39, 3) := by decide +kernel
theorem d_TR_hearUnderWay_48 : decode b_TR_hearUnderWay 48 = .ok (.ior, 1) := by decide +kernel
theorem d_TR_hearUnderWay_49 : decode b_TR_hearUnderWay 49 = .ok (.iand, 1) := by decide +kernel
theorem d_TR_hearUnderWay_50 : decode b_TR_hearUnderWay 50 = .ok (.ior, 1) := by decide +kernel
theorem d_TR_hearUnderWay_51 : decode b_TR_hearUnderWay 51 = .ok (.putfield 43, 3) := by decide +kernel
theorem d_TR_hearUnderWay_54 : decode b_TR_hearUnderWay 54 = .ok (.return_, 1) := by decide +kernel
theorem d_TR_endWith_0 : decode b_TR_endWith 0 = .ok (.aload_n 0, 1) := by decide +kernel
theorem d_TR_endWith_1 : decode b_TR_endWith 1 = .ok (.iconst 1, 1) := by decide +kernel
theorem d_TR_endWith_2 : decode b_TR_endWith 2 = .ok (.putfield 49, 3) := by decide +kernel
theorem d_TR_endWith_5 : decode b_TR_endWith 5 = .ok (.aload_n 0, 1) := by decide +kernel
theorem d_TR_endWith_6 : decode b_TR_endWith 6 = .ok (.iload_n 1, 1) := by decide +kernel
theorem d_TR_endWith_7 : decode b_TR_endWith 7 = .ok (.putfield 75, 3) := by decide +kernel
theorem d_TR_endWith_10 : decode b_TR_endWith 10 = .ok (.aload_n 0, 1) := by decide +kernel
theorem d_TR_endWith_11 : decode b_TR_endWith 11 = .ok (.iconst 0, 1) := by decide +kernel
theorem d_TR_endWith_12 : decode b_TR_endWith 12 = .ok (.putfield 59, 3) := by decide +kernel
theorem d_TR_endWith_15 : decode b_TR_endWith 15 = .ok (.aload_n 0, 1) := by decide +kernel
theorem d_TR_endWith_16 : decode b_TR_endWith 16 = .ok (.dup, 1) := by decide +kernel
theorem d_TR_endWith_17 : decode b_TR_endWith 17 = .ok (.getfield 43, 3) := by decide +kernel
theorem d_TR_endWith_20 : decode b_TR_endWith 20 = .ok (.ldc 69, 2) := by decide +kernel
theorem d_TR_endWith_22 : decode b_TR_endWith 22 = .ok (.iand, 1) := by decide +kernel
theorem d_TR_endWith_23 : decode b_TR_endWith 23 = .ok (.putfield 43, 3) := by decide +kernel
theorem d_TR_endWith_26 : decode b_TR_endWith 26 = .ok (.return_, 1) := by decide +kernel
theorem d_TR_stepClocks_0 : decode b_TR_stepClocks 0 = .ok (.aload_n 0, 1) := by decide +kernel
theorem d_TR_stepClocks_1 : decode b_TR_stepClocks 1 = .ok (.getfield 49, 3) := by decide +kernel
theorem d_TR_stepClocks_4 : decode b_TR_stepClocks 4 = .ok (.ifCond .ne 10, 3) := by decide +kernel
theorem d_TR_stepClocks_7 : decode b_TR_stepClocks 7 = .ok (.aload_n 0, 1) := by decide +kernel
theorem d_TR_stepClocks_8 : decode b_TR_stepClocks 8 = .ok (.getfield 59, 3) := by decide +kernel
theorem d_TR_stepClocks_11 : decode b_TR_stepClocks 11 = .ok (.ifCond .eq 4, 3) := by decide +kernel
theorem d_TR_stepClocks_14 : decode b_TR_stepClocks 14 = .ok (.return_, 1) := by decide +kernel
theorem d_TR_stepClocks_15 : decode b_TR_stepClocks 15 = .ok (.aload_n 0, 1) := by decide +kernel
theorem d_TR_stepClocks_16 : decode b_TR_stepClocks 16 = .ok (.getfield 56, 3) := by decide +kernel
theorem d_TR_stepClocks_19 : decode b_TR_stepClocks 19 = .ok (.ifCond .eq 10, 3) := by decide +kernel
theorem d_TR_stepClocks_22 : decode b_TR_stepClocks 22 = .ok (.aload_n 0, 1) := by decide +kernel
theorem d_TR_stepClocks_23 : decode b_TR_stepClocks 23 = .ok (.invokevirtual 78, 3) := by decide +kernel
theorem d_TR_stepClocks_26 : decode b_TR_stepClocks 26 = .ok (.goto 17, 3) := by decide +kernel
theorem d_TR_stepClocks_29 : decode b_TR_stepClocks 29 = .ok (.aload_n 0, 1) := by decide +kernel
theorem d_TR_stepClocks_30 : decode b_TR_stepClocks 30 = .ok (.getfield 43, 3) := by decide +kernel
theorem d_TR_stepClocks_33 : decode b_TR_stepClocks 33 = .ok (.ldc 55, 2) := by decide +kernel
theorem d_TR_stepClocks_35 : decode b_TR_stepClocks 35 = .ok (.iand, 1) := by decide +kernel
theorem d_TR_stepClocks_36 : decode b_TR_stepClocks 36 = .ok (.ifCond .ne 7, 3) := by decide +kernel
theorem d_TR_stepClocks_39 : decode b_TR_stepClocks 39 = .ok (.aload_n 0, 1) := by decide +kernel
theorem d_TR_stepClocks_40 : decode b_TR_stepClocks 40 = .ok (.invokevirtual 81, 3) := by decide +kernel
theorem d_TR_stepClocks_43 : decode b_TR_stepClocks 43 = .ok (.return_, 1) := by decide +kernel
theorem d_TR_stepIdle_0 : decode b_TR_stepIdle 0 = .ok (.aload_n 0, 1) := by decide +kernel
theorem d_TR_stepIdle_1 : decode b_TR_stepIdle 1 = .ok (.dup, 1) := by decide +kernel
theorem d_TR_stepIdle_2 : decode b_TR_stepIdle 2 = .ok (.getfield 62, 3) := by decide +kernel
theorem d_TR_stepIdle_5 : decode b_TR_stepIdle 5 = .ok (.iconst 1, 1) := by decide +kernel
theorem d_TR_stepIdle_6 : decode b_TR_stepIdle 6 = .ok (.isub, 1) := by decide +kernel
theorem d_TR_stepIdle_7 : decode b_TR_stepIdle 7 = .ok (.putfield 62, 3) := by decide +kernel
theorem d_TR_stepIdle_10 : decode b_TR_stepIdle 10 = .ok (.aload_n 0, 1) := by decide +kernel
theorem d_TR_stepIdle_11 : decode b_TR_stepIdle 11 = .ok (.getfield 62, 3) := by decide +kernel
theorem d_TR_stepIdle_14 : decode b_TR_stepIdle 14 = .ok (.ifCond .ne 8, 3) := by decide +kernel
theorem d_TR_stepIdle_17 : decode b_TR_stepIdle 17 = .ok (.aload_n 0, 1) := by decide +kernel
theorem d_TR_stepIdle_18 : decode b_TR_stepIdle 18 = .ok (.iconst 4, 1) := by decide +kernel
theorem d_TR_stepIdle_19 : decode b_TR_stepIdle 19 = .ok (.invokevirtual 70, 3) := by decide +kernel
theorem d_TR_stepIdle_22 : decode b_TR_stepIdle 22 = .ok (.return_, 1) := by decide +kernel
theorem d_TR_stepClock_0 : decode b_TR_stepClock 0 = .ok (.aload_n 0, 1) := by decide +kernel
theorem d_TR_stepClock_1 : decode b_TR_stepClock 1 = .ok (.dup, 1) := by decide +kernel
theorem d_TR_stepClock_2 : decode b_TR_stepClock 2 = .ok (.getfield 84, 3) := by decide +kernel
theorem d_TR_stepClock_5 : decode b_TR_stepClock 5 = .ok (.iconst 1, 1) := by decide +kernel
theorem d_TR_stepClock_6 : decode b_TR_stepClock 6 = .ok (.isub, 1) := by decide +kernel
theorem d_TR_stepClock_7 : decode b_TR_stepClock 7 = .ok (.putfield 84, 3) := by decide +kernel
theorem d_TR_stepClock_10 : decode b_TR_stepClock 10 = .ok (.aload_n 0, 1) := by decide +kernel
theorem d_TR_stepClock_11 : decode b_TR_stepClock 11 = .ok (.getfield 84, 3) := by decide +kernel
theorem d_TR_stepClock_14 : decode b_TR_stepClock 14 = .ok (.ifCond .le 4, 3) := by decide +kernel
theorem d_TR_stepClock_17 : decode b_TR_stepClock 17 = .ok (.return_, 1) := by decide +kernel
theorem d_TR_stepClock_18 : decode b_TR_stepClock 18 = .ok (.aload_n 0, 1) := by decide +kernel
theorem d_TR_stepClock_19 : decode b_TR_stepClock 19 = .ok (.getfield 46, 3) := by decide +kernel
theorem d_TR_stepClock_22 : decode b_TR_stepClock 22 = .ok (.iconst 4, 1) := by decide +kernel
theorem d_TR_stepClock_23 : decode b_TR_stepClock 23 = .ok (.if_icmp .ne 11, 3) := by decide +kernel
theorem d_TR_stepClock_26 : decode b_TR_stepClock 26 = .ok (.aload_n 0, 1) := by decide +kernel
theorem d_TR_stepClock_27 : decode b_TR_stepClock 27 = .ok (.iconst 3, 1) := by decide +kernel
theorem d_TR_stepClock_28 : decode b_TR_stepClock 28 = .ok (.invokevirtual 70, 3) := by decide +kernel
theorem d_TR_stepClock_31 : decode b_TR_stepClock 31 = .ok (.goto 24, 3) := by decide +kernel
theorem d_TR_stepClock_34 : decode b_TR_stepClock 34 = .ok (.aload_n 0, 1) := by decide +kernel
theorem d_TR_stepClock_35 : decode b_TR_stepClock 35 = .ok (.dup, 1) := by decide +kernel
theorem d_TR_stepClock_36 : decode b_TR_stepClock 36 = .ok (.getfield 46, 3) := by decide +kernel
theorem d_TR_stepClock_39 : decode b_TR_stepClock 39 = .ok (.iconst 1, 1) := by decide +kernel
theorem d_TR_stepClock_40 : decode b_TR_stepClock 40 = .ok (.iadd, 1) := by decide +kernel
theorem d_TR_stepClock_41 : decode b_TR_stepClock 41 = .ok (.putfield 46, 3) := by decide +kernel
theorem d_TR_stepClock_44 : decode b_TR_stepClock 44 = .ok (.aload_n 0, 1) := by decide +kernel
theorem d_TR_stepClock_45 : decode b_TR_stepClock 45 = .ok (.dup, 1) := by decide +kernel
theorem d_TR_stepClock_46 : decode b_TR_stepClock 46 = .ok (.getfield 43, 3) := by decide +kernel
theorem d_TR_stepClock_49 : decode b_TR_stepClock 49 = .ok (.ldc 55, 2) := by decide +kernel
theorem d_TR_stepClock_51 : decode b_TR_stepClock 51 = .ok (.ior, 1) := by decide +kernel
theorem d_TR_stepClock_52 : decode b_TR_stepClock 52 = .ok (.putfield 43, 3) := by decide +kernel
theorem d_TR_stepClock_55 : decode b_TR_stepClock 55 = .ok (.return_, 1) := by decide +kernel
theorem d_TR_hasToSend_0 : decode b_TR_hasToSend 0 = .ok (.aload_n 0, 1) := by decide +kernel
theorem d_TR_hasToSend_1 : decode b_TR_hasToSend 1 = .ok (.getfield 43, 3) := by decide +kernel
theorem d_TR_hasToSend_4 : decode b_TR_hasToSend 4 = .ok (.ifCond .eq 14, 3) := by decide +kernel
theorem d_TR_hasToSend_7 : decode b_TR_hasToSend 7 = .ok (.aload_n 0, 1) := by decide +kernel
theorem d_TR_hasToSend_8 : decode b_TR_hasToSend 8 = .ok (.getfield 59, 3) := by decide +kernel
theorem d_TR_hasToSend_11 : decode b_TR_hasToSend 11 = .ok (.ifCond .ne 7, 3) := by decide +kernel
theorem d_TR_hasToSend_14 : decode b_TR_hasToSend 14 = .ok (.iconst 1, 1) := by decide +kernel
theorem d_TR_hasToSend_15 : decode b_TR_hasToSend 15 = .ok (.goto 4, 3) := by decide +kernel
theorem d_TR_hasToSend_18 : decode b_TR_hasToSend 18 = .ok (.iconst 0, 1) := by decide +kernel
theorem d_TR_hasToSend_19 : decode b_TR_hasToSend 19 = .ok (.ireturn, 1) := by decide +kernel
theorem d_TR_nextPdu_0 : decode b_TR_nextPdu 0 = .ok (.aload_n 0, 1) := by decide +kernel
theorem d_TR_nextPdu_1 : decode b_TR_nextPdu 1 = .ok (.getfield 43, 3) := by decide +kernel
theorem d_TR_nextPdu_4 : decode b_TR_nextPdu 4 = .ok (.ldc 69, 2) := by decide +kernel
theorem d_TR_nextPdu_6 : decode b_TR_nextPdu 6 = .ok (.iand, 1) := by decide +kernel
theorem d_TR_nextPdu_7 : decode b_TR_nextPdu 7 = .ok (.ifCond .eq 22, 3) := by decide +kernel
theorem d_TR_nextPdu_10 : decode b_TR_nextPdu 10 = .ok (.aload_n 0, 1) := by decide +kernel
theorem d_TR_nextPdu_11 : decode b_TR_nextPdu 11 = .ok (.dup, 1) := by decide +kernel
theorem d_TR_nextPdu_12 : decode b_TR_nextPdu 12 = .ok (.getfield 43, 3) := by decide +kernel
theorem d_TR_nextPdu_15 : decode b_TR_nextPdu 15 = .ok (.ldc 87, 2) := by decide +kernel
theorem d_TR_nextPdu_17 : decode b_TR_nextPdu 17 = .ok (.iand, 1) := by decide +kernel
theorem d_TR_nextPdu_18 : decode b_TR_nextPdu 18 = .ok (.putfield 43, 3) := by decide +kernel
theorem d_TR_nextPdu_21 : decode b_TR_nextPdu 21 = .ok (.aload_n 0, 1) := by decide +kernel
theorem d_TR_nextPdu_22 : decode b_TR_nextPdu 22 = .ok (.iconst 5, 1) := by decide +kernel
theorem d_TR_nextPdu_23 : decode b_TR_nextPdu 23 = .ok (.iconst 0, 1) := by decide +kernel
theorem d_TR_nextPdu_24 : decode b_TR_nextPdu 24 = .ok (.iconst 0, 1) := by decide +kernel
theorem d_TR_nextPdu_25 : decode b_TR_nextPdu 25 = .ok (.invokevirtual 88, 3) := by decide +kernel
theorem d_TR_nextPdu_28 : decode b_TR_nextPdu 28 = .ok (.lreturn, 1) := by decide +kernel
theorem d_TR_nextPdu_29 : decode b_TR_nextPdu 29 = .ok (.aload_n 0, 1) := by decide +kernel
theorem d_TR_nextPdu_30 : decode b_TR_nextPdu 30 = .ok (.getfield 43, 3) := by decide +kernel
theorem d_TR_nextPdu_33 : decode b_TR_nextPdu 33 = .ok (.ldc 74, 2) := by decide +kernel
theorem d_TR_nextPdu_35 : decode b_TR_nextPdu 35 = .ok (.iand, 1) := by decide +kernel
theorem d_TR_nextPdu_36 : decode b_TR_nextPdu 36 = .ok (.ifCond .eq 28, 3) := by decide +kernel
theorem d_TR_nextPdu_39 : decode b_TR_nextPdu 39 = .ok (.aload_n 0, 1) := by decide +kernel
theorem d_TR_nextPdu_40 : decode b_TR_nextPdu 40 = .ok (.dup, 1) := by decide +kernel
theorem d_TR_nextPdu_41 : decode b_TR_nextPdu 41 = .ok (.getfield 43, 3) := by decide +kernel
theorem d_TR_nextPdu_44 : decode b_TR_nextPdu 44 = .ok (.ldc 92, 2) := by decide +kernel
theorem d_TR_nextPdu_46 : decode b_TR_nextPdu 46 = .ok (.iand, 1) := by decide +kernel
theorem d_TR_nextPdu_47 : decode b_TR_nextPdu 47 = .ok (.putfield 43, 3) := by decide +kernel
theorem d_TR_nextPdu_50 : decode b_TR_nextPdu 50 = .ok (.aload_n 0, 1) := by decide +kernel
theorem d_TR_nextPdu_51 : decode b_TR_nextPdu 51 = .ok (.iconst 1, 1) := by decide +kernel
theorem d_TR_nextPdu_52 : decode b_TR_nextPdu 52 = .ok (.aload_n 0, 1) := by decide +kernel
theorem d_TR_nextPdu_53 : decode b_TR_nextPdu 53 = .ok (.getfield 28, 3) := by decide +kernel
theorem d_TR_nextPdu_56 : decode b_TR_nextPdu 56 = .ok (.aload_n 0, 1) := by decide +kernel
theorem d_TR_nextPdu_57 : decode b_TR_nextPdu 57 = .ok (.getfield 31, 3) := by decide +kernel
theorem d_TR_nextPdu_60 : decode b_TR_nextPdu 60 = .ok (.invokevirtual 88, 3) := by decide +kernel
theorem d_TR_nextPdu_63 : decode b_TR_nextPdu 63 = .ok (.lreturn, 1) := by decide +kernel
theorem d_TR_nextPdu_64 : decode b_TR_nextPdu 64 = .ok (.aload_n 0, 1) := by decide +kernel
theorem d_TR_nextPdu_65 : decode b_TR_nextPdu 65 = .ok (.invokevirtual 93, 3) := by decide +kernel
theorem d_TR_nextPdu_68 : decode b_TR_nextPdu 68 = .ok (.istore_n 1, 1) := by decide +kernel
theorem d_TR_nextPdu_69 : decode b_TR_nextPdu 69 = .ok (.iload_n 1, 1) := by decide +kernel
theorem d_TR_nextPdu_70 : decode b_TR_nextPdu 70 = .ok (.bipush 16, 2) := by decide +kernel
theorem d_TR_nextPdu_72 : decode b_TR_nextPdu 72 = .ok (.if_icmp .ge 30, 3) := by decide +kernel
theorem d_TR_nextPdu_75 : decode b_TR_nextPdu 75 = .ok (.aload_n 0, 1) := by decide +kernel
theorem d_TR_nextPdu_76 : decode b_TR_nextPdu 76 = .ok (.dup, 1) := by decide +kernel
theorem d_TR_nextPdu_77 : decode b_TR_nextPdu 77 = .ok (.getfield 43, 3) := by decide +kernel
theorem d_TR_nextPdu_80 : decode b_TR_nextPdu 80 = .ok (.iconst 1, 1) := by decide +kernel
theorem d_TR_nextPdu_81 : decode b_TR_nextPdu 81 = .ok (.iload_n 1, 1) := by decide +kernel
theorem d_TR_nextPdu_82 : decode b_TR_nextPdu 82 = .ok (.ishl, 1) := by decide +kernel
theorem d_TR_nextPdu_83 : decode b_TR_nextPdu 83 = .ok (.iconst (-1), 1) := by decide +kernel
theorem d_TR_nextPdu_84 : decode b_TR_nextPdu 84 = .ok (.ixor, 1) := by decide +kernel
theorem d_TR_nextPdu_85 : decode b_TR_nextPdu 85 = .ok (.iand, 1) := by decide +kernel
theorem d_TR_nextPdu_86 : decode b_TR_nextPdu 86 = .ok (.putfield 43, 3) := by decide +kernel
theorem d_TR_nextPdu_89 : decode b_TR_nextPdu 89 = .ok (.aload_n 0, 1) := by decide +kernel
theorem d_TR_nextPdu_90 : decode b_TR_nextPdu 90 = .ok (.iconst 2, 1) := by decide +kernel
theorem d_TR_nextPdu_91 : decode b_TR_nextPdu 91 = .ok (.iload_n 1, 1) := by decide +kernel
theorem d_TR_nextPdu_92 : decode b_TR_nextPdu 92 = .ok (.aload_n 0, 1) := by decide +kernel
theorem d_TR_nextPdu_93 : decode b_TR_nextPdu 93 = .ok (.getfield 9, 3) := by decide +kernel
theorem d_TR_nextPdu_96 : decode b_TR_nextPdu 96 = .ok (.iload_n 1, 1) := by decide +kernel
theorem d_TR_nextPdu_97 : decode b_TR_nextPdu 97 = .ok (.iaload, 1) := by decide +kernel
theorem d_TR_nextPdu_98 : decode b_TR_nextPdu 98 = .ok (.invokevirtual 88, 3) := by decide +kernel
theorem d_TR_nextPdu_101 : decode b_TR_nextPdu 101 = .ok (.lreturn, 1) := by decide +kernel
theorem d_TR_nextPdu_102 : decode b_TR_nextPdu 102 = .ok (.aload_n 0, 1) := by decide +kernel
theorem d_TR_nextPdu_103 : decode b_TR_nextPdu 103 = .ok (.dup, 1) := by decide +kernel
theorem d_TR_nextPdu_104 : decode b_TR_nextPdu 104 = .ok (.getfield 43, 3) := by decide +kernel
theorem d_TR_nextPdu_107 : decode b_TR_nextPdu 107 = .ok (.ldc 97, 2) := by decide +kernel
theorem d_TR_nextPdu_109 : decode b_TR_nextPdu 109 = .ok (.iand, 1) := by decide +kernel
theorem d_TR_nextPdu_110 : decode b_TR_nextPdu 110 = .ok (.putfield 43, 3) := by decide +kernel
theorem d_TR_nextPdu_113 : decode b_TR_nextPdu 113 = .ok (.aload_n 0, 1) := by decide +kernel
theorem d_TR_nextPdu_114 : decode b_TR_nextPdu 114 = .ok (.iconst 3, 1) := by decide +kernel
theorem d_TR_nextPdu_115 : decode b_TR_nextPdu 115 = .ok (.aload_n 0, 1) := by decide +kernel
theorem d_TR_nextPdu_116 : decode b_TR_nextPdu 116 = .ok (.getfield 19, 3) := by decide +kernel
theorem d_TR_nextPdu_119 : decode b_TR_nextPdu 119 = .ok (.imul, 1) := by decide +kernel
theorem d_TR_nextPdu_120 : decode b_TR_nextPdu 120 = .ok (.putfield 84, 3) := by decide +kernel
theorem d_TR_nextPdu_123 : decode b_TR_nextPdu 123 = .ok (.aload_n 0, 1) := by decide +kernel
theorem d_TR_nextPdu_124 : decode b_TR_nextPdu 124 = .ok (.getfield 52, 3) := by decide +kernel
theorem d_TR_nextPdu_127 : decode b_TR_nextPdu 127 = .ok (.ifCond .eq 13, 3) := by decide +kernel
theorem d_TR_nextPdu_130 : decode b_TR_nextPdu 130 = .ok (.aload_n 0, 1) := by decide +kernel
theorem d_TR_nextPdu_131 : decode b_TR_nextPdu 131 = .ok (.iconst 4, 1) := by decide +kernel
theorem d_TR_nextPdu_132 : decode b_TR_nextPdu 132 = .ok (.iconst 0, 1) := by decide +kernel
theorem d_TR_nextPdu_133 : decode b_TR_nextPdu 133 = .ok (.iconst 0, 1) := by decide +kernel
theorem d_TR_nextPdu_134 : decode b_TR_nextPdu 134 = .ok (.invokevirtual 88, 3) := by decide +kernel
theorem d_TR_nextPdu_137 : decode b_TR_nextPdu 137 = .ok (.goto 23, 3) := by decide +kernel
theorem d_TR_nextPdu_140 : decode b_TR_nextPdu 140 = .ok (.aload_n 0, 1) := by decide +kernel
theorem d_TR_nextPdu_141 : decode b_TR_nextPdu 141 = .ok (.iconst 3, 1) := by decide +kernel
theorem d_TR_nextPdu_142 : decode b_TR_nextPdu 142 = .ok (.aload_n 0, 1) := by decide +kernel
theorem d_TR_nextPdu_143 : decode b_TR_nextPdu 143 = .ok (.getfield 28, 3) := by decide +kernel
theorem d_TR_nextPdu_146 : decode b_TR_nextPdu 146 = .ok (.aload_n 0, 1) := by decide +kernel
theorem d_TR_nextPdu_147 : decode b_TR_nextPdu 147 = .ok (.getfield 28, 3) := by decide +kernel
theorem d_TR_nextPdu_150 : decode b_TR_nextPdu 150 = .ok (.aload_n 0, 1) := by decide +kernel
theorem d_TR_nextPdu_151 : decode b_TR_nextPdu 151 = .ok (.getfield 9, 3) := by decide +kernel
theorem d_TR_nextPdu_154 : decode b_TR_nextPdu 154 = .ok (.invokestatic 98, 3) := by decide +kernel
theorem d_TR_nextPdu_157 : decode b_TR_nextPdu 157 = .ok (.invokevirtual 88, 3) := by decide +kernel
theorem d_TR_nextPdu_160 : decode b_TR_nextPdu 160 = .ok (.lreturn, 1) := by decide +kernel
theorem d_TR_leastWordDue_0 : decode b_TR_leastWordDue 0 = .ok (.iconst 0, 1) := by decide +kernel
theorem d_TR_leastWordDue_1 : decode b_TR_leastWordDue 1 = .ok (.istore_n 1, 1) := by decide +kernel
theorem d_TR_leastWordDue_2 : decode b_TR_leastWordDue 2 = .ok (.iload_n 1, 1) := by decide +kernel
theorem d_TR_leastWordDue_3 : decode b_TR_leastWordDue 3 = .ok (.bipush 16, 2) := by decide +kernel
theorem d_TR_leastWordDue_5 : decode b_TR_leastWordDue 5 = .ok (.if_icmp .ge 20, 3) := by decide +kernel
theorem d_TR_leastWordDue_8 : decode b_TR_leastWordDue 8 = .ok (.aload_n 0, 1) := by decide +kernel
theorem d_TR_leastWordDue_9 : decode b_TR_leastWordDue 9 = .ok (.getfield 43, 3) := by decide +kernel
theorem d_TR_leastWordDue_12 : decode b_TR_leastWordDue 12 = .ok (.iconst 1, 1) := by decide +kernel
theorem d_TR_leastWordDue_13 : decode b_TR_leastWordDue 13 = .ok (.iload_n 1, 1) := by decide +kernel
theorem d_TR_leastWordDue_14 : decode b_TR_leastWordDue 14 = .ok (.ishl, 1) := by decide +kernel
theorem d_TR_leastWordDue_15 : decode b_TR_leastWordDue 15 = .ok (.iand, 1) := by decide +kernel
theorem d_TR_leastWordDue_16 : decode b_TR_leastWordDue 16 = .ok (.ifCond .ne 9, 3) := by decide +kernel
theorem d_TR_leastWordDue_19 : decode b_TR_leastWordDue 19 = .ok (.iinc 1 1, 3) := by decide +kernel
theorem d_TR_leastWordDue_22 : decode b_TR_leastWordDue 22 = .ok (.goto (-20), 3) := by decide +kernel
theorem d_TR_leastWordDue_25 : decode b_TR_leastWordDue 25 = .ok (.iload_n 1, 1) := by decide +kernel
theorem d_TR_leastWordDue_26 : decode b_TR_leastWordDue 26 = .ok (.ireturn, 1) := by decide +kernel
theorem d_TR_pdu_0 : decode b_TR_pdu 0 = .ok (.iload_n 1, 1) := by decide +kernel
theorem d_TR_pdu_1 : decode b_TR_pdu 1 = .ok (.i2l, 1) := by decide +kernel
theorem d_TR_pdu_2 : decode b_TR_pdu 2 = .ok (.bipush 12, 2) := by decide +kernel
theorem d_TR_pdu_4 : decode b_TR_pdu 4 = .ok (.lshl, 1) := by decide +kernel
theorem d_TR_pdu_5 : decode b_TR_pdu 5 = .ok (.aload_n 0, 1) := by decide +kernel
theorem d_TR_pdu_6 : decode b_TR_pdu 6 = .ok (.getfield 15, 3) := by decide +kernel
theorem d_TR_pdu_9 : decode b_TR_pdu 9 = .ok (.i2l, 1) := by decide +kernel
theorem d_TR_pdu_10 : decode b_TR_pdu 10 = .ok (.bipush 8, 2) := by decide +kernel
theorem d_TR_pdu_12 : decode b_TR_pdu 12 = .ok (.lshl, 1) := by decide +kernel
theorem d_TR_pdu_13 : decode b_TR_pdu 13 = .ok (.lor, 1) := by decide +kernel
theorem d_TR_pdu_14 : decode b_TR_pdu 14 = .ok (.iload_n 2, 1) := by decide +kernel
theorem d_TR_pdu_15 : decode b_TR_pdu 15 = .ok (.i2l, 1) := by decide +kernel
theorem d_TR_pdu_16 : decode b_TR_pdu 16 = .ok (.lor, 1) := by decide +kernel
theorem d_TR_pdu_17 : decode b_TR_pdu 17 = .ok (.lstore 4, 2) := by decide +kernel
theorem d_TR_pdu_19 : decode b_TR_pdu 19 = .ok (.lload 4, 2) := by decide +kernel
theorem d_TR_pdu_21 : decode b_TR_pdu 21 = .ok (.bipush 32, 2) := by decide +kernel
theorem d_TR_pdu_23 : decode b_TR_pdu 23 = .ok (.lshl, 1) := by decide +kernel
theorem d_TR_pdu_24 : decode b_TR_pdu 24 = .ok (.iload_n 3, 1) := by decide +kernel
theorem d_TR_pdu_25 : decode b_TR_pdu 25 = .ok (.i2l, 1) := by decide +kernel
theorem d_TR_pdu_26 : decode b_TR_pdu 26 = .ok (.ldc2_w 102, 3) := by decide +kernel
theorem d_TR_pdu_29 : decode b_TR_pdu 29 = .ok (.land, 1) := by decide +kernel
theorem d_TR_pdu_30 : decode b_TR_pdu 30 = .ok (.lor, 1) := by decide +kernel
theorem d_TR_pdu_31 : decode b_TR_pdu 31 = .ok (.lreturn, 1) := by decide +kernel
theorem d_TR_result_0 : decode b_TR_result 0 = .ok (.aload_n 0, 1) := by decide +kernel
theorem d_TR_result_1 : decode b_TR_result 1 = .ok (.getfield 49, 3) := by decide +kernel
theorem d_TR_result_4 : decode b_TR_result 4 = .ok (.ifCond .eq 13, 3) := by decide +kernel
theorem d_TR_result_7 : decode b_TR_result 7 = .ok (.bipush 8, 2) := by decide +kernel
theorem d_TR_result_9 : decode b_TR_result 9 = .ok (.aload_n 0, 1) := by decide +kernel
theorem d_TR_result_10 : decode b_TR_result 10 = .ok (.getfield 75, 3) := by decide +kernel
theorem d_TR_result_13 : decode b_TR_result 13 = .ok (.iadd, 1) := by decide +kernel
theorem d_TR_result_14 : decode b_TR_result 14 = .ok (.goto 4, 3) := by decide +kernel
theorem d_TR_result_17 : decode b_TR_result 17 = .ok (.iconst 0, 1) := by decide +kernel
theorem d_TR_result_18 : decode b_TR_result 18 = .ok (.ireturn, 1) := by decide +kernel
theorem d_WY_init_0 : decode b_WY_init 0 = .ok (.aload_n 0, 1) := by decide +kernel
theorem d_WY_init_1 : decode b_WY_init 1 = .ok (.invokespecial 5, 3) := by decide +kernel
theorem d_WY_init_4 : decode b_WY_init 4 = .ok (.aload_n 0, 1) := by decide +kernel
theorem d_WY_init_5 : decode b_WY_init 5 = .ok (.bipush 8, 2) := by decide +kernel
theorem d_WY_init_7 : decode b_WY_init 7 = .ok (.newarray .long, 2) := by decide +kernel
theorem d_WY_init_9 : decode b_WY_init 9 = .ok (.putfield 11, 3) := by decide +kernel
theorem d_WY_init_12 : decode b_WY_init 12 = .ok (.aload_n 0, 1) := by decide +kernel
theorem d_WY_init_13 : decode b_WY_init 13 = .ok (.iload_n 1, 1) := by decide +kernel
theorem d_WY_init_14 : decode b_WY_init 14 = .ok (.putfield 15, 3) := by decide +kernel
theorem d_WY_init_17 : decode b_WY_init 17 = .ok (.aload_n 0, 1) := by decide +kernel
theorem d_WY_init_18 : decode b_WY_init 18 = .ok (.iload_n 2, 1) := by decide +kernel
theorem d_WY_init_19 : decode b_WY_init 19 = .ok (.putfield 19, 3) := by decide +kernel
theorem d_WY_init_22 : decode b_WY_init 22 = .ok (.iconst 0, 1) := by decide +kernel
theorem d_WY_init_23 : decode b_WY_init 23 = .ok (.istore_n 3, 1) := by decide +kernel
theorem d_WY_init_24 : decode b_WY_init 24 = .ok (.iload_n 3, 1) := by decide +kernel
theorem d_WY_init_25 : decode b_WY_init 25 = .ok (.bipush 8, 2) := by decide +kernel
theorem d_WY_init_27 : decode b_WY_init 27 = .ok (.if_icmp .ge 18, 3) := by decide +kernel
theorem d_WY_init_30 : decode b_WY_init 30 = .ok (.aload_n 0, 1) := by decide +kernel
theorem d_WY_init_31 : decode b_WY_init 31 = .ok (.getfield 11, 3) := by decide +kernel
theorem d_WY_init_34 : decode b_WY_init 34 = .ok (.iload_n 3, 1) := by decide +kernel
theorem d_WY_init_35 : decode b_WY_init 35 = .ok (.ldc2_w 23, 3) := by decide +kernel
theorem d_WY_init_38 : decode b_WY_init 38 = .ok (.lastore, 1) := by decide +kernel
theorem d_WY_init_39 : decode b_WY_init 39 = .ok (.iinc 3 1, 3) := by decide +kernel
theorem d_WY_init_42 : decode b_WY_init 42 = .ok (.goto (-18), 3) := by decide +kernel
theorem d_WY_init_45 : decode b_WY_init 45 = .ok (.return_, 1) := by decide +kernel
theorem d_WY_turnNext_0 : decode b_WY_turnNext 0 = .ok (.aload_n 0, 1) := by decide +kernel
theorem d_WY_turnNext_1 : decode b_WY_turnNext 1 = .ok (.dup, 1) := by decide +kernel
theorem d_WY_turnNext_2 : decode b_WY_turnNext 2 = .ok (.getfield 25, 3) := by decide +kernel
theorem d_WY_turnNext_5 : decode b_WY_turnNext 5 = .ok (.lload_n 1, 1) := by decide +kernel
theorem d_WY_turnNext_6 : decode b_WY_turnNext 6 = .ok (.aload_n 0, 1) := by decide +kernel
theorem d_WY_turnNext_7 : decode b_WY_turnNext 7 = .ok (.getfield 15, 3) := by decide +kernel
theorem d_WY_turnNext_10 : decode b_WY_turnNext 10 = .ok (.ifCond .eq 9, 3) := by decide +kernel
theorem d_WY_turnNext_13 : decode b_WY_turnNext 13 = .ok (.ldc2_w 31, 3) := by decide +kernel
theorem d_WY_turnNext_16 : decode b_WY_turnNext 16 = .ok (.goto 6, 3) := by decide +kernel
theorem d_WY_turnNext_19 : decode b_WY_turnNext 19 = .ok (.ldc2_w 35, 3) := by decide +kernel
theorem d_WY_turnNext_22 : decode b_WY_turnNext 22 = .ok (.land, 1) := by decide +kernel
theorem d_WY_turnNext_23 : decode b_WY_turnNext 23 = .ok (.lxor, 1) := by decide +kernel
theorem d_WY_turnNext_24 : decode b_WY_turnNext 24 = .ok (.putfield 25, 3) := by decide +kernel
theorem d_WY_turnNext_27 : decode b_WY_turnNext 27 = .ok (.return_, 1) := by decide +kernel
theorem d_WY_send_0 : decode b_WY_send 0 = .ok (.aload_n 0, 1) := by decide +kernel
theorem d_WY_send_1 : decode b_WY_send 1 = .ok (.getfield 15, 3) := by decide +kernel
theorem d_WY_send_4 : decode b_WY_send 4 = .ok (.ifCond .eq 10, 3) := by decide +kernel
theorem d_WY_send_7 : decode b_WY_send 7 = .ok (.lload_n 2, 1) := by decide +kernel
theorem d_WY_send_8 : decode b_WY_send 8 = .ok (.invokestatic 37, 3) := by decide +kernel
theorem d_WY_send_11 : decode b_WY_send 11 = .ok (.goto 7, 3) := by decide +kernel
theorem d_WY_send_14 : decode b_WY_send 14 = .ok (.lload_n 2, 1) := by decide +kernel
theorem d_WY_send_15 : decode b_WY_send 15 = .ok (.invokestatic 41, 3) := by decide +kernel
theorem d_WY_send_18 : decode b_WY_send 18 = .ok (.lstore 4, 2) := by decide +kernel
theorem d_WY_send_20 : decode b_WY_send 20 = .ok (.aload_n 0, 1) := by decide +kernel
theorem d_WY_send_21 : decode b_WY_send 21 = .ok (.dup, 1) := by decide +kernel
theorem d_WY_send_22 : decode b_WY_send 22 = .ok (.getfield 42, 3) := by decide +kernel
theorem d_WY_send_25 : decode b_WY_send 25 = .ok (.iconst 1, 1) := by decide +kernel
theorem d_WY_send_26 : decode b_WY_send 26 = .ok (.iadd, 1) := by decide +kernel
theorem d_WY_send_27 : decode b_WY_send 27 = .ok (.putfield 42, 3) := by decide +kernel
theorem d_WY_send_30 : decode b_WY_send 30 = .ok (.aload_n 0, 1) := by decide +kernel
theorem d_WY_send_31 : decode b_WY_send 31 = .ok (.getfield 45, 3) := by decide +kernel
theorem d_WY_send_34 : decode b_WY_send 34 = .ok (.ifCond .le 16, 3) := by decide +kernel
theorem d_WY_send_37 : decode b_WY_send 37 = .ok (.aload_n 0, 1) := by decide +kernel
theorem d_WY_send_38 : decode b_WY_send 38 = .ok (.dup, 1) := by decide +kernel
theorem d_WY_send_39 : decode b_WY_send 39 = .ok (.getfield 45, 3) := by decide +kernel
theorem d_WY_send_42 : decode b_WY_send 42 = .ok (.iconst 1, 1) := by decide +kernel
theorem d_WY_send_43 : decode b_WY_send 43 = .ok (.isub, 1) := by decide +kernel
theorem d_WY_send_44 : decode b_WY_send 44 = .ok (.putfield 45, 3) := by decide +kernel
theorem d_WY_send_47 : decode b_WY_send 47 = .ok (.goto 19, 3) := by decide +kernel
theorem d_WY_send_50 : decode b_WY_send 50 = .ok (.aload_n 0, 1) := by decide +kernel
theorem d_WY_send_51 : decode b_WY_send 51 = .ok (.getfield 11, 3) := by decide +kernel
theorem d_WY_send_54 : decode b_WY_send 54 = .ok (.iload_n 1, 1) := by decide +kernel
theorem d_WY_send_55 : decode b_WY_send 55 = .ok (.bipush 7, 2) := by decide +kernel
theorem d_WY_send_57 : decode b_WY_send 57 = .ok (.iand, 1) := by decide +kernel
theorem d_WY_send_58 : decode b_WY_send 58 = .ok (.lload 4, 2) := by decide +kernel
theorem d_WY_send_60 : decode b_WY_send 60 = .ok (.aload_n 0, 1) := by decide +kernel
theorem d_WY_send_61 : decode b_WY_send 61 = .ok (.getfield 25, 3) := by decide +kernel
theorem d_WY_send_64 : decode b_WY_send 64 = .ok (.lxor, 1) := by decide +kernel
theorem d_WY_send_65 : decode b_WY_send 65 = .ok (.lastore, 1) := by decide +kernel
theorem d_WY_send_66 : decode b_WY_send 66 = .ok (.aload_n 0, 1) := by decide +kernel
theorem d_WY_send_67 : decode b_WY_send 67 = .ok (.lconst 0, 1) := by decide +kernel
theorem d_WY_send_68 : decode b_WY_send 68 = .ok (.putfield 25, 3) := by decide +kernel
theorem d_WY_send_71 : decode b_WY_send 71 = .ok (.return_, 1) := by decide +kernel
theorem d_WY_hear_0 : decode b_WY_hear 0 = .ok (.iload_n 1, 1) := by decide +kernel
theorem d_WY_hear_1 : decode b_WY_hear 1 = .ok (.aload_n 0, 1) := by decide +kernel
theorem d_WY_hear_2 : decode b_WY_hear 2 = .ok (.getfield 19, 3) := by decide +kernel
theorem d_WY_hear_5 : decode b_WY_hear 5 = .ok (.isub, 1) := by decide +kernel
theorem d_WY_hear_6 : decode b_WY_hear 6 = .ok (.bipush 7, 2) := by decide +kernel
theorem d_WY_hear_8 : decode b_WY_hear 8 = .ok (.iand, 1) := by decide +kernel
theorem d_WY_hear_9 : decode b_WY_hear 9 = .ok (.istore_n 2, 1) := by decide +kernel
theorem d_WY_hear_10 : decode b_WY_hear 10 = .ok (.aload_n 0, 1) := by decide +kernel
theorem d_WY_hear_11 : decode b_WY_hear 11 = .ok (.getfield 11, 3) := by decide +kernel
theorem d_WY_hear_14 : decode b_WY_hear 14 = .ok (.iload_n 2, 1) := by decide +kernel
theorem d_WY_hear_15 : decode b_WY_hear 15 = .ok (.laload, 1) := by decide +kernel
theorem d_WY_hear_16 : decode b_WY_hear 16 = .ok (.lstore_n 3, 1) := by decide +kernel
theorem d_WY_hear_17 : decode b_WY_hear 17 = .ok (.aload_n 0, 1) := by decide +kernel
theorem d_WY_hear_18 : decode b_WY_hear 18 = .ok (.getfield 11, 3) := by decide +kernel
theorem d_WY_hear_21 : decode b_WY_hear 21 = .ok (.iload_n 2, 1) := by decide +kernel
theorem d_WY_hear_22 : decode b_WY_hear 22 = .ok (.ldc2_w 23, 3) := by decide +kernel
theorem d_WY_hear_25 : decode b_WY_hear 25 = .ok (.lastore, 1) := by decide +kernel
theorem d_WY_hear_26 : decode b_WY_hear 26 = .ok (.lload_n 3, 1) := by decide +kernel
theorem d_WY_hear_27 : decode b_WY_hear 27 = .ok (.ldc2_w 23, 3) := by decide +kernel
theorem d_WY_hear_30 : decode b_WY_hear 30 = .ok (.lcmp, 1) := by decide +kernel
theorem d_WY_hear_31 : decode b_WY_hear 31 = .ok (.ifCond .ne 7, 3) := by decide +kernel
theorem d_WY_hear_34 : decode b_WY_hear 34 = .ok (.ldc2_w 23, 3) := by decide +kernel
theorem d_WY_hear_37 : decode b_WY_hear 37 = .ok (.lreturn, 1) := by decide +kernel
theorem d_WY_hear_38 : decode b_WY_hear 38 = .ok (.aload_n 0, 1) := by decide +kernel
theorem d_WY_hear_39 : decode b_WY_hear 39 = .ok (.getfield 15, 3) := by decide +kernel
theorem d_WY_hear_42 : decode b_WY_hear 42 = .ok (.ifCond .eq 10, 3) := by decide +kernel
theorem d_WY_hear_45 : decode b_WY_hear 45 = .ok (.lload_n 3, 1) := by decide +kernel
theorem d_WY_hear_46 : decode b_WY_hear 46 = .ok (.invokestatic 48, 3) := by decide +kernel
theorem d_WY_hear_49 : decode b_WY_hear 49 = .ok (.goto 7, 3) := by decide +kernel
theorem d_WY_hear_52 : decode b_WY_hear 52 = .ok (.lload_n 3, 1) := by decide +kernel
theorem d_WY_hear_53 : decode b_WY_hear 53 = .ok (.invokestatic 51, 3) := by decide +kernel
theorem d_WY_hear_56 : decode b_WY_hear 56 = .ok (.lstore 5, 2) := by decide +kernel
theorem d_WY_hear_58 : decode b_WY_hear 58 = .ok (.lload 5, 2) := by decide +kernel
theorem d_WY_hear_60 : decode b_WY_hear 60 = .ok (.ldc2_w 23, 3) := by decide +kernel
theorem d_WY_hear_63 : decode b_WY_hear 63 = .ok (.lcmp, 1) := by decide +kernel
theorem d_WY_hear_64 : decode b_WY_hear 64 = .ok (.ifCond .ne 16, 3) := by decide +kernel
theorem d_WY_hear_67 : decode b_WY_hear 67 = .ok (.aload_n 0, 1) := by decide +kernel
theorem d_WY_hear_68 : decode b_WY_hear 68 = .ok (.dup, 1) := by decide +kernel
theorem d_WY_hear_69 : decode b_WY_hear 69 = .ok (.getfield 52, 3) := by decide +kernel
theorem d_WY_hear_72 : decode b_WY_hear 72 = .ok (.iconst 1, 1) := by decide +kernel
theorem d_WY_hear_73 : decode b_WY_hear 73 = .ok (.iadd, 1) := by decide +kernel
theorem d_WY_hear_74 : decode b_WY_hear 74 = .ok (.putfield 52, 3) := by decide +kernel
theorem d_WY_hear_77 : decode b_WY_hear 77 = .ok (.goto 34, 3) := by decide +kernel
theorem d_WY_hear_80 : decode b_WY_hear 80 = .ok (.aload_n 0, 1) := by decide +kernel
theorem d_WY_hear_81 : decode b_WY_hear 81 = .ok (.getfield 15, 3) := by decide +kernel
theorem d_WY_hear_84 : decode b_WY_hear 84 = .ok (.ifCond .eq 10, 3) := by decide +kernel
theorem d_WY_hear_87 : decode b_WY_hear 87 = .ok (.lload_n 3, 1) := by decide +kernel
theorem d_WY_hear_88 : decode b_WY_hear 88 = .ok (.invokestatic 55, 3) := by decide +kernel
theorem d_WY_hear_91 : decode b_WY_hear 91 = .ok (.goto 7, 3) := by decide +kernel
theorem d_WY_hear_94 : decode b_WY_hear 94 = .ok (.lload_n 3, 1) := by decide +kernel
theorem d_WY_hear_95 : decode b_WY_hear 95 = .ok (.invokestatic 59, 3) := by decide +kernel
theorem d_WY_hear_98 : decode b_WY_hear 98 = .ok (.ifCond .eq 13, 3) := by decide +kernel
theorem d_WY_hear_101 : decode b_WY_hear 101 = .ok (.aload_n 0, 1) := by decide +kernel
theorem d_WY_hear_102 : decode b_WY_hear 102 = .ok (.dup, 1) := by decide +kernel
theorem d_WY_hear_103 : decode b_WY_hear 103 = .ok (.getfield 60, 3) := by decide +kernel
theorem d_WY_hear_106 : decode b_WY_hear 106 = .ok (.iconst 1, 1) := by decide +kernel
theorem d_WY_hear_107 : decode b_WY_hear 107 = .ok (.iadd, 1) := by decide +kernel
theorem d_WY_hear_108 : decode b_WY_hear 108 = .ok (.putfield 60, 3) := by decide +kernel
theorem d_WY_hear_111 : decode b_WY_hear 111 = .ok (.lload 5, 2) := by decide +kernel
theorem d_WY_hear_113 : decode b_WY_hear 113 = .ok (.lreturn, 1) := by decide +kernel
