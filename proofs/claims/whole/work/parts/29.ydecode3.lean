/-! decode rows -/
theorem d_MD_upRest_0 : decode b_MD_upRest 0 = .ok (.lload_n 0, 1) := by decide +kernel
theorem d_MD_upRest_1 : decode b_MD_upRest 1 = .ok (.ldc2_w 150, 3) := by decide +kernel
theorem d_MD_upRest_4 : decode b_MD_upRest 4 = .ok (.lxor, 1) := by decide +kernel
theorem d_MD_upRest_5 : decode b_MD_upRest 5 = .ok (.lstore_n 2, 1) := by decide +kernel
theorem d_MD_upRest_6 : decode b_MD_upRest 6 = .ok (.bipush 62, 2) := by decide +kernel
theorem d_MD_upRest_8 : decode b_MD_upRest 8 = .ok (.istore 4, 2) := by decide +kernel
theorem d_MD_upRest_10 : decode b_MD_upRest 10 = .ok (.iload 4, 2) := by decide +kernel
theorem d_MD_upRest_12 : decode b_MD_upRest 12 = .ok (.bipush 7, 2) := by decide +kernel
theorem d_MD_upRest_14 : decode b_MD_upRest 14 = .ok (.if_icmp .lt 36, 3) := by decide +kernel
theorem d_MD_upRest_17 : decode b_MD_upRest 17 = .ok (.lload_n 2, 1) := by decide +kernel
theorem d_MD_upRest_18 : decode b_MD_upRest 18 = .ok (.iload 4, 2) := by decide +kernel
theorem d_MD_upRest_20 : decode b_MD_upRest 20 = .ok (.lshr, 1) := by decide +kernel
theorem d_MD_upRest_21 : decode b_MD_upRest 21 = .ok (.lconst 1, 1) := by decide +kernel
theorem d_MD_upRest_22 : decode b_MD_upRest 22 = .ok (.land, 1) := by decide +kernel
theorem d_MD_upRest_23 : decode b_MD_upRest 23 = .ok (.lconst 0, 1) := by decide +kernel
theorem d_MD_upRest_24 : decode b_MD_upRest 24 = .ok (.lcmp, 1) := by decide +kernel
theorem d_MD_upRest_25 : decode b_MD_upRest 25 = .ok (.ifCond .eq 17, 3) := by decide +kernel
theorem d_MD_upRest_28 : decode b_MD_upRest 28 = .ok (.lload_n 2, 1) := by decide +kernel
theorem d_MD_upRest_29 : decode b_MD_upRest 29 = .ok (.ldc2_w 152, 3) := by decide +kernel
theorem d_MD_upRest_32 : decode b_MD_upRest 32 = .ok (.iload 4, 2) := by decide +kernel
theorem d_MD_upRest_34 : decode b_MD_upRest 34 = .ok (.bipush 7, 2) := by decide +kernel
theorem d_MD_upRest_36 : decode b_MD_upRest 36 = .ok (.isub, 1) := by decide +kernel
theorem d_MD_upRest_37 : decode b_MD_upRest 37 = .ok (.lshl, 1) := by decide +kernel
theorem d_MD_upRest_38 : decode b_MD_upRest 38 = .ok (.lxor, 1) := by decide +kernel
theorem d_MD_upRest_39 : decode b_MD_upRest 39 = .ok (.goto 4, 3) := by decide +kernel
theorem d_MD_upRest_42 : decode b_MD_upRest 42 = .ok (.lload_n 2, 1) := by decide +kernel
theorem d_MD_upRest_43 : decode b_MD_upRest 43 = .ok (.lstore_n 2, 1) := by decide +kernel
theorem d_MD_upRest_44 : decode b_MD_upRest 44 = .ok (.iinc 4 (-1), 3) := by decide +kernel
theorem d_MD_upRest_47 : decode b_MD_upRest 47 = .ok (.goto (-37), 3) := by decide +kernel
theorem d_MD_upRest_50 : decode b_MD_upRest 50 = .ok (.lload_n 2, 1) := by decide +kernel
theorem d_MD_upRest_51 : decode b_MD_upRest 51 = .ok (.l2i, 1) := by decide +kernel
theorem d_MD_upRest_52 : decode b_MD_upRest 52 = .ok (.ireturn, 1) := by decide +kernel
theorem d_MD_times_0 : decode b_MD_times 0 = .ok (.iconst 0, 1) := by decide +kernel
theorem d_MD_times_1 : decode b_MD_times 1 = .ok (.istore_n 2, 1) := by decide +kernel
theorem d_MD_times_2 : decode b_MD_times 2 = .ok (.iconst 3, 1) := by decide +kernel
theorem d_MD_times_3 : decode b_MD_times 3 = .ok (.istore_n 3, 1) := by decide +kernel
theorem d_MD_times_4 : decode b_MD_times 4 = .ok (.iload_n 3, 1) := by decide +kernel
theorem d_MD_times_5 : decode b_MD_times 5 = .ok (.ifCond .lt 45, 3) := by decide +kernel
theorem d_MD_times_8 : decode b_MD_times 8 = .ok (.iload_n 2, 1) := by decide +kernel
theorem d_MD_times_9 : decode b_MD_times 9 = .ok (.iconst 1, 1) := by decide +kernel
theorem d_MD_times_10 : decode b_MD_times 10 = .ok (.ishl, 1) := by decide +kernel
theorem d_MD_times_11 : decode b_MD_times 11 = .ok (.istore_n 2, 1) := by decide +kernel
theorem d_MD_times_12 : decode b_MD_times 12 = .ok (.iload_n 2, 1) := by decide +kernel
theorem d_MD_times_13 : decode b_MD_times 13 = .ok (.bipush 16, 2) := by decide +kernel
theorem d_MD_times_15 : decode b_MD_times 15 = .ok (.iand, 1) := by decide +kernel
theorem d_MD_times_16 : decode b_MD_times 16 = .ok (.ifCond .eq 10, 3) := by decide +kernel
theorem d_MD_times_19 : decode b_MD_times 19 = .ok (.iload_n 2, 1) := by decide +kernel
theorem d_MD_times_20 : decode b_MD_times 20 = .ok (.bipush 19, 2) := by decide +kernel
theorem d_MD_times_22 : decode b_MD_times 22 = .ok (.ixor, 1) := by decide +kernel
theorem d_MD_times_23 : decode b_MD_times 23 = .ok (.goto 4, 3) := by decide +kernel
theorem d_MD_times_26 : decode b_MD_times 26 = .ok (.iload_n 2, 1) := by decide +kernel
theorem d_MD_times_27 : decode b_MD_times 27 = .ok (.istore_n 2, 1) := by decide +kernel
theorem d_MD_times_28 : decode b_MD_times 28 = .ok (.iload_n 1, 1) := by decide +kernel
theorem d_MD_times_29 : decode b_MD_times 29 = .ok (.iload_n 3, 1) := by decide +kernel
theorem d_MD_times_30 : decode b_MD_times 30 = .ok (.ishr, 1) := by decide +kernel
theorem d_MD_times_31 : decode b_MD_times 31 = .ok (.iconst 1, 1) := by decide +kernel
theorem d_MD_times_32 : decode b_MD_times 32 = .ok (.iand, 1) := by decide +kernel
theorem d_MD_times_33 : decode b_MD_times 33 = .ok (.ifCond .eq 9, 3) := by decide +kernel
theorem d_MD_times_36 : decode b_MD_times 36 = .ok (.iload_n 2, 1) := by decide +kernel
theorem d_MD_times_37 : decode b_MD_times 37 = .ok (.iload_n 0, 1) := by decide +kernel
theorem d_MD_times_38 : decode b_MD_times 38 = .ok (.ixor, 1) := by decide +kernel
theorem d_MD_times_39 : decode b_MD_times 39 = .ok (.goto 4, 3) := by decide +kernel
theorem d_MD_times_42 : decode b_MD_times 42 = .ok (.iload_n 2, 1) := by decide +kernel
theorem d_MD_times_43 : decode b_MD_times 43 = .ok (.istore_n 2, 1) := by decide +kernel
theorem d_MD_times_44 : decode b_MD_times 44 = .ok (.iinc 3 (-1), 3) := by decide +kernel
theorem d_MD_times_47 : decode b_MD_times 47 = .ok (.goto (-43), 3) := by decide +kernel
theorem d_MD_times_50 : decode b_MD_times 50 = .ok (.iload_n 2, 1) := by decide +kernel
theorem d_MD_times_51 : decode b_MD_times 51 = .ok (.ireturn, 1) := by decide +kernel
theorem d_MD_power_0 : decode b_MD_power 0 = .ok (.iconst 1, 1) := by decide +kernel
theorem d_MD_power_1 : decode b_MD_power 1 = .ok (.istore_n 1, 1) := by decide +kernel
theorem d_MD_power_2 : decode b_MD_power 2 = .ok (.iconst 0, 1) := by decide +kernel
theorem d_MD_power_3 : decode b_MD_power 3 = .ok (.istore_n 2, 1) := by decide +kernel
theorem d_MD_power_4 : decode b_MD_power 4 = .ok (.iload_n 2, 1) := by decide +kernel
theorem d_MD_power_5 : decode b_MD_power 5 = .ok (.iload_n 0, 1) := by decide +kernel
theorem d_MD_power_6 : decode b_MD_power 6 = .ok (.bipush 15, 2) := by decide +kernel
theorem d_MD_power_8 : decode b_MD_power 8 = .ok (.irem, 1) := by decide +kernel
theorem d_MD_power_9 : decode b_MD_power 9 = .ok (.if_icmp .ge 15, 3) := by decide +kernel
theorem d_MD_power_12 : decode b_MD_power 12 = .ok (.iload_n 1, 1) := by decide +kernel
theorem d_MD_power_13 : decode b_MD_power 13 = .ok (.iconst 2, 1) := by decide +kernel
theorem d_MD_power_14 : decode b_MD_power 14 = .ok (.invokestatic 154, 3) := by decide +kernel
theorem d_MD_power_17 : decode b_MD_power 17 = .ok (.istore_n 1, 1) := by decide +kernel
theorem d_MD_power_18 : decode b_MD_power 18 = .ok (.iinc 2 1, 3) := by decide +kernel
theorem d_MD_power_21 : decode b_MD_power 21 = .ok (.goto (-17), 3) := by decide +kernel
theorem d_MD_power_24 : decode b_MD_power 24 = .ok (.iload_n 1, 1) := by decide +kernel
theorem d_MD_power_25 : decode b_MD_power 25 = .ok (.ireturn, 1) := by decide +kernel
theorem d_MD_downRest_0 : decode b_MD_downRest 0 = .ok (.iconst 0, 1) := by decide +kernel
theorem d_MD_downRest_1 : decode b_MD_downRest 1 = .ok (.istore_n 2, 1) := by decide +kernel
theorem d_MD_downRest_2 : decode b_MD_downRest 2 = .ok (.iconst 4, 1) := by decide +kernel
theorem d_MD_downRest_3 : decode b_MD_downRest 3 = .ok (.istore_n 3, 1) := by decide +kernel
theorem d_MD_downRest_4 : decode b_MD_downRest 4 = .ok (.iload_n 3, 1) := by decide +kernel
theorem d_MD_downRest_5 : decode b_MD_downRest 5 = .ok (.iconst 1, 1) := by decide +kernel
theorem d_MD_downRest_6 : decode b_MD_downRest 6 = .ok (.if_icmp .lt 61, 3) := by decide +kernel
theorem d_MD_downRest_9 : decode b_MD_downRest 9 = .ok (.iload_n 3, 1) := by decide +kernel
theorem d_MD_downRest_10 : decode b_MD_downRest 10 = .ok (.invokestatic 158, 3) := by decide +kernel
theorem d_MD_downRest_13 : decode b_MD_downRest 13 = .ok (.istore 4, 2) := by decide +kernel
theorem d_MD_downRest_15 : decode b_MD_downRest 15 = .ok (.iconst 0, 1) := by decide +kernel
theorem d_MD_downRest_16 : decode b_MD_downRest 16 = .ok (.istore 5, 2) := by decide +kernel
theorem d_MD_downRest_18 : decode b_MD_downRest 18 = .ok (.bipush 14, 2) := by decide +kernel
theorem d_MD_downRest_20 : decode b_MD_downRest 20 = .ok (.istore 6, 2) := by decide +kernel
theorem d_MD_downRest_22 : decode b_MD_downRest 22 = .ok (.iload 6, 2) := by decide +kernel
theorem d_MD_downRest_24 : decode b_MD_downRest 24 = .ok (.ifCond .lt 30, 3) := by decide +kernel
theorem d_MD_downRest_27 : decode b_MD_downRest 27 = .ok (.iload 5, 2) := by decide +kernel
theorem d_MD_downRest_29 : decode b_MD_downRest 29 = .ok (.iload 4, 2) := by decide +kernel
theorem d_MD_downRest_31 : decode b_MD_downRest 31 = .ok (.invokestatic 154, 3) := by decide +kernel
theorem d_MD_downRest_34 : decode b_MD_downRest 34 = .ok (.lload_n 0, 1) := by decide +kernel
theorem d_MD_downRest_35 : decode b_MD_downRest 35 = .ok (.iconst 4, 1) := by decide +kernel
theorem d_MD_downRest_36 : decode b_MD_downRest 36 = .ok (.iload 6, 2) := by decide +kernel
theorem d_MD_downRest_38 : decode b_MD_downRest 38 = .ok (.imul, 1) := by decide +kernel
theorem d_MD_downRest_39 : decode b_MD_downRest 39 = .ok (.lshr, 1) := by decide +kernel
theorem d_MD_downRest_40 : decode b_MD_downRest 40 = .ok (.ldc2_w 162, 3) := by decide +kernel
theorem d_MD_downRest_43 : decode b_MD_downRest 43 = .ok (.land, 1) := by decide +kernel
theorem d_MD_downRest_44 : decode b_MD_downRest 44 = .ok (.l2i, 1) := by decide +kernel
theorem d_MD_downRest_45 : decode b_MD_downRest 45 = .ok (.ixor, 1) := by decide +kernel
theorem d_MD_downRest_46 : decode b_MD_downRest 46 = .ok (.istore 5, 2) := by decide +kernel
theorem d_MD_downRest_48 : decode b_MD_downRest 48 = .ok (.iinc 6 (-1), 3) := by decide +kernel
theorem d_MD_downRest_51 : decode b_MD_downRest 51 = .ok (.goto (-29), 3) := by decide +kernel
theorem d_MD_downRest_54 : decode b_MD_downRest 54 = .ok (.iload_n 2, 1) := by decide +kernel
theorem d_MD_downRest_55 : decode b_MD_downRest 55 = .ok (.iconst 4, 1) := by decide +kernel
theorem d_MD_downRest_56 : decode b_MD_downRest 56 = .ok (.ishl, 1) := by decide +kernel
theorem d_MD_downRest_57 : decode b_MD_downRest 57 = .ok (.iload 5, 2) := by decide +kernel
theorem d_MD_downRest_59 : decode b_MD_downRest 59 = .ok (.ior, 1) := by decide +kernel
theorem d_MD_downRest_60 : decode b_MD_downRest 60 = .ok (.istore_n 2, 1) := by decide +kernel
theorem d_MD_downRest_61 : decode b_MD_downRest 61 = .ok (.iinc 3 (-1), 3) := by decide +kernel
theorem d_MD_downRest_64 : decode b_MD_downRest 64 = .ok (.goto (-60), 3) := by decide +kernel
theorem d_MD_downRest_67 : decode b_MD_downRest 67 = .ok (.iload_n 2, 1) := by decide +kernel
theorem d_MD_downRest_68 : decode b_MD_downRest 68 = .ok (.ireturn, 1) := by decide +kernel
theorem d_MD_effect_0 : decode b_MD_effect 0 = .ok (.iconst 0, 1) := by decide +kernel
theorem d_MD_effect_1 : decode b_MD_effect 1 = .ok (.istore_n 2, 1) := by decide +kernel
theorem d_MD_effect_2 : decode b_MD_effect 2 = .ok (.iconst 4, 1) := by decide +kernel
theorem d_MD_effect_3 : decode b_MD_effect 3 = .ok (.istore_n 3, 1) := by decide +kernel
theorem d_MD_effect_4 : decode b_MD_effect 4 = .ok (.iload_n 3, 1) := by decide +kernel
theorem d_MD_effect_5 : decode b_MD_effect 5 = .ok (.iconst 1, 1) := by decide +kernel
theorem d_MD_effect_6 : decode b_MD_effect 6 = .ok (.if_icmp .lt 28, 3) := by decide +kernel
theorem d_MD_effect_9 : decode b_MD_effect 9 = .ok (.iload_n 3, 1) := by decide +kernel
theorem d_MD_effect_10 : decode b_MD_effect 10 = .ok (.iload_n 1, 1) := by decide +kernel
theorem d_MD_effect_11 : decode b_MD_effect 11 = .ok (.imul, 1) := by decide +kernel
theorem d_MD_effect_12 : decode b_MD_effect 12 = .ok (.invokestatic 158, 3) := by decide +kernel
theorem d_MD_effect_15 : decode b_MD_effect 15 = .ok (.istore 4, 2) := by decide +kernel
theorem d_MD_effect_17 : decode b_MD_effect 17 = .ok (.iload_n 2, 1) := by decide +kernel
theorem d_MD_effect_18 : decode b_MD_effect 18 = .ok (.iconst 4, 1) := by decide +kernel
theorem d_MD_effect_19 : decode b_MD_effect 19 = .ok (.ishl, 1) := by decide +kernel
theorem d_MD_effect_20 : decode b_MD_effect 20 = .ok (.iload_n 0, 1) := by decide +kernel
theorem d_MD_effect_21 : decode b_MD_effect 21 = .ok (.iload 4, 2) := by decide +kernel
theorem d_MD_effect_23 : decode b_MD_effect 23 = .ok (.invokestatic 154, 3) := by decide +kernel
theorem d_MD_effect_26 : decode b_MD_effect 26 = .ok (.ior, 1) := by decide +kernel
theorem d_MD_effect_27 : decode b_MD_effect 27 = .ok (.istore_n 2, 1) := by decide +kernel
theorem d_MD_effect_28 : decode b_MD_effect 28 = .ok (.iinc 3 (-1), 3) := by decide +kernel
theorem d_MD_effect_31 : decode b_MD_effect 31 = .ok (.goto (-27), 3) := by decide +kernel
theorem d_MD_effect_34 : decode b_MD_effect 34 = .ok (.iload_n 2, 1) := by decide +kernel
theorem d_MD_effect_35 : decode b_MD_effect 35 = .ok (.ireturn, 1) := by decide +kernel
theorem d_MD_encode_0 : decode b_MD_encode 0 = .ok (.iload_n 1, 1) := by decide +kernel
theorem d_MD_encode_1 : decode b_MD_encode 1 = .ok (.ifCond .eq 23, 3) := by decide +kernel
theorem d_MD_encode_4 : decode b_MD_encode 4 = .ok (.lload_n 2, 1) := by decide +kernel
theorem d_MD_encode_5 : decode b_MD_encode 5 = .ok (.ldc2_w 164, 3) := by decide +kernel
theorem d_MD_encode_8 : decode b_MD_encode 8 = .ok (.land, 1) := by decide +kernel
theorem d_MD_encode_9 : decode b_MD_encode 9 = .ok (.bipush 7, 2) := by decide +kernel
theorem d_MD_encode_11 : decode b_MD_encode 11 = .ok (.lshl, 1) := by decide +kernel
theorem d_MD_encode_12 : decode b_MD_encode 12 = .ok (.lstore 4, 2) := by decide +kernel
theorem d_MD_encode_14 : decode b_MD_encode 14 = .ok (.lload 4, 2) := by decide +kernel
theorem d_MD_encode_16 : decode b_MD_encode 16 = .ok (.lload 4, 2) := by decide +kernel
theorem d_MD_encode_18 : decode b_MD_encode 18 = .ok (.invokestatic 166, 3) := by decide +kernel
theorem d_MD_encode_21 : decode b_MD_encode 21 = .ok (.i2l, 1) := by decide +kernel
theorem d_MD_encode_22 : decode b_MD_encode 22 = .ok (.lxor, 1) := by decide +kernel
theorem d_MD_encode_23 : decode b_MD_encode 23 = .ok (.lreturn, 1) := by decide +kernel
theorem d_MD_encode_24 : decode b_MD_encode 24 = .ok (.lload_n 2, 1) := by decide +kernel
theorem d_MD_encode_25 : decode b_MD_encode 25 = .ok (.ldc2_w 170, 3) := by decide +kernel
theorem d_MD_encode_28 : decode b_MD_encode 28 = .ok (.land, 1) := by decide +kernel
theorem d_MD_encode_29 : decode b_MD_encode 29 = .ok (.bipush 16, 2) := by decide +kernel
theorem d_MD_encode_31 : decode b_MD_encode 31 = .ok (.lshl, 1) := by decide +kernel
theorem d_MD_encode_32 : decode b_MD_encode 32 = .ok (.lstore 4, 2) := by decide +kernel
theorem d_MD_encode_34 : decode b_MD_encode 34 = .ok (.lload 4, 2) := by decide +kernel
theorem d_MD_encode_36 : decode b_MD_encode 36 = .ok (.lstore 6, 2) := by decide +kernel
theorem d_MD_encode_38 : decode b_MD_encode 38 = .ok (.bipush 14, 2) := by decide +kernel
theorem d_MD_encode_40 : decode b_MD_encode 40 = .ok (.istore 8, 2) := by decide +kernel
theorem d_MD_encode_42 : decode b_MD_encode 42 = .ok (.iload 8, 2) := by decide +kernel
theorem d_MD_encode_44 : decode b_MD_encode 44 = .ok (.iconst 4, 1) := by decide +kernel
theorem d_MD_encode_45 : decode b_MD_encode 45 = .ok (.if_icmp .lt 77, 3) := by decide +kernel
theorem d_MD_encode_48 : decode b_MD_encode 48 = .ok (.lload 6, 2) := by decide +kernel
theorem d_MD_encode_50 : decode b_MD_encode 50 = .ok (.iconst 4, 1) := by decide +kernel
theorem d_MD_encode_51 : decode b_MD_encode 51 = .ok (.iload 8, 2) := by decide +kernel
theorem d_MD_encode_53 : decode b_MD_encode 53 = .ok (.imul, 1) := by decide +kernel
theorem d_MD_encode_54 : decode b_MD_encode 54 = .ok (.lshr, 1) := by decide +kernel
theorem d_MD_encode_55 : decode b_MD_encode 55 = .ok (.ldc2_w 162, 3) := by decide +kernel
theorem d_MD_encode_58 : decode b_MD_encode 58 = .ok (.land, 1) := by decide +kernel
theorem d_MD_encode_59 : decode b_MD_encode 59 = .ok (.l2i, 1) := by decide +kernel
theorem d_MD_encode_60 : decode b_MD_encode 60 = .ok (.istore 9, 2) := by decide +kernel
theorem d_MD_encode_62 : decode b_MD_encode 62 = .ok (.iconst 0, 1) := by decide +kernel
theorem d_MD_encode_63 : decode b_MD_encode 63 = .ok (.istore 10, 2) := by decide +kernel
theorem d_MD_encode_65 : decode b_MD_encode 65 = .ok (.iload 10, 2) := by decide +kernel
theorem d_MD_encode_67 : decode b_MD_encode 67 = .ok (.iconst 5, 1) := by decide +kernel
theorem d_MD_encode_68 : decode b_MD_encode 68 = .ok (.if_icmp .ge 48, 3) := by decide +kernel
theorem d_MD_encode_71 : decode b_MD_encode 71 = .ok (.iload 9, 2) := by decide +kernel
theorem d_MD_encode_73 : decode b_MD_encode 73 = .ok (.aload_n 0, 1) := by decide +kernel
theorem d_MD_encode_74 : decode b_MD_encode 74 = .ok (.getfield 146, 3) := by decide +kernel
theorem d_MD_encode_77 : decode b_MD_encode 77 = .ok (.iconst 4, 1) := by decide +kernel
theorem d_MD_encode_78 : decode b_MD_encode 78 = .ok (.iload 10, 2) := by decide +kernel
theorem d_MD_encode_80 : decode b_MD_encode 80 = .ok (.imul, 1) := by decide +kernel
theorem d_MD_encode_81 : decode b_MD_encode 81 = .ok (.lshr, 1) := by decide +kernel
theorem d_MD_encode_82 : decode b_MD_encode 82 = .ok (.ldc2_w 162, 3) := by decide +kernel
theorem d_MD_encode_85 : decode b_MD_encode 85 = .ok (.land, 1) := by decide +kernel
theorem d_MD_encode_86 : decode b_MD_encode 86 = .ok (.l2i, 1) := by decide +kernel
theorem d_MD_encode_87 : decode b_MD_encode 87 = .ok (.invokestatic 154, 3) := by decide +kernel
theorem d_MD_encode_90 : decode b_MD_encode 90 = .ok (.i2l, 1) := by decide +kernel
theorem d_MD_encode_91 : decode b_MD_encode 91 = .ok (.lstore 11, 2) := by decide +kernel
theorem d_MD_encode_93 : decode b_MD_encode 93 = .ok (.lload 6, 2) := by decide +kernel
theorem d_MD_encode_95 : decode b_MD_encode 95 = .ok (.lload 11, 2) := by decide +kernel
theorem d_MD_encode_97 : decode b_MD_encode 97 = .ok (.iconst 4, 1) := by decide +kernel
theorem d_MD_encode_98 : decode b_MD_encode 98 = .ok (.iload 8, 2) := by decide +kernel
theorem d_MD_encode_100 : decode b_MD_encode 100 = .ok (.iconst 4, 1) := by decide +kernel
theorem d_MD_encode_101 : decode b_MD_encode 101 = .ok (.isub, 1) := by decide +kernel
theorem d_MD_encode_102 : decode b_MD_encode 102 = .ok (.iload 10, 2) := by decide +kernel
theorem d_MD_encode_104 : decode b_MD_encode 104 = .ok (.iadd, 1) := by decide +kernel
theorem d_MD_encode_105 : decode b_MD_encode 105 = .ok (.imul, 1) := by decide +kernel
theorem d_MD_encode_106 : decode b_MD_encode 106 = .ok (.lshl, 1) := by decide +kernel
theorem d_MD_encode_107 : decode b_MD_encode 107 = .ok (.lxor, 1) := by decide +kernel
theorem d_MD_encode_108 : decode b_MD_encode 108 = .ok (.lstore 6, 2) := by decide +kernel
theorem d_MD_encode_110 : decode b_MD_encode 110 = .ok (.iinc 10 1, 3) := by decide +kernel
theorem d_MD_encode_113 : decode b_MD_encode 113 = .ok (.goto (-48), 3) := by decide +kernel
theorem d_MD_encode_116 : decode b_MD_encode 116 = .ok (.iinc 8 (-1), 3) := by decide +kernel
theorem d_MD_encode_119 : decode b_MD_encode 119 = .ok (.goto (-77), 3) := by decide +kernel
theorem d_MD_encode_122 : decode b_MD_encode 122 = .ok (.lload 4, 2) := by decide +kernel
theorem d_MD_encode_124 : decode b_MD_encode 124 = .ok (.lload 6, 2) := by decide +kernel
theorem d_MD_encode_126 : decode b_MD_encode 126 = .ok (.lxor, 1) := by decide +kernel
theorem d_MD_encode_127 : decode b_MD_encode 127 = .ok (.lreturn, 1) := by decide +kernel
theorem d_MD_product_0 : decode b_MD_product 0 = .ok (.lconst 1, 1) := by decide +kernel
theorem d_MD_product_1 : decode b_MD_product 1 = .ok (.lstore_n 0, 1) := by decide +kernel
theorem d_MD_product_2 : decode b_MD_product 2 = .ok (.iconst 1, 1) := by decide +kernel
theorem d_MD_product_3 : decode b_MD_product 3 = .ok (.istore_n 2, 1) := by decide +kernel
theorem d_MD_product_4 : decode b_MD_product 4 = .ok (.iload_n 2, 1) := by decide +kernel
theorem d_MD_product_5 : decode b_MD_product 5 = .ok (.iconst 4, 1) := by decide +kernel
theorem d_MD_product_6 : decode b_MD_product 6 = .ok (.if_icmp .gt 96, 3) := by decide +kernel
theorem d_MD_product_9 : decode b_MD_product 9 = .ok (.iload_n 2, 1) := by decide +kernel
theorem d_MD_product_10 : decode b_MD_product 10 = .ok (.invokestatic 158, 3) := by decide +kernel
theorem d_MD_product_13 : decode b_MD_product 13 = .ok (.istore_n 3, 1) := by decide +kernel
theorem d_MD_product_14 : decode b_MD_product 14 = .ok (.lconst 0, 1) := by decide +kernel
theorem d_MD_product_15 : decode b_MD_product 15 = .ok (.lstore 4, 2) := by decide +kernel
theorem d_MD_product_17 : decode b_MD_product 17 = .ok (.iconst 0, 1) := by decide +kernel
theorem d_MD_product_18 : decode b_MD_product 18 = .ok (.istore 6, 2) := by decide +kernel
theorem d_MD_product_20 : decode b_MD_product 20 = .ok (.iload 6, 2) := by decide +kernel
theorem d_MD_product_22 : decode b_MD_product 22 = .ok (.iconst 4, 1) := by decide +kernel
theorem d_MD_product_23 : decode b_MD_product 23 = .ok (.if_icmp .gt 70, 3) := by decide +kernel
theorem d_MD_product_26 : decode b_MD_product 26 = .ok (.lload_n 0, 1) := by decide +kernel
theorem d_MD_product_27 : decode b_MD_product 27 = .ok (.iconst 4, 1) := by decide +kernel
theorem d_MD_product_28 : decode b_MD_product 28 = .ok (.iload 6, 2) := by decide +kernel
theorem d_MD_product_30 : decode b_MD_product 30 = .ok (.imul, 1) := by decide +kernel
theorem d_MD_product_31 : decode b_MD_product 31 = .ok (.lshr, 1) := by decide +kernel
theorem d_MD_product_32 : decode b_MD_product 32 = .ok (.ldc2_w 162, 3) := by decide +kernel
theorem d_MD_product_35 : decode b_MD_product 35 = .ok (.land, 1) := by decide +kernel
theorem d_MD_product_36 : decode b_MD_product 36 = .ok (.l2i, 1) := by decide +kernel
theorem d_MD_product_37 : decode b_MD_product 37 = .ok (.istore 7, 2) := by decide +kernel
theorem d_MD_product_39 : decode b_MD_product 39 = .ok (.iload 6, 2) := by decide +kernel
theorem d_MD_product_41 : decode b_MD_product 41 = .ok (.ifCond .ne 7, 3) := by decide +kernel
theorem d_MD_product_44 : decode b_MD_product 44 = .ok (.iconst 0, 1) := by decide +kernel
theorem d_MD_product_45 : decode b_MD_product 45 = .ok (.goto 16, 3) := by decide +kernel
theorem d_MD_product_48 : decode b_MD_product 48 = .ok (.lload_n 0, 1) := by decide +kernel
theorem d_MD_product_49 : decode b_MD_product 49 = .ok (.iconst 4, 1) := by decide +kernel
theorem d_MD_product_50 : decode b_MD_product 50 = .ok (.iload 6, 2) := by decide +kernel
theorem d_MD_product_52 : decode b_MD_product 52 = .ok (.iconst 1, 1) := by decide +kernel
theorem d_MD_product_53 : decode b_MD_product 53 = .ok (.isub, 1) := by decide +kernel
theorem d_MD_product_54 : decode b_MD_product 54 = .ok (.imul, 1) := by decide +kernel
theorem d_MD_product_55 : decode b_MD_product 55 = .ok (.lshr, 1) := by decide +kernel
theorem d_MD_product_56 : decode b_MD_product 56 = .ok (.ldc2_w 162, 3) := by decide +kernel
theorem d_MD_product_59 : decode b_MD_product 59 = .ok (.land, 1) := by decide +kernel
theorem d_MD_product_60 : decode b_MD_product 60 = .ok (.l2i, 1) := by decide +kernel
theorem d_MD_product_61 : decode b_MD_product 61 = .ok (.istore 8, 2) := by decide +kernel
theorem d_MD_product_63 : decode b_MD_product 63 = .ok (.iload 7, 2) := by decide +kernel
theorem d_MD_product_65 : decode b_MD_product 65 = .ok (.iload_n 3, 1) := by decide +kernel
theorem d_MD_product_66 : decode b_MD_product 66 = .ok (.invokestatic 154, 3) := by decide +kernel
theorem d_MD_product_69 : decode b_MD_product 69 = .ok (.iload 8, 2) := by decide +kernel
theorem d_MD_product_71 : decode b_MD_product 71 = .ok (.ixor, 1) := by decide +kernel
theorem d_MD_product_72 : decode b_MD_product 72 = .ok (.i2l, 1) := by decide +kernel
theorem d_MD_product_73 : decode b_MD_product 73 = .ok (.lstore 9, 2) := by decide +kernel
theorem d_MD_product_75 : decode b_MD_product 75 = .ok (.lload 4, 2) := by decide +kernel
theorem d_MD_product_77 : decode b_MD_product 77 = .ok (.lload 9, 2) := by decide +kernel
theorem d_MD_product_79 : decode b_MD_product 79 = .ok (.iconst 4, 1) := by decide +kernel
theorem d_MD_product_80 : decode b_MD_product 80 = .ok (.iload 6, 2) := by decide +kernel
theorem d_MD_product_82 : decode b_MD_product 82 = .ok (.imul, 1) := by decide +kernel
theorem d_MD_product_83 : decode b_MD_product 83 = .ok (.lshl, 1) := by decide +kernel
theorem d_MD_product_84 : decode b_MD_product 84 = .ok (.lor, 1) := by decide +kernel
theorem d_MD_product_85 : decode b_MD_product 85 = .ok (.lstore 4, 2) := by decide +kernel
theorem d_MD_product_87 : decode b_MD_product 87 = .ok (.iinc 6 1, 3) := by decide +kernel
theorem d_MD_product_90 : decode b_MD_product 90 = .ok (.goto (-70), 3) := by decide +kernel
theorem d_MD_product_93 : decode b_MD_product 93 = .ok (.lload 4, 2) := by decide +kernel
theorem d_MD_product_95 : decode b_MD_product 95 = .ok (.lstore_n 0, 1) := by decide +kernel
theorem d_MD_product_96 : decode b_MD_product 96 = .ok (.iinc 2 1, 3) := by decide +kernel
theorem d_MD_product_99 : decode b_MD_product 99 = .ok (.goto (-95), 3) := by decide +kernel
theorem d_MD_product_102 : decode b_MD_product 102 = .ok (.lload_n 0, 1) := by decide +kernel
theorem d_MD_product_103 : decode b_MD_product 103 = .ok (.lreturn, 1) := by decide +kernel
theorem d_MD_decode_0 : decode b_MD_decode 0 = .ok (.lload_n 2, 1) := by decide +kernel
theorem d_MD_decode_1 : decode b_MD_decode 1 = .ok (.iload_n 1, 1) := by decide +kernel
theorem d_MD_decode_2 : decode b_MD_decode 2 = .ok (.ifCond .eq 9, 3) := by decide +kernel
theorem d_MD_decode_5 : decode b_MD_decode 5 = .ok (.ldc2_w 172, 3) := by decide +kernel
theorem d_MD_decode_8 : decode b_MD_decode 8 = .ok (.goto 6, 3) := by decide +kernel
theorem d_MD_decode_11 : decode b_MD_decode 11 = .ok (.ldc2_w 174, 3) := by decide +kernel
theorem d_MD_decode_14 : decode b_MD_decode 14 = .ok (.land, 1) := by decide +kernel
theorem d_MD_decode_15 : decode b_MD_decode 15 = .ok (.lstore 4, 2) := by decide +kernel
theorem d_MD_decode_17 : decode b_MD_decode 17 = .ok (.iload_n 1, 1) := by decide +kernel
theorem d_MD_decode_18 : decode b_MD_decode 18 = .ok (.ifCond .eq 11, 3) := by decide +kernel
theorem d_MD_decode_21 : decode b_MD_decode 21 = .ok (.lload 4, 2) := by decide +kernel
theorem d_MD_decode_23 : decode b_MD_decode 23 = .ok (.invokestatic 176, 3) := by decide +kernel
theorem d_MD_decode_26 : decode b_MD_decode 26 = .ok (.goto 8, 3) := by decide +kernel
theorem d_MD_decode_29 : decode b_MD_decode 29 = .ok (.lload 4, 2) := by decide +kernel
theorem d_MD_decode_31 : decode b_MD_decode 31 = .ok (.invokestatic 180, 3) := by decide +kernel
theorem d_MD_decode_34 : decode b_MD_decode 34 = .ok (.lreturn, 1) := by decide +kernel
theorem d_MD_decodeUp_0 : decode b_MD_decodeUp 0 = .ok (.lload_n 0, 1) := by decide +kernel
theorem d_MD_decodeUp_1 : decode b_MD_decodeUp 1 = .ok (.invokestatic 166, 3) := by decide +kernel
theorem d_MD_decodeUp_4 : decode b_MD_decodeUp 4 = .ok (.ifCond .ne 8, 3) := by decide +kernel
theorem d_MD_decodeUp_7 : decode b_MD_decodeUp 7 = .ok (.lload_n 0, 1) := by decide +kernel
theorem d_MD_decodeUp_8 : decode b_MD_decodeUp 8 = .ok (.bipush 7, 2) := by decide +kernel
theorem d_MD_decodeUp_10 : decode b_MD_decodeUp 10 = .ok (.lshr, 1) := by decide +kernel
theorem d_MD_decodeUp_11 : decode b_MD_decodeUp 11 = .ok (.lreturn, 1) := by decide +kernel
theorem d_MD_decodeUp_12 : decode b_MD_decodeUp 12 = .ok (.iconst 0, 1) := by decide +kernel
theorem d_MD_decodeUp_13 : decode b_MD_decodeUp 13 = .ok (.istore_n 2, 1) := by decide +kernel
theorem d_MD_decodeUp_14 : decode b_MD_decodeUp 14 = .ok (.iload_n 2, 1) := by decide +kernel
theorem d_MD_decodeUp_15 : decode b_MD_decodeUp 15 = .ok (.bipush 63, 2) := by decide +kernel
theorem d_MD_decodeUp_17 : decode b_MD_decodeUp 17 = .ok (.if_icmp .ge 27, 3) := by decide +kernel
theorem d_MD_decodeUp_20 : decode b_MD_decodeUp 20 = .ok (.lload_n 0, 1) := by decide +kernel
theorem d_MD_decodeUp_21 : decode b_MD_decodeUp 21 = .ok (.lconst 1, 1) := by decide +kernel
theorem d_MD_decodeUp_22 : decode b_MD_decodeUp 22 = .ok (.iload_n 2, 1) := by decide +kernel
theorem d_MD_decodeUp_23 : decode b_MD_decodeUp 23 = .ok (.lshl, 1) := by decide +kernel
theorem d_MD_decodeUp_24 : decode b_MD_decodeUp 24 = .ok (.lxor, 1) := by decide +kernel
theorem d_MD_decodeUp_25 : decode b_MD_decodeUp 25 = .ok (.lstore_n 3, 1) := by decide +kernel
theorem d_MD_decodeUp_26 : decode b_MD_decodeUp 26 = .ok (.lload_n 3, 1) := by decide +kernel
theorem d_MD_decodeUp_27 : decode b_MD_decodeUp 27 = .ok (.invokestatic 166, 3) := by decide +kernel
theorem d_MD_decodeUp_30 : decode b_MD_decodeUp 30 = .ok (.ifCond .ne 8, 3) := by decide +kernel
theorem d_MD_decodeUp_33 : decode b_MD_decodeUp 33 = .ok (.lload_n 3, 1) := by decide +kernel
theorem d_MD_decodeUp_34 : decode b_MD_decodeUp 34 = .ok (.bipush 7, 2) := by decide +kernel
theorem d_MD_decodeUp_36 : decode b_MD_decodeUp 36 = .ok (.lshr, 1) := by decide +kernel
theorem d_MD_decodeUp_37 : decode b_MD_decodeUp 37 = .ok (.lreturn, 1) := by decide +kernel
theorem d_MD_decodeUp_38 : decode b_MD_decodeUp 38 = .ok (.iinc 2 1, 3) := by decide +kernel
theorem d_MD_decodeUp_41 : decode b_MD_decodeUp 41 = .ok (.goto (-27), 3) := by decide +kernel
theorem d_MD_decodeUp_44 : decode b_MD_decodeUp 44 = .ok (.ldc2_w 183, 3) := by decide +kernel
theorem d_MD_decodeUp_47 : decode b_MD_decodeUp 47 = .ok (.lreturn, 1) := by decide +kernel
theorem d_MD_decodeDown_0 : decode b_MD_decodeDown 0 = .ok (.lload_n 0, 1) := by decide +kernel
theorem d_MD_decodeDown_1 : decode b_MD_decodeDown 1 = .ok (.invokestatic 185, 3) := by decide +kernel
theorem d_MD_decodeDown_4 : decode b_MD_decodeDown 4 = .ok (.istore_n 2, 1) := by decide +kernel
theorem d_MD_decodeDown_5 : decode b_MD_decodeDown 5 = .ok (.iload_n 2, 1) := by decide +kernel
theorem d_MD_decodeDown_6 : decode b_MD_decodeDown 6 = .ok (.ifCond .ne 8, 3) := by decide +kernel
theorem d_MD_decodeDown_9 : decode b_MD_decodeDown 9 = .ok (.lload_n 0, 1) := by decide +kernel
theorem d_MD_decodeDown_10 : decode b_MD_decodeDown 10 = .ok (.bipush 16, 2) := by decide +kernel
theorem d_MD_decodeDown_12 : decode b_MD_decodeDown 12 = .ok (.lshr, 1) := by decide +kernel
theorem d_MD_decodeDown_13 : decode b_MD_decodeDown 13 = .ok (.lreturn, 1) := by decide +kernel
theorem d_MD_decodeDown_14 : decode b_MD_decodeDown 14 = .ok (.iconst 0, 1) := by decide +kernel
theorem d_MD_decodeDown_15 : decode b_MD_decodeDown 15 = .ok (.istore_n 3, 1) := by decide +kernel
theorem d_MD_decodeDown_16 : decode b_MD_decodeDown 16 = .ok (.iload_n 3, 1) := by decide +kernel
theorem d_MD_decodeDown_17 : decode b_MD_decodeDown 17 = .ok (.bipush 15, 2) := by decide +kernel
theorem d_MD_decodeDown_19 : decode b_MD_decodeDown 19 = .ok (.if_icmp .ge 90, 3) := by decide +kernel
theorem d_MD_decodeDown_22 : decode b_MD_decodeDown 22 = .ok (.iconst 1, 1) := by decide +kernel
theorem d_MD_decodeDown_23 : decode b_MD_decodeDown 23 = .ok (.istore 4, 2) := by decide +kernel
theorem d_MD_decodeDown_25 : decode b_MD_decodeDown 25 = .ok (.iload 4, 2) := by decide +kernel
theorem d_MD_decodeDown_27 : decode b_MD_decodeDown 27 = .ok (.bipush 16, 2) := by decide +kernel
theorem d_MD_decodeDown_29 : decode b_MD_decodeDown 29 = .ok (.if_icmp .ge 74, 3) := by decide +kernel
theorem d_MD_decodeDown_32 : decode b_MD_decodeDown 32 = .ok (.iload_n 2, 1) := by decide +kernel
theorem d_MD_decodeDown_33 : decode b_MD_decodeDown 33 = .ok (.iload 4, 2) := by decide +kernel
theorem d_MD_decodeDown_35 : decode b_MD_decodeDown 35 = .ok (.iload_n 3, 1) := by decide +kernel
theorem d_MD_decodeDown_36 : decode b_MD_decodeDown 36 = .ok (.invokestatic 188, 3) := by decide +kernel
theorem d_MD_decodeDown_39 : decode b_MD_decodeDown 39 = .ok (.ixor, 1) := by decide +kernel
theorem d_MD_decodeDown_40 : decode b_MD_decodeDown 40 = .ok (.istore 5, 2) := by decide +kernel
theorem d_MD_decodeDown_42 : decode b_MD_decodeDown 42 = .ok (.lload_n 0, 1) := by decide +kernel
theorem d_MD_decodeDown_43 : decode b_MD_decodeDown 43 = .ok (.iload 4, 2) := by decide +kernel
theorem d_MD_decodeDown_45 : decode b_MD_decodeDown 45 = .ok (.i2l, 1) := by decide +kernel
theorem d_MD_decodeDown_46 : decode b_MD_decodeDown 46 = .ok (.iconst 4, 1) := by decide +kernel
theorem d_MD_decodeDown_47 : decode b_MD_decodeDown 47 = .ok (.iload_n 3, 1) := by decide +kernel
theorem d_MD_decodeDown_48 : decode b_MD_decodeDown 48 = .ok (.imul, 1) := by decide +kernel
theorem d_MD_decodeDown_49 : decode b_MD_decodeDown 49 = .ok (.lshl, 1) := by decide +kernel
theorem d_MD_decodeDown_50 : decode b_MD_decodeDown 50 = .ok (.lxor, 1) := by decide +kernel
theorem d_MD_decodeDown_51 : decode b_MD_decodeDown 51 = .ok (.lstore 6, 2) := by decide +kernel
theorem d_MD_decodeDown_53 : decode b_MD_decodeDown 53 = .ok (.iload 5, 2) := by decide +kernel
theorem d_MD_decodeDown_55 : decode b_MD_decodeDown 55 = .ok (.ifCond .ne 9, 3) := by decide +kernel
theorem d_MD_decodeDown_58 : decode b_MD_decodeDown 58 = .ok (.lload 6, 2) := by decide +kernel
theorem d_MD_decodeDown_60 : decode b_MD_decodeDown 60 = .ok (.bipush 16, 2) := by decide +kernel
theorem d_MD_decodeDown_62 : decode b_MD_decodeDown 62 = .ok (.lshr, 1) := by decide +kernel
theorem d_MD_decodeDown_63 : decode b_MD_decodeDown 63 = .ok (.lreturn, 1) := by decide +kernel
theorem d_MD_decodeDown_64 : decode b_MD_decodeDown 64 = .ok (.iload 5, 2) := by decide +kernel
theorem d_MD_decodeDown_66 : decode b_MD_decodeDown 66 = .ok (.iload_n 3, 1) := by decide +kernel
theorem d_MD_decodeDown_67 : decode b_MD_decodeDown 67 = .ok (.invokestatic 191, 3) := by decide +kernel
theorem d_MD_decodeDown_70 : decode b_MD_decodeDown 70 = .ok (.istore 8, 2) := by decide +kernel
theorem d_MD_decodeDown_72 : decode b_MD_decodeDown 72 = .ok (.iload 8, 2) := by decide +kernel
theorem d_MD_decodeDown_74 : decode b_MD_decodeDown 74 = .ok (.ifCond .lt 23, 3) := by decide +kernel
theorem d_MD_decodeDown_77 : decode b_MD_decodeDown 77 = .ok (.lload 6, 2) := by decide +kernel
theorem d_MD_decodeDown_79 : decode b_MD_decodeDown 79 = .ok (.iload 8, 2) := by decide +kernel
theorem d_MD_decodeDown_81 : decode b_MD_decodeDown 81 = .ok (.bipush 15, 2) := by decide +kernel
theorem d_MD_decodeDown_83 : decode b_MD_decodeDown 83 = .ok (.iand, 1) := by decide +kernel
theorem d_MD_decodeDown_84 : decode b_MD_decodeDown 84 = .ok (.i2l, 1) := by decide +kernel
theorem d_MD_decodeDown_85 : decode b_MD_decodeDown 85 = .ok (.iconst 4, 1) := by decide +kernel
theorem d_MD_decodeDown_86 : decode b_MD_decodeDown 86 = .ok (.iload 8, 2) := by decide +kernel
theorem d_MD_decodeDown_88 : decode b_MD_decodeDown 88 = .ok (.iconst 4, 1) := by decide +kernel
theorem d_MD_decodeDown_89 : decode b_MD_decodeDown 89 = .ok (.ishr, 1) := by decide +kernel
theorem d_MD_decodeDown_90 : decode b_MD_decodeDown 90 = .ok (.imul, 1) := by decide +kernel
theorem d_MD_decodeDown_91 : decode b_MD_decodeDown 91 = .ok (.lshl, 1) := by decide +kernel
theorem d_MD_decodeDown_92 : decode b_MD_decodeDown 92 = .ok (.lxor, 1) := by decide +kernel
theorem d_MD_decodeDown_93 : decode b_MD_decodeDown 93 = .ok (.bipush 16, 2) := by decide +kernel
theorem d_MD_decodeDown_95 : decode b_MD_decodeDown 95 = .ok (.lshr, 1) := by decide +kernel
theorem d_MD_decodeDown_96 : decode b_MD_decodeDown 96 = .ok (.lreturn, 1) := by decide +kernel
theorem d_MD_decodeDown_97 : decode b_MD_decodeDown 97 = .ok (.iinc 4 1, 3) := by decide +kernel
theorem d_MD_decodeDown_100 : decode b_MD_decodeDown 100 = .ok (.goto (-75), 3) := by decide +kernel
theorem d_MD_decodeDown_103 : decode b_MD_decodeDown 103 = .ok (.iinc 3 1, 3) := by decide +kernel
theorem d_MD_decodeDown_106 : decode b_MD_decodeDown 106 = .ok (.goto (-90), 3) := by decide +kernel
theorem d_MD_decodeDown_109 : decode b_MD_decodeDown 109 = .ok (.ldc2_w 183, 3) := by decide +kernel
theorem d_MD_decodeDown_112 : decode b_MD_decodeDown 112 = .ok (.lreturn, 1) := by decide +kernel
theorem d_MD_second_0 : decode b_MD_second 0 = .ok (.iload_n 1, 1) := by decide +kernel
theorem d_MD_second_1 : decode b_MD_second 1 = .ok (.iconst 1, 1) := by decide +kernel
theorem d_MD_second_2 : decode b_MD_second 2 = .ok (.iadd, 1) := by decide +kernel
theorem d_MD_second_3 : decode b_MD_second 3 = .ok (.istore_n 2, 1) := by decide +kernel
theorem d_MD_second_4 : decode b_MD_second 4 = .ok (.iload_n 2, 1) := by decide +kernel
theorem d_MD_second_5 : decode b_MD_second 5 = .ok (.bipush 15, 2) := by decide +kernel
theorem d_MD_second_7 : decode b_MD_second 7 = .ok (.if_icmp .ge 44, 3) := by decide +kernel
theorem d_MD_second_10 : decode b_MD_second 10 = .ok (.iload_n 0, 1) := by decide +kernel
theorem d_MD_second_11 : decode b_MD_second 11 = .ok (.bipush 15, 2) := by decide +kernel
theorem d_MD_second_13 : decode b_MD_second 13 = .ok (.iand, 1) := by decide +kernel
theorem d_MD_second_14 : decode b_MD_second 14 = .ok (.bipush 15, 2) := by decide +kernel
theorem d_MD_second_16 : decode b_MD_second 16 = .ok (.iload_n 2, 1) := by decide +kernel
theorem d_MD_second_17 : decode b_MD_second 17 = .ok (.isub, 1) := by decide +kernel
theorem d_MD_second_18 : decode b_MD_second 18 = .ok (.invokestatic 158, 3) := by decide +kernel
theorem d_MD_second_21 : decode b_MD_second 21 = .ok (.invokestatic 154, 3) := by decide +kernel
theorem d_MD_second_24 : decode b_MD_second 24 = .ok (.istore_n 3, 1) := by decide +kernel
theorem d_MD_second_25 : decode b_MD_second 25 = .ok (.iload_n 3, 1) := by decide +kernel
theorem d_MD_second_26 : decode b_MD_second 26 = .ok (.ifCond .eq 19, 3) := by decide +kernel
theorem d_MD_second_29 : decode b_MD_second 29 = .ok (.iload_n 3, 1) := by decide +kernel
theorem d_MD_second_30 : decode b_MD_second 30 = .ok (.iload_n 2, 1) := by decide +kernel
theorem d_MD_second_31 : decode b_MD_second 31 = .ok (.invokestatic 188, 3) := by decide +kernel
theorem d_MD_second_34 : decode b_MD_second 34 = .ok (.iload_n 0, 1) := by decide +kernel
theorem d_MD_second_35 : decode b_MD_second 35 = .ok (.if_icmp .ne 10, 3) := by decide +kernel
theorem d_MD_second_38 : decode b_MD_second 38 = .ok (.bipush 16, 2) := by decide +kernel
theorem d_MD_second_40 : decode b_MD_second 40 = .ok (.iload_n 2, 1) := by decide +kernel
theorem d_MD_second_41 : decode b_MD_second 41 = .ok (.imul, 1) := by decide +kernel
theorem d_MD_second_42 : decode b_MD_second 42 = .ok (.iload_n 3, 1) := by decide +kernel
theorem d_MD_second_43 : decode b_MD_second 43 = .ok (.iadd, 1) := by decide +kernel
theorem d_MD_second_44 : decode b_MD_second 44 = .ok (.ireturn, 1) := by decide +kernel
theorem d_MD_second_45 : decode b_MD_second 45 = .ok (.iinc 2 1, 3) := by decide +kernel
theorem d_MD_second_48 : decode b_MD_second 48 = .ok (.goto (-44), 3) := by decide +kernel
theorem d_MD_second_51 : decode b_MD_second 51 = .ok (.iconst (-1), 1) := by decide +kernel
theorem d_MD_second_52 : decode b_MD_second 52 = .ok (.ireturn, 1) := by decide +kernel
theorem d_MD_send_0 : decode b_MD_send 0 = .ok (.bipush 8, 2) := by decide +kernel
theorem d_MD_send_2 : decode b_MD_send 2 = .ok (.iload_n 1, 1) := by decide +kernel
theorem d_MD_send_3 : decode b_MD_send 3 = .ok (.imul, 1) := by decide +kernel
theorem d_MD_send_4 : decode b_MD_send 4 = .ok (.aload_n 0, 1) := by decide +kernel
theorem d_MD_send_5 : decode b_MD_send 5 = .ok (.getfield 194, 3) := by decide +kernel
theorem d_MD_send_8 : decode b_MD_send 8 = .ok (.bipush 7, 2) := by decide +kernel
theorem d_MD_send_10 : decode b_MD_send 10 = .ok (.iand, 1) := by decide +kernel
theorem d_MD_send_11 : decode b_MD_send 11 = .ok (.iadd, 1) := by decide +kernel
theorem d_MD_send_12 : decode b_MD_send 12 = .ok (.istore 4, 2) := by decide +kernel
theorem d_MD_send_14 : decode b_MD_send 14 = .ok (.aload_n 0, 1) := by decide +kernel
theorem d_MD_send_15 : decode b_MD_send 15 = .ok (.getfield 7, 3) := by decide +kernel
theorem d_MD_send_18 : decode b_MD_send 18 = .ok (.iload 4, 2) := by decide +kernel
theorem d_MD_send_20 : decode b_MD_send 20 = .ok (.lload_n 2, 1) := by decide +kernel
theorem d_MD_send_21 : decode b_MD_send 21 = .ok (.aload_n 0, 1) := by decide +kernel
theorem d_MD_send_22 : decode b_MD_send 22 = .ok (.getfield 17, 3) := by decide +kernel
theorem d_MD_send_25 : decode b_MD_send 25 = .ok (.iload_n 1, 1) := by decide +kernel
theorem d_MD_send_26 : decode b_MD_send 26 = .ok (.laload, 1) := by decide +kernel
theorem d_MD_send_27 : decode b_MD_send 27 = .ok (.lxor, 1) := by decide +kernel
theorem d_MD_send_28 : decode b_MD_send 28 = .ok (.lastore, 1) := by decide +kernel
theorem d_MD_send_29 : decode b_MD_send 29 = .ok (.aload_n 0, 1) := by decide +kernel
theorem d_MD_send_30 : decode b_MD_send 30 = .ok (.getfield 17, 3) := by decide +kernel
theorem d_MD_send_33 : decode b_MD_send 33 = .ok (.iload_n 1, 1) := by decide +kernel
theorem d_MD_send_34 : decode b_MD_send 34 = .ok (.lconst 0, 1) := by decide +kernel
theorem d_MD_send_35 : decode b_MD_send 35 = .ok (.lastore, 1) := by decide +kernel
theorem d_MD_send_36 : decode b_MD_send 36 = .ok (.aload_n 0, 1) := by decide +kernel
theorem d_MD_send_37 : decode b_MD_send 37 = .ok (.getfield 13, 3) := by decide +kernel
theorem d_MD_send_40 : decode b_MD_send 40 = .ok (.iload 4, 2) := by decide +kernel
theorem d_MD_send_42 : decode b_MD_send 42 = .ok (.aload_n 0, 1) := by decide +kernel
theorem d_MD_send_43 : decode b_MD_send 43 = .ok (.getfield 20, 3) := by decide +kernel
theorem d_MD_send_46 : decode b_MD_send 46 = .ok (.iload_n 1, 1) := by decide +kernel
theorem d_MD_send_47 : decode b_MD_send 47 = .ok (.iaload, 1) := by decide +kernel
theorem d_MD_send_48 : decode b_MD_send 48 = .ok (.ifCond .ne 7, 3) := by decide +kernel
theorem d_MD_send_51 : decode b_MD_send 51 = .ok (.iconst 1, 1) := by decide +kernel
theorem d_MD_send_52 : decode b_MD_send 52 = .ok (.goto 4, 3) := by decide +kernel
theorem d_MD_send_55 : decode b_MD_send 55 = .ok (.iconst 0, 1) := by decide +kernel
theorem d_MD_send_56 : decode b_MD_send 56 = .ok (.bastore, 1) := by decide +kernel
theorem d_MD_send_57 : decode b_MD_send 57 = .ok (.aload_n 0, 1) := by decide +kernel
theorem d_MD_send_58 : decode b_MD_send 58 = .ok (.getfield 20, 3) := by decide +kernel
theorem d_MD_send_61 : decode b_MD_send 61 = .ok (.iload_n 1, 1) := by decide +kernel
theorem d_MD_send_62 : decode b_MD_send 62 = .ok (.aload_n 0, 1) := by decide +kernel
theorem d_MD_send_63 : decode b_MD_send 63 = .ok (.getfield 20, 3) := by decide +kernel
theorem d_MD_send_66 : decode b_MD_send 66 = .ok (.iload_n 1, 1) := by decide +kernel
theorem d_MD_send_67 : decode b_MD_send 67 = .ok (.iaload, 1) := by decide +kernel
theorem d_MD_send_68 : decode b_MD_send 68 = .ok (.ifCond .le 14, 3) := by decide +kernel
theorem d_MD_send_71 : decode b_MD_send 71 = .ok (.aload_n 0, 1) := by decide +kernel
theorem d_MD_send_72 : decode b_MD_send 72 = .ok (.getfield 20, 3) := by decide +kernel
theorem d_MD_send_75 : decode b_MD_send 75 = .ok (.iload_n 1, 1) := by decide +kernel
theorem d_MD_send_76 : decode b_MD_send 76 = .ok (.iaload, 1) := by decide +kernel
theorem d_MD_send_77 : decode b_MD_send 77 = .ok (.iconst 1, 1) := by decide +kernel
theorem d_MD_send_78 : decode b_MD_send 78 = .ok (.isub, 1) := by decide +kernel
theorem d_MD_send_79 : decode b_MD_send 79 = .ok (.goto 4, 3) := by decide +kernel
theorem d_MD_send_82 : decode b_MD_send 82 = .ok (.iconst 0, 1) := by decide +kernel
theorem d_MD_send_83 : decode b_MD_send 83 = .ok (.iastore, 1) := by decide +kernel
theorem d_MD_send_84 : decode b_MD_send 84 = .ok (.aload_n 0, 1) := by decide +kernel
theorem d_MD_send_85 : decode b_MD_send 85 = .ok (.getfield 24, 3) := by decide +kernel
theorem d_MD_send_88 : decode b_MD_send 88 = .ok (.iload_n 1, 1) := by decide +kernel
theorem d_MD_send_89 : decode b_MD_send 89 = .ok (.dup2, 1) := by decide +kernel
theorem d_MD_send_90 : decode b_MD_send 90 = .ok (.iaload, 1) := by decide +kernel
theorem d_MD_send_91 : decode b_MD_send 91 = .ok (.iconst 1, 1) := by decide +kernel
theorem d_MD_send_92 : decode b_MD_send 92 = .ok (.iadd, 1) := by decide +kernel
theorem d_MD_send_93 : decode b_MD_send 93 = .ok (.iastore, 1) := by decide +kernel
theorem d_MD_send_94 : decode b_MD_send 94 = .ok (.return_, 1) := by decide +kernel
theorem d_MD_hear_0 : decode b_MD_hear 0 = .ok (.bipush 8, 2) := by decide +kernel
theorem d_MD_hear_2 : decode b_MD_hear 2 = .ok (.iload_n 1, 1) := by decide +kernel
theorem d_MD_hear_3 : decode b_MD_hear 3 = .ok (.imul, 1) := by decide +kernel
theorem d_MD_hear_4 : decode b_MD_hear 4 = .ok (.aload_n 0, 1) := by decide +kernel
theorem d_MD_hear_5 : decode b_MD_hear 5 = .ok (.getfield 194, 3) := by decide +kernel
theorem d_MD_hear_8 : decode b_MD_hear 8 = .ok (.aload_n 0, 1) := by decide +kernel
theorem d_MD_hear_9 : decode b_MD_hear 9 = .ok (.getfield 136, 3) := by decide +kernel
theorem d_MD_hear_12 : decode b_MD_hear 12 = .ok (.isub, 1) := by decide +kernel
theorem d_MD_hear_13 : decode b_MD_hear 13 = .ok (.bipush 7, 2) := by decide +kernel
theorem d_MD_hear_15 : decode b_MD_hear 15 = .ok (.iand, 1) := by decide +kernel
theorem d_MD_hear_16 : decode b_MD_hear 16 = .ok (.iadd, 1) := by decide +kernel
theorem d_MD_hear_17 : decode b_MD_hear 17 = .ok (.istore_n 2, 1) := by decide +kernel
theorem d_MD_hear_18 : decode b_MD_hear 18 = .ok (.aload_n 0, 1) := by decide +kernel
theorem d_MD_hear_19 : decode b_MD_hear 19 = .ok (.getfield 194, 3) := by decide +kernel
theorem d_MD_hear_22 : decode b_MD_hear 22 = .ok (.aload_n 0, 1) := by decide +kernel
theorem d_MD_hear_23 : decode b_MD_hear 23 = .ok (.getfield 136, 3) := by decide +kernel
theorem d_MD_hear_26 : decode b_MD_hear 26 = .ok (.if_icmp .le 12, 3) := by decide +kernel
theorem d_MD_hear_29 : decode b_MD_hear 29 = .ok (.aload_n 0, 1) := by decide +kernel
theorem d_MD_hear_30 : decode b_MD_hear 30 = .ok (.getfield 13, 3) := by decide +kernel
theorem d_MD_hear_33 : decode b_MD_hear 33 = .ok (.iload_n 2, 1) := by decide +kernel
theorem d_MD_hear_34 : decode b_MD_hear 34 = .ok (.baload, 1) := by decide +kernel
theorem d_MD_hear_35 : decode b_MD_hear 35 = .ok (.ifCond .ne 7, 3) := by decide +kernel
theorem d_MD_hear_38 : decode b_MD_hear 38 = .ok (.ldc2_w 183, 3) := by decide +kernel
theorem d_MD_hear_41 : decode b_MD_hear 41 = .ok (.lreturn, 1) := by decide +kernel
theorem d_MD_hear_42 : decode b_MD_hear 42 = .ok (.aload_n 0, 1) := by decide +kernel
theorem d_MD_hear_43 : decode b_MD_hear 43 = .ok (.getfield 13, 3) := by decide +kernel
theorem d_MD_hear_46 : decode b_MD_hear 46 = .ok (.iload_n 2, 1) := by decide +kernel
theorem d_MD_hear_47 : decode b_MD_hear 47 = .ok (.iconst 0, 1) := by decide +kernel
theorem d_MD_hear_48 : decode b_MD_hear 48 = .ok (.bastore, 1) := by decide +kernel
theorem d_MD_hear_49 : decode b_MD_hear 49 = .ok (.aload_n 0, 1) := by decide +kernel
theorem d_MD_hear_50 : decode b_MD_hear 50 = .ok (.iload_n 1, 1) := by decide +kernel
theorem d_MD_hear_51 : decode b_MD_hear 51 = .ok (.ifCond .ne 7, 3) := by decide +kernel
theorem d_MD_hear_54 : decode b_MD_hear 54 = .ok (.iconst 1, 1) := by decide +kernel
theorem d_MD_hear_55 : decode b_MD_hear 55 = .ok (.goto 4, 3) := by decide +kernel
theorem d_MD_hear_58 : decode b_MD_hear 58 = .ok (.iconst 0, 1) := by decide +kernel
theorem d_MD_hear_59 : decode b_MD_hear 59 = .ok (.aload_n 0, 1) := by decide +kernel
theorem d_MD_hear_60 : decode b_MD_hear 60 = .ok (.getfield 7, 3) := by decide +kernel
theorem d_MD_hear_63 : decode b_MD_hear 63 = .ok (.iload_n 2, 1) := by decide +kernel
theorem d_MD_hear_64 : decode b_MD_hear 64 = .ok (.laload, 1) := by decide +kernel
theorem d_MD_hear_65 : decode b_MD_hear 65 = .ok (.invokevirtual 197, 3) := by decide +kernel
theorem d_MD_hear_68 : decode b_MD_hear 68 = .ok (.lstore_n 3, 1) := by decide +kernel
theorem d_MD_hear_69 : decode b_MD_hear 69 = .ok (.lload_n 3, 1) := by decide +kernel
theorem d_MD_hear_70 : decode b_MD_hear 70 = .ok (.lconst 0, 1) := by decide +kernel
theorem d_MD_hear_71 : decode b_MD_hear 71 = .ok (.lcmp, 1) := by decide +kernel
theorem d_MD_hear_72 : decode b_MD_hear 72 = .ok (.ifCond .ge 17, 3) := by decide +kernel
theorem d_MD_hear_75 : decode b_MD_hear 75 = .ok (.aload_n 0, 1) := by decide +kernel
theorem d_MD_hear_76 : decode b_MD_hear 76 = .ok (.getfield 27, 3) := by decide +kernel
theorem d_MD_hear_79 : decode b_MD_hear 79 = .ok (.iload_n 1, 1) := by decide +kernel
theorem d_MD_hear_80 : decode b_MD_hear 80 = .ok (.dup2, 1) := by decide +kernel
theorem d_MD_hear_81 : decode b_MD_hear 81 = .ok (.iaload, 1) := by decide +kernel
theorem d_MD_hear_82 : decode b_MD_hear 82 = .ok (.iconst 1, 1) := by decide +kernel
theorem d_MD_hear_83 : decode b_MD_hear 83 = .ok (.iadd, 1) := by decide +kernel
theorem d_MD_hear_84 : decode b_MD_hear 84 = .ok (.iastore, 1) := by decide +kernel
theorem d_MD_hear_85 : decode b_MD_hear 85 = .ok (.ldc2_w 183, 3) := by decide +kernel
theorem d_MD_hear_88 : decode b_MD_hear 88 = .ok (.lreturn, 1) := by decide +kernel
theorem d_MD_hear_89 : decode b_MD_hear 89 = .ok (.iload_n 1, 1) := by decide +kernel
theorem d_MD_hear_90 : decode b_MD_hear 90 = .ok (.ifCond .ne 15, 3) := by decide +kernel
theorem d_MD_hear_93 : decode b_MD_hear 93 = .ok (.aload_n 0, 1) := by decide +kernel
theorem d_MD_hear_94 : decode b_MD_hear 94 = .ok (.getfield 7, 3) := by decide +kernel
theorem d_MD_hear_97 : decode b_MD_hear 97 = .ok (.iload_n 2, 1) := by decide +kernel
theorem d_MD_hear_98 : decode b_MD_hear 98 = .ok (.laload, 1) := by decide +kernel
theorem d_MD_hear_99 : decode b_MD_hear 99 = .ok (.invokestatic 166, 3) := by decide +kernel
theorem d_MD_hear_102 : decode b_MD_hear 102 = .ok (.goto 12, 3) := by decide +kernel
theorem d_MD_hear_105 : decode b_MD_hear 105 = .ok (.aload_n 0, 1) := by decide +kernel
theorem d_MD_hear_106 : decode b_MD_hear 106 = .ok (.getfield 7, 3) := by decide +kernel
theorem d_MD_hear_109 : decode b_MD_hear 109 = .ok (.iload_n 2, 1) := by decide +kernel
theorem d_MD_hear_110 : decode b_MD_hear 110 = .ok (.laload, 1) := by decide +kernel
theorem d_MD_hear_111 : decode b_MD_hear 111 = .ok (.invokestatic 185, 3) := by decide +kernel
theorem d_MD_hear_114 : decode b_MD_hear 114 = .ok (.istore 5, 2) := by decide +kernel
theorem d_MD_hear_116 : decode b_MD_hear 116 = .ok (.aload_n 0, 1) := by decide +kernel
theorem d_MD_hear_117 : decode b_MD_hear 117 = .ok (.getfield 30, 3) := by decide +kernel
theorem d_MD_hear_120 : decode b_MD_hear 120 = .ok (.iload_n 1, 1) := by decide +kernel
theorem d_MD_hear_121 : decode b_MD_hear 121 = .ok (.dup2, 1) := by decide +kernel
theorem d_MD_hear_122 : decode b_MD_hear 122 = .ok (.iaload, 1) := by decide +kernel
theorem d_MD_hear_123 : decode b_MD_hear 123 = .ok (.iload 5, 2) := by decide +kernel
theorem d_MD_hear_125 : decode b_MD_hear 125 = .ok (.ifCond .ne 7, 3) := by decide +kernel
theorem d_MD_hear_128 : decode b_MD_hear 128 = .ok (.iconst 0, 1) := by decide +kernel
theorem d_MD_hear_129 : decode b_MD_hear 129 = .ok (.goto 4, 3) := by decide +kernel
theorem d_MD_hear_132 : decode b_MD_hear 132 = .ok (.iconst 1, 1) := by decide +kernel
theorem d_MD_hear_133 : decode b_MD_hear 133 = .ok (.iadd, 1) := by decide +kernel
theorem d_MD_hear_134 : decode b_MD_hear 134 = .ok (.iastore, 1) := by decide +kernel
theorem d_MD_hear_135 : decode b_MD_hear 135 = .ok (.lload_n 3, 1) := by decide +kernel
theorem d_MD_hear_136 : decode b_MD_hear 136 = .ok (.lreturn, 1) := by decide +kernel
theorem d_MD_tick_0 : decode b_MD_tick 0 = .ok (.aload_n 0, 1) := by decide +kernel
theorem d_MD_tick_1 : decode b_MD_tick 1 = .ok (.dup, 1) := by decide +kernel
theorem d_MD_tick_2 : decode b_MD_tick 2 = .ok (.getfield 194, 3) := by decide +kernel
theorem d_MD_tick_5 : decode b_MD_tick 5 = .ok (.iconst 1, 1) := by decide +kernel
theorem d_MD_tick_6 : decode b_MD_tick 6 = .ok (.iadd, 1) := by decide +kernel
theorem d_MD_tick_7 : decode b_MD_tick 7 = .ok (.putfield 194, 3) := by decide +kernel
theorem d_MD_tick_10 : decode b_MD_tick 10 = .ok (.aload_n 0, 1) := by decide +kernel
theorem d_MD_tick_11 : decode b_MD_tick 11 = .ok (.iconst 0, 1) := by decide +kernel
theorem d_MD_tick_12 : decode b_MD_tick 12 = .ok (.invokevirtual 201, 3) := by decide +kernel
theorem d_MD_tick_15 : decode b_MD_tick 15 = .ok (.lstore_n 1, 1) := by decide +kernel
theorem d_MD_tick_16 : decode b_MD_tick 16 = .ok (.lload_n 1, 1) := by decide +kernel
theorem d_MD_tick_17 : decode b_MD_tick 17 = .ok (.lconst 0, 1) := by decide +kernel
theorem d_MD_tick_18 : decode b_MD_tick 18 = .ok (.lcmp, 1) := by decide +kernel
theorem d_MD_tick_19 : decode b_MD_tick 19 = .ok (.ifCond .lt 8, 3) := by decide +kernel
theorem d_MD_tick_22 : decode b_MD_tick 22 = .ok (.aload_n 0, 1) := by decide +kernel
theorem d_MD_tick_23 : decode b_MD_tick 23 = .ok (.lload_n 1, 1) := by decide +kernel
theorem d_MD_tick_24 : decode b_MD_tick 24 = .ok (.invokevirtual 205, 3) := by decide +kernel
theorem d_MD_tick_27 : decode b_MD_tick 27 = .ok (.iconst 0, 1) := by decide +kernel
theorem d_MD_tick_28 : decode b_MD_tick 28 = .ok (.istore_n 3, 1) := by decide +kernel
theorem d_MD_tick_29 : decode b_MD_tick 29 = .ok (.iload_n 3, 1) := by decide +kernel
theorem d_MD_tick_30 : decode b_MD_tick 30 = .ok (.bipush 16, 2) := by decide +kernel
theorem d_MD_tick_32 : decode b_MD_tick 32 = .ok (.if_icmp .ge 14, 3) := by decide +kernel
theorem d_MD_tick_35 : decode b_MD_tick 35 = .ok (.aload_n 0, 1) := by decide +kernel
theorem d_MD_tick_36 : decode b_MD_tick 36 = .ok (.iload_n 3, 1) := by decide +kernel
theorem d_MD_tick_37 : decode b_MD_tick 37 = .ok (.invokevirtual 209, 3) := by decide +kernel
theorem d_MD_tick_40 : decode b_MD_tick 40 = .ok (.iinc 3 1, 3) := by decide +kernel
theorem d_MD_tick_43 : decode b_MD_tick 43 = .ok (.goto (-14), 3) := by decide +kernel
theorem d_MD_tick_46 : decode b_MD_tick 46 = .ok (.aload_n 0, 1) := by decide +kernel
theorem d_MD_tick_47 : decode b_MD_tick 47 = .ok (.invokevirtual 213, 3) := by decide +kernel
theorem d_MD_tick_50 : decode b_MD_tick 50 = .ok (.aload_n 0, 1) := by decide +kernel
theorem d_MD_tick_51 : decode b_MD_tick 51 = .ok (.iconst 1, 1) := by decide +kernel
theorem d_MD_tick_52 : decode b_MD_tick 52 = .ok (.invokevirtual 201, 3) := by decide +kernel
theorem d_MD_tick_55 : decode b_MD_tick 55 = .ok (.lstore_n 3, 1) := by decide +kernel
theorem d_MD_tick_56 : decode b_MD_tick 56 = .ok (.lload_n 3, 1) := by decide +kernel
theorem d_MD_tick_57 : decode b_MD_tick 57 = .ok (.lconst 0, 1) := by decide +kernel
theorem d_MD_tick_58 : decode b_MD_tick 58 = .ok (.lcmp, 1) := by decide +kernel
theorem d_MD_tick_59 : decode b_MD_tick 59 = .ok (.ifCond .lt 13, 3) := by decide +kernel
theorem d_MD_tick_62 : decode b_MD_tick 62 = .ok (.aload_n 0, 1) := by decide +kernel
theorem d_MD_tick_63 : decode b_MD_tick 63 = .ok (.lload_n 3, 1) := by decide +kernel
theorem d_MD_tick_64 : decode b_MD_tick 64 = .ok (.invokevirtual 216, 3) := by decide +kernel
theorem d_MD_tick_67 : decode b_MD_tick 67 = .ok (.aload_n 0, 1) := by decide +kernel
theorem d_MD_tick_68 : decode b_MD_tick 68 = .ok (.lload_n 3, 1) := by decide +kernel
theorem d_MD_tick_69 : decode b_MD_tick 69 = .ok (.invokevirtual 219, 3) := by decide +kernel
theorem d_MD_tick_72 : decode b_MD_tick 72 = .ok (.aload_n 0, 1) := by decide +kernel
theorem d_MD_tick_73 : decode b_MD_tick 73 = .ok (.invokevirtual 222, 3) := by decide +kernel
theorem d_MD_tick_76 : decode b_MD_tick 76 = .ok (.iconst 0, 1) := by decide +kernel
theorem d_MD_tick_77 : decode b_MD_tick 77 = .ok (.istore 5, 2) := by decide +kernel
theorem d_MD_tick_79 : decode b_MD_tick 79 = .ok (.iload 5, 2) := by decide +kernel
theorem d_MD_tick_81 : decode b_MD_tick 81 = .ok (.aload_n 0, 1) := by decide +kernel
theorem d_MD_tick_82 : decode b_MD_tick 82 = .ok (.getfield 225, 3) := by decide +kernel
theorem d_MD_tick_85 : decode b_MD_tick 85 = .ok (.if_icmp .ge 15, 3) := by decide +kernel
theorem d_MD_tick_88 : decode b_MD_tick 88 = .ok (.aload_n 0, 1) := by decide +kernel
theorem d_MD_tick_89 : decode b_MD_tick 89 = .ok (.iload 5, 2) := by decide +kernel
theorem d_MD_tick_91 : decode b_MD_tick 91 = .ok (.invokevirtual 228, 3) := by decide +kernel
theorem d_MD_tick_94 : decode b_MD_tick 94 = .ok (.iinc 5 1, 3) := by decide +kernel
theorem d_MD_tick_97 : decode b_MD_tick 97 = .ok (.goto (-18), 3) := by decide +kernel
theorem d_MD_tick_100 : decode b_MD_tick 100 = .ok (.aload_n 0, 1) := by decide +kernel
theorem d_MD_tick_101 : decode b_MD_tick 101 = .ok (.invokevirtual 231, 3) := by decide +kernel
theorem d_MD_tick_104 : decode b_MD_tick 104 = .ok (.return_, 1) := by decide +kernel
theorem d_MD_craftFrame_0 : decode b_MD_craftFrame 0 = .ok (.lload_n 1, 1) := by decide +kernel
theorem d_MD_craftFrame_1 : decode b_MD_craftFrame 1 = .ok (.bipush 52, 2) := by decide +kernel
theorem d_MD_craftFrame_3 : decode b_MD_craftFrame 3 = .ok (.lshr, 1) := by decide +kernel
theorem d_MD_craftFrame_4 : decode b_MD_craftFrame 4 = .ok (.ldc2_w 162, 3) := by decide +kernel
theorem d_MD_craftFrame_7 : decode b_MD_craftFrame 7 = .ok (.land, 1) := by decide +kernel
theorem d_MD_craftFrame_8 : decode b_MD_craftFrame 8 = .ok (.l2i, 1) := by decide +kernel
theorem d_MD_craftFrame_9 : decode b_MD_craftFrame 9 = .ok (.istore_n 3, 1) := by decide +kernel
theorem d_MD_craftFrame_10 : decode b_MD_craftFrame 10 = .ok (.lload_n 1, 1) := by decide +kernel
theorem d_MD_craftFrame_11 : decode b_MD_craftFrame 11 = .ok (.bipush 48, 2) := by decide +kernel
theorem d_MD_craftFrame_13 : decode b_MD_craftFrame 13 = .ok (.lshr, 1) := by decide +kernel
theorem d_MD_craftFrame_14 : decode b_MD_craftFrame 14 = .ok (.ldc2_w 162, 3) := by decide +kernel
theorem d_MD_craftFrame_17 : decode b_MD_craftFrame 17 = .ok (.land, 1) := by decide +kernel
theorem d_MD_craftFrame_18 : decode b_MD_craftFrame 18 = .ok (.l2i, 1) := by decide +kernel
theorem d_MD_craftFrame_19 : decode b_MD_craftFrame 19 = .ok (.istore 4, 2) := by decide +kernel
theorem d_MD_craftFrame_21 : decode b_MD_craftFrame 21 = .ok (.iload_n 3, 1) := by decide +kernel
theorem d_MD_craftFrame_22 : decode b_MD_craftFrame 22 = .ok (.ifCond .ne 83, 3) := by decide +kernel
theorem d_MD_craftFrame_25 : decode b_MD_craftFrame 25 = .ok (.aload_n 0, 1) := by decide +kernel
theorem d_MD_craftFrame_26 : decode b_MD_craftFrame 26 = .ok (.getfield 234, 3) := by decide +kernel
theorem d_MD_craftFrame_29 : decode b_MD_craftFrame 29 = .ok (.ifCond .ne 76, 3) := by decide +kernel
theorem d_MD_craftFrame_32 : decode b_MD_craftFrame 32 = .ok (.iload 4, 2) := by decide +kernel
theorem d_MD_craftFrame_34 : decode b_MD_craftFrame 34 = .ok (.aload_n 0, 1) := by decide +kernel
theorem d_MD_craftFrame_35 : decode b_MD_craftFrame 35 = .ok (.getfield 238, 3) := by decide +kernel
theorem d_MD_craftFrame_38 : decode b_MD_craftFrame 38 = .ok (.isub, 1) := by decide +kernel
theorem d_MD_craftFrame_39 : decode b_MD_craftFrame 39 = .ok (.bipush 15, 2) := by decide +kernel
theorem d_MD_craftFrame_41 : decode b_MD_craftFrame 41 = .ok (.iand, 1) := by decide +kernel
theorem d_MD_craftFrame_42 : decode b_MD_craftFrame 42 = .ok (.istore 5, 2) := by decide +kernel
theorem d_MD_craftFrame_44 : decode b_MD_craftFrame 44 = .ok (.iload 5, 2) := by decide +kernel
theorem d_MD_craftFrame_46 : decode b_MD_craftFrame 46 = .ok (.ifCond .ne 29, 3) := by decide +kernel
theorem d_MD_craftFrame_49 : decode b_MD_craftFrame 49 = .ok (.aload_n 0, 1) := by decide +kernel
theorem d_MD_craftFrame_50 : decode b_MD_craftFrame 50 = .ok (.aload_n 0, 1) := by decide +kernel
theorem d_MD_craftFrame_51 : decode b_MD_craftFrame 51 = .ok (.getfield 238, 3) := by decide +kernel
theorem d_MD_craftFrame_54 : decode b_MD_craftFrame 54 = .ok (.iconst 1, 1) := by decide +kernel
theorem d_MD_craftFrame_55 : decode b_MD_craftFrame 55 = .ok (.iadd, 1) := by decide +kernel
theorem d_MD_craftFrame_56 : decode b_MD_craftFrame 56 = .ok (.bipush 15, 2) := by decide +kernel
theorem d_MD_craftFrame_58 : decode b_MD_craftFrame 58 = .ok (.iand, 1) := by decide +kernel
theorem d_MD_craftFrame_59 : decode b_MD_craftFrame 59 = .ok (.putfield 238, 3) := by decide +kernel
theorem d_MD_craftFrame_62 : decode b_MD_craftFrame 62 = .ok (.aload_n 0, 1) := by decide +kernel
theorem d_MD_craftFrame_63 : decode b_MD_craftFrame 63 = .ok (.iconst 0, 1) := by decide +kernel
theorem d_MD_craftFrame_64 : decode b_MD_craftFrame 64 = .ok (.putfield 241, 3) := by decide +kernel
theorem d_MD_craftFrame_67 : decode b_MD_craftFrame 67 = .ok (.aload_n 0, 1) := by decide +kernel
theorem d_MD_craftFrame_68 : decode b_MD_craftFrame 68 = .ok (.lload_n 1, 1) := by decide +kernel
theorem d_MD_craftFrame_69 : decode b_MD_craftFrame 69 = .ok (.invokevirtual 244, 3) := by decide +kernel
theorem d_MD_craftFrame_72 : decode b_MD_craftFrame 72 = .ok (.goto 30, 3) := by decide +kernel
theorem d_MD_craftFrame_75 : decode b_MD_craftFrame 75 = .ok (.iload 5, 2) := by decide +kernel
theorem d_MD_craftFrame_77 : decode b_MD_craftFrame 77 = .ok (.bipush 8, 2) := by decide +kernel
theorem d_MD_craftFrame_79 : decode b_MD_craftFrame 79 = .ok (.if_icmp .ge 11, 3) := by decide +kernel
theorem d_MD_craftFrame_82 : decode b_MD_craftFrame 82 = .ok (.aload_n 0, 1) := by decide +kernel
theorem d_MD_craftFrame_83 : decode b_MD_craftFrame 83 = .ok (.iconst 1, 1) := by decide +kernel
theorem d_MD_craftFrame_84 : decode b_MD_craftFrame 84 = .ok (.putfield 241, 3) := by decide +kernel
theorem d_MD_craftFrame_87 : decode b_MD_craftFrame 87 = .ok (.goto 15, 3) := by decide +kernel
theorem d_MD_craftFrame_90 : decode b_MD_craftFrame 90 = .ok (.iload 5, 2) := by decide +kernel
theorem d_MD_craftFrame_92 : decode b_MD_craftFrame 92 = .ok (.bipush 8, 2) := by decide +kernel
theorem d_MD_craftFrame_94 : decode b_MD_craftFrame 94 = .ok (.if_icmp .ne 8, 3) := by decide +kernel
theorem d_MD_craftFrame_97 : decode b_MD_craftFrame 97 = .ok (.aload_n 0, 1) := by decide +kernel
theorem d_MD_craftFrame_98 : decode b_MD_craftFrame 98 = .ok (.iconst 1, 1) := by decide +kernel
theorem d_MD_craftFrame_99 : decode b_MD_craftFrame 99 = .ok (.putfield 234, 3) := by decide +kernel
theorem d_MD_craftFrame_102 : decode b_MD_craftFrame 102 = .ok (.goto 57, 3) := by decide +kernel
theorem d_MD_craftFrame_105 : decode b_MD_craftFrame 105 = .ok (.iload_n 3, 1) := by decide +kernel
theorem d_MD_craftFrame_106 : decode b_MD_craftFrame 106 = .ok (.iconst 1, 1) := by decide +kernel
theorem d_MD_craftFrame_107 : decode b_MD_craftFrame 107 = .ok (.if_icmp .ne 11, 3) := by decide +kernel
theorem d_MD_craftFrame_110 : decode b_MD_craftFrame 110 = .ok (.aload_n 0, 1) := by decide +kernel
theorem d_MD_craftFrame_111 : decode b_MD_craftFrame 111 = .ok (.lload_n 1, 1) := by decide +kernel
theorem d_MD_craftFrame_112 : decode b_MD_craftFrame 112 = .ok (.invokevirtual 244, 3) := by decide +kernel
theorem d_MD_craftFrame_115 : decode b_MD_craftFrame 115 = .ok (.goto 44, 3) := by decide +kernel
theorem d_MD_craftFrame_118 : decode b_MD_craftFrame 118 = .ok (.iload_n 3, 1) := by decide +kernel
theorem d_MD_craftFrame_119 : decode b_MD_craftFrame 119 = .ok (.iconst 2, 1) := by decide +kernel
theorem d_MD_craftFrame_120 : decode b_MD_craftFrame 120 = .ok (.if_icmp .ne 16, 3) := by decide +kernel
theorem d_MD_craftFrame_123 : decode b_MD_craftFrame 123 = .ok (.aload_n 0, 1) := by decide +kernel
theorem d_MD_craftFrame_124 : decode b_MD_craftFrame 124 = .ok (.iconst 0, 1) := by decide +kernel
theorem d_MD_craftFrame_125 : decode b_MD_craftFrame 125 = .ok (.putfield 234, 3) := by decide +kernel
theorem d_MD_craftFrame_128 : decode b_MD_craftFrame 128 = .ok (.aload_n 0, 1) := by decide +kernel
theorem d_MD_craftFrame_129 : decode b_MD_craftFrame 129 = .ok (.iconst 0, 1) := by decide +kernel
theorem d_MD_craftFrame_130 : decode b_MD_craftFrame 130 = .ok (.putfield 241, 3) := by decide +kernel
theorem d_MD_craftFrame_133 : decode b_MD_craftFrame 133 = .ok (.goto 26, 3) := by decide +kernel
theorem d_MD_craftFrame_136 : decode b_MD_craftFrame 136 = .ok (.iload_n 3, 1) := by decide +kernel
theorem d_MD_craftFrame_137 : decode b_MD_craftFrame 137 = .ok (.iconst 3, 1) := by decide +kernel
theorem d_MD_craftFrame_138 : decode b_MD_craftFrame 138 = .ok (.if_icmp .ne 21, 3) := by decide +kernel
theorem d_MD_craftFrame_141 : decode b_MD_craftFrame 141 = .ok (.aload_n 0, 1) := by decide +kernel
theorem d_MD_craftFrame_142 : decode b_MD_craftFrame 142 = .ok (.getfield 234, 3) := by decide +kernel
theorem d_MD_craftFrame_145 : decode b_MD_craftFrame 145 = .ok (.ifCond .ne 14, 3) := by decide +kernel
theorem d_MD_craftFrame_148 : decode b_MD_craftFrame 148 = .ok (.aload_n 0, 1) := by decide +kernel
theorem d_MD_craftFrame_149 : decode b_MD_craftFrame 149 = .ok (.iload 4, 2) := by decide +kernel
theorem d_MD_craftFrame_151 : decode b_MD_craftFrame 151 = .ok (.putfield 238, 3) := by decide +kernel
theorem d_MD_craftFrame_154 : decode b_MD_craftFrame 154 = .ok (.aload_n 0, 1) := by decide +kernel
theorem d_MD_craftFrame_155 : decode b_MD_craftFrame 155 = .ok (.iconst 0, 1) := by decide +kernel
theorem d_MD_craftFrame_156 : decode b_MD_craftFrame 156 = .ok (.putfield 241, 3) := by decide +kernel
theorem d_MD_craftFrame_159 : decode b_MD_craftFrame 159 = .ok (.return_, 1) := by decide +kernel
theorem d_MD_lacking_0 : decode b_MD_lacking 0 = .ok (.iconst 1, 1) := by decide +kernel
theorem d_MD_lacking_1 : decode b_MD_lacking 1 = .ok (.aload_n 0, 1) := by decide +kernel
theorem d_MD_lacking_2 : decode b_MD_lacking 2 = .ok (.getfield 106, 3) := by decide +kernel
theorem d_MD_lacking_5 : decode b_MD_lacking 5 = .ok (.iload_n 1, 1) := by decide +kernel
theorem d_MD_lacking_6 : decode b_MD_lacking 6 = .ok (.iaload, 1) := by decide +kernel
theorem d_MD_lacking_7 : decode b_MD_lacking 7 = .ok (.ishl, 1) := by decide +kernel
theorem d_MD_lacking_8 : decode b_MD_lacking 8 = .ok (.iconst 1, 1) := by decide +kernel
theorem d_MD_lacking_9 : decode b_MD_lacking 9 = .ok (.isub, 1) := by decide +kernel
theorem d_MD_lacking_10 : decode b_MD_lacking 10 = .ok (.ldc_w 263, 3) := by decide +kernel
theorem d_MD_lacking_13 : decode b_MD_lacking 13 = .ok (.ior, 1) := by decide +kernel
theorem d_MD_lacking_14 : decode b_MD_lacking 14 = .ok (.istore_n 2, 1) := by decide +kernel
theorem d_MD_lacking_15 : decode b_MD_lacking 15 = .ok (.iload_n 2, 1) := by decide +kernel
theorem d_MD_lacking_16 : decode b_MD_lacking 16 = .ok (.aload_n 0, 1) := by decide +kernel
theorem d_MD_lacking_17 : decode b_MD_lacking 17 = .ok (.getfield 94, 3) := by decide +kernel
theorem d_MD_lacking_20 : decode b_MD_lacking 20 = .ok (.iload_n 1, 1) := by decide +kernel
theorem d_MD_lacking_21 : decode b_MD_lacking 21 = .ok (.iaload, 1) := by decide +kernel
theorem d_MD_lacking_22 : decode b_MD_lacking 22 = .ok (.iconst (-1), 1) := by decide +kernel
theorem d_MD_lacking_23 : decode b_MD_lacking 23 = .ok (.ixor, 1) := by decide +kernel
theorem d_MD_lacking_24 : decode b_MD_lacking 24 = .ok (.iand, 1) := by decide +kernel
theorem d_MD_lacking_25 : decode b_MD_lacking 25 = .ok (.ireturn, 1) := by decide +kernel
theorem d_MD_finish_0 : decode b_MD_finish 0 = .ok (.aload_n 0, 1) := by decide +kernel
theorem d_MD_finish_1 : decode b_MD_finish 1 = .ok (.getfield 88, 3) := by decide +kernel
theorem d_MD_finish_4 : decode b_MD_finish 4 = .ok (.iload_n 1, 1) := by decide +kernel
theorem d_MD_finish_5 : decode b_MD_finish 5 = .ok (.iconst 2, 1) := by decide +kernel
theorem d_MD_finish_6 : decode b_MD_finish 6 = .ok (.iastore, 1) := by decide +kernel
theorem d_MD_finish_7 : decode b_MD_finish 7 = .ok (.aload_n 0, 1) := by decide +kernel
theorem d_MD_finish_8 : decode b_MD_finish 8 = .ok (.getfield 91, 3) := by decide +kernel
theorem d_MD_finish_11 : decode b_MD_finish 11 = .ok (.iload_n 1, 1) := by decide +kernel
theorem d_MD_finish_12 : decode b_MD_finish 12 = .ok (.iload_n 2, 1) := by decide +kernel
theorem d_MD_finish_13 : decode b_MD_finish 13 = .ok (.iastore, 1) := by decide +kernel
theorem d_MD_finish_14 : decode b_MD_finish 14 = .ok (.aload_n 0, 1) := by decide +kernel
theorem d_MD_finish_15 : decode b_MD_finish 15 = .ok (.getfield 127, 3) := by decide +kernel
theorem d_MD_finish_18 : decode b_MD_finish 18 = .ok (.iload_n 1, 1) := by decide +kernel
theorem d_MD_finish_19 : decode b_MD_finish 19 = .ok (.iconst 1, 1) := by decide +kernel
theorem d_MD_finish_20 : decode b_MD_finish 20 = .ok (.bastore, 1) := by decide +kernel
theorem d_MD_finish_21 : decode b_MD_finish 21 = .ok (.aload_n 0, 1) := by decide +kernel
theorem d_MD_finish_22 : decode b_MD_finish 22 = .ok (.getfield 124, 3) := by decide +kernel
theorem d_MD_finish_25 : decode b_MD_finish 25 = .ok (.iload_n 1, 1) := by decide +kernel
theorem d_MD_finish_26 : decode b_MD_finish 26 = .ok (.iconst 0, 1) := by decide +kernel
theorem d_MD_finish_27 : decode b_MD_finish 27 = .ok (.bastore, 1) := by decide +kernel
theorem d_MD_finish_28 : decode b_MD_finish 28 = .ok (.aload_n 0, 1) := by decide +kernel
theorem d_MD_finish_29 : decode b_MD_finish 29 = .ok (.getfield 115, 3) := by decide +kernel
theorem d_MD_finish_32 : decode b_MD_finish 32 = .ok (.iload_n 1, 1) := by decide +kernel
theorem d_MD_finish_33 : decode b_MD_finish 33 = .ok (.iconst 3, 1) := by decide +kernel
theorem d_MD_finish_34 : decode b_MD_finish 34 = .ok (.aload_n 0, 1) := by decide +kernel
theorem d_MD_finish_35 : decode b_MD_finish 35 = .ok (.getfield 139, 3) := by decide +kernel
theorem d_MD_finish_38 : decode b_MD_finish 38 = .ok (.imul, 1) := by decide +kernel
theorem d_MD_finish_39 : decode b_MD_finish 39 = .ok (.iastore, 1) := by decide +kernel
theorem d_MD_finish_40 : decode b_MD_finish 40 = .ok (.aload_n 0, 1) := by decide +kernel
theorem d_MD_finish_41 : decode b_MD_finish 41 = .ok (.getfield 112, 3) := by decide +kernel
theorem d_MD_finish_44 : decode b_MD_finish 44 = .ok (.iload_n 1, 1) := by decide +kernel
theorem d_MD_finish_45 : decode b_MD_finish 45 = .ok (.iconst 1, 1) := by decide +kernel
theorem d_MD_finish_46 : decode b_MD_finish 46 = .ok (.iastore, 1) := by decide +kernel
theorem d_MD_finish_47 : decode b_MD_finish 47 = .ok (.return_, 1) := by decide +kernel
theorem d_MD_close_0 : decode b_MD_close 0 = .ok (.aload_n 0, 1) := by decide +kernel
theorem d_MD_close_1 : decode b_MD_close 1 = .ok (.getfield 88, 3) := by decide +kernel
theorem d_MD_close_4 : decode b_MD_close 4 = .ok (.iload_n 1, 1) := by decide +kernel
theorem d_MD_close_5 : decode b_MD_close 5 = .ok (.iconst 3, 1) := by decide +kernel
theorem d_MD_close_6 : decode b_MD_close 6 = .ok (.iastore, 1) := by decide +kernel
theorem d_MD_close_7 : decode b_MD_close 7 = .ok (.aload_n 0, 1) := by decide +kernel
theorem d_MD_close_8 : decode b_MD_close 8 = .ok (.getfield 124, 3) := by decide +kernel
theorem d_MD_close_11 : decode b_MD_close 11 = .ok (.iload_n 1, 1) := by decide +kernel
theorem d_MD_close_12 : decode b_MD_close 12 = .ok (.iconst 0, 1) := by decide +kernel
theorem d_MD_close_13 : decode b_MD_close 13 = .ok (.bastore, 1) := by decide +kernel
theorem d_MD_close_14 : decode b_MD_close 14 = .ok (.aload_n 0, 1) := by decide +kernel
theorem d_MD_close_15 : decode b_MD_close 15 = .ok (.getfield 127, 3) := by decide +kernel
theorem d_MD_close_18 : decode b_MD_close 18 = .ok (.iload_n 1, 1) := by decide +kernel
theorem d_MD_close_19 : decode b_MD_close 19 = .ok (.iconst 0, 1) := by decide +kernel
theorem d_MD_close_20 : decode b_MD_close 20 = .ok (.bastore, 1) := by decide +kernel
theorem d_MD_close_21 : decode b_MD_close 21 = .ok (.aload_n 0, 1) := by decide +kernel
theorem d_MD_close_22 : decode b_MD_close 22 = .ok (.dup, 1) := by decide +kernel
theorem d_MD_close_23 : decode b_MD_close 23 = .ok (.getfield 267, 3) := by decide +kernel
theorem d_MD_close_26 : decode b_MD_close 26 = .ok (.iconst 1, 1) := by decide +kernel
theorem d_MD_close_27 : decode b_MD_close 27 = .ok (.iadd, 1) := by decide +kernel
theorem d_MD_close_28 : decode b_MD_close 28 = .ok (.putfield 267, 3) := by decide +kernel
theorem d_MD_close_31 : decode b_MD_close 31 = .ok (.return_, 1) := by decide +kernel
theorem d_MD_alert_0 : decode b_MD_alert 0 = .ok (.aload_n 0, 1) := by decide +kernel
theorem d_MD_alert_1 : decode b_MD_alert 1 = .ok (.dup, 1) := by decide +kernel
theorem d_MD_alert_2 : decode b_MD_alert 2 = .ok (.getfield 281, 3) := by decide +kernel
theorem d_MD_alert_5 : decode b_MD_alert 5 = .ok (.iconst 1, 1) := by decide +kernel
theorem d_MD_alert_6 : decode b_MD_alert 6 = .ok (.iadd, 1) := by decide +kernel
theorem d_MD_alert_7 : decode b_MD_alert 7 = .ok (.putfield 281, 3) := by decide +kernel
theorem d_MD_alert_10 : decode b_MD_alert 10 = .ok (.aload_n 0, 1) := by decide +kernel
theorem d_MD_alert_11 : decode b_MD_alert 11 = .ok (.iconst 0, 1) := by decide +kernel
theorem d_MD_alert_12 : decode b_MD_alert 12 = .ok (.putfield 284, 3) := by decide +kernel
theorem d_MD_alert_15 : decode b_MD_alert 15 = .ok (.aload_n 0, 1) := by decide +kernel
theorem d_MD_alert_16 : decode b_MD_alert 16 = .ok (.iload_n 1, 1) := by decide +kernel
theorem d_MD_alert_17 : decode b_MD_alert 17 = .ok (.putfield 287, 3) := by decide +kernel
theorem d_MD_alert_20 : decode b_MD_alert 20 = .ok (.aload_n 0, 1) := by decide +kernel
theorem d_MD_alert_21 : decode b_MD_alert 21 = .ok (.iconst 1, 1) := by decide +kernel
theorem d_MD_alert_22 : decode b_MD_alert 22 = .ok (.putfield 290, 3) := by decide +kernel
theorem d_MD_alert_25 : decode b_MD_alert 25 = .ok (.aload_n 0, 1) := by decide +kernel
theorem d_MD_alert_26 : decode b_MD_alert 26 = .ok (.iconst 1, 1) := by decide +kernel
theorem d_MD_alert_27 : decode b_MD_alert 27 = .ok (.putfield 84, 3) := by decide +kernel
theorem d_MD_alert_30 : decode b_MD_alert 30 = .ok (.aload_n 0, 1) := by decide +kernel
theorem d_MD_alert_31 : decode b_MD_alert 31 = .ok (.iconst 0, 1) := by decide +kernel
theorem d_MD_alert_32 : decode b_MD_alert 32 = .ok (.putfield 293, 3) := by decide +kernel
theorem d_MD_alert_35 : decode b_MD_alert 35 = .ok (.aload_n 0, 1) := by decide +kernel
theorem d_MD_alert_36 : decode b_MD_alert 36 = .ok (.aload_n 0, 1) := by decide +kernel
theorem d_MD_alert_37 : decode b_MD_alert 37 = .ok (.getfield 139, 3) := by decide +kernel
theorem d_MD_alert_40 : decode b_MD_alert 40 = .ok (.putfield 296, 3) := by decide +kernel
theorem d_MD_alert_43 : decode b_MD_alert 43 = .ok (.return_, 1) := by decide +kernel
theorem d_MD_markAll_0 : decode b_MD_markAll 0 = .ok (.iconst 1, 1) := by decide +kernel
theorem d_MD_markAll_1 : decode b_MD_markAll 1 = .ok (.istore_n 1, 1) := by decide +kernel
theorem d_MD_markAll_2 : decode b_MD_markAll 2 = .ok (.iload_n 1, 1) := by decide +kernel
theorem d_MD_markAll_3 : decode b_MD_markAll 3 = .ok (.aload_n 0, 1) := by decide +kernel
theorem d_MD_markAll_4 : decode b_MD_markAll 4 = .ok (.getfield 284, 3) := by decide +kernel
theorem d_MD_markAll_7 : decode b_MD_markAll 7 = .ok (.if_icmp .gt 24, 3) := by decide +kernel
theorem d_MD_markAll_10 : decode b_MD_markAll 10 = .ok (.aload_n 0, 1) := by decide +kernel
theorem d_MD_markAll_11 : decode b_MD_markAll 11 = .ok (.getfield 81, 3) := by decide +kernel
theorem d_MD_markAll_14 : decode b_MD_markAll 14 = .ok (.aload_n 0, 1) := by decide +kernel
theorem d_MD_markAll_15 : decode b_MD_markAll 15 = .ok (.getfield 299, 3) := by decide +kernel
theorem d_MD_markAll_18 : decode b_MD_markAll 18 = .ok (.iload_n 1, 1) := by decide +kernel
theorem d_MD_markAll_19 : decode b_MD_markAll 19 = .ok (.isub, 1) := by decide +kernel
theorem d_MD_markAll_20 : decode b_MD_markAll 20 = .ok (.bipush 15, 2) := by decide +kernel
theorem d_MD_markAll_22 : decode b_MD_markAll 22 = .ok (.iand, 1) := by decide +kernel
theorem d_MD_markAll_23 : decode b_MD_markAll 23 = .ok (.iconst 1, 1) := by decide +kernel
theorem d_MD_markAll_24 : decode b_MD_markAll 24 = .ok (.bastore, 1) := by decide +kernel
theorem d_MD_markAll_25 : decode b_MD_markAll 25 = .ok (.iinc 1 1, 3) := by decide +kernel
theorem d_MD_markAll_28 : decode b_MD_markAll 28 = .ok (.goto (-26), 3) := by decide +kernel
theorem d_MD_markAll_31 : decode b_MD_markAll 31 = .ok (.return_, 1) := by decide +kernel
theorem d_MD_groundReport_0 : decode b_MD_groundReport 0 = .ok (.lload_n 1, 1) := by decide +kernel
theorem d_MD_groundReport_1 : decode b_MD_groundReport 1 = .ok (.ldc2_w 162, 3) := by decide +kernel
theorem d_MD_groundReport_4 : decode b_MD_groundReport 4 = .ok (.land, 1) := by decide +kernel
theorem d_MD_groundReport_5 : decode b_MD_groundReport 5 = .ok (.l2i, 1) := by decide +kernel
theorem d_MD_groundReport_6 : decode b_MD_groundReport 6 = .ok (.istore_n 3, 1) := by decide +kernel
theorem d_MD_groundReport_7 : decode b_MD_groundReport 7 = .ok (.lload_n 1, 1) := by decide +kernel
theorem d_MD_groundReport_8 : decode b_MD_groundReport 8 = .ok (.ldc2_w 270, 3) := by decide +kernel
theorem d_MD_groundReport_11 : decode b_MD_groundReport 11 = .ok (.land, 1) := by decide +kernel
theorem d_MD_groundReport_12 : decode b_MD_groundReport 12 = .ok (.lconst 0, 1) := by decide +kernel
theorem d_MD_groundReport_13 : decode b_MD_groundReport 13 = .ok (.lcmp, 1) := by decide +kernel
theorem d_MD_groundReport_14 : decode b_MD_groundReport 14 = .ok (.ifCond .eq 7, 3) := by decide +kernel
theorem d_MD_groundReport_17 : decode b_MD_groundReport 17 = .ok (.iconst 1, 1) := by decide +kernel
theorem d_MD_groundReport_18 : decode b_MD_groundReport 18 = .ok (.goto 4, 3) := by decide +kernel
theorem d_MD_groundReport_21 : decode b_MD_groundReport 21 = .ok (.iconst 0, 1) := by decide +kernel
theorem d_MD_groundReport_22 : decode b_MD_groundReport 22 = .ok (.istore 4, 2) := by decide +kernel
theorem d_MD_groundReport_24 : decode b_MD_groundReport 24 = .ok (.lload_n 1, 1) := by decide +kernel
theorem d_MD_groundReport_25 : decode b_MD_groundReport 25 = .ok (.ldc2_w 272, 3) := by decide +kernel
theorem d_MD_groundReport_28 : decode b_MD_groundReport 28 = .ok (.land, 1) := by decide +kernel
theorem d_MD_groundReport_29 : decode b_MD_groundReport 29 = .ok (.lconst 0, 1) := by decide +kernel
theorem d_MD_groundReport_30 : decode b_MD_groundReport 30 = .ok (.lcmp, 1) := by decide +kernel
theorem d_MD_groundReport_31 : decode b_MD_groundReport 31 = .ok (.ifCond .eq 7, 3) := by decide +kernel
theorem d_MD_groundReport_34 : decode b_MD_groundReport 34 = .ok (.iconst 1, 1) := by decide +kernel
theorem d_MD_groundReport_35 : decode b_MD_groundReport 35 = .ok (.goto 4, 3) := by decide +kernel
theorem d_MD_groundReport_38 : decode b_MD_groundReport 38 = .ok (.iconst 0, 1) := by decide +kernel
theorem d_MD_groundReport_39 : decode b_MD_groundReport 39 = .ok (.istore 5, 2) := by decide +kernel
theorem d_MD_groundReport_41 : decode b_MD_groundReport 41 = .ok (.aload_n 0, 1) := by decide +kernel
theorem d_MD_groundReport_42 : decode b_MD_groundReport 42 = .ok (.getfield 287, 3) := by decide +kernel
theorem d_MD_groundReport_45 : decode b_MD_groundReport 45 = .ok (.ifCond .ne 15, 3) := by decide +kernel
theorem d_MD_groundReport_48 : decode b_MD_groundReport 48 = .ok (.aload_n 0, 1) := by decide +kernel
theorem d_MD_groundReport_49 : decode b_MD_groundReport 49 = .ok (.iload_n 3, 1) := by decide +kernel
theorem d_MD_groundReport_50 : decode b_MD_groundReport 50 = .ok (.iload 4, 2) := by decide +kernel
theorem d_MD_groundReport_52 : decode b_MD_groundReport 52 = .ok (.iload 5, 2) := by decide +kernel
theorem d_MD_groundReport_54 : decode b_MD_groundReport 54 = .ok (.invokevirtual 302, 3) := by decide +kernel
theorem d_MD_groundReport_57 : decode b_MD_groundReport 57 = .ok (.goto 90, 3) := by decide +kernel
theorem d_MD_groundReport_60 : decode b_MD_groundReport 60 = .ok (.aload_n 0, 1) := by decide +kernel
theorem d_MD_groundReport_61 : decode b_MD_groundReport 61 = .ok (.getfield 287, 3) := by decide +kernel
theorem d_MD_groundReport_64 : decode b_MD_groundReport 64 = .ok (.iconst 1, 1) := by decide +kernel
theorem d_MD_groundReport_65 : decode b_MD_groundReport 65 = .ok (.if_icmp .ne 41, 3) := by decide +kernel
theorem d_MD_groundReport_68 : decode b_MD_groundReport 68 = .ok (.aload_n 0, 1) := by decide +kernel
theorem d_MD_groundReport_69 : decode b_MD_groundReport 69 = .ok (.aload_n 0, 1) := by decide +kernel
theorem d_MD_groundReport_70 : decode b_MD_groundReport 70 = .ok (.getfield 290, 3) := by decide +kernel
theorem d_MD_groundReport_73 : decode b_MD_groundReport 73 = .ok (.ifCond .ne 8, 3) := by decide +kernel
theorem d_MD_groundReport_76 : decode b_MD_groundReport 76 = .ok (.iload 4, 2) := by decide +kernel
theorem d_MD_groundReport_78 : decode b_MD_groundReport 78 = .ok (.ifCond .ne 7, 3) := by decide +kernel
theorem d_MD_groundReport_81 : decode b_MD_groundReport 81 = .ok (.iconst 1, 1) := by decide +kernel
theorem d_MD_groundReport_82 : decode b_MD_groundReport 82 = .ok (.goto 4, 3) := by decide +kernel
theorem d_MD_groundReport_85 : decode b_MD_groundReport 85 = .ok (.iconst 0, 1) := by decide +kernel
theorem d_MD_groundReport_86 : decode b_MD_groundReport 86 = .ok (.putfield 290, 3) := by decide +kernel
theorem d_MD_groundReport_89 : decode b_MD_groundReport 89 = .ok (.aload_n 0, 1) := by decide +kernel
theorem d_MD_groundReport_90 : decode b_MD_groundReport 90 = .ok (.iload 4, 2) := by decide +kernel
theorem d_MD_groundReport_92 : decode b_MD_groundReport 92 = .ok (.ifCond .eq 7, 3) := by decide +kernel
theorem d_MD_groundReport_95 : decode b_MD_groundReport 95 = .ok (.iconst 1, 1) := by decide +kernel
theorem d_MD_groundReport_96 : decode b_MD_groundReport 96 = .ok (.goto 4, 3) := by decide +kernel
theorem d_MD_groundReport_99 : decode b_MD_groundReport 99 = .ok (.iconst 2, 1) := by decide +kernel
theorem d_MD_groundReport_100 : decode b_MD_groundReport 100 = .ok (.putfield 287, 3) := by decide +kernel
theorem d_MD_groundReport_103 : decode b_MD_groundReport 103 = .ok (.goto 44, 3) := by decide +kernel
theorem d_MD_groundReport_106 : decode b_MD_groundReport 106 = .ok (.iload 4, 2) := by decide +kernel
theorem d_MD_groundReport_108 : decode b_MD_groundReport 108 = .ok (.ifCond .eq 16, 3) := by decide +kernel
theorem d_MD_groundReport_111 : decode b_MD_groundReport 111 = .ok (.aload_n 0, 1) := by decide +kernel
theorem d_MD_groundReport_112 : decode b_MD_groundReport 112 = .ok (.iconst 1, 1) := by decide +kernel
theorem d_MD_groundReport_113 : decode b_MD_groundReport 113 = .ok (.putfield 287, 3) := by decide +kernel
theorem d_MD_groundReport_116 : decode b_MD_groundReport 116 = .ok (.aload_n 0, 1) := by decide +kernel
theorem d_MD_groundReport_117 : decode b_MD_groundReport 117 = .ok (.iconst 1, 1) := by decide +kernel
theorem d_MD_groundReport_118 : decode b_MD_groundReport 118 = .ok (.putfield 290, 3) := by decide +kernel
theorem d_MD_groundReport_121 : decode b_MD_groundReport 121 = .ok (.goto 26, 3) := by decide +kernel
theorem d_MD_groundReport_124 : decode b_MD_groundReport 124 = .ok (.iload_n 3, 1) := by decide +kernel
theorem d_MD_groundReport_125 : decode b_MD_groundReport 125 = .ok (.aload_n 0, 1) := by decide +kernel
theorem d_MD_groundReport_126 : decode b_MD_groundReport 126 = .ok (.getfield 299, 3) := by decide +kernel
theorem d_MD_groundReport_129 : decode b_MD_groundReport 129 = .ok (.if_icmp .ne 18, 3) := by decide +kernel
theorem d_MD_groundReport_132 : decode b_MD_groundReport 132 = .ok (.iload 5, 2) := by decide +kernel
theorem d_MD_groundReport_134 : decode b_MD_groundReport 134 = .ok (.ifCond .ne 13, 3) := by decide +kernel
theorem d_MD_groundReport_137 : decode b_MD_groundReport 137 = .ok (.aload_n 0, 1) := by decide +kernel
theorem d_MD_groundReport_138 : decode b_MD_groundReport 138 = .ok (.iconst 0, 1) := by decide +kernel
theorem d_MD_groundReport_139 : decode b_MD_groundReport 139 = .ok (.putfield 287, 3) := by decide +kernel
theorem d_MD_groundReport_142 : decode b_MD_groundReport 142 = .ok (.aload_n 0, 1) := by decide +kernel
theorem d_MD_groundReport_143 : decode b_MD_groundReport 143 = .ok (.iconst 0, 1) := by decide +kernel
theorem d_MD_groundReport_144 : decode b_MD_groundReport 144 = .ok (.putfield 290, 3) := by decide +kernel
theorem d_MD_groundReport_147 : decode b_MD_groundReport 147 = .ok (.return_, 1) := by decide +kernel
theorem d_MD_activeReport_0 : decode b_MD_activeReport 0 = .ok (.iload_n 1, 1) := by decide +kernel
theorem d_MD_activeReport_1 : decode b_MD_activeReport 1 = .ok (.aload_n 0, 1) := by decide +kernel
theorem d_MD_activeReport_2 : decode b_MD_activeReport 2 = .ok (.getfield 299, 3) := by decide +kernel
theorem d_MD_activeReport_5 : decode b_MD_activeReport 5 = .ok (.aload_n 0, 1) := by decide +kernel
theorem d_MD_activeReport_6 : decode b_MD_activeReport 6 = .ok (.getfield 284, 3) := by decide +kernel
theorem d_MD_activeReport_9 : decode b_MD_activeReport 9 = .ok (.isub, 1) := by decide +kernel
theorem d_MD_activeReport_10 : decode b_MD_activeReport 10 = .ok (.isub, 1) := by decide +kernel
theorem d_MD_activeReport_11 : decode b_MD_activeReport 11 = .ok (.bipush 15, 2) := by decide +kernel
theorem d_MD_activeReport_13 : decode b_MD_activeReport 13 = .ok (.iand, 1) := by decide +kernel
theorem d_MD_activeReport_14 : decode b_MD_activeReport 14 = .ok (.istore 4, 2) := by decide +kernel
theorem d_MD_activeReport_16 : decode b_MD_activeReport 16 = .ok (.iload_n 2, 1) := by decide +kernel
theorem d_MD_activeReport_17 : decode b_MD_activeReport 17 = .ok (.ifCond .ne 12, 3) := by decide +kernel
theorem d_MD_activeReport_20 : decode b_MD_activeReport 20 = .ok (.iload 4, 2) := by decide +kernel
theorem d_MD_activeReport_22 : decode b_MD_activeReport 22 = .ok (.aload_n 0, 1) := by decide +kernel
theorem d_MD_activeReport_23 : decode b_MD_activeReport 23 = .ok (.getfield 284, 3) := by decide +kernel
theorem d_MD_activeReport_26 : decode b_MD_activeReport 26 = .ok (.if_icmp .le 17, 3) := by decide +kernel
theorem d_MD_activeReport_29 : decode b_MD_activeReport 29 = .ok (.aload_n 0, 1) := by decide +kernel
theorem d_MD_activeReport_30 : decode b_MD_activeReport 30 = .ok (.iload_n 2, 1) := by decide +kernel
theorem d_MD_activeReport_31 : decode b_MD_activeReport 31 = .ok (.ifCond .eq 7, 3) := by decide +kernel
theorem d_MD_activeReport_34 : decode b_MD_activeReport 34 = .ok (.iconst 1, 1) := by decide +kernel
theorem d_MD_activeReport_35 : decode b_MD_activeReport 35 = .ok (.goto 4, 3) := by decide +kernel
theorem d_MD_activeReport_38 : decode b_MD_activeReport 38 = .ok (.iconst 2, 1) := by decide +kernel
theorem d_MD_activeReport_39 : decode b_MD_activeReport 39 = .ok (.invokevirtual 306, 3) := by decide +kernel
theorem d_MD_activeReport_42 : decode b_MD_activeReport 42 = .ok (.return_, 1) := by decide +kernel
theorem d_MD_activeReport_43 : decode b_MD_activeReport 43 = .ok (.aload_n 0, 1) := by decide +kernel
theorem d_MD_activeReport_44 : decode b_MD_activeReport 44 = .ok (.aload_n 0, 1) := by decide +kernel
theorem d_MD_activeReport_45 : decode b_MD_activeReport 45 = .ok (.getfield 284, 3) := by decide +kernel
theorem d_MD_activeReport_48 : decode b_MD_activeReport 48 = .ok (.iload 4, 2) := by decide +kernel
theorem d_MD_activeReport_50 : decode b_MD_activeReport 50 = .ok (.isub, 1) := by decide +kernel
theorem d_MD_activeReport_51 : decode b_MD_activeReport 51 = .ok (.putfield 284, 3) := by decide +kernel
theorem d_MD_activeReport_54 : decode b_MD_activeReport 54 = .ok (.iload 4, 2) := by decide +kernel
theorem d_MD_activeReport_56 : decode b_MD_activeReport 56 = .ok (.ifCond .le 16, 3) := by decide +kernel
theorem d_MD_activeReport_59 : decode b_MD_activeReport 59 = .ok (.aload_n 0, 1) := by decide +kernel
theorem d_MD_activeReport_60 : decode b_MD_activeReport 60 = .ok (.iconst 1, 1) := by decide +kernel
theorem d_MD_activeReport_61 : decode b_MD_activeReport 61 = .ok (.putfield 84, 3) := by decide +kernel
theorem d_MD_activeReport_64 : decode b_MD_activeReport 64 = .ok (.aload_n 0, 1) := by decide +kernel
theorem d_MD_activeReport_65 : decode b_MD_activeReport 65 = .ok (.aload_n 0, 1) := by decide +kernel
theorem d_MD_activeReport_66 : decode b_MD_activeReport 66 = .ok (.getfield 139, 3) := by decide +kernel
theorem d_MD_activeReport_69 : decode b_MD_activeReport 69 = .ok (.putfield 296, 3) := by decide +kernel
theorem d_MD_activeReport_72 : decode b_MD_activeReport 72 = .ok (.iload_n 3, 1) := by decide +kernel
theorem d_MD_activeReport_73 : decode b_MD_activeReport 73 = .ok (.ifCond .ne 11, 3) := by decide +kernel
theorem d_MD_activeReport_76 : decode b_MD_activeReport 76 = .ok (.aload_n 0, 1) := by decide +kernel
theorem d_MD_activeReport_77 : decode b_MD_activeReport 77 = .ok (.iconst 0, 1) := by decide +kernel
theorem d_MD_activeReport_78 : decode b_MD_activeReport 78 = .ok (.putfield 293, 3) := by decide +kernel
theorem d_MD_activeReport_81 : decode b_MD_activeReport 81 = .ok (.goto 82, 3) := by decide +kernel
theorem d_MD_activeReport_84 : decode b_MD_activeReport 84 = .ok (.aload_n 0, 1) := by decide +kernel
theorem d_MD_activeReport_85 : decode b_MD_activeReport 85 = .ok (.getfield 284, 3) := by decide +kernel
theorem d_MD_activeReport_88 : decode b_MD_activeReport 88 = .ok (.ifCond .le 75, 3) := by decide +kernel
theorem d_MD_activeReport_91 : decode b_MD_activeReport 91 = .ok (.iload 4, 2) := by decide +kernel
theorem d_MD_activeReport_93 : decode b_MD_activeReport 93 = .ok (.ifCond .gt 10, 3) := by decide +kernel
theorem d_MD_activeReport_96 : decode b_MD_activeReport 96 = .ok (.aload_n 0, 1) := by decide +kernel
theorem d_MD_activeReport_97 : decode b_MD_activeReport 97 = .ok (.getfield 293, 3) := by decide +kernel
theorem d_MD_activeReport_100 : decode b_MD_activeReport 100 = .ok (.ifCond .ne 63, 3) := by decide +kernel
theorem d_MD_activeReport_103 : decode b_MD_activeReport 103 = .ok (.iload 4, 2) := by decide +kernel
theorem d_MD_activeReport_105 : decode b_MD_activeReport 105 = .ok (.ifCond .ne 19, 3) := by decide +kernel
theorem d_MD_activeReport_108 : decode b_MD_activeReport 108 = .ok (.aload_n 0, 1) := by decide +kernel
theorem d_MD_activeReport_109 : decode b_MD_activeReport 109 = .ok (.getfield 84, 3) := by decide +kernel
theorem d_MD_activeReport_112 : decode b_MD_activeReport 112 = .ok (.iconst 4, 1) := by decide +kernel
theorem d_MD_activeReport_113 : decode b_MD_activeReport 113 = .ok (.if_icmp .ne 11, 3) := by decide +kernel
theorem d_MD_activeReport_116 : decode b_MD_activeReport 116 = .ok (.aload_n 0, 1) := by decide +kernel
theorem d_MD_activeReport_117 : decode b_MD_activeReport 117 = .ok (.iconst 2, 1) := by decide +kernel
theorem d_MD_activeReport_118 : decode b_MD_activeReport 118 = .ok (.invokevirtual 306, 3) := by decide +kernel
theorem d_MD_activeReport_121 : decode b_MD_activeReport 121 = .ok (.goto 42, 3) := by decide +kernel
theorem d_MD_activeReport_124 : decode b_MD_activeReport 124 = .ok (.aload_n 0, 1) := by decide +kernel
theorem d_MD_activeReport_125 : decode b_MD_activeReport 125 = .ok (.iload 4, 2) := by decide +kernel
theorem d_MD_activeReport_127 : decode b_MD_activeReport 127 = .ok (.ifCond .ne 12, 3) := by decide +kernel
theorem d_MD_activeReport_130 : decode b_MD_activeReport 130 = .ok (.aload_n 0, 1) := by decide +kernel
theorem d_MD_activeReport_131 : decode b_MD_activeReport 131 = .ok (.getfield 84, 3) := by decide +kernel
theorem d_MD_activeReport_134 : decode b_MD_activeReport 134 = .ok (.iconst 1, 1) := by decide +kernel
theorem d_MD_activeReport_135 : decode b_MD_activeReport 135 = .ok (.iadd, 1) := by decide +kernel
theorem d_MD_activeReport_136 : decode b_MD_activeReport 136 = .ok (.goto 7, 3) := by decide +kernel
theorem d_MD_activeReport_139 : decode b_MD_activeReport 139 = .ok (.aload_n 0, 1) := by decide +kernel
theorem d_MD_activeReport_140 : decode b_MD_activeReport 140 = .ok (.getfield 84, 3) := by decide +kernel
theorem d_MD_activeReport_143 : decode b_MD_activeReport 143 = .ok (.putfield 84, 3) := by decide +kernel
theorem d_MD_activeReport_146 : decode b_MD_activeReport 146 = .ok (.aload_n 0, 1) := by decide +kernel
theorem d_MD_activeReport_147 : decode b_MD_activeReport 147 = .ok (.invokevirtual 309, 3) := by decide +kernel
theorem d_MD_activeReport_150 : decode b_MD_activeReport 150 = .ok (.aload_n 0, 1) := by decide +kernel
theorem d_MD_activeReport_151 : decode b_MD_activeReport 151 = .ok (.iconst 1, 1) := by decide +kernel
theorem d_MD_activeReport_152 : decode b_MD_activeReport 152 = .ok (.putfield 293, 3) := by decide +kernel
theorem d_MD_activeReport_155 : decode b_MD_activeReport 155 = .ok (.aload_n 0, 1) := by decide +kernel
theorem d_MD_activeReport_156 : decode b_MD_activeReport 156 = .ok (.aload_n 0, 1) := by decide +kernel
theorem d_MD_activeReport_157 : decode b_MD_activeReport 157 = .ok (.getfield 139, 3) := by decide +kernel
theorem d_MD_activeReport_160 : decode b_MD_activeReport 160 = .ok (.putfield 296, 3) := by decide +kernel
theorem d_MD_activeReport_163 : decode b_MD_activeReport 163 = .ok (.return_, 1) := by decide +kernel
theorem d_MD_end_0 : decode b_MD_end 0 = .ok (.aload_n 0, 1) := by decide +kernel
theorem d_MD_end_1 : decode b_MD_end 1 = .ok (.getfield 48, 3) := by decide +kernel
theorem d_MD_end_4 : decode b_MD_end 4 = .ok (.iload_n 1, 1) := by decide +kernel
theorem d_MD_end_5 : decode b_MD_end 5 = .ok (.iconst 1, 1) := by decide +kernel
theorem d_MD_end_6 : decode b_MD_end 6 = .ok (.bastore, 1) := by decide +kernel
theorem d_MD_end_7 : decode b_MD_end 7 = .ok (.aload_n 0, 1) := by decide +kernel
theorem d_MD_end_8 : decode b_MD_end 8 = .ok (.getfield 51, 3) := by decide +kernel
theorem d_MD_end_11 : decode b_MD_end 11 = .ok (.iload_n 1, 1) := by decide +kernel
theorem d_MD_end_12 : decode b_MD_end 12 = .ok (.iload_n 2, 1) := by decide +kernel
theorem d_MD_end_13 : decode b_MD_end 13 = .ok (.iastore, 1) := by decide +kernel
theorem d_MD_end_14 : decode b_MD_end 14 = .ok (.aload_n 0, 1) := by decide +kernel
theorem d_MD_end_15 : decode b_MD_end 15 = .ok (.getfield 54, 3) := by decide +kernel
theorem d_MD_end_18 : decode b_MD_end 18 = .ok (.iload_n 1, 1) := by decide +kernel
theorem d_MD_end_19 : decode b_MD_end 19 = .ok (.aload_n 0, 1) := by decide +kernel
theorem d_MD_end_20 : decode b_MD_end 20 = .ok (.getfield 54, 3) := by decide +kernel
theorem d_MD_end_23 : decode b_MD_end 23 = .ok (.iload_n 1, 1) := by decide +kernel
theorem d_MD_end_24 : decode b_MD_end 24 = .ok (.iaload, 1) := by decide +kernel
theorem d_MD_end_25 : decode b_MD_end 25 = .ok (.ldc_w 312, 3) := by decide +kernel
theorem d_MD_end_28 : decode b_MD_end 28 = .ok (.iand, 1) := by decide +kernel
theorem d_MD_end_29 : decode b_MD_end 29 = .ok (.iastore, 1) := by decide +kernel
theorem d_MD_end_30 : decode b_MD_end 30 = .ok (.aload_n 0, 1) := by decide +kernel
theorem d_MD_end_31 : decode b_MD_end 31 = .ok (.getfield 63, 3) := by decide +kernel
theorem d_MD_end_34 : decode b_MD_end 34 = .ok (.iload_n 1, 1) := by decide +kernel
theorem d_MD_end_35 : decode b_MD_end 35 = .ok (.iconst 0, 1) := by decide +kernel
theorem d_MD_end_36 : decode b_MD_end 36 = .ok (.bastore, 1) := by decide +kernel
theorem d_MD_end_37 : decode b_MD_end 37 = .ok (.aload_n 0, 1) := by decide +kernel
theorem d_MD_end_38 : decode b_MD_end 38 = .ok (.dup, 1) := by decide +kernel
theorem d_MD_end_39 : decode b_MD_end 39 = .ok (.getfield 267, 3) := by decide +kernel
theorem d_MD_end_42 : decode b_MD_end 42 = .ok (.iconst 1, 1) := by decide +kernel
theorem d_MD_end_43 : decode b_MD_end 43 = .ok (.iadd, 1) := by decide +kernel
theorem d_MD_end_44 : decode b_MD_end 44 = .ok (.putfield 267, 3) := by decide +kernel
theorem d_MD_end_47 : decode b_MD_end 47 = .ok (.return_, 1) := by decide +kernel
theorem d_MD_frameClocks_0 : decode b_MD_frameClocks 0 = .ok (.aload_n 0, 1) := by decide +kernel
theorem d_MD_frameClocks_1 : decode b_MD_frameClocks 1 = .ok (.getfield 287, 3) := by decide +kernel
theorem d_MD_frameClocks_4 : decode b_MD_frameClocks 4 = .ok (.ifCond .ne 11, 3) := by decide +kernel
theorem d_MD_frameClocks_7 : decode b_MD_frameClocks 7 = .ok (.aload_n 0, 1) := by decide +kernel
theorem d_MD_frameClocks_8 : decode b_MD_frameClocks 8 = .ok (.getfield 284, 3) := by decide +kernel
theorem d_MD_frameClocks_11 : decode b_MD_frameClocks 11 = .ok (.ifCond .ne 4, 3) := by decide +kernel
theorem d_MD_frameClocks_14 : decode b_MD_frameClocks 14 = .ok (.return_, 1) := by decide +kernel
theorem d_MD_frameClocks_15 : decode b_MD_frameClocks 15 = .ok (.aload_n 0, 1) := by decide +kernel
theorem d_MD_frameClocks_16 : decode b_MD_frameClocks 16 = .ok (.dup, 1) := by decide +kernel
theorem d_MD_frameClocks_17 : decode b_MD_frameClocks 17 = .ok (.getfield 296, 3) := by decide +kernel
theorem d_MD_frameClocks_20 : decode b_MD_frameClocks 20 = .ok (.iconst 1, 1) := by decide +kernel
theorem d_MD_frameClocks_21 : decode b_MD_frameClocks 21 = .ok (.isub, 1) := by decide +kernel
theorem d_MD_frameClocks_22 : decode b_MD_frameClocks 22 = .ok (.putfield 296, 3) := by decide +kernel
theorem d_MD_frameClocks_25 : decode b_MD_frameClocks 25 = .ok (.aload_n 0, 1) := by decide +kernel
theorem d_MD_frameClocks_26 : decode b_MD_frameClocks 26 = .ok (.getfield 296, 3) := by decide +kernel
theorem d_MD_frameClocks_29 : decode b_MD_frameClocks 29 = .ok (.ifCond .le 4, 3) := by decide +kernel
theorem d_MD_frameClocks_32 : decode b_MD_frameClocks 32 = .ok (.return_, 1) := by decide +kernel
theorem d_MD_frameClocks_33 : decode b_MD_frameClocks 33 = .ok (.aload_n 0, 1) := by decide +kernel
theorem d_MD_frameClocks_34 : decode b_MD_frameClocks 34 = .ok (.getfield 287, 3) := by decide +kernel
theorem d_MD_frameClocks_37 : decode b_MD_frameClocks 37 = .ok (.ifCond .ne 17, 3) := by decide +kernel
theorem d_MD_frameClocks_40 : decode b_MD_frameClocks 40 = .ok (.aload_n 0, 1) := by decide +kernel
theorem d_MD_frameClocks_41 : decode b_MD_frameClocks 41 = .ok (.getfield 84, 3) := by decide +kernel
theorem d_MD_frameClocks_44 : decode b_MD_frameClocks 44 = .ok (.iconst 4, 1) := by decide +kernel
theorem d_MD_frameClocks_45 : decode b_MD_frameClocks 45 = .ok (.if_icmp .ne 9, 3) := by decide +kernel
theorem d_MD_frameClocks_48 : decode b_MD_frameClocks 48 = .ok (.aload_n 0, 1) := by decide +kernel
theorem d_MD_frameClocks_49 : decode b_MD_frameClocks 49 = .ok (.iconst 2, 1) := by decide +kernel
theorem d_MD_frameClocks_50 : decode b_MD_frameClocks 50 = .ok (.invokevirtual 306, 3) := by decide +kernel
theorem d_MD_frameClocks_53 : decode b_MD_frameClocks 53 = .ok (.return_, 1) := by decide +kernel
theorem d_MD_frameClocks_54 : decode b_MD_frameClocks 54 = .ok (.aload_n 0, 1) := by decide +kernel
theorem d_MD_frameClocks_55 : decode b_MD_frameClocks 55 = .ok (.aload_n 0, 1) := by decide +kernel
theorem d_MD_frameClocks_56 : decode b_MD_frameClocks 56 = .ok (.getfield 139, 3) := by decide +kernel
theorem d_MD_frameClocks_59 : decode b_MD_frameClocks 59 = .ok (.putfield 296, 3) := by decide +kernel
theorem d_MD_frameClocks_62 : decode b_MD_frameClocks 62 = .ok (.aload_n 0, 1) := by decide +kernel
theorem d_MD_frameClocks_63 : decode b_MD_frameClocks 63 = .ok (.getfield 287, 3) := by decide +kernel
theorem d_MD_frameClocks_66 : decode b_MD_frameClocks 66 = .ok (.ifCond .eq 11, 3) := by decide +kernel
theorem d_MD_frameClocks_69 : decode b_MD_frameClocks 69 = .ok (.aload_n 0, 1) := by decide +kernel
theorem d_MD_frameClocks_70 : decode b_MD_frameClocks 70 = .ok (.iconst 1, 1) := by decide +kernel
theorem d_MD_frameClocks_71 : decode b_MD_frameClocks 71 = .ok (.putfield 290, 3) := by decide +kernel
theorem d_MD_frameClocks_74 : decode b_MD_frameClocks 74 = .ok (.goto 17, 3) := by decide +kernel
theorem d_MD_frameClocks_77 : decode b_MD_frameClocks 77 = .ok (.aload_n 0, 1) := by decide +kernel
theorem d_MD_frameClocks_78 : decode b_MD_frameClocks 78 = .ok (.dup, 1) := by decide +kernel
theorem d_MD_frameClocks_79 : decode b_MD_frameClocks 79 = .ok (.getfield 84, 3) := by decide +kernel
theorem d_MD_frameClocks_82 : decode b_MD_frameClocks 82 = .ok (.iconst 1, 1) := by decide +kernel
theorem d_MD_frameClocks_83 : decode b_MD_frameClocks 83 = .ok (.iadd, 1) := by decide +kernel
theorem d_MD_frameClocks_84 : decode b_MD_frameClocks 84 = .ok (.putfield 84, 3) := by decide +kernel
theorem d_MD_frameClocks_87 : decode b_MD_frameClocks 87 = .ok (.aload_n 0, 1) := by decide +kernel
theorem d_MD_frameClocks_88 : decode b_MD_frameClocks 88 = .ok (.invokevirtual 309, 3) := by decide +kernel
theorem d_MD_frameClocks_91 : decode b_MD_frameClocks 91 = .ok (.return_, 1) := by decide +kernel
