theorem dX7_setLevel_4 : decode cX7_setLevel 4 = .ok (.sipush 10000, 3) := by decide +kernel
theorem dX7_setLevel_7 : decode cX7_setLevel 7 = .ok (.invokestatic 37, 3) := by decide +kernel
theorem dX7_setLevel_10 : decode cX7_setLevel 10 = .ok (.ifCond .ne 13, 3) := by decide +kernel
theorem dX7_setLevel_13 : decode cX7_setLevel 13 = .ok (.new 41, 3) := by decide +kernel
theorem dX7_setLevel_16 : decode cX7_setLevel 16 = .ok (.dup, 1) := by decide +kernel
theorem dX7_setLevel_17 : decode cX7_setLevel 17 = .ok (.ldc 90, 2) := by decide +kernel
theorem dX7_setLevel_19 : decode cX7_setLevel 19 = .ok (.invokespecial 45, 3) := by decide +kernel
theorem dX7_setLevel_22 : decode cX7_setLevel 22 = .ok (.athrow, 1) := by decide +kernel
theorem dX7_setLevel_23 : decode cX7_setLevel 23 = .ok (.aload_n 0, 1) := by decide +kernel
theorem dX7_setLevel_24 : decode cX7_setLevel 24 = .ok (.getfield 10, 3) := by decide +kernel
theorem dX7_setLevel_27 : decode cX7_setLevel 27 = .ok (.getfield 92, 3) := by decide +kernel
theorem dX7_setLevel_30 : decode cX7_setLevel 30 = .ok (.istore_n 2, 1) := by decide +kernel
theorem dX7_setLevel_31 : decode cX7_setLevel 31 = .ok (.aload_n 0, 1) := by decide +kernel
theorem dX7_setLevel_32 : decode cX7_setLevel 32 = .ok (.getfield 10, 3) := by decide +kernel
theorem dX7_setLevel_35 : decode cX7_setLevel 35 = .ok (.iload_n 1, 1) := by decide +kernel
theorem dX7_setLevel_36 : decode cX7_setLevel 36 = .ok (.putfield 92, 3) := by decide +kernel
theorem dX7_setLevel_39 : decode cX7_setLevel 39 = .ok (.aload_n 0, 1) := by decide +kernel
theorem dX7_setLevel_40 : decode cX7_setLevel 40 = .ok (.iconst 1, 1) := by decide +kernel
theorem dX7_setLevel_41 : decode cX7_setLevel 41 = .ok (.putfield 33, 3) := by decide +kernel
theorem dX7_setLevel_44 : decode cX7_setLevel 44 = .ok (.iload_n 2, 1) := by decide +kernel
theorem dX7_setLevel_45 : decode cX7_setLevel 45 = .ok (.ireturn, 1) := by decide +kernel
theorem dX7_height_0 : decode cX7_height 0 = .ok (.iload_n 1, 1) := by decide +kernel
theorem dX7_height_1 : decode cX7_height 1 = .ok (.invokestatic 95, 3) := by decide +kernel
theorem dX7_height_4 : decode cX7_height 4 = .ok (.ifCond .ne 13, 3) := by decide +kernel
theorem dX7_height_7 : decode cX7_height 7 = .ok (.new 41, 3) := by decide +kernel
theorem dX7_height_10 : decode cX7_height 10 = .ok (.dup, 1) := by decide +kernel
theorem dX7_height_11 : decode cX7_height 11 = .ok (.ldc 98, 2) := by decide +kernel
theorem dX7_height_13 : decode cX7_height 13 = .ok (.invokespecial 45, 3) := by decide +kernel
theorem dX7_height_16 : decode cX7_height 16 = .ok (.athrow, 1) := by decide +kernel
theorem dX7_height_17 : decode cX7_height 17 = .ok (.aload_n 0, 1) := by decide +kernel
theorem dX7_height_18 : decode cX7_height 18 = .ok (.getfield 10, 3) := by decide +kernel
theorem dX7_height_21 : decode cX7_height 21 = .ok (.iload_n 1, 1) := by decide +kernel
theorem dX7_height_22 : decode cX7_height 22 = .ok (.invokevirtual 100, 3) := by decide +kernel
theorem dX7_height_25 : decode cX7_height 25 = .ok (.ireturn, 1) := by decide +kernel
theorem dX7_waveHeight_0 : decode cX7_waveHeight 0 = .ok (.aload_n 0, 1) := by decide +kernel
theorem dX7_waveHeight_1 : decode cX7_waveHeight 1 = .ok (.iload_n 1, 1) := by decide +kernel
theorem dX7_waveHeight_2 : decode cX7_waveHeight 2 = .ok (.invokevirtual 73, 3) := by decide +kernel
theorem dX7_waveHeight_5 : decode cX7_waveHeight 5 = .ok (.ifCond .ne 13, 3) := by decide +kernel
theorem dX7_waveHeight_8 : decode cX7_waveHeight 8 = .ok (.new 77, 3) := by decide +kernel
theorem dX7_waveHeight_11 : decode cX7_waveHeight 11 = .ok (.dup, 1) := by decide +kernel
theorem dX7_waveHeight_12 : decode cX7_waveHeight 12 = .ok (.ldc 79, 2) := by decide +kernel
theorem dX7_waveHeight_14 : decode cX7_waveHeight 14 = .ok (.invokespecial 81, 3) := by decide +kernel
theorem dX7_waveHeight_17 : decode cX7_waveHeight 17 = .ok (.athrow, 1) := by decide +kernel
theorem dX7_waveHeight_18 : decode cX7_waveHeight 18 = .ok (.iload_n 2, 1) := by decide +kernel
theorem dX7_waveHeight_19 : decode cX7_waveHeight 19 = .ok (.invokestatic 95, 3) := by decide +kernel
theorem dX7_waveHeight_22 : decode cX7_waveHeight 22 = .ok (.ifCond .ne 13, 3) := by decide +kernel
theorem dX7_waveHeight_25 : decode cX7_waveHeight 25 = .ok (.new 41, 3) := by decide +kernel
theorem dX7_waveHeight_28 : decode cX7_waveHeight 28 = .ok (.dup, 1) := by decide +kernel
theorem dX7_waveHeight_29 : decode cX7_waveHeight 29 = .ok (.ldc 98, 2) := by decide +kernel
theorem dX7_waveHeight_31 : decode cX7_waveHeight 31 = .ok (.invokespecial 45, 3) := by decide +kernel
theorem dX7_waveHeight_34 : decode cX7_waveHeight 34 = .ok (.athrow, 1) := by decide +kernel
theorem dX7_waveHeight_35 : decode cX7_waveHeight 35 = .ok (.aload_n 0, 1) := by decide +kernel
theorem dX7_waveHeight_36 : decode cX7_waveHeight 36 = .ok (.getfield 10, 3) := by decide +kernel
theorem dX7_waveHeight_39 : decode cX7_waveHeight 39 = .ok (.getfield 52, 3) := by decide +kernel
theorem dX7_waveHeight_42 : decode cX7_waveHeight 42 = .ok (.iload_n 1, 1) := by decide +kernel
theorem dX7_waveHeight_43 : decode cX7_waveHeight 43 = .ok (.invokevirtual 82, 3) := by decide +kernel
theorem dX7_waveHeight_46 : decode cX7_waveHeight 46 = .ok (.checkcast 64, 3) := by decide +kernel
theorem dX7_waveHeight_49 : decode cX7_waveHeight 49 = .ok (.iload_n 2, 1) := by decide +kernel
theorem dX7_waveHeight_50 : decode cX7_waveHeight 50 = .ok (.invokevirtual 104, 3) := by decide +kernel
theorem dX7_waveHeight_53 : decode cX7_waveHeight 53 = .ok (.ireturn, 1) := by decide +kernel
theorem dX7_count_0 : decode cX7_count 0 = .ok (.iload_n 1, 1) := by decide +kernel
theorem dX7_count_1 : decode cX7_count 1 = .ok (.iconst 0, 1) := by decide +kernel
theorem dX7_count_2 : decode cX7_count 2 = .ok (.iconst 3, 1) := by decide +kernel
theorem dX7_count_3 : decode cX7_count 3 = .ok (.invokestatic 37, 3) := by decide +kernel
theorem dX7_count_6 : decode cX7_count 6 = .ok (.ifCond .ne 13, 3) := by decide +kernel
theorem dX7_count_9 : decode cX7_count 9 = .ok (.new 77, 3) := by decide +kernel
theorem dX7_count_12 : decode cX7_count 12 = .ok (.dup, 1) := by decide +kernel
theorem dX7_count_13 : decode cX7_count 13 = .ok (.ldc 105, 2) := by decide +kernel
theorem dX7_count_15 : decode cX7_count 15 = .ok (.invokespecial 81, 3) := by decide +kernel
theorem dX7_count_18 : decode cX7_count 18 = .ok (.athrow, 1) := by decide +kernel
theorem dX7_count_19 : decode cX7_count 19 = .ok (.aload_n 0, 1) := by decide +kernel
theorem dX7_count_20 : decode cX7_count 20 = .ok (.iload_n 1, 1) := by decide +kernel
theorem dX7_count_21 : decode cX7_count 21 = .ok (.invokevirtual 107, 3) := by decide +kernel
theorem dX7_count_24 : decode cX7_count 24 = .ok (.ireturn, 1) := by decide +kernel
theorem dX7_water_0 : decode cX7_water 0 = .ok (.aload_n 0, 1) := by decide +kernel
theorem dX7_water_1 : decode cX7_water 1 = .ok (.invokevirtual 110, 3) := by decide +kernel
theorem dX7_water_4 : decode cX7_water 4 = .ok (.astore_n 3, 1) := by decide +kernel
theorem dX7_water_5 : decode cX7_water 5 = .ok (.aload_n 3, 1) := by decide +kernel
theorem dX7_water_6 : decode cX7_water 6 = .ok (.iload_n 1, 1) := by decide +kernel
theorem dX7_water_7 : decode cX7_water 7 = .ok (.invokevirtual 114, 3) := by decide +kernel
theorem dX7_water_10 : decode cX7_water 10 = .ok (.ifCond .ne 13, 3) := by decide +kernel
theorem dX7_water_13 : decode cX7_water 13 = .ok (.new 77, 3) := by decide +kernel
theorem dX7_water_16 : decode cX7_water 16 = .ok (.dup, 1) := by decide +kernel
theorem dX7_water_17 : decode cX7_water 17 = .ok (.ldc 117, 2) := by decide +kernel
theorem dX7_water_19 : decode cX7_water 19 = .ok (.invokespecial 81, 3) := by decide +kernel
theorem dX7_water_22 : decode cX7_water 22 = .ok (.athrow, 1) := by decide +kernel
theorem dX7_water_23 : decode cX7_water 23 = .ok (.iload_n 2, 1) := by decide +kernel
theorem dX7_water_24 : decode cX7_water 24 = .ok (.tableswitch 54 0 2 #[28, 34, 40], 28) := by decide +kernel
theorem dX7_water_52 : decode cX7_water 52 = .ok (.aload_n 3, 1) := by decide +kernel
theorem dX7_water_53 : decode cX7_water 53 = .ok (.iload_n 1, 1) := by decide +kernel
theorem dX7_water_54 : decode cX7_water 54 = .ok (.invokevirtual 119, 3) := by decide +kernel
theorem dX7_water_57 : decode cX7_water 57 = .ok (.ireturn, 1) := by decide +kernel
theorem dX7_water_58 : decode cX7_water 58 = .ok (.aload_n 3, 1) := by decide +kernel
theorem dX7_water_59 : decode cX7_water 59 = .ok (.iload_n 1, 1) := by decide +kernel
theorem dX7_water_60 : decode cX7_water 60 = .ok (.invokevirtual 122, 3) := by decide +kernel
theorem dX7_water_63 : decode cX7_water 63 = .ok (.ireturn, 1) := by decide +kernel
theorem dX7_water_64 : decode cX7_water 64 = .ok (.aload_n 3, 1) := by decide +kernel
theorem dX7_water_65 : decode cX7_water 65 = .ok (.iload_n 1, 1) := by decide +kernel
theorem dX7_water_66 : decode cX7_water 66 = .ok (.invokevirtual 125, 3) := by decide +kernel
theorem dX7_water_69 : decode cX7_water 69 = .ok (.ifCond .eq 7, 3) := by decide +kernel
theorem dX7_water_72 : decode cX7_water 72 = .ok (.iconst 1, 1) := by decide +kernel
theorem dX7_water_73 : decode cX7_water 73 = .ok (.goto 4, 3) := by decide +kernel
theorem dX7_water_76 : decode cX7_water 76 = .ok (.iconst 0, 1) := by decide +kernel
theorem dX7_water_77 : decode cX7_water 77 = .ok (.ireturn, 1) := by decide +kernel
theorem dX7_water_78 : decode cX7_water 78 = .ok (.new 77, 3) := by decide +kernel
theorem dX7_water_81 : decode cX7_water 81 = .ok (.dup, 1) := by decide +kernel
theorem dX7_water_82 : decode cX7_water 82 = .ok (.ldc 128, 2) := by decide +kernel
theorem dX7_water_84 : decode cX7_water 84 = .ok (.invokespecial 81, 3) := by decide +kernel
theorem dX7_water_87 : decode cX7_water 87 = .ok (.athrow, 1) := by decide +kernel
theorem dX7_next_0 : decode cX7_next 0 = .ok (.iload_n 1, 1) := by decide +kernel
theorem dX7_next_1 : decode cX7_next 1 = .ok (.invokestatic 95, 3) := by decide +kernel
theorem dX7_next_4 : decode cX7_next 4 = .ok (.ifCond .ne 13, 3) := by decide +kernel
theorem dX7_next_7 : decode cX7_next 7 = .ok (.new 41, 3) := by decide +kernel
theorem dX7_next_10 : decode cX7_next 10 = .ok (.dup, 1) := by decide +kernel
theorem dX7_next_11 : decode cX7_next 11 = .ok (.ldc 98, 2) := by decide +kernel
theorem dX7_next_13 : decode cX7_next 13 = .ok (.invokespecial 45, 3) := by decide +kernel
theorem dX7_next_16 : decode cX7_next 16 = .ok (.athrow, 1) := by decide +kernel
theorem dX7_next_17 : decode cX7_next 17 = .ok (.aload_n 0, 1) := by decide +kernel
theorem dX7_next_18 : decode cX7_next 18 = .ok (.invokevirtual 110, 3) := by decide +kernel
theorem dX7_next_21 : decode cX7_next 21 = .ok (.astore_n 3, 1) := by decide +kernel
theorem dX7_next_22 : decode cX7_next 22 = .ok (.iconst 0, 1) := by decide +kernel
theorem dX7_next_23 : decode cX7_next 23 = .ok (.istore 4, 2) := by decide +kernel
theorem dX7_next_25 : decode cX7_next 25 = .ok (.iload 4, 2) := by decide +kernel
theorem dX7_next_27 : decode cX7_next 27 = .ok (.aload_n 3, 1) := by decide +kernel
theorem dX7_next_28 : decode cX7_next 28 = .ok (.getfield 130, 3) := by decide +kernel
theorem dX7_next_31 : decode cX7_next 31 = .ok (.if_icmp .ge 32, 3) := by decide +kernel
theorem dX7_next_34 : decode cX7_next 34 = .ok (.aload_n 3, 1) := by decide +kernel
theorem dX7_next_35 : decode cX7_next 35 = .ok (.iload 4, 2) := by decide +kernel
theorem dX7_next_37 : decode cX7_next 37 = .ok (.invokevirtual 119, 3) := by decide +kernel
theorem dX7_next_40 : decode cX7_next 40 = .ok (.iload_n 1, 1) := by decide +kernel
theorem dX7_next_41 : decode cX7_next 41 = .ok (.if_icmp .lt 16, 3) := by decide +kernel
theorem dX7_next_44 : decode cX7_next 44 = .ok (.aload_n 3, 1) := by decide +kernel
theorem dX7_next_45 : decode cX7_next 45 = .ok (.iload 4, 2) := by decide +kernel
theorem dX7_next_47 : decode cX7_next 47 = .ok (.invokevirtual 125, 3) := by decide +kernel
theorem dX7_next_50 : decode cX7_next 50 = .ok (.iload_n 2, 1) := by decide +kernel
theorem dX7_next_51 : decode cX7_next 51 = .ok (.if_icmp .ne 6, 3) := by decide +kernel
theorem dX7_next_54 : decode cX7_next 54 = .ok (.iload 4, 2) := by decide +kernel
theorem dX7_next_56 : decode cX7_next 56 = .ok (.ireturn, 1) := by decide +kernel
theorem dX7_next_57 : decode cX7_next 57 = .ok (.iinc 4 1, 3) := by decide +kernel
theorem dX7_next_60 : decode cX7_next 60 = .ok (.goto (-35), 3) := by decide +kernel
theorem dX7_next_63 : decode cX7_next 63 = .ok (.iconst (-1), 1) := by decide +kernel
theorem dX7_next_64 : decode cX7_next 64 = .ok (.ireturn, 1) := by decide +kernel
theorem dX7_datum_0 : decode cX7_datum 0 = .ok (.iload_n 1, 1) := by decide +kernel
theorem dX7_datum_1 : decode cX7_datum 1 = .ok (.iconst 0, 1) := by decide +kernel
theorem dX7_datum_2 : decode cX7_datum 2 = .ok (.iconst 4, 1) := by decide +kernel
theorem dX7_datum_3 : decode cX7_datum 3 = .ok (.invokestatic 37, 3) := by decide +kernel
theorem dX7_datum_6 : decode cX7_datum 6 = .ok (.ifCond .ne 13, 3) := by decide +kernel
theorem dX7_datum_9 : decode cX7_datum 9 = .ok (.new 77, 3) := by decide +kernel
theorem dX7_datum_12 : decode cX7_datum 12 = .ok (.dup, 1) := by decide +kernel
theorem dX7_datum_13 : decode cX7_datum 13 = .ok (.ldc 133, 2) := by decide +kernel
theorem dX7_datum_15 : decode cX7_datum 15 = .ok (.invokespecial 81, 3) := by decide +kernel
theorem dX7_datum_18 : decode cX7_datum 18 = .ok (.athrow, 1) := by decide +kernel
theorem dX7_datum_19 : decode cX7_datum 19 = .ok (.aload_n 0, 1) := by decide +kernel
theorem dX7_datum_20 : decode cX7_datum 20 = .ok (.invokevirtual 110, 3) := by decide +kernel
theorem dX7_datum_23 : decode cX7_datum 23 = .ok (.iload_n 1, 1) := by decide +kernel
theorem dX7_datum_24 : decode cX7_datum 24 = .ok (.invokevirtual 135, 3) := by decide +kernel
theorem dX7_datum_27 : decode cX7_datum 27 = .ok (.ireturn, 1) := by decide +kernel
theorem dX7_addPort_0 : decode cX7_addPort 0 = .ok (.aload_n 0, 1) := by decide +kernel
theorem dX7_addPort_1 : decode cX7_addPort 1 = .ok (.getfield 26, 3) := by decide +kernel
theorem dX7_addPort_4 : decode cX7_addPort 4 = .ok (.invokevirtual 55, 3) := by decide +kernel
theorem dX7_addPort_7 : decode cX7_addPort 7 = .ok (.bipush 6, 2) := by decide +kernel
theorem dX7_addPort_9 : decode cX7_addPort 9 = .ok (.if_icmp .lt 13, 3) := by decide +kernel
theorem dX7_addPort_12 : decode cX7_addPort 12 = .ok (.new 59, 3) := by decide +kernel
theorem dX7_addPort_15 : decode cX7_addPort 15 = .ok (.dup, 1) := by decide +kernel
theorem dX7_addPort_16 : decode cX7_addPort 16 = .ok (.ldc 138, 2) := by decide +kernel
theorem dX7_addPort_18 : decode cX7_addPort 18 = .ok (.invokespecial 63, 3) := by decide +kernel
theorem dX7_addPort_21 : decode cX7_addPort 21 = .ok (.athrow, 1) := by decide +kernel
theorem dX7_addPort_22 : decode cX7_addPort 22 = .ok (.aload_n 0, 1) := by decide +kernel
theorem dX7_addPort_23 : decode cX7_addPort 23 = .ok (.getfield 26, 3) := by decide +kernel
theorem dX7_addPort_26 : decode cX7_addPort 26 = .ok (.new 140, 3) := by decide +kernel
theorem dX7_addPort_29 : decode cX7_addPort 29 = .ok (.dup, 1) := by decide +kernel
theorem dX7_addPort_30 : decode cX7_addPort 30 = .ok (.invokespecial 142, 3) := by decide +kernel
theorem dX7_addPort_33 : decode cX7_addPort 33 = .ok (.invokevirtual 69, 3) := by decide +kernel
theorem dX7_addPort_36 : decode cX7_addPort 36 = .ok (.pop, 1) := by decide +kernel
theorem dX7_addPort_37 : decode cX7_addPort 37 = .ok (.aload_n 0, 1) := by decide +kernel
theorem dX7_addPort_38 : decode cX7_addPort 38 = .ok (.getfield 26, 3) := by decide +kernel
theorem dX7_addPort_41 : decode cX7_addPort 41 = .ok (.invokevirtual 55, 3) := by decide +kernel
theorem dX7_addPort_44 : decode cX7_addPort 44 = .ok (.iconst 1, 1) := by decide +kernel
theorem dX7_addPort_45 : decode cX7_addPort 45 = .ok (.isub, 1) := by decide +kernel
theorem dX7_addPort_46 : decode cX7_addPort 46 = .ok (.ireturn, 1) := by decide +kernel
theorem dX7_setPort_0 : decode cX7_setPort 0 = .ok (.aload_n 0, 1) := by decide +kernel
theorem dX7_setPort_1 : decode cX7_setPort 1 = .ok (.iload_n 1, 1) := by decide +kernel
theorem dX7_setPort_2 : decode cX7_setPort 2 = .ok (.invokevirtual 143, 3) := by decide +kernel
theorem dX7_setPort_5 : decode cX7_setPort 5 = .ok (.ifCond .ne 13, 3) := by decide +kernel
theorem dX7_setPort_8 : decode cX7_setPort 8 = .ok (.new 77, 3) := by decide +kernel
theorem dX7_setPort_11 : decode cX7_setPort 11 = .ok (.dup, 1) := by decide +kernel
theorem dX7_setPort_12 : decode cX7_setPort 12 = .ok (.ldc 146, 2) := by decide +kernel
theorem dX7_setPort_14 : decode cX7_setPort 14 = .ok (.invokespecial 81, 3) := by decide +kernel
theorem dX7_setPort_17 : decode cX7_setPort 17 = .ok (.athrow, 1) := by decide +kernel
theorem dX7_setPort_18 : decode cX7_setPort 18 = .ok (.iload_n 3, 1) := by decide +kernel
theorem dX7_setPort_19 : decode cX7_setPort 19 = .ok (.sipush (-300), 3) := by decide +kernel
theorem dX7_setPort_22 : decode cX7_setPort 22 = .ok (.sipush 300, 3) := by decide +kernel
theorem dX7_setPort_25 : decode cX7_setPort 25 = .ok (.invokestatic 37, 3) := by decide +kernel
theorem dX7_setPort_28 : decode cX7_setPort 28 = .ok (.ifCond .ne 13, 3) := by decide +kernel
theorem dX7_setPort_31 : decode cX7_setPort 31 = .ok (.new 41, 3) := by decide +kernel
theorem dX7_setPort_34 : decode cX7_setPort 34 = .ok (.dup, 1) := by decide +kernel
theorem dX7_setPort_35 : decode cX7_setPort 35 = .ok (.ldc 148, 2) := by decide +kernel
theorem dX7_setPort_37 : decode cX7_setPort 37 = .ok (.invokespecial 45, 3) := by decide +kernel
theorem dX7_setPort_40 : decode cX7_setPort 40 = .ok (.athrow, 1) := by decide +kernel
theorem dX7_setPort_41 : decode cX7_setPort 41 = .ok (.iload 4, 2) := by decide +kernel
theorem dX7_setPort_43 : decode cX7_setPort 43 = .ok (.iconst 0, 1) := by decide +kernel
theorem dX7_setPort_44 : decode cX7_setPort 44 = .ok (.sipush 300, 3) := by decide +kernel
theorem dX7_setPort_47 : decode cX7_setPort 47 = .ok (.invokestatic 37, 3) := by decide +kernel
theorem dX7_setPort_50 : decode cX7_setPort 50 = .ok (.ifCond .ne 13, 3) := by decide +kernel
theorem dX7_setPort_53 : decode cX7_setPort 53 = .ok (.new 41, 3) := by decide +kernel
theorem dX7_setPort_56 : decode cX7_setPort 56 = .ok (.dup, 1) := by decide +kernel
theorem dX7_setPort_57 : decode cX7_setPort 57 = .ok (.ldc 150, 2) := by decide +kernel
theorem dX7_setPort_59 : decode cX7_setPort 59 = .ok (.invokespecial 45, 3) := by decide +kernel
theorem dX7_setPort_62 : decode cX7_setPort 62 = .ok (.athrow, 1) := by decide +kernel
theorem dX7_setPort_63 : decode cX7_setPort 63 = .ok (.aload_n 0, 1) := by decide +kernel
theorem dX7_setPort_64 : decode cX7_setPort 64 = .ok (.getfield 26, 3) := by decide +kernel
theorem dX7_setPort_67 : decode cX7_setPort 67 = .ok (.iload_n 1, 1) := by decide +kernel
theorem dX7_setPort_68 : decode cX7_setPort 68 = .ok (.invokevirtual 82, 3) := by decide +kernel
theorem dX7_setPort_71 : decode cX7_setPort 71 = .ok (.checkcast 140, 3) := by decide +kernel
theorem dX7_setPort_74 : decode cX7_setPort 74 = .ok (.iload_n 2, 1) := by decide +kernel
theorem dX7_setPort_75 : decode cX7_setPort 75 = .ok (.invokevirtual 152, 3) := by decide +kernel
theorem dX7_setPort_78 : decode cX7_setPort 78 = .ok (.astore 5, 2) := by decide +kernel
theorem dX7_setPort_80 : decode cX7_setPort 80 = .ok (.aload 5, 2) := by decide +kernel
theorem dX7_setPort_82 : decode cX7_setPort 82 = .ok (.getfield 156, 3) := by decide +kernel
theorem dX7_setPort_85 : decode cX7_setPort 85 = .ok (.istore 6, 2) := by decide +kernel
theorem dX7_setPort_87 : decode cX7_setPort 87 = .ok (.aload 5, 2) := by decide +kernel
theorem dX7_setPort_89 : decode cX7_setPort 89 = .ok (.iload_n 3, 1) := by decide +kernel
theorem dX7_setPort_90 : decode cX7_setPort 90 = .ok (.putfield 161, 3) := by decide +kernel
theorem dX7_setPort_93 : decode cX7_setPort 93 = .ok (.aload 5, 2) := by decide +kernel
theorem dX7_setPort_95 : decode cX7_setPort 95 = .ok (.iload 4, 2) := by decide +kernel
theorem dX7_setPort_97 : decode cX7_setPort 97 = .ok (.putfield 156, 3) := by decide +kernel
theorem dX7_setPort_100 : decode cX7_setPort 100 = .ok (.iload 6, 2) := by decide +kernel
theorem dX7_setPort_102 : decode cX7_setPort 102 = .ok (.ireturn, 1) := by decide +kernel
theorem dX7_setAddition_0 : decode cX7_setAddition 0 = .ok (.aload_n 0, 1) := by decide +kernel
theorem dX7_setAddition_1 : decode cX7_setAddition 1 = .ok (.iload_n 1, 1) := by decide +kernel
theorem dX7_setAddition_2 : decode cX7_setAddition 2 = .ok (.invokevirtual 143, 3) := by decide +kernel
theorem dX7_setAddition_5 : decode cX7_setAddition 5 = .ok (.ifCond .ne 13, 3) := by decide +kernel
theorem dX7_setAddition_8 : decode cX7_setAddition 8 = .ok (.new 77, 3) := by decide +kernel
theorem dX7_setAddition_11 : decode cX7_setAddition 11 = .ok (.dup, 1) := by decide +kernel
theorem dX7_setAddition_12 : decode cX7_setAddition 12 = .ok (.ldc 146, 2) := by decide +kernel
theorem dX7_setAddition_14 : decode cX7_setAddition 14 = .ok (.invokespecial 81, 3) := by decide +kernel
theorem dX7_setAddition_17 : decode cX7_setAddition 17 = .ok (.athrow, 1) := by decide +kernel
theorem dX7_setAddition_18 : decode cX7_setAddition 18 = .ok (.iload_n 2, 1) := by decide +kernel
theorem dX7_setAddition_19 : decode cX7_setAddition 19 = .ok (.sipush (-3000), 3) := by decide +kernel
theorem dX7_setAddition_22 : decode cX7_setAddition 22 = .ok (.sipush 3000, 3) := by decide +kernel
theorem dX7_setAddition_25 : decode cX7_setAddition 25 = .ok (.invokestatic 37, 3) := by decide +kernel
theorem dX7_setAddition_28 : decode cX7_setAddition 28 = .ok (.ifCond .ne 13, 3) := by decide +kernel
theorem dX7_setAddition_31 : decode cX7_setAddition 31 = .ok (.new 41, 3) := by decide +kernel
theorem dX7_setAddition_34 : decode cX7_setAddition 34 = .ok (.dup, 1) := by decide +kernel
theorem dX7_setAddition_35 : decode cX7_setAddition 35 = .ok (.ldc 164, 2) := by decide +kernel
theorem dX7_setAddition_37 : decode cX7_setAddition 37 = .ok (.invokespecial 45, 3) := by decide +kernel
theorem dX7_setAddition_40 : decode cX7_setAddition 40 = .ok (.athrow, 1) := by decide +kernel
theorem dX7_setAddition_41 : decode cX7_setAddition 41 = .ok (.aload_n 0, 1) := by decide +kernel
theorem dX7_setAddition_42 : decode cX7_setAddition 42 = .ok (.getfield 26, 3) := by decide +kernel
theorem dX7_setAddition_45 : decode cX7_setAddition 45 = .ok (.iload_n 1, 1) := by decide +kernel
theorem dX7_setAddition_46 : decode cX7_setAddition 46 = .ok (.invokevirtual 82, 3) := by decide +kernel
theorem dX7_setAddition_49 : decode cX7_setAddition 49 = .ok (.checkcast 140, 3) := by decide +kernel
theorem dX7_setAddition_52 : decode cX7_setAddition 52 = .ok (.astore_n 3, 1) := by decide +kernel
theorem dX7_setAddition_53 : decode cX7_setAddition 53 = .ok (.aload_n 3, 1) := by decide +kernel
theorem dX7_setAddition_54 : decode cX7_setAddition 54 = .ok (.getfield 166, 3) := by decide +kernel
theorem dX7_setAddition_57 : decode cX7_setAddition 57 = .ok (.istore 4, 2) := by decide +kernel
theorem dX7_setAddition_59 : decode cX7_setAddition 59 = .ok (.aload_n 3, 1) := by decide +kernel
theorem dX7_setAddition_60 : decode cX7_setAddition 60 = .ok (.iload_n 2, 1) := by decide +kernel
theorem dX7_setAddition_61 : decode cX7_setAddition 61 = .ok (.putfield 166, 3) := by decide +kernel
theorem dX7_setAddition_64 : decode cX7_setAddition 64 = .ok (.iload 4, 2) := by decide +kernel
theorem dX7_setAddition_66 : decode cX7_setAddition 66 = .ok (.ireturn, 1) := by decide +kernel
theorem dX7_isInOrder_0 : decode cX7_isInOrder 0 = .ok (.aload_n 0, 1) := by decide +kernel
theorem dX7_isInOrder_1 : decode cX7_isInOrder 1 = .ok (.iload_n 1, 1) := by decide +kernel
theorem dX7_isInOrder_2 : decode cX7_isInOrder 2 = .ok (.invokevirtual 143, 3) := by decide +kernel
theorem dX7_isInOrder_5 : decode cX7_isInOrder 5 = .ok (.ifCond .ne 13, 3) := by decide +kernel
theorem dX7_isInOrder_8 : decode cX7_isInOrder 8 = .ok (.new 77, 3) := by decide +kernel
theorem dX7_isInOrder_11 : decode cX7_isInOrder 11 = .ok (.dup, 1) := by decide +kernel
theorem dX7_isInOrder_12 : decode cX7_isInOrder 12 = .ok (.ldc 146, 2) := by decide +kernel
theorem dX7_isInOrder_14 : decode cX7_isInOrder 14 = .ok (.invokespecial 81, 3) := by decide +kernel
theorem dX7_isInOrder_17 : decode cX7_isInOrder 17 = .ok (.athrow, 1) := by decide +kernel
theorem dX7_isInOrder_18 : decode cX7_isInOrder 18 = .ok (.aload_n 0, 1) := by decide +kernel
theorem dX7_isInOrder_19 : decode cX7_isInOrder 19 = .ok (.getfield 26, 3) := by decide +kernel
theorem dX7_isInOrder_22 : decode cX7_isInOrder 22 = .ok (.iload_n 1, 1) := by decide +kernel
theorem dX7_isInOrder_23 : decode cX7_isInOrder 23 = .ok (.invokevirtual 82, 3) := by decide +kernel
theorem dX7_isInOrder_26 : decode cX7_isInOrder 26 = .ok (.checkcast 140, 3) := by decide +kernel
theorem dX7_isInOrder_29 : decode cX7_isInOrder 29 = .ok (.aload_n 0, 1) := by decide +kernel
theorem dX7_isInOrder_30 : decode cX7_isInOrder 30 = .ok (.invokevirtual 110, 3) := by decide +kernel
theorem dX7_isInOrder_33 : decode cX7_isInOrder 33 = .ok (.invokevirtual 169, 3) := by decide +kernel
theorem dX7_isInOrder_36 : decode cX7_isInOrder 36 = .ok (.ireturn, 1) := by decide +kernel
theorem dX7_portWater_0 : decode cX7_portWater 0 = .ok (.aload_n 0, 1) := by decide +kernel
theorem dX7_portWater_1 : decode cX7_portWater 1 = .ok (.iload_n 1, 1) := by decide +kernel
theorem dX7_portWater_2 : decode cX7_portWater 2 = .ok (.invokevirtual 143, 3) := by decide +kernel
theorem dX7_portWater_5 : decode cX7_portWater 5 = .ok (.ifCond .ne 13, 3) := by decide +kernel
theorem dX7_portWater_8 : decode cX7_portWater 8 = .ok (.new 77, 3) := by decide +kernel
theorem dX7_portWater_11 : decode cX7_portWater 11 = .ok (.dup, 1) := by decide +kernel
theorem dX7_portWater_12 : decode cX7_portWater 12 = .ok (.ldc 146, 2) := by decide +kernel
theorem dX7_portWater_14 : decode cX7_portWater 14 = .ok (.invokespecial 81, 3) := by decide +kernel
theorem dX7_portWater_17 : decode cX7_portWater 17 = .ok (.athrow, 1) := by decide +kernel
theorem dX7_portWater_18 : decode cX7_portWater 18 = .ok (.aload_n 0, 1) := by decide +kernel
theorem dX7_portWater_19 : decode cX7_portWater 19 = .ok (.invokevirtual 110, 3) := by decide +kernel
theorem dX7_portWater_22 : decode cX7_portWater 22 = .ok (.astore 4, 2) := by decide +kernel
theorem dX7_portWater_24 : decode cX7_portWater 24 = .ok (.aload 4, 2) := by decide +kernel
theorem dX7_portWater_26 : decode cX7_portWater 26 = .ok (.iload_n 2, 1) := by decide +kernel
theorem dX7_portWater_27 : decode cX7_portWater 27 = .ok (.invokevirtual 114, 3) := by decide +kernel
theorem dX7_portWater_30 : decode cX7_portWater 30 = .ok (.ifCond .ne 13, 3) := by decide +kernel
theorem dX7_portWater_33 : decode cX7_portWater 33 = .ok (.new 77, 3) := by decide +kernel
theorem dX7_portWater_36 : decode cX7_portWater 36 = .ok (.dup, 1) := by decide +kernel
theorem dX7_portWater_37 : decode cX7_portWater 37 = .ok (.ldc 117, 2) := by decide +kernel
theorem dX7_portWater_39 : decode cX7_portWater 39 = .ok (.invokespecial 81, 3) := by decide +kernel
theorem dX7_portWater_42 : decode cX7_portWater 42 = .ok (.athrow, 1) := by decide +kernel
theorem dX7_portWater_43 : decode cX7_portWater 43 = .ok (.aload_n 0, 1) := by decide +kernel
theorem dX7_portWater_44 : decode cX7_portWater 44 = .ok (.getfield 26, 3) := by decide +kernel
theorem dX7_portWater_47 : decode cX7_portWater 47 = .ok (.iload_n 1, 1) := by decide +kernel
theorem dX7_portWater_48 : decode cX7_portWater 48 = .ok (.invokevirtual 82, 3) := by decide +kernel
theorem dX7_portWater_51 : decode cX7_portWater 51 = .ok (.checkcast 140, 3) := by decide +kernel
theorem dX7_portWater_54 : decode cX7_portWater 54 = .ok (.astore 5, 2) := by decide +kernel
theorem dX7_portWater_56 : decode cX7_portWater 56 = .ok (.iload_n 3, 1) := by decide +kernel
theorem dX7_portWater_57 : decode cX7_portWater 57 = .ok (.ifCond .eq 14, 3) := by decide +kernel
theorem dX7_portWater_60 : decode cX7_portWater 60 = .ok (.aload 5, 2) := by decide +kernel
theorem dX7_portWater_62 : decode cX7_portWater 62 = .ok (.aload 4, 2) := by decide +kernel
theorem dX7_portWater_64 : decode cX7_portWater 64 = .ok (.iload_n 2, 1) := by decide +kernel
theorem dX7_portWater_65 : decode cX7_portWater 65 = .ok (.invokevirtual 173, 3) := by decide +kernel
theorem dX7_portWater_68 : decode cX7_portWater 68 = .ok (.goto 11, 3) := by decide +kernel
theorem dX7_portWater_71 : decode cX7_portWater 71 = .ok (.aload 5, 2) := by decide +kernel
theorem dX7_portWater_73 : decode cX7_portWater 73 = .ok (.aload 4, 2) := by decide +kernel
theorem dX7_portWater_75 : decode cX7_portWater 75 = .ok (.iload_n 2, 1) := by decide +kernel
theorem dX7_portWater_76 : decode cX7_portWater 76 = .ok (.invokevirtual 176, 3) := by decide +kernel
theorem dX7_portWater_79 : decode cX7_portWater 79 = .ok (.ireturn, 1) := by decide +kernel
theorem dX7_portHeight_0 : decode cX7_portHeight 0 = .ok (.aload_n 0, 1) := by decide +kernel
theorem dX7_portHeight_1 : decode cX7_portHeight 1 = .ok (.iload_n 1, 1) := by decide +kernel
theorem dX7_portHeight_2 : decode cX7_portHeight 2 = .ok (.invokevirtual 143, 3) := by decide +kernel
theorem dX7_portHeight_5 : decode cX7_portHeight 5 = .ok (.ifCond .ne 13, 3) := by decide +kernel
theorem dX7_portHeight_8 : decode cX7_portHeight 8 = .ok (.new 77, 3) := by decide +kernel
theorem dX7_portHeight_11 : decode cX7_portHeight 11 = .ok (.dup, 1) := by decide +kernel
theorem dX7_portHeight_12 : decode cX7_portHeight 12 = .ok (.ldc 146, 2) := by decide +kernel
theorem dX7_portHeight_14 : decode cX7_portHeight 14 = .ok (.invokespecial 81, 3) := by decide +kernel
theorem dX7_portHeight_17 : decode cX7_portHeight 17 = .ok (.athrow, 1) := by decide +kernel
theorem dX7_portHeight_18 : decode cX7_portHeight 18 = .ok (.iload_n 2, 1) := by decide +kernel
theorem dX7_portHeight_19 : decode cX7_portHeight 19 = .ok (.invokestatic 95, 3) := by decide +kernel
theorem dX7_portHeight_22 : decode cX7_portHeight 22 = .ok (.ifCond .ne 13, 3) := by decide +kernel
theorem dX7_portHeight_25 : decode cX7_portHeight 25 = .ok (.new 41, 3) := by decide +kernel
theorem dX7_portHeight_28 : decode cX7_portHeight 28 = .ok (.dup, 1) := by decide +kernel
theorem dX7_portHeight_29 : decode cX7_portHeight 29 = .ok (.ldc 98, 2) := by decide +kernel
theorem dX7_portHeight_31 : decode cX7_portHeight 31 = .ok (.invokespecial 45, 3) := by decide +kernel
theorem dX7_portHeight_34 : decode cX7_portHeight 34 = .ok (.athrow, 1) := by decide +kernel
theorem dX7_portHeight_35 : decode cX7_portHeight 35 = .ok (.aload_n 0, 1) := by decide +kernel
theorem dX7_portHeight_36 : decode cX7_portHeight 36 = .ok (.invokevirtual 110, 3) := by decide +kernel
theorem dX7_portHeight_39 : decode cX7_portHeight 39 = .ok (.astore_n 3, 1) := by decide +kernel
theorem dX7_portHeight_40 : decode cX7_portHeight 40 = .ok (.aload_n 0, 1) := by decide +kernel
theorem dX7_portHeight_41 : decode cX7_portHeight 41 = .ok (.getfield 26, 3) := by decide +kernel
theorem dX7_portHeight_44 : decode cX7_portHeight 44 = .ok (.iload_n 1, 1) := by decide +kernel
theorem dX7_portHeight_45 : decode cX7_portHeight 45 = .ok (.invokevirtual 82, 3) := by decide +kernel
theorem dX7_portHeight_48 : decode cX7_portHeight 48 = .ok (.checkcast 140, 3) := by decide +kernel
theorem dX7_portHeight_51 : decode cX7_portHeight 51 = .ok (.astore 4, 2) := by decide +kernel
theorem dX7_portHeight_53 : decode cX7_portHeight 53 = .ok (.aload 4, 2) := by decide +kernel
theorem dX7_portHeight_55 : decode cX7_portHeight 55 = .ok (.aload_n 3, 1) := by decide +kernel
theorem dX7_portHeight_56 : decode cX7_portHeight 56 = .ok (.invokevirtual 169, 3) := by decide +kernel
theorem dX7_portHeight_59 : decode cX7_portHeight 59 = .ok (.ifCond .ne 13, 3) := by decide +kernel
theorem dX7_portHeight_62 : decode cX7_portHeight 62 = .ok (.new 59, 3) := by decide +kernel
theorem dX7_portHeight_65 : decode cX7_portHeight 65 = .ok (.dup, 1) := by decide +kernel
theorem dX7_portHeight_66 : decode cX7_portHeight 66 = .ok (.ldc 178, 2) := by decide +kernel
theorem dX7_portHeight_68 : decode cX7_portHeight 68 = .ok (.invokespecial 63, 3) := by decide +kernel
theorem dX7_portHeight_71 : decode cX7_portHeight 71 = .ok (.athrow, 1) := by decide +kernel
theorem dX7_portHeight_72 : decode cX7_portHeight 72 = .ok (.aload 4, 2) := by decide +kernel
theorem dX7_portHeight_74 : decode cX7_portHeight 74 = .ok (.aload_n 3, 1) := by decide +kernel
theorem dX7_portHeight_75 : decode cX7_portHeight 75 = .ok (.iconst (-1), 1) := by decide +kernel
theorem dX7_portHeight_76 : decode cX7_portHeight 76 = .ok (.iload_n 2, 1) := by decide +kernel
theorem dX7_portHeight_77 : decode cX7_portHeight 77 = .ok (.invokevirtual 180, 3) := by decide +kernel
theorem dX7_portHeight_80 : decode cX7_portHeight 80 = .ok (.istore 5, 2) := by decide +kernel
theorem dX7_portHeight_82 : decode cX7_portHeight 82 = .ok (.aload_n 3, 1) := by decide +kernel
theorem dX7_portHeight_83 : decode cX7_portHeight 83 = .ok (.iload 5, 2) := by decide +kernel
theorem dX7_portHeight_85 : decode cX7_portHeight 85 = .ok (.invokevirtual 184, 3) := by decide +kernel
theorem dX7_portHeight_88 : decode cX7_portHeight 88 = .ok (.ifCond .ne 13, 3) := by decide +kernel
theorem dX7_portHeight_91 : decode cX7_portHeight 91 = .ok (.new 59, 3) := by decide +kernel
theorem dX7_portHeight_94 : decode cX7_portHeight 94 = .ok (.dup, 1) := by decide +kernel
theorem dX7_portHeight_95 : decode cX7_portHeight 95 = .ok (.ldc 187, 2) := by decide +kernel
theorem dX7_portHeight_97 : decode cX7_portHeight 97 = .ok (.invokespecial 63, 3) := by decide +kernel
theorem dX7_portHeight_100 : decode cX7_portHeight 100 = .ok (.athrow, 1) := by decide +kernel
theorem dX7_portHeight_101 : decode cX7_portHeight 101 = .ok (.aload 4, 2) := by decide +kernel
theorem dX7_portHeight_103 : decode cX7_portHeight 103 = .ok (.aload_n 3, 1) := by decide +kernel
theorem dX7_portHeight_104 : decode cX7_portHeight 104 = .ok (.iload 5, 2) := by decide +kernel
theorem dX7_portHeight_106 : decode cX7_portHeight 106 = .ok (.iload_n 2, 1) := by decide +kernel
theorem dX7_portHeight_107 : decode cX7_portHeight 107 = .ok (.invokevirtual 189, 3) := by decide +kernel
theorem dX7_portHeight_110 : decode cX7_portHeight 110 = .ok (.ireturn, 1) := by decide +kernel
theorem dX7_windows_0 : decode cX7_windows 0 = .ok (.iload_n 1, 1) := by decide +kernel
theorem dX7_windows_1 : decode cX7_windows 1 = .ok (.iconst (-1), 1) := by decide +kernel
theorem dX7_windows_2 : decode cX7_windows 2 = .ok (.if_icmp .eq 21, 3) := by decide +kernel
theorem dX7_windows_5 : decode cX7_windows 5 = .ok (.aload_n 0, 1) := by decide +kernel
theorem dX7_windows_6 : decode cX7_windows 6 = .ok (.iload_n 1, 1) := by decide +kernel
theorem dX7_windows_7 : decode cX7_windows 7 = .ok (.invokevirtual 143, 3) := by decide +kernel
theorem dX7_windows_10 : decode cX7_windows 10 = .ok (.ifCond .ne 13, 3) := by decide +kernel
theorem dX7_windows_13 : decode cX7_windows 13 = .ok (.new 77, 3) := by decide +kernel
theorem dX7_windows_16 : decode cX7_windows 16 = .ok (.dup, 1) := by decide +kernel
theorem dX7_windows_17 : decode cX7_windows 17 = .ok (.ldc 146, 2) := by decide +kernel
theorem dX7_windows_19 : decode cX7_windows 19 = .ok (.invokespecial 81, 3) := by decide +kernel
theorem dX7_windows_22 : decode cX7_windows 22 = .ok (.athrow, 1) := by decide +kernel
theorem dX7_windows_23 : decode cX7_windows 23 = .ok (.iload 5, 2) := by decide +kernel
theorem dX7_windows_25 : decode cX7_windows 25 = .ok (.iconst 0, 1) := by decide +kernel
theorem dX7_windows_26 : decode cX7_windows 26 = .ok (.iconst 3, 1) := by decide +kernel
theorem dX7_windows_27 : decode cX7_windows 27 = .ok (.invokestatic 37, 3) := by decide +kernel
theorem dX7_windows_30 : decode cX7_windows 30 = .ok (.ifCond .ne 13, 3) := by decide +kernel
theorem dX7_windows_33 : decode cX7_windows 33 = .ok (.new 77, 3) := by decide +kernel
theorem dX7_windows_36 : decode cX7_windows 36 = .ok (.dup, 1) := by decide +kernel
theorem dX7_windows_37 : decode cX7_windows 37 = .ok (.ldc 105, 2) := by decide +kernel
theorem dX7_windows_39 : decode cX7_windows 39 = .ok (.invokespecial 81, 3) := by decide +kernel
theorem dX7_windows_42 : decode cX7_windows 42 = .ok (.athrow, 1) := by decide +kernel
theorem dX7_windows_43 : decode cX7_windows 43 = .ok (.iload_n 3, 1) := by decide +kernel
theorem dX7_windows_44 : decode cX7_windows 44 = .ok (.ifCond .lt 17, 3) := by decide +kernel
theorem dX7_windows_47 : decode cX7_windows 47 = .ok (.iload_n 3, 1) := by decide +kernel
theorem dX7_windows_48 : decode cX7_windows 48 = .ok (.iload 4, 2) := by decide +kernel
theorem dX7_windows_50 : decode cX7_windows 50 = .ok (.if_icmp .gt 11, 3) := by decide +kernel
theorem dX7_windows_53 : decode cX7_windows 53 = .ok (.iload 4, 2) := by decide +kernel
theorem dX7_windows_55 : decode cX7_windows 55 = .ok (.sipush 4320, 3) := by decide +kernel
theorem dX7_windows_58 : decode cX7_windows 58 = .ok (.if_icmp .lt 13, 3) := by decide +kernel
theorem dX7_windows_61 : decode cX7_windows 61 = .ok (.new 41, 3) := by decide +kernel
theorem dX7_windows_64 : decode cX7_windows 64 = .ok (.dup, 1) := by decide +kernel
theorem dX7_windows_65 : decode cX7_windows 65 = .ok (.ldc 192, 2) := by decide +kernel
theorem dX7_windows_67 : decode cX7_windows 67 = .ok (.invokespecial 45, 3) := by decide +kernel
theorem dX7_windows_70 : decode cX7_windows 70 = .ok (.athrow, 1) := by decide +kernel
theorem dX7_windows_71 : decode cX7_windows 71 = .ok (.new 194, 3) := by decide +kernel
theorem dX7_windows_74 : decode cX7_windows 74 = .ok (.dup, 1) := by decide +kernel
theorem dX7_windows_75 : decode cX7_windows 75 = .ok (.invokespecial 196, 3) := by decide +kernel
theorem dX7_windows_78 : decode cX7_windows 78 = .ok (.astore 6, 2) := by decide +kernel
theorem dX7_windows_80 : decode cX7_windows 80 = .ok (.iload_n 1, 1) := by decide +kernel
theorem dX7_windows_81 : decode cX7_windows 81 = .ok (.iconst (-1), 1) := by decide +kernel
theorem dX7_windows_82 : decode cX7_windows 82 = .ok (.if_icmp .ne 16, 3) := by decide +kernel
theorem dX7_windows_85 : decode cX7_windows 85 = .ok (.aload_n 0, 1) := by decide +kernel
theorem dX7_windows_86 : decode cX7_windows 86 = .ok (.aload 6, 2) := by decide +kernel
theorem dX7_windows_88 : decode cX7_windows 88 = .ok (.iload_n 2, 1) := by decide +kernel
theorem dX7_windows_89 : decode cX7_windows 89 = .ok (.iload_n 3, 1) := by decide +kernel
theorem dX7_windows_90 : decode cX7_windows 90 = .ok (.iload 4, 2) := by decide +kernel
theorem dX7_windows_92 : decode cX7_windows 92 = .ok (.invokevirtual 197, 3) := by decide +kernel
theorem dX7_windows_95 : decode cX7_windows 95 = .ok (.goto 24, 3) := by decide +kernel
theorem dX7_windows_98 : decode cX7_windows 98 = .ok (.aload_n 0, 1) := by decide +kernel
theorem dX7_windows_99 : decode cX7_windows 99 = .ok (.aload 6, 2) := by decide +kernel
theorem dX7_windows_101 : decode cX7_windows 101 = .ok (.aload_n 0, 1) := by decide +kernel
theorem dX7_windows_102 : decode cX7_windows 102 = .ok (.getfield 26, 3) := by decide +kernel
theorem dX7_windows_105 : decode cX7_windows 105 = .ok (.iload_n 1, 1) := by decide +kernel
theorem dX7_windows_106 : decode cX7_windows 106 = .ok (.invokevirtual 82, 3) := by decide +kernel
theorem dX7_windows_109 : decode cX7_windows 109 = .ok (.checkcast 140, 3) := by decide +kernel
theorem dX7_windows_112 : decode cX7_windows 112 = .ok (.iload_n 2, 1) := by decide +kernel
theorem dX7_windows_113 : decode cX7_windows 113 = .ok (.iload_n 3, 1) := by decide +kernel
theorem dX7_windows_114 : decode cX7_windows 114 = .ok (.iload 4, 2) := by decide +kernel
theorem dX7_windows_116 : decode cX7_windows 116 = .ok (.invokevirtual 201, 3) := by decide +kernel
theorem dX7_windows_119 : decode cX7_windows 119 = .ok (.aload 6, 2) := by decide +kernel
theorem dX7_windows_121 : decode cX7_windows 121 = .ok (.iload 5, 2) := by decide +kernel
theorem dX7_windows_123 : decode cX7_windows 123 = .ok (.invokevirtual 205, 3) := by decide +kernel
theorem dX7_windows_126 : decode cX7_windows 126 = .ok (.ireturn, 1) := by decide +kernel
theorem dX7_read_0 : decode cX7_read 0 = .ok (.iload_n 1, 1) := by decide +kernel
theorem dX7_read_1 : decode cX7_read 1 = .ok (.invokestatic 95, 3) := by decide +kernel
theorem dX7_read_4 : decode cX7_read 4 = .ok (.ifCond .ne 13, 3) := by decide +kernel
theorem dX7_read_7 : decode cX7_read 7 = .ok (.new 41, 3) := by decide +kernel
theorem dX7_read_10 : decode cX7_read 10 = .ok (.dup, 1) := by decide +kernel
theorem dX7_read_11 : decode cX7_read 11 = .ok (.ldc 98, 2) := by decide +kernel
theorem dX7_read_13 : decode cX7_read 13 = .ok (.invokespecial 45, 3) := by decide +kernel
theorem dX7_read_16 : decode cX7_read 16 = .ok (.athrow, 1) := by decide +kernel
theorem dX7_read_17 : decode cX7_read 17 = .ok (.iload_n 2, 1) := by decide +kernel
theorem dX7_read_18 : decode cX7_read 18 = .ok (.ldc 208, 2) := by decide +kernel
theorem dX7_read_20 : decode cX7_read 20 = .ok (.ldc 209, 2) := by decide +kernel
theorem dX7_read_22 : decode cX7_read 22 = .ok (.invokestatic 37, 3) := by decide +kernel
theorem dX7_read_25 : decode cX7_read 25 = .ok (.ifCond .ne 13, 3) := by decide +kernel
theorem dX7_read_28 : decode cX7_read 28 = .ok (.new 41, 3) := by decide +kernel
theorem dX7_read_31 : decode cX7_read 31 = .ok (.dup, 1) := by decide +kernel
theorem dX7_read_32 : decode cX7_read 32 = .ok (.ldc 210, 2) := by decide +kernel
theorem dX7_read_34 : decode cX7_read 34 = .ok (.invokespecial 45, 3) := by decide +kernel
theorem dX7_read_37 : decode cX7_read 37 = .ok (.athrow, 1) := by decide +kernel
theorem dX7_read_38 : decode cX7_read 38 = .ok (.aload_n 0, 1) := by decide +kernel
theorem dX7_read_39 : decode cX7_read 39 = .ok (.getfield 30, 3) := by decide +kernel
theorem dX7_read_42 : decode cX7_read 42 = .ok (.invokevirtual 55, 3) := by decide +kernel
theorem dX7_read_45 : decode cX7_read 45 = .ok (.bipush 40, 2) := by decide +kernel
theorem dX7_read_47 : decode cX7_read 47 = .ok (.if_icmp .lt 13, 3) := by decide +kernel
theorem dX7_read_50 : decode cX7_read 50 = .ok (.new 59, 3) := by decide +kernel
theorem dX7_read_53 : decode cX7_read 53 = .ok (.dup, 1) := by decide +kernel
theorem dX7_read_54 : decode cX7_read 54 = .ok (.ldc 212, 2) := by decide +kernel
theorem dX7_read_56 : decode cX7_read 56 = .ok (.invokespecial 63, 3) := by decide +kernel
theorem dX7_read_59 : decode cX7_read 59 = .ok (.athrow, 1) := by decide +kernel
theorem dX7_read_60 : decode cX7_read 60 = .ok (.aload_n 0, 1) := by decide +kernel
theorem dX7_read_61 : decode cX7_read 61 = .ok (.getfield 30, 3) := by decide +kernel
theorem dX7_read_64 : decode cX7_read 64 = .ok (.new 214, 3) := by decide +kernel
theorem dX7_read_67 : decode cX7_read 67 = .ok (.dup, 1) := by decide +kernel
theorem dX7_read_68 : decode cX7_read 68 = .ok (.iload_n 1, 1) := by decide +kernel
theorem dX7_read_69 : decode cX7_read 69 = .ok (.iload_n 2, 1) := by decide +kernel
theorem dX7_read_70 : decode cX7_read 70 = .ok (.invokespecial 216, 3) := by decide +kernel
theorem dX7_read_73 : decode cX7_read 73 = .ok (.invokevirtual 69, 3) := by decide +kernel
theorem dX7_read_76 : decode cX7_read 76 = .ok (.pop, 1) := by decide +kernel
theorem dX7_read_77 : decode cX7_read 77 = .ok (.aload_n 0, 1) := by decide +kernel
theorem dX7_read_78 : decode cX7_read 78 = .ok (.getfield 30, 3) := by decide +kernel
theorem dX7_read_81 : decode cX7_read 81 = .ok (.invokevirtual 55, 3) := by decide +kernel
theorem dX7_read_84 : decode cX7_read 84 = .ok (.ireturn, 1) := by decide +kernel
theorem dX7_residual_0 : decode cX7_residual 0 = .ok (.aload_n 0, 1) := by decide +kernel
theorem dX7_residual_1 : decode cX7_residual 1 = .ok (.getfield 30, 3) := by decide +kernel
theorem dX7_residual_4 : decode cX7_residual 4 = .ok (.invokevirtual 55, 3) := by decide +kernel
theorem dX7_residual_7 : decode cX7_residual 7 = .ok (.istore_n 1, 1) := by decide +kernel
theorem dX7_residual_8 : decode cX7_residual 8 = .ok (.iload_n 1, 1) := by decide +kernel
theorem dX7_residual_9 : decode cX7_residual 9 = .ok (.ifCond .ne 7, 3) := by decide +kernel
theorem dX7_residual_12 : decode cX7_residual 12 = .ok (.dconst 0, 1) := by decide +kernel
theorem dX7_residual_13 : decode cX7_residual 13 = .ok (.goto 11, 3) := by decide +kernel
theorem dX7_residual_16 : decode cX7_residual 16 = .ok (.aload_n 0, 1) := by decide +kernel
theorem dX7_residual_17 : decode cX7_residual 17 = .ok (.invokevirtual 219, 3) := by decide +kernel
theorem dX7_residual_20 : decode cX7_residual 20 = .ok (.l2d, 1) := by decide +kernel
theorem dX7_residual_21 : decode cX7_residual 21 = .ok (.iload_n 1, 1) := by decide +kernel
theorem dX7_residual_22 : decode cX7_residual 22 = .ok (.i2d, 1) := by decide +kernel
theorem dX7_residual_23 : decode cX7_residual 23 = .ok (.ddiv, 1) := by decide +kernel
theorem dX7_residual_24 : decode cX7_residual 24 = .ok (.dreturn, 1) := by decide +kernel
theorem dX7_worst_0 : decode cX7_worst 0 = .ok (.iconst (-1), 1) := by decide +kernel
theorem dX7_worst_1 : decode cX7_worst 1 = .ok (.istore_n 1, 1) := by decide +kernel
theorem dX7_worst_2 : decode cX7_worst 2 = .ok (.ldc2_w 223, 3) := by decide +kernel
theorem dX7_worst_5 : decode cX7_worst 5 = .ok (.lstore_n 2, 1) := by decide +kernel
theorem dX7_worst_6 : decode cX7_worst 6 = .ok (.iconst 0, 1) := by decide +kernel
theorem dX7_worst_7 : decode cX7_worst 7 = .ok (.istore 4, 2) := by decide +kernel
theorem dX7_worst_9 : decode cX7_worst 9 = .ok (.iload 4, 2) := by decide +kernel
theorem dX7_worst_11 : decode cX7_worst 11 = .ok (.aload_n 0, 1) := by decide +kernel
theorem dX7_worst_12 : decode cX7_worst 12 = .ok (.getfield 30, 3) := by decide +kernel
theorem dX7_worst_15 : decode cX7_worst 15 = .ok (.invokevirtual 55, 3) := by decide +kernel
theorem dX7_worst_18 : decode cX7_worst 18 = .ok (.if_icmp .ge 33, 3) := by decide +kernel
theorem dX7_worst_21 : decode cX7_worst 21 = .ok (.aload_n 0, 1) := by decide +kernel
theorem dX7_worst_22 : decode cX7_worst 22 = .ok (.iload 4, 2) := by decide +kernel
theorem dX7_worst_24 : decode cX7_worst 24 = .ok (.invokevirtual 225, 3) := by decide +kernel
theorem dX7_worst_27 : decode cX7_worst 27 = .ok (.invokestatic 229, 3) := by decide +kernel
theorem dX7_worst_30 : decode cX7_worst 30 = .ok (.lstore 5, 2) := by decide +kernel
theorem dX7_worst_32 : decode cX7_worst 32 = .ok (.lload 5, 2) := by decide +kernel
theorem dX7_worst_34 : decode cX7_worst 34 = .ok (.lload_n 2, 1) := by decide +kernel
theorem dX7_worst_35 : decode cX7_worst 35 = .ok (.lcmp, 1) := by decide +kernel
theorem dX7_worst_36 : decode cX7_worst 36 = .ok (.ifCond .le 9, 3) := by decide +kernel
theorem dX7_worst_39 : decode cX7_worst 39 = .ok (.lload 5, 2) := by decide +kernel
theorem dX7_worst_41 : decode cX7_worst 41 = .ok (.lstore_n 2, 1) := by decide +kernel
theorem dX7_worst_42 : decode cX7_worst 42 = .ok (.iload 4, 2) := by decide +kernel
theorem dX7_worst_44 : decode cX7_worst 44 = .ok (.istore_n 1, 1) := by decide +kernel
theorem dX7_worst_45 : decode cX7_worst 45 = .ok (.iinc 4 1, 3) := by decide +kernel
theorem dX7_worst_48 : decode cX7_worst 48 = .ok (.goto (-39), 3) := by decide +kernel
theorem dX7_worst_51 : decode cX7_worst 51 = .ok (.iload_n 1, 1) := by decide +kernel
theorem dX7_worst_52 : decode cX7_worst 52 = .ok (.ireturn, 1) := by decide +kernel
theorem dX7_adjust_0 : decode cX7_adjust 0 = .ok (.aload_n 0, 1) := by decide +kernel
theorem dX7_adjust_1 : decode cX7_adjust 1 = .ok (.getfield 30, 3) := by decide +kernel
theorem dX7_adjust_4 : decode cX7_adjust 4 = .ok (.invokevirtual 235, 3) := by decide +kernel
theorem dX7_adjust_7 : decode cX7_adjust 7 = .ok (.ifCond .eq 13, 3) := by decide +kernel
theorem dX7_adjust_10 : decode cX7_adjust 10 = .ok (.new 59, 3) := by decide +kernel
theorem dX7_adjust_13 : decode cX7_adjust 13 = .ok (.dup, 1) := by decide +kernel
theorem dX7_adjust_14 : decode cX7_adjust 14 = .ok (.ldc 239, 2) := by decide +kernel
theorem dX7_adjust_16 : decode cX7_adjust 16 = .ok (.invokespecial 63, 3) := by decide +kernel
theorem dX7_adjust_19 : decode cX7_adjust 19 = .ok (.athrow, 1) := by decide +kernel
theorem dX7_adjust_20 : decode cX7_adjust 20 = .ok (.aload_n 0, 1) := by decide +kernel
theorem dX7_adjust_21 : decode cX7_adjust 21 = .ok (.invokevirtual 219, 3) := by decide +kernel
theorem dX7_adjust_24 : decode cX7_adjust 24 = .ok (.aload_n 0, 1) := by decide +kernel
theorem dX7_adjust_25 : decode cX7_adjust 25 = .ok (.getfield 30, 3) := by decide +kernel
theorem dX7_adjust_28 : decode cX7_adjust 28 = .ok (.invokevirtual 55, 3) := by decide +kernel
theorem dX7_adjust_31 : decode cX7_adjust 31 = .ok (.i2l, 1) := by decide +kernel
theorem dX7_adjust_32 : decode cX7_adjust 32 = .ok (.invokestatic 241, 3) := by decide +kernel
theorem dX7_adjust_35 : decode cX7_adjust 35 = .ok (.l2i, 1) := by decide +kernel
theorem dX7_adjust_36 : decode cX7_adjust 36 = .ok (.istore_n 1, 1) := by decide +kernel
theorem dX7_adjust_37 : decode cX7_adjust 37 = .ok (.aload_n 0, 1) := by decide +kernel
theorem dX7_adjust_38 : decode cX7_adjust 38 = .ok (.getfield 10, 3) := by decide +kernel
theorem dX7_adjust_41 : decode cX7_adjust 41 = .ok (.getfield 92, 3) := by decide +kernel
theorem dX7_adjust_44 : decode cX7_adjust 44 = .ok (.iload_n 1, 1) := by decide +kernel
theorem dX7_adjust_45 : decode cX7_adjust 45 = .ok (.iadd, 1) := by decide +kernel
theorem dX7_adjust_46 : decode cX7_adjust 46 = .ok (.istore_n 2, 1) := by decide +kernel
theorem dX7_adjust_47 : decode cX7_adjust 47 = .ok (.iload_n 2, 1) := by decide +kernel
theorem dX7_adjust_48 : decode cX7_adjust 48 = .ok (.sipush (-10000), 3) := by decide +kernel
theorem dX7_adjust_51 : decode cX7_adjust 51 = .ok (.sipush 10000, 3) := by decide +kernel
theorem dX7_adjust_54 : decode cX7_adjust 54 = .ok (.invokestatic 37, 3) := by decide +kernel
