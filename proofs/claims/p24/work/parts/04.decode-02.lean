theorem dX7_setPort_34 : decode cX7_setPort 34 = .ok (.dup, 1) := by decide +kernel
theorem dX7_setPort_35 : decode cX7_setPort 35 = .ok (.ldc 148, 2) := by decide +kernel
theorem dX7_setPort_37 : decode cX7_setPort 37 = .ok (.invokespecial 45, 3) := by decide +kernel
theorem dX7_setPort_40 : decode cX7_setPort 40 = .ok (.athrow, 1) := by decide +kernel
theorem dX7_setPort_41 : decode cX7_setPort 41 = .ok (.iload 4, 2) := by decide +kernel
theorem dX7_setPort_43 : decode cX7_setPort 43 = .ok (.iconst 0, 1) := by decide +kernel
theorem dX7_setPort_44 : decode cX7_setPort 44 = .ok (.sipush 300, 3) := by decide +kernel
theorem dX7_setPort_47 : decode cX7_setPort 47 = .ok (.invokestatic 37, 3) := by decide +kernel
theorem dX7_setPort_50 : decode cX7_setPort 50 = .ok (.ifCond .ne 13, 3) := by decide +kernel
theorem dX7_setPort_53 : decode cX7_setPort 53 = .ok (.new 41, 3) := by decide +kernel
theorem dX7_setPort_56 : decode cX7_setPort 56 = .ok (.dup, 1) := by decide +kernel
theorem dX7_setPort_57 : decode cX7_setPort 57 = .ok (.ldc 150, 2) := by decide +kernel
theorem dX7_setPort_59 : decode cX7_setPort 59 = .ok (.invokespecial 45, 3) := by decide +kernel
theorem dX7_setPort_62 : decode cX7_setPort 62 = .ok (.athrow, 1) := by decide +kernel
theorem dX7_setPort_63 : decode cX7_setPort 63 = .ok (.aload_n 0, 1) := by decide +kernel
theorem dX7_setPort_64 : decode cX7_setPort 64 = .ok (.getfield 26, 3) := by decide +kernel
theorem dX7_setPort_67 : decode cX7_setPort 67 = .ok (.iload_n 1, 1) := by decide +kernel
theorem dX7_setPort_68 : decode cX7_setPort 68 = .ok (.invokevirtual 82, 3) := by decide +kernel
theorem dX7_setPort_71 : decode cX7_setPort 71 = .ok (.checkcast 140, 3) := by decide +kernel
theorem dX7_setPort_74 : decode cX7_setPort 74 = .ok (.iload_n 2, 1) := by decide +kernel
theorem dX7_setPort_75 : decode cX7_setPort 75 = .ok (.invokevirtual 152, 3) := by decide +kernel
theorem dX7_setPort_78 : decode cX7_setPort 78 = .ok (.astore 5, 2) := by decide +kernel
theorem dX7_setPort_80 : decode cX7_setPort 80 = .ok (.aload 5, 2) := by decide +kernel
theorem dX7_setPort_82 : decode cX7_setPort 82 = .ok (.getfield 156, 3) := by decide +kernel
theorem dX7_setPort_85 : decode cX7_setPort 85 = .ok (.istore 6, 2) := by decide +kernel
theorem dX7_setPort_87 : decode cX7_setPort 87 = .ok (.aload 5, 2) := by decide +kernel
theorem dX7_setPort_89 : decode cX7_setPort 89 = .ok (.iload_n 3, 1) := by decide +kernel
theorem dX7_setPort_90 : decode cX7_setPort 90 = .ok (.putfield 161, 3) := by decide +kernel
theorem dX7_setPort_93 : decode cX7_setPort 93 = .ok (.aload 5, 2) := by decide +kernel
theorem dX7_setPort_95 : decode cX7_setPort 95 = .ok (.iload 4, 2) := by decide +kernel
theorem dX7_setPort_97 : decode cX7_setPort 97 = .ok (.putfield 156, 3) := by decide +kernel
theorem dX7_setPort_100 : decode cX7_setPort 100 = .ok (.iload 6, 2) := by decide +kernel
theorem dX7_setPort_102 : decode cX7_setPort 102 = .ok (.ireturn, 1) := by decide +kernel
theorem dX7_setAddition_0 : decode cX7_setAddition 0 = .ok (.aload_n 0, 1) := by decide +kernel
theorem dX7_setAddition_1 : decode cX7_setAddition 1 = .ok (.iload_n 1, 1) := by decide +kernel
theorem dX7_setAddition_2 : decode cX7_setAddition 2 = .ok (.invokevirtual 143, 3) := by decide +kernel
theorem dX7_setAddition_5 : decode cX7_setAddition 5 = .ok (.ifCond .ne 13, 3) := by decide +kernel
theorem dX7_setAddition_8 : decode cX7_setAddition 8 = .ok (.new 77, 3) := by decide +kernel
theorem dX7_setAddition_11 : decode cX7_setAddition 11 = .ok (.dup, 1) := by decide +kernel
theorem dX7_setAddition_12 : decode cX7_setAddition 12 = .ok (.ldc 146, 2) := by decide +kernel
theorem dX7_setAddition_14 : decode cX7_setAddition 14 = .ok (.invokespecial 81, 3) := by decide +kernel
theorem dX7_setAddition_17 : decode cX7_setAddition 17 = .ok (.athrow, 1) := by decide +kernel
theorem dX7_setAddition_18 : decode cX7_setAddition 18 = .ok (.iload_n 2, 1) := by decide +kernel
theorem dX7_setAddition_19 : decode cX7_setAddition 19 = .ok (.sipush (-3000), 3) := by decide +kernel
theorem dX7_setAddition_22 : decode cX7_setAddition 22 = .ok (.sipush 3000, 3) := by decide +kernel
theorem dX7_setAddition_25 : decode cX7_setAddition 25 = .ok (.invokestatic 37, 3) := by decide +kernel
theorem dX7_setAddition_28 : decode cX7_setAddition 28 = .ok (.ifCond .ne 13, 3) := by decide +kernel
theorem dX7_setAddition_31 : decode cX7_setAddition 31 = .ok (.new 41, 3) := by decide +kernel
theorem dX7_setAddition_34 : decode cX7_setAddition 34 = .ok (.dup, 1) := by decide +kernel
theorem dX7_setAddition_35 : decode cX7_setAddition 35 = .ok (.ldc 164, 2) := by decide +kernel
theorem dX7_setAddition_37 : decode cX7_setAddition 37 = .ok (.invokespecial 45, 3) := by decide +kernel
theorem dX7_setAddition_40 : decode cX7_setAddition 40 = .ok (.athrow, 1) := by decide +kernel
theorem dX7_setAddition_41 : decode cX7_setAddition 41 = .ok (.aload_n 0, 1) := by decide +kernel
theorem dX7_setAddition_42 : decode cX7_setAddition 42 = .ok (.getfield 26, 3) := by decide +kernel
theorem dX7_setAddition_45 : decode cX7_setAddition 45 = .ok (.iload_n 1, 1) := by decide +kernel
theorem dX7_setAddition_46 : decode cX7_setAddition 46 = .ok (.invokevirtual 82, 3) := by decide +kernel
theorem dX7_setAddition_49 : decode cX7_setAddition 49 = .ok (.checkcast 140, 3) := by decide +kernel
theorem dX7_setAddition_52 : decode cX7_setAddition 52 = .ok (.astore_n 3, 1) := by decide +kernel
theorem dX7_setAddition_53 : decode cX7_setAddition 53 = .ok (.aload_n 3, 1) := by decide +kernel
theorem dX7_setAddition_54 : decode cX7_setAddition 54 = .ok (.getfield 166, 3) := by decide +kernel
theorem dX7_setAddition_57 : decode cX7_setAddition 57 = .ok (.istore 4, 2) := by decide +kernel
theorem dX7_setAddition_59 : decode cX7_setAddition 59 = .ok (.aload_n 3, 1) := by decide +kernel
theorem dX7_setAddition_60 : decode cX7_setAddition 60 = .ok (.iload_n 2, 1) := by decide +kernel
theorem dX7_setAddition_61 : decode cX7_setAddition 61 = .ok (.putfield 166, 3) := by decide +kernel
theorem dX7_setAddition_64 : decode cX7_setAddition 64 = .ok (.iload 4, 2) := by decide +kernel
theorem dX7_setAddition_66 : decode cX7_setAddition 66 = .ok (.ireturn, 1) := by decide +kernel
theorem dX7_isInOrder_0 : decode cX7_isInOrder 0 = .ok (.aload_n 0, 1) := by decide +kernel
theorem dX7_isInOrder_1 : decode cX7_isInOrder 1 = .ok (.iload_n 1, 1) := by decide +kernel
theorem dX7_isInOrder_2 : decode cX7_isInOrder 2 = .ok (.invokevirtual 143, 3) := by decide +kernel
theorem dX7_isInOrder_5 : decode cX7_isInOrder 5 = .ok (.ifCond .ne 13, 3) := by decide +kernel
theorem dX7_isInOrder_8 : decode cX7_isInOrder 8 = .ok (.new 77, 3) := by decide +kernel
theorem dX7_isInOrder_11 : decode cX7_isInOrder 11 = .ok (.dup, 1) := by decide +kernel
theorem dX7_isInOrder_12 : decode cX7_isInOrder 12 = .ok (.ldc 146, 2) := by decide +kernel
theorem dX7_isInOrder_14 : decode cX7_isInOrder 14 = .ok (.invokespecial 81, 3) := by decide +kernel
theorem dX7_isInOrder_17 : decode cX7_isInOrder 17 = .ok (.athrow, 1) := by decide +kernel
theorem dX7_isInOrder_18 : decode cX7_isInOrder 18 = .ok (.aload_n 0, 1) := by decide +kernel
theorem dX7_isInOrder_19 : decode cX7_isInOrder 19 = .ok (.getfield 26, 3) := by decide +kernel
theorem dX7_isInOrder_22 : decode cX7_isInOrder 22 = .ok (.iload_n 1, 1) := by decide +kernel
theorem dX7_isInOrder_23 : decode cX7_isInOrder 23 = .ok (.invokevirtual 82, 3) := by decide +kernel
theorem dX7_isInOrder_26 : decode cX7_isInOrder 26 = .ok (.checkcast 140, 3) := by decide +kernel
theorem dX7_isInOrder_29 : decode cX7_isInOrder 29 = .ok (.aload_n 0, 1) := by decide +kernel
theorem dX7_isInOrder_30 : decode cX7_isInOrder 30 = .ok (.invokevirtual 110, 3) := by decide +kernel
theorem dX7_isInOrder_33 : decode cX7_isInOrder 33 = .ok (.invokevirtual 169, 3) := by decide +kernel
theorem dX7_isInOrder_36 : decode cX7_isInOrder 36 = .ok (.ireturn, 1) := by decide +kernel
theorem dX7_portWater_0 : decode cX7_portWater 0 = .ok (.aload_n 0, 1) := by decide +kernel
theorem dX7_portWater_1 : decode cX7_portWater 1 = .ok (.iload_n 1, 1) := by decide +kernel
theorem dX7_portWater_2 : decode cX7_portWater 2 = .ok (.invokevirtual 143, 3) := by decide +kernel
theorem dX7_portWater_5 : decode cX7_portWater 5 = .ok (.ifCond .ne 13, 3) := by decide +kernel
theorem dX7_portWater_8 : decode cX7_portWater 8 = .ok (.new 77, 3) := by decide +kernel
theorem dX7_portWater_11 : decode cX7_portWater 11 = .ok (.dup, 1) := by decide +kernel
theorem dX7_portWater_12 : decode cX7_portWater 12 = .ok (.ldc 146, 2) := by decide +kernel
theorem dX7_portWater_14 : decode cX7_portWater 14 = .ok (.invokespecial 81, 3) := by decide +kernel
theorem dX7_portWater_17 : decode cX7_portWater 17 = .ok (.athrow, 1) := by decide +kernel
theorem dX7_portWater_18 : decode cX7_portWater 18 = .ok (.aload_n 0, 1) := by decide +kernel
theorem dX7_portWater_19 : decode cX7_portWater 19 = .ok (.invokevirtual 110, 3) := by decide +kernel
theorem dX7_portWater_22 : decode cX7_portWater 22 = .ok (.astore 4, 2) := by decide +kernel
theorem dX7_portWater_24 : decode cX7_portWater 24 = .ok (.aload 4, 2) := by decide +kernel
theorem dX7_portWater_26 : decode cX7_portWater 26 = .ok (.iload_n 2, 1) := by decide +kernel
theorem dX7_portWater_27 : decode cX7_portWater 27 = .ok (.invokevirtual 114, 3) := by decide +kernel
theorem dX7_portWater_30 : decode cX7_portWater 30 = .ok (.ifCond .ne 13, 3) := by decide +kernel
theorem dX7_portWater_33 : decode cX7_portWater 33 = .ok (.new 77, 3) := by decide +kernel
theorem dX7_portWater_36 : decode cX7_portWater 36 = .ok (.dup, 1) := by decide +kernel
theorem dX7_portWater_37 : decode cX7_portWater 37 = .ok (.ldc 117, 2) := by decide +kernel
theorem dX7_portWater_39 : decode cX7_portWater 39 = .ok (.invokespecial 81, 3) := by decide +kernel
theorem dX7_portWater_42 : decode cX7_portWater 42 = .ok (.athrow, 1) := by decide +kernel
theorem dX7_portWater_43 : decode cX7_portWater 43 = .ok (.aload_n 0, 1) := by decide +kernel
theorem dX7_portWater_44 : decode cX7_portWater 44 = .ok (.getfield 26, 3) := by decide +kernel
theorem dX7_portWater_47 : decode cX7_portWater 47 = .ok (.iload_n 1, 1) := by decide +kernel
theorem dX7_portWater_48 : decode cX7_portWater 48 = .ok (.invokevirtual 82, 3) := by decide +kernel
theorem dX7_portWater_51 : decode cX7_portWater 51 = .ok (.checkcast 140, 3) := by decide +kernel
theorem dX7_portWater_54 : decode cX7_portWater 54 = .ok (.astore 5, 2) := by decide +kernel
theorem dX7_portWater_56 : decode cX7_portWater 56 = .ok (.iload_n 3, 1) := by decide +kernel
theorem dX7_portWater_57 : decode cX7_portWater 57 = .ok (.ifCond .eq 14, 3) := by decide +kernel
theorem dX7_portWater_60 : decode cX7_portWater 60 = .ok (.aload 5, 2) := by decide +kernel
theorem dX7_portWater_62 : decode cX7_portWater 62 = .ok (.aload 4, 2) := by decide +kernel
theorem dX7_portWater_64 : decode cX7_portWater 64 = .ok (.iload_n 2, 1) := by decide +kernel
theorem dX7_portWater_65 : decode cX7_portWater 65 = .ok (.invokevirtual 173, 3) := by decide +kernel
theorem dX7_portWater_68 : decode cX7_portWater 68 = .ok (.goto 11, 3) := by decide +kernel
theorem dX7_portWater_71 : decode cX7_portWater 71 = .ok (.aload 5, 2) := by decide +kernel
theorem dX7_portWater_73 : decode cX7_portWater 73 = .ok (.aload 4, 2) := by decide +kernel
theorem dX7_portWater_75 : decode cX7_portWater 75 = .ok (.iload_n 2, 1) := by decide +kernel
theorem dX7_portWater_76 : decode cX7_portWater 76 = .ok (.invokevirtual 176, 3) := by decide +kernel
theorem dX7_portWater_79 : decode cX7_portWater 79 = .ok (.ireturn, 1) := by decide +kernel
theorem dX7_portHeight_0 : decode cX7_portHeight 0 = .ok (.aload_n 0, 1) := by decide +kernel
theorem dX7_portHeight_1 : decode cX7_portHeight 1 = .ok (.iload_n 1, 1) := by decide +kernel
theorem dX7_portHeight_2 : decode cX7_portHeight 2 = .ok (.invokevirtual 143, 3) := by decide +kernel
theorem dX7_portHeight_5 : decode cX7_portHeight 5 = .ok (.ifCond .ne 13, 3) := by decide +kernel
theorem dX7_portHeight_8 : decode cX7_portHeight 8 = .ok (.new 77, 3) := by decide +kernel
theorem dX7_portHeight_11 : decode cX7_portHeight 11 = .ok (.dup, 1) := by decide +kernel
theorem dX7_portHeight_12 : decode cX7_portHeight 12 = .ok (.ldc 146, 2) := by decide +kernel
theorem dX7_portHeight_14 : decode cX7_portHeight 14 = .ok (.invokespecial 81, 3) := by decide +kernel
theorem dX7_portHeight_17 : decode cX7_portHeight 17 = .ok (.athrow, 1) := by decide +kernel
theorem dX7_portHeight_18 : decode cX7_portHeight 18 = .ok (.iload_n 2, 1) := by decide +kernel
theorem dX7_portHeight_19 : decode cX7_portHeight 19 = .ok (.invokestatic 95, 3) := by decide +kernel
theorem dX7_portHeight_22 : decode cX7_portHeight 22 = .ok (.ifCond .ne 13, 3) := by decide +kernel
theorem dX7_portHeight_25 : decode cX7_portHeight 25 = .ok (.new 41, 3) := by decide +kernel
theorem dX7_portHeight_28 : decode cX7_portHeight 28 = .ok (.dup, 1) := by decide +kernel
theorem dX7_portHeight_29 : decode cX7_portHeight 29 = .ok (.ldc 98, 2) := by decide +kernel
theorem dX7_portHeight_31 : decode cX7_portHeight 31 = .ok (.invokespecial 45, 3) := by decide +kernel
theorem dX7_portHeight_34 : decode cX7_portHeight 34 = .ok (.athrow, 1) := by decide +kernel
theorem dX7_portHeight_35 : decode cX7_portHeight 35 = .ok (.aload_n 0, 1) := by decide +kernel
theorem dX7_portHeight_36 : decode cX7_portHeight 36 = .ok (.invokevirtual 110, 3) := by decide +kernel
theorem dX7_portHeight_39 : decode cX7_portHeight 39 = .ok (.astore_n 3, 1) := by decide +kernel
theorem dX7_portHeight_40 : decode cX7_portHeight 40 = .ok (.aload_n 0, 1) := by decide +kernel
theorem dX7_portHeight_41 : decode cX7_portHeight 41 = .ok (.getfield 26, 3) := by decide +kernel
theorem dX7_portHeight_44 : decode cX7_portHeight 44 = .ok (.iload_n 1, 1) := by decide +kernel
theorem dX7_portHeight_45 : decode cX7_portHeight 45 = .ok (.invokevirtual 82, 3) := by decide +kernel
theorem dX7_portHeight_48 : decode cX7_portHeight 48 = .ok (.checkcast 140, 3) := by decide +kernel
theorem dX7_portHeight_51 : decode cX7_portHeight 51 = .ok (.astore 4, 2) := by decide +kernel
theorem dX7_portHeight_53 : decode cX7_portHeight 53 = .ok (.aload 4, 2) := by decide +kernel
theorem dX7_portHeight_55 : decode cX7_portHeight 55 = .ok (.aload_n 3, 1) := by decide +kernel
theorem dX7_portHeight_56 : decode cX7_portHeight 56 = .ok (.invokevirtual 169, 3) := by decide +kernel
theorem dX7_portHeight_59 : decode cX7_portHeight 59 = .ok (.ifCond .ne 13, 3) := by decide +kernel
theorem dX7_portHeight_62 : decode cX7_portHeight 62 = .ok (.new 59, 3) := by decide +kernel
theorem dX7_portHeight_65 : decode cX7_portHeight 65 = .ok (.dup, 1) := by decide +kernel
theorem dX7_portHeight_66 : decode cX7_portHeight 66 = .ok (.ldc 178, 2) := by decide +kernel
theorem dX7_portHeight_68 : decode cX7_portHeight 68 = .ok (.invokespecial 63, 3) := by decide +kernel
theorem dX7_portHeight_71 : decode cX7_portHeight 71 = .ok (.athrow, 1) := by decide +kernel
theorem dX7_portHeight_72 : decode cX7_portHeight 72 = .ok (.aload 4, 2) := by decide +kernel
theorem dX7_portHeight_74 : decode cX7_portHeight 74 = .ok (.aload_n 3, 1) := by decide +kernel
theorem dX7_portHeight_75 : decode cX7_portHeight 75 = .ok (.iconst (-1), 1) := by decide +kernel
theorem dX7_portHeight_76 : decode cX7_portHeight 76 = .ok (.iload_n 2, 1) := by decide +kernel
theorem dX7_portHeight_77 : decode cX7_portHeight 77 = .ok (.invokevirtual 180, 3) := by decide +kernel
theorem dX7_portHeight_80 : decode cX7_portHeight 80 = .ok (.istore 5, 2) := by decide +kernel
theorem dX7_portHeight_82 : decode cX7_portHeight 82 = .ok (.aload_n 3, 1) := by decide +kernel
theorem dX7_portHeight_83 : decode cX7_portHeight 83 = .ok (.iload 5, 2) := by decide +kernel
theorem dX7_portHeight_85 : decode cX7_portHeight 85 = .ok (.invokevirtual 184, 3) := by decide +kernel
theorem dX7_portHeight_88 : decode cX7_portHeight 88 = .ok (.ifCond .ne 13, 3) := by decide +kernel
theorem dX7_portHeight_91 : decode cX7_portHeight 91 = .ok (.new 59, 3) := by decide +kernel
theorem dX7_portHeight_94 : decode cX7_portHeight 94 = .ok (.dup, 1) := by decide +kernel
theorem dX7_portHeight_95 : decode cX7_portHeight 95 = .ok (.ldc 187, 2) := by decide +kernel
theorem dX7_portHeight_97 : decode cX7_portHeight 97 = .ok (.invokespecial 63, 3) := by decide +kernel
theorem dX7_portHeight_100 : decode cX7_portHeight 100 = .ok (.athrow, 1) := by decide +kernel
theorem dX7_portHeight_101 : decode cX7_portHeight 101 = .ok (.aload 4, 2) := by decide +kernel
theorem dX7_portHeight_103 : decode cX7_portHeight 103 = .ok (.aload_n 3, 1) := by decide +kernel
theorem dX7_portHeight_104 : decode cX7_portHeight 104 = .ok (.iload 5, 2) := by decide +kernel
theorem dX7_portHeight_106 : decode cX7_portHeight 106 = .ok (.iload_n 2, 1) := by decide +kernel
theorem dX7_portHeight_107 : decode cX7_portHeight 107 = .ok (.invokevirtual 189, 3) := by decide +kernel
theorem dX7_portHeight_110 : decode cX7_portHeight 110 = .ok (.ireturn, 1) := by decide +kernel
theorem dX7_isWithin_0 : decode cX7_isWithin 0 = .ok (.iload_n 0, 1) := by decide +kernel
theorem dX7_isWithin_1 : decode cX7_isWithin 1 = .ok (.iload_n 1, 1) := by decide +kernel
theorem dX7_isWithin_2 : decode cX7_isWithin 2 = .ok (.if_icmp .lt 12, 3) := by decide +kernel
theorem dX7_isWithin_5 : decode cX7_isWithin 5 = .ok (.iload_n 0, 1) := by decide +kernel
theorem dX7_isWithin_6 : decode cX7_isWithin 6 = .ok (.iload_n 2, 1) := by decide +kernel
theorem dX7_isWithin_7 : decode cX7_isWithin 7 = .ok (.if_icmp .gt 7, 3) := by decide +kernel
theorem dX7_isWithin_10 : decode cX7_isWithin 10 = .ok (.iconst 1, 1) := by decide +kernel
theorem dX7_isWithin_11 : decode cX7_isWithin 11 = .ok (.goto 4, 3) := by decide +kernel
theorem dX7_isWithin_14 : decode cX7_isWithin 14 = .ok (.iconst 0, 1) := by decide +kernel
theorem dX7_isWithin_15 : decode cX7_isWithin 15 = .ok (.ireturn, 1) := by decide +kernel
theorem dX7_isMinute_0 : decode cX7_isMinute 0 = .ok (.iload_n 0, 1) := by decide +kernel
theorem dX7_isMinute_1 : decode cX7_isMinute 1 = .ok (.iconst 0, 1) := by decide +kernel
theorem dX7_isMinute_2 : decode cX7_isMinute 2 = .ok (.sipush 4319, 3) := by decide +kernel
theorem dX7_isMinute_5 : decode cX7_isMinute 5 = .ok (.invokestatic 37, 3) := by decide +kernel
theorem dX7_isMinute_8 : decode cX7_isMinute 8 = .ok (.ireturn, 1) := by decide +kernel
theorem dX7_quotient_0 : decode cX7_quotient 0 = .ok (.lload_n 2, 1) := by decide +kernel
theorem dX7_quotient_1 : decode cX7_quotient 1 = .ok (.lconst 0, 1) := by decide +kernel
theorem dX7_quotient_2 : decode cX7_quotient 2 = .ok (.lcmp, 1) := by decide +kernel
theorem dX7_quotient_3 : decode cX7_quotient 3 = .ok (.ifCond .ne 7, 3) := by decide +kernel
theorem dX7_quotient_6 : decode cX7_quotient 6 = .ok (.lconst 0, 1) := by decide +kernel
theorem dX7_quotient_7 : decode cX7_quotient 7 = .ok (.goto 6, 3) := by decide +kernel
theorem dX7_quotient_10 : decode cX7_quotient 10 = .ok (.lload_n 0, 1) := by decide +kernel
theorem dX7_quotient_11 : decode cX7_quotient 11 = .ok (.lload_n 2, 1) := by decide +kernel
theorem dX7_quotient_12 : decode cX7_quotient 12 = .ok (.ldiv, 1) := by decide +kernel
theorem dX7_quotient_13 : decode cX7_quotient 13 = .ok (.lreturn, 1) := by decide +kernel
theorem dX7_hasPort_0 : decode cX7_hasPort 0 = .ok (.iload_n 1, 1) := by decide +kernel
theorem dX7_hasPort_1 : decode cX7_hasPort 1 = .ok (.ifCond .lt 18, 3) := by decide +kernel
theorem dX7_hasPort_4 : decode cX7_hasPort 4 = .ok (.iload_n 1, 1) := by decide +kernel
theorem dX7_hasPort_5 : decode cX7_hasPort 5 = .ok (.aload_n 0, 1) := by decide +kernel
theorem dX7_hasPort_6 : decode cX7_hasPort 6 = .ok (.getfield 26, 3) := by decide +kernel
theorem dX7_hasPort_9 : decode cX7_hasPort 9 = .ok (.invokevirtual 55, 3) := by decide +kernel
theorem dX7_hasPort_12 : decode cX7_hasPort 12 = .ok (.if_icmp .ge 7, 3) := by decide +kernel
theorem dX7_hasPort_15 : decode cX7_hasPort 15 = .ok (.iconst 1, 1) := by decide +kernel
theorem dX7_hasPort_16 : decode cX7_hasPort 16 = .ok (.goto 4, 3) := by decide +kernel
theorem dX7_hasPort_19 : decode cX7_hasPort 19 = .ok (.iconst 0, 1) := by decide +kernel
theorem dX7_hasPort_20 : decode cX7_hasPort 20 = .ok (.ireturn, 1) := by decide +kernel
theorem dX7_currentTable_0 : decode cX7_currentTable 0 = .ok (.aload_n 0, 1) := by decide +kernel
theorem dX7_currentTable_1 : decode cX7_currentTable 1 = .ok (.getfield 33, 3) := by decide +kernel
theorem dX7_currentTable_4 : decode cX7_currentTable 4 = .ok (.ifCond .eq 19, 3) := by decide +kernel
theorem dX7_currentTable_7 : decode cX7_currentTable 7 = .ok (.aload_n 0, 1) := by decide +kernel
theorem dX7_currentTable_8 : decode cX7_currentTable 8 = .ok (.getfield 19, 3) := by decide +kernel
theorem dX7_currentTable_11 : decode cX7_currentTable 11 = .ok (.aload_n 0, 1) := by decide +kernel
theorem dX7_currentTable_12 : decode cX7_currentTable 12 = .ok (.getfield 10, 3) := by decide +kernel
theorem dX7_currentTable_15 : decode cX7_currentTable 15 = .ok (.invokevirtual 263, 3) := by decide +kernel
theorem dX7_currentTable_18 : decode cX7_currentTable 18 = .ok (.aload_n 0, 1) := by decide +kernel
theorem dX7_currentTable_19 : decode cX7_currentTable 19 = .ok (.iconst 0, 1) := by decide +kernel
theorem dX7_currentTable_20 : decode cX7_currentTable 20 = .ok (.putfield 33, 3) := by decide +kernel
theorem dX7_currentTable_23 : decode cX7_currentTable 23 = .ok (.aload_n 0, 1) := by decide +kernel
theorem dX7_currentTable_24 : decode cX7_currentTable 24 = .ok (.getfield 19, 3) := by decide +kernel
theorem dX7_currentTable_27 : decode cX7_currentTable 27 = .ok (.areturn, 1) := by decide +kernel
theorem dX7_numberOf_0 : decode cX7_numberOf 0 = .ok (.iload_n 1, 1) := by decide +kernel
theorem dX7_numberOf_1 : decode cX7_numberOf 1 = .ok (.tableswitch 54 0 2 #[27, 38, 46], 27) := by decide +kernel
theorem dX7_numberOf_28 : decode cX7_numberOf 28 = .ok (.aload_n 0, 1) := by decide +kernel
theorem dX7_numberOf_29 : decode cX7_numberOf 29 = .ok (.getfield 10, 3) := by decide +kernel
theorem dX7_numberOf_32 : decode cX7_numberOf 32 = .ok (.getfield 52, 3) := by decide +kernel
theorem dX7_numberOf_35 : decode cX7_numberOf 35 = .ok (.invokevirtual 55, 3) := by decide +kernel
theorem dX7_numberOf_38 : decode cX7_numberOf 38 = .ok (.ireturn, 1) := by decide +kernel
theorem dX7_numberOf_39 : decode cX7_numberOf 39 = .ok (.aload_n 0, 1) := by decide +kernel
theorem dX7_numberOf_40 : decode cX7_numberOf 40 = .ok (.invokevirtual 110, 3) := by decide +kernel
theorem dX7_numberOf_43 : decode cX7_numberOf 43 = .ok (.getfield 130, 3) := by decide +kernel
theorem dX7_numberOf_46 : decode cX7_numberOf 46 = .ok (.ireturn, 1) := by decide +kernel
theorem dX7_numberOf_47 : decode cX7_numberOf 47 = .ok (.aload_n 0, 1) := by decide +kernel
theorem dX7_numberOf_48 : decode cX7_numberOf 48 = .ok (.getfield 26, 3) := by decide +kernel
theorem dX7_numberOf_51 : decode cX7_numberOf 51 = .ok (.invokevirtual 55, 3) := by decide +kernel
theorem dX7_numberOf_54 : decode cX7_numberOf 54 = .ok (.ireturn, 1) := by decide +kernel
theorem dX7_numberOf_55 : decode cX7_numberOf 55 = .ok (.aload_n 0, 1) := by decide +kernel
theorem dX7_numberOf_56 : decode cX7_numberOf 56 = .ok (.getfield 30, 3) := by decide +kernel
theorem dX7_numberOf_59 : decode cX7_numberOf 59 = .ok (.invokevirtual 55, 3) := by decide +kernel
theorem dX7_numberOf_62 : decode cX7_numberOf 62 = .ok (.ireturn, 1) := by decide +kernel
theorem dL_below_0 : decode cL_below 0 = .ok (.iload_n 0, 1) := by decide +kernel
theorem dL_below_1 : decode cL_below 1 = .ok (.ldc 7, 2) := by decide +kernel
theorem dL_below_3 : decode cL_below 3 = .ok (.iand, 1) := by decide +kernel
theorem dL_below_4 : decode cL_below 4 = .ok (.iload_n 1, 1) := by decide +kernel
theorem dL_below_5 : decode cL_below 5 = .ok (.irem, 1) := by decide +kernel
theorem dL_below_6 : decode cL_below 6 = .ok (.ireturn, 1) := by decide +kernel
theorem dL_cell_0 : decode cL_cell 0 = .ok (.iload_n 1, 1) := by decide +kernel
theorem dL_cell_1 : decode cL_cell 1 = .ok (.aload_n 0, 1) := by decide +kernel
theorem dL_cell_2 : decode cL_cell 2 = .ok (.arraylength, 1) := by decide +kernel
theorem dL_cell_3 : decode cL_cell 3 = .ok (.if_icmp .ge 9, 3) := by decide +kernel
theorem dL_cell_6 : decode cL_cell 6 = .ok (.aload_n 0, 1) := by decide +kernel
theorem dL_cell_7 : decode cL_cell 7 = .ok (.iload_n 1, 1) := by decide +kernel
theorem dL_cell_8 : decode cL_cell 8 = .ok (.iaload, 1) := by decide +kernel
theorem dL_cell_9 : decode cL_cell 9 = .ok (.goto 9, 3) := by decide +kernel
theorem dL_cell_12 : decode cL_cell 12 = .ok (.ldc 8, 2) := by decide +kernel
theorem dL_cell_14 : decode cL_cell 14 = .ok (.iload_n 1, 1) := by decide +kernel
theorem dL_cell_15 : decode cL_cell 15 = .ok (.iconst 3, 1) := by decide +kernel
theorem dL_cell_16 : decode cL_cell 16 = .ok (.iadd, 1) := by decide +kernel
theorem dL_cell_17 : decode cL_cell 17 = .ok (.imul, 1) := by decide +kernel
theorem dL_cell_18 : decode cL_cell 18 = .ok (.ireturn, 1) := by decide +kernel
theorem dL_waves_0 : decode cL_waves 0 = .ok (.aload_n 1, 1) := by decide +kernel
theorem dL_waves_1 : decode cL_waves 1 = .ok (.iload_n 2, 1) := by decide +kernel
theorem dL_waves_2 : decode cL_waves 2 = .ok (.invokestatic 9, 3) := by decide +kernel
theorem dL_waves_5 : decode cL_waves 5 = .ok (.iconst 4, 1) := by decide +kernel
theorem dL_waves_6 : decode cL_waves 6 = .ok (.invokestatic 15, 3) := by decide +kernel
theorem dL_waves_9 : decode cL_waves 9 = .ok (.istore 4, 2) := by decide +kernel
theorem dL_waves_11 : decode cL_waves 11 = .ok (.iconst 0, 1) := by decide +kernel
theorem dL_waves_12 : decode cL_waves 12 = .ok (.istore 5, 2) := by decide +kernel
theorem dL_waves_14 : decode cL_waves 14 = .ok (.iload 5, 2) := by decide +kernel
theorem dL_waves_16 : decode cL_waves 16 = .ok (.iload 4, 2) := by decide +kernel
theorem dL_waves_18 : decode cL_waves 18 = .ok (.if_icmp .ge 184, 3) := by decide +kernel
theorem dL_waves_21 : decode cL_waves 21 = .ok (.aload_n 1, 1) := by decide +kernel
theorem dL_waves_22 : decode cL_waves 22 = .ok (.iload_n 2, 1) := by decide +kernel
theorem dL_waves_23 : decode cL_waves 23 = .ok (.iconst 1, 1) := by decide +kernel
theorem dL_waves_24 : decode cL_waves 24 = .ok (.iadd, 1) := by decide +kernel
theorem dL_waves_25 : decode cL_waves 25 = .ok (.iload 5, 2) := by decide +kernel
theorem dL_waves_27 : decode cL_waves 27 = .ok (.iadd, 1) := by decide +kernel
theorem dL_waves_28 : decode cL_waves 28 = .ok (.invokestatic 9, 3) := by decide +kernel
theorem dL_waves_31 : decode cL_waves 31 = .ok (.istore 6, 2) := by decide +kernel
theorem dL_waves_33 : decode cL_waves 33 = .ok (.iload 6, 2) := by decide +kernel
theorem dL_waves_35 : decode cL_waves 35 = .ok (.iconst 5, 1) := by decide +kernel
theorem dL_waves_36 : decode cL_waves 36 = .ok (.invokestatic 15, 3) := by decide +kernel
theorem dL_waves_39 : decode cL_waves 39 = .ok (.ifCond .ne 19, 3) := by decide +kernel
theorem dL_waves_42 : decode cL_waves 42 = .ok (.bipush 60, 2) := by decide +kernel
theorem dL_waves_44 : decode cL_waves 44 = .ok (.iload 6, 2) := by decide +kernel
theorem dL_waves_46 : decode cL_waves 46 = .ok (.iconst 3, 1) := by decide +kernel
theorem dL_waves_47 : decode cL_waves 47 = .ok (.ishr, 1) := by decide +kernel
theorem dL_waves_48 : decode cL_waves 48 = .ok (.sipush 300, 3) := by decide +kernel
theorem dL_waves_51 : decode cL_waves 51 = .ok (.invokestatic 15, 3) := by decide +kernel
theorem dL_waves_54 : decode cL_waves 54 = .ok (.iadd, 1) := by decide +kernel
theorem dL_waves_55 : decode cL_waves 55 = .ok (.goto 44, 3) := by decide +kernel
theorem dL_waves_58 : decode cL_waves 58 = .ok (.iload 6, 2) := by decide +kernel
theorem dL_waves_60 : decode cL_waves 60 = .ok (.iconst 5, 1) := by decide +kernel
theorem dL_waves_61 : decode cL_waves 61 = .ok (.invokestatic 15, 3) := by decide +kernel
theorem dL_waves_64 : decode cL_waves 64 = .ok (.iconst 1, 1) := by decide +kernel
theorem dL_waves_65 : decode cL_waves 65 = .ok (.if_icmp .ne 20, 3) := by decide +kernel
theorem dL_waves_68 : decode cL_waves 68 = .ok (.sipush 5000, 3) := by decide +kernel
theorem dL_waves_71 : decode cL_waves 71 = .ok (.iload 6, 2) := by decide +kernel
theorem dL_waves_73 : decode cL_waves 73 = .ok (.iconst 3, 1) := by decide +kernel
theorem dL_waves_74 : decode cL_waves 74 = .ok (.ishr, 1) := by decide +kernel
theorem dL_waves_75 : decode cL_waves 75 = .ok (.sipush 15000, 3) := by decide +kernel
theorem dL_waves_78 : decode cL_waves 78 = .ok (.invokestatic 15, 3) := by decide +kernel
theorem dL_waves_81 : decode cL_waves 81 = .ok (.iadd, 1) := by decide +kernel
theorem dL_waves_82 : decode cL_waves 82 = .ok (.goto 17, 3) := by decide +kernel
theorem dL_waves_85 : decode cL_waves 85 = .ok (.sipush 500, 3) := by decide +kernel
theorem dL_waves_88 : decode cL_waves 88 = .ok (.iload 6, 2) := by decide +kernel
theorem dL_waves_90 : decode cL_waves 90 = .ok (.iconst 3, 1) := by decide +kernel
theorem dL_waves_91 : decode cL_waves 91 = .ok (.ishr, 1) := by decide +kernel
theorem dL_waves_92 : decode cL_waves 92 = .ok (.sipush 1200, 3) := by decide +kernel
theorem dL_waves_95 : decode cL_waves 95 = .ok (.invokestatic 15, 3) := by decide +kernel
theorem dL_waves_98 : decode cL_waves 98 = .ok (.iadd, 1) := by decide +kernel
theorem dL_waves_99 : decode cL_waves 99 = .ok (.istore 7, 2) := by decide +kernel
theorem dL_waves_101 : decode cL_waves 101 = .ok (.aload_n 3, 1) := by decide +kernel
theorem dL_waves_102 : decode cL_waves 102 = .ok (.iconst 3, 1) := by decide +kernel
theorem dL_waves_103 : decode cL_waves 103 = .ok (.iload 5, 2) := by decide +kernel
theorem dL_waves_105 : decode cL_waves 105 = .ok (.imul, 1) := by decide +kernel
theorem dL_waves_106 : decode cL_waves 106 = .ok (.iload 6, 2) := by decide +kernel
theorem dL_waves_108 : decode cL_waves 108 = .ok (.iconst 5, 1) := by decide +kernel
theorem dL_waves_109 : decode cL_waves 109 = .ok (.ishr, 1) := by decide +kernel
theorem dL_waves_110 : decode cL_waves 110 = .ok (.bipush 9, 2) := by decide +kernel
theorem dL_waves_112 : decode cL_waves 112 = .ok (.invokestatic 15, 3) := by decide +kernel
theorem dL_waves_115 : decode cL_waves 115 = .ok (.ifCond .ne 15, 3) := by decide +kernel
theorem dL_waves_118 : decode cL_waves 118 = .ok (.iload 6, 2) := by decide +kernel
theorem dL_waves_120 : decode cL_waves 120 = .ok (.bipush 6, 2) := by decide +kernel
theorem dL_waves_122 : decode cL_waves 122 = .ok (.ishr, 1) := by decide +kernel
theorem dL_waves_123 : decode cL_waves 123 = .ok (.iconst 4, 1) := by decide +kernel
theorem dL_waves_124 : decode cL_waves 124 = .ok (.invokestatic 15, 3) := by decide +kernel
theorem dL_waves_127 : decode cL_waves 127 = .ok (.goto 13, 3) := by decide +kernel
theorem dL_waves_130 : decode cL_waves 130 = .ok (.iload 6, 2) := by decide +kernel
theorem dL_waves_132 : decode cL_waves 132 = .ok (.iconst 5, 1) := by decide +kernel
theorem dL_waves_133 : decode cL_waves 133 = .ok (.ishr, 1) := by decide +kernel
theorem dL_waves_134 : decode cL_waves 134 = .ok (.sipush 5001, 3) := by decide +kernel
theorem dL_waves_137 : decode cL_waves 137 = .ok (.invokestatic 15, 3) := by decide +kernel
theorem dL_waves_140 : decode cL_waves 140 = .ok (.iastore, 1) := by decide +kernel
theorem dL_waves_141 : decode cL_waves 141 = .ok (.aload_n 3, 1) := by decide +kernel
theorem dL_waves_142 : decode cL_waves 142 = .ok (.iconst 3, 1) := by decide +kernel
theorem dL_waves_143 : decode cL_waves 143 = .ok (.iload 5, 2) := by decide +kernel
theorem dL_waves_145 : decode cL_waves 145 = .ok (.imul, 1) := by decide +kernel
theorem dL_waves_146 : decode cL_waves 146 = .ok (.iconst 1, 1) := by decide +kernel
theorem dL_waves_147 : decode cL_waves 147 = .ok (.iadd, 1) := by decide +kernel
theorem dL_waves_148 : decode cL_waves 148 = .ok (.iload 7, 2) := by decide +kernel
theorem dL_waves_150 : decode cL_waves 150 = .ok (.iastore, 1) := by decide +kernel
theorem dL_waves_151 : decode cL_waves 151 = .ok (.aload_n 3, 1) := by decide +kernel
theorem dL_waves_152 : decode cL_waves 152 = .ok (.iconst 3, 1) := by decide +kernel
theorem dL_waves_153 : decode cL_waves 153 = .ok (.iload 5, 2) := by decide +kernel
theorem dL_waves_155 : decode cL_waves 155 = .ok (.imul, 1) := by decide +kernel
theorem dL_waves_156 : decode cL_waves 156 = .ok (.iconst 2, 1) := by decide +kernel
theorem dL_waves_157 : decode cL_waves 157 = .ok (.iadd, 1) := by decide +kernel
theorem dL_waves_158 : decode cL_waves 158 = .ok (.iload 6, 2) := by decide +kernel
theorem dL_waves_160 : decode cL_waves 160 = .ok (.bipush 7, 2) := by decide +kernel
theorem dL_waves_162 : decode cL_waves 162 = .ok (.ishr, 1) := by decide +kernel
theorem dL_waves_163 : decode cL_waves 163 = .ok (.iload 7, 2) := by decide +kernel
theorem dL_waves_165 : decode cL_waves 165 = .ok (.invokestatic 15, 3) := by decide +kernel
theorem dL_waves_168 : decode cL_waves 168 = .ok (.iastore, 1) := by decide +kernel
theorem dL_waves_169 : decode cL_waves 169 = .ok (.aload_n 0, 1) := by decide +kernel
theorem dL_waves_170 : decode cL_waves 170 = .ok (.aload_n 3, 1) := by decide +kernel
theorem dL_waves_171 : decode cL_waves 171 = .ok (.iconst 3, 1) := by decide +kernel
theorem dL_waves_172 : decode cL_waves 172 = .ok (.iload 5, 2) := by decide +kernel
theorem dL_waves_174 : decode cL_waves 174 = .ok (.imul, 1) := by decide +kernel
theorem dL_waves_175 : decode cL_waves 175 = .ok (.iaload, 1) := by decide +kernel
theorem dL_waves_176 : decode cL_waves 176 = .ok (.iload 7, 2) := by decide +kernel
theorem dL_waves_178 : decode cL_waves 178 = .ok (.aload_n 3, 1) := by decide +kernel
theorem dL_waves_179 : decode cL_waves 179 = .ok (.iconst 3, 1) := by decide +kernel
theorem dL_waves_180 : decode cL_waves 180 = .ok (.iload 5, 2) := by decide +kernel
theorem dL_waves_182 : decode cL_waves 182 = .ok (.imul, 1) := by decide +kernel
theorem dL_waves_183 : decode cL_waves 183 = .ok (.iconst 2, 1) := by decide +kernel
theorem dL_waves_184 : decode cL_waves 184 = .ok (.iadd, 1) := by decide +kernel
theorem dL_waves_185 : decode cL_waves 185 = .ok (.iaload, 1) := by decide +kernel
theorem dL_waves_186 : decode cL_waves 186 = .ok (.invokevirtual 19, 3) := by decide +kernel
theorem dL_waves_189 : decode cL_waves 189 = .ok (.iload 5, 2) := by decide +kernel
theorem dL_waves_191 : decode cL_waves 191 = .ok (.if_icmp .eq 5, 3) := by decide +kernel
theorem dL_waves_194 : decode cL_waves 194 = .ok (.iconst (-1), 1) := by decide +kernel
theorem dL_waves_195 : decode cL_waves 195 = .ok (.ireturn, 1) := by decide +kernel
theorem dL_waves_196 : decode cL_waves 196 = .ok (.iinc 5 1, 3) := by decide +kernel
theorem dL_waves_199 : decode cL_waves 199 = .ok (.goto (-185), 3) := by decide +kernel
theorem dL_waves_202 : decode cL_waves 202 = .ok (.iload 4, 2) := by decide +kernel
theorem dL_waves_204 : decode cL_waves 204 = .ok (.ireturn, 1) := by decide +kernel
theorem dL_law_0 : decode cL_law 0 = .ok (.new 20, 3) := by decide +kernel
theorem dL_law_3 : decode cL_law 3 = .ok (.dup, 1) := by decide +kernel
theorem dL_law_4 : decode cL_law 4 = .ok (.invokespecial 41, 3) := by decide +kernel
theorem dL_law_7 : decode cL_law 7 = .ok (.astore_n 1, 1) := by decide +kernel
theorem dL_law_8 : decode cL_law 8 = .ok (.aload_n 1, 1) := by decide +kernel
theorem dL_law_9 : decode cL_law 9 = .ok (.aload_n 0, 1) := by decide +kernel
theorem dL_law_10 : decode cL_law 10 = .ok (.iconst 0, 1) := by decide +kernel
theorem dL_law_11 : decode cL_law 11 = .ok (.bipush 9, 2) := by decide +kernel
theorem dL_law_13 : decode cL_law 13 = .ok (.newarray .int, 2) := by decide +kernel
theorem dL_law_15 : decode cL_law 15 = .ok (.invokestatic 42, 3) := by decide +kernel
theorem dL_law_18 : decode cL_law 18 = .ok (.istore_n 2, 1) := by decide +kernel
theorem dL_law_19 : decode cL_law 19 = .ok (.iload_n 2, 1) := by decide +kernel
theorem dL_law_20 : decode cL_law 20 = .ok (.ifCond .ge 5, 3) := by decide +kernel
theorem dL_law_23 : decode cL_law 23 = .ok (.iconst 0, 1) := by decide +kernel
theorem dL_law_24 : decode cL_law 24 = .ok (.ireturn, 1) := by decide +kernel
theorem dL_law_25 : decode cL_law 25 = .ok (.aload_n 1, 1) := by decide +kernel
theorem dL_law_26 : decode cL_law 26 = .ok (.invokevirtual 46, 3) := by decide +kernel
theorem dL_law_29 : decode cL_law 29 = .ok (.istore_n 3, 1) := by decide +kernel
theorem dL_law_30 : decode cL_law 30 = .ok (.aload_n 0, 1) := by decide +kernel
theorem dL_law_31 : decode cL_law 31 = .ok (.iconst 5, 1) := by decide +kernel
theorem dL_law_32 : decode cL_law 32 = .ok (.invokestatic 9, 3) := by decide +kernel
theorem dL_law_35 : decode cL_law 35 = .ok (.sipush 601, 3) := by decide +kernel
theorem dL_law_38 : decode cL_law 38 = .ok (.invokestatic 15, 3) := by decide +kernel
theorem dL_law_41 : decode cL_law 41 = .ok (.sipush 300, 3) := by decide +kernel
theorem dL_law_44 : decode cL_law 44 = .ok (.isub, 1) := by decide +kernel
theorem dL_law_45 : decode cL_law 45 = .ok (.istore 4, 2) := by decide +kernel
theorem dL_law_47 : decode cL_law 47 = .ok (.aload_n 1, 1) := by decide +kernel
theorem dL_law_48 : decode cL_law 48 = .ok (.iload_n 3, 1) := by decide +kernel
theorem dL_law_49 : decode cL_law 49 = .ok (.iconst 1, 1) := by decide +kernel
theorem dL_law_50 : decode cL_law 50 = .ok (.iload 4, 2) := by decide +kernel
theorem dL_law_52 : decode cL_law 52 = .ok (.iconst 1, 1) := by decide +kernel
theorem dL_law_53 : decode cL_law 53 = .ok (.aload_n 0, 1) := by decide +kernel
theorem dL_law_54 : decode cL_law 54 = .ok (.bipush 6, 2) := by decide +kernel
theorem dL_law_56 : decode cL_law 56 = .ok (.invokestatic 9, 3) := by decide +kernel
theorem dL_law_59 : decode cL_law 59 = .ok (.sipush 300, 3) := by decide +kernel
theorem dL_law_62 : decode cL_law 62 = .ok (.invokestatic 15, 3) := by decide +kernel
theorem dL_law_65 : decode cL_law 65 = .ok (.iadd, 1) := by decide +kernel
theorem dL_law_66 : decode cL_law 66 = .ok (.invokevirtual 50, 3) := by decide +kernel
theorem dL_law_69 : decode cL_law 69 = .ok (.pop, 1) := by decide +kernel
theorem dL_law_70 : decode cL_law 70 = .ok (.aload_n 1, 1) := by decide +kernel
theorem dL_law_71 : decode cL_law 71 = .ok (.iload_n 3, 1) := by decide +kernel
theorem dL_law_72 : decode cL_law 72 = .ok (.iconst 0, 1) := by decide +kernel
theorem dL_law_73 : decode cL_law 73 = .ok (.iload 4, 2) := by decide +kernel
theorem dL_law_75 : decode cL_law 75 = .ok (.iload 4, 2) := by decide +kernel
theorem dL_law_77 : decode cL_law 77 = .ok (.sipush 290, 3) := by decide +kernel
theorem dL_law_80 : decode cL_law 80 = .ok (.if_icmp .ge 17, 3) := by decide +kernel
theorem dL_law_83 : decode cL_law 83 = .ok (.aload_n 0, 1) := by decide +kernel
theorem dL_law_84 : decode cL_law 84 = .ok (.bipush 7, 2) := by decide +kernel
theorem dL_law_86 : decode cL_law 86 = .ok (.invokestatic 9, 3) := by decide +kernel
theorem dL_law_89 : decode cL_law 89 = .ok (.bipush 9, 2) := by decide +kernel
theorem dL_law_91 : decode cL_law 91 = .ok (.invokestatic 15, 3) := by decide +kernel
theorem dL_law_94 : decode cL_law 94 = .ok (.goto 4, 3) := by decide +kernel
theorem dL_law_97 : decode cL_law 97 = .ok (.iconst 0, 1) := by decide +kernel
theorem dL_law_98 : decode cL_law 98 = .ok (.iadd, 1) := by decide +kernel
theorem dL_law_99 : decode cL_law 99 = .ok (.aload_n 0, 1) := by decide +kernel
theorem dL_law_100 : decode cL_law 100 = .ok (.bipush 8, 2) := by decide +kernel
theorem dL_law_102 : decode cL_law 102 = .ok (.invokestatic 9, 3) := by decide +kernel
theorem dL_law_105 : decode cL_law 105 = .ok (.sipush 301, 3) := by decide +kernel
theorem dL_law_108 : decode cL_law 108 = .ok (.invokestatic 15, 3) := by decide +kernel
theorem dL_law_111 : decode cL_law 111 = .ok (.invokevirtual 50, 3) := by decide +kernel
theorem dL_law_114 : decode cL_law 114 = .ok (.pop, 1) := by decide +kernel
theorem dL_law_115 : decode cL_law 115 = .ok (.aload_n 1, 1) := by decide +kernel
theorem dL_law_116 : decode cL_law 116 = .ok (.iload_n 3, 1) := by decide +kernel
theorem dL_law_117 : decode cL_law 117 = .ok (.aload_n 0, 1) := by decide +kernel
theorem dL_law_118 : decode cL_law 118 = .ok (.bipush 9, 2) := by decide +kernel
theorem dL_law_120 : decode cL_law 120 = .ok (.invokestatic 9, 3) := by decide +kernel
theorem dL_law_123 : decode cL_law 123 = .ok (.sipush 6001, 3) := by decide +kernel
theorem dL_law_126 : decode cL_law 126 = .ok (.invokestatic 15, 3) := by decide +kernel
theorem dL_law_129 : decode cL_law 129 = .ok (.sipush 3000, 3) := by decide +kernel
theorem dL_law_132 : decode cL_law 132 = .ok (.isub, 1) := by decide +kernel
theorem dL_law_133 : decode cL_law 133 = .ok (.invokevirtual 54, 3) := by decide +kernel
theorem dL_law_136 : decode cL_law 136 = .ok (.pop, 1) := by decide +kernel
theorem dL_law_137 : decode cL_law 137 = .ok (.aload_n 1, 1) := by decide +kernel
theorem dL_law_138 : decode cL_law 138 = .ok (.iconst 1, 1) := by decide +kernel
theorem dL_law_139 : decode cL_law 139 = .ok (.invokevirtual 57, 3) := by decide +kernel
theorem dL_law_142 : decode cL_law 142 = .ok (.istore 5, 2) := by decide +kernel
theorem dL_law_144 : decode cL_law 144 = .ok (.iconst 0, 1) := by decide +kernel
theorem dL_law_145 : decode cL_law 145 = .ok (.istore 6, 2) := by decide +kernel
theorem dL_law_147 : decode cL_law 147 = .ok (.iload 6, 2) := by decide +kernel
theorem dL_law_149 : decode cL_law 149 = .ok (.iconst 1, 1) := by decide +kernel
theorem dL_law_150 : decode cL_law 150 = .ok (.iadd, 1) := by decide +kernel
theorem dL_law_151 : decode cL_law 151 = .ok (.iload 5, 2) := by decide +kernel
theorem dL_law_153 : decode cL_law 153 = .ok (.if_icmp .ge 380, 3) := by decide +kernel
theorem dL_law_156 : decode cL_law 156 = .ok (.aload_n 1, 1) := by decide +kernel
theorem dL_law_157 : decode cL_law 157 = .ok (.iload 6, 2) := by decide +kernel
theorem dL_law_159 : decode cL_law 159 = .ok (.iconst 2, 1) := by decide +kernel
theorem dL_law_160 : decode cL_law 160 = .ok (.invokevirtual 61, 3) := by decide +kernel
theorem dL_law_163 : decode cL_law 163 = .ok (.iconst 1, 1) := by decide +kernel
theorem dL_law_164 : decode cL_law 164 = .ok (.if_icmp .ne 7, 3) := by decide +kernel
theorem dL_law_167 : decode cL_law 167 = .ok (.iconst 1, 1) := by decide +kernel
theorem dL_law_168 : decode cL_law 168 = .ok (.goto 4, 3) := by decide +kernel
theorem dL_law_171 : decode cL_law 171 = .ok (.iconst 0, 1) := by decide +kernel
theorem dL_law_172 : decode cL_law 172 = .ok (.istore 7, 2) := by decide +kernel
theorem dL_law_174 : decode cL_law 174 = .ok (.aload_n 1, 1) := by decide +kernel
theorem dL_law_175 : decode cL_law 175 = .ok (.iload 6, 2) := by decide +kernel
theorem dL_law_177 : decode cL_law 177 = .ok (.iconst 1, 1) := by decide +kernel
theorem dL_law_178 : decode cL_law 178 = .ok (.iadd, 1) := by decide +kernel
theorem dL_law_179 : decode cL_law 179 = .ok (.iconst 2, 1) := by decide +kernel
theorem dL_law_180 : decode cL_law 180 = .ok (.invokevirtual 61, 3) := by decide +kernel
theorem dL_law_183 : decode cL_law 183 = .ok (.aload_n 1, 1) := by decide +kernel
theorem dL_law_184 : decode cL_law 184 = .ok (.iload 6, 2) := by decide +kernel
theorem dL_law_186 : decode cL_law 186 = .ok (.iconst 2, 1) := by decide +kernel
theorem dL_law_187 : decode cL_law 187 = .ok (.invokevirtual 61, 3) := by decide +kernel
theorem dL_law_190 : decode cL_law 190 = .ok (.if_icmp .eq 22, 3) := by decide +kernel
theorem dL_law_193 : decode cL_law 193 = .ok (.aload_n 1, 1) := by decide +kernel
theorem dL_law_194 : decode cL_law 194 = .ok (.iload 6, 2) := by decide +kernel
theorem dL_law_196 : decode cL_law 196 = .ok (.iconst 1, 1) := by decide +kernel
theorem dL_law_197 : decode cL_law 197 = .ok (.iadd, 1) := by decide +kernel
theorem dL_law_198 : decode cL_law 198 = .ok (.iconst 0, 1) := by decide +kernel
theorem dL_law_199 : decode cL_law 199 = .ok (.invokevirtual 61, 3) := by decide +kernel
theorem dL_law_202 : decode cL_law 202 = .ok (.aload_n 1, 1) := by decide +kernel
theorem dL_law_203 : decode cL_law 203 = .ok (.iload 6, 2) := by decide +kernel
theorem dL_law_205 : decode cL_law 205 = .ok (.iconst 0, 1) := by decide +kernel
theorem dL_law_206 : decode cL_law 206 = .ok (.invokevirtual 61, 3) := by decide +kernel
theorem dL_law_209 : decode cL_law 209 = .ok (.if_icmp .gt 5, 3) := by decide +kernel
theorem dL_law_212 : decode cL_law 212 = .ok (.iconst 0, 1) := by decide +kernel
theorem dL_law_213 : decode cL_law 213 = .ok (.ireturn, 1) := by decide +kernel
theorem dL_law_214 : decode cL_law 214 = .ok (.aload_n 1, 1) := by decide +kernel
theorem dL_law_215 : decode cL_law 215 = .ok (.iload 6, 2) := by decide +kernel
theorem dL_law_217 : decode cL_law 217 = .ok (.iconst 1, 1) := by decide +kernel
theorem dL_law_218 : decode cL_law 218 = .ok (.invokevirtual 61, 3) := by decide +kernel
theorem dL_law_221 : decode cL_law 221 = .ok (.istore 8, 2) := by decide +kernel
theorem dL_law_223 : decode cL_law 223 = .ok (.aload_n 1, 1) := by decide +kernel
theorem dL_law_224 : decode cL_law 224 = .ok (.iload 6, 2) := by decide +kernel
theorem dL_law_226 : decode cL_law 226 = .ok (.iconst 0, 1) := by decide +kernel
theorem dL_law_227 : decode cL_law 227 = .ok (.invokevirtual 61, 3) := by decide +kernel
theorem dL_law_230 : decode cL_law 230 = .ok (.istore 9, 2) := by decide +kernel
theorem dL_law_232 : decode cL_law 232 = .ok (.iload 9, 2) := by decide +kernel
theorem dL_law_234 : decode cL_law 234 = .ok (.aload_n 1, 1) := by decide +kernel
theorem dL_law_235 : decode cL_law 235 = .ok (.iload 6, 2) := by decide +kernel
theorem dL_law_237 : decode cL_law 237 = .ok (.iconst 1, 1) := by decide +kernel
theorem dL_law_238 : decode cL_law 238 = .ok (.iadd, 1) := by decide +kernel
theorem dL_law_239 : decode cL_law 239 = .ok (.iconst 0, 1) := by decide +kernel
theorem dL_law_240 : decode cL_law 240 = .ok (.invokevirtual 61, 3) := by decide +kernel
theorem dL_law_243 : decode cL_law 243 = .ok (.if_icmp .gt 45, 3) := by decide +kernel
theorem dL_law_246 : decode cL_law 246 = .ok (.aload_n 1, 1) := by decide +kernel
theorem dL_law_247 : decode cL_law 247 = .ok (.iload 9, 2) := by decide +kernel
theorem dL_law_249 : decode cL_law 249 = .ok (.invokevirtual 64, 3) := by decide +kernel
theorem dL_law_252 : decode cL_law 252 = .ok (.istore 10, 2) := by decide +kernel
theorem dL_law_254 : decode cL_law 254 = .ok (.iload 7, 2) := by decide +kernel
theorem dL_law_256 : decode cL_law 256 = .ok (.ifCond .eq 13, 3) := by decide +kernel
theorem dL_law_259 : decode cL_law 259 = .ok (.iload 10, 2) := by decide +kernel
theorem dL_law_261 : decode cL_law 261 = .ok (.iload 8, 2) := by decide +kernel
theorem dL_law_263 : decode cL_law 263 = .ok (.if_icmp .le 15, 3) := by decide +kernel
theorem dL_law_266 : decode cL_law 266 = .ok (.goto 10, 3) := by decide +kernel
theorem dL_law_269 : decode cL_law 269 = .ok (.iload 10, 2) := by decide +kernel
theorem dL_law_271 : decode cL_law 271 = .ok (.iload 8, 2) := by decide +kernel
theorem dL_law_273 : decode cL_law 273 = .ok (.if_icmp .ge 5, 3) := by decide +kernel
theorem dL_law_276 : decode cL_law 276 = .ok (.iconst 0, 1) := by decide +kernel
theorem dL_law_277 : decode cL_law 277 = .ok (.ireturn, 1) := by decide +kernel
theorem dL_law_278 : decode cL_law 278 = .ok (.iload 10, 2) := by decide +kernel
theorem dL_law_280 : decode cL_law 280 = .ok (.istore 8, 2) := by decide +kernel
theorem dL_law_282 : decode cL_law 282 = .ok (.iinc 9 1, 3) := by decide +kernel
theorem dL_law_285 : decode cL_law 285 = .ok (.goto (-53), 3) := by decide +kernel
theorem dL_law_288 : decode cL_law 288 = .ok (.iload 8, 2) := by decide +kernel
theorem dL_law_290 : decode cL_law 290 = .ok (.aload_n 1, 1) := by decide +kernel
theorem dL_law_291 : decode cL_law 291 = .ok (.iload 6, 2) := by decide +kernel
theorem dL_law_293 : decode cL_law 293 = .ok (.iconst 1, 1) := by decide +kernel
theorem dL_law_294 : decode cL_law 294 = .ok (.iadd, 1) := by decide +kernel
theorem dL_law_295 : decode cL_law 295 = .ok (.iconst 1, 1) := by decide +kernel
theorem dL_law_296 : decode cL_law 296 = .ok (.invokevirtual 61, 3) := by decide +kernel
theorem dL_law_299 : decode cL_law 299 = .ok (.if_icmp .ne 15, 3) := by decide +kernel
theorem dL_law_302 : decode cL_law 302 = .ok (.aload_n 1, 1) := by decide +kernel
theorem dL_law_303 : decode cL_law 303 = .ok (.iload 6, 2) := by decide +kernel
theorem dL_law_305 : decode cL_law 305 = .ok (.iconst 1, 1) := by decide +kernel
