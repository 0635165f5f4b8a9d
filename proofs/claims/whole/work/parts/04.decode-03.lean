theorem dX7_adjust_57 : decode cX7_adjust 57 = .ok (.ifCond .ne 13, 3) := by decide +kernel
theorem dX7_adjust_60 : decode cX7_adjust 60 = .ok (.new 59, 3) := by decide +kernel
theorem dX7_adjust_63 : decode cX7_adjust 63 = .ok (.dup, 1) := by decide +kernel
theorem dX7_adjust_64 : decode cX7_adjust 64 = .ok (.ldc 245, 2) := by decide +kernel
theorem dX7_adjust_66 : decode cX7_adjust 66 = .ok (.invokespecial 63, 3) := by decide +kernel
theorem dX7_adjust_69 : decode cX7_adjust 69 = .ok (.athrow, 1) := by decide +kernel
theorem dX7_adjust_70 : decode cX7_adjust 70 = .ok (.aload_n 0, 1) := by decide +kernel
theorem dX7_adjust_71 : decode cX7_adjust 71 = .ok (.getfield 10, 3) := by decide +kernel
theorem dX7_adjust_74 : decode cX7_adjust 74 = .ok (.iload_n 2, 1) := by decide +kernel
theorem dX7_adjust_75 : decode cX7_adjust 75 = .ok (.putfield 92, 3) := by decide +kernel
theorem dX7_adjust_78 : decode cX7_adjust 78 = .ok (.aload_n 0, 1) := by decide +kernel
theorem dX7_adjust_79 : decode cX7_adjust 79 = .ok (.iconst 1, 1) := by decide +kernel
theorem dX7_adjust_80 : decode cX7_adjust 80 = .ok (.putfield 33, 3) := by decide +kernel
theorem dX7_adjust_83 : decode cX7_adjust 83 = .ok (.aload_n 0, 1) := by decide +kernel
theorem dX7_adjust_84 : decode cX7_adjust 84 = .ok (.getfield 30, 3) := by decide +kernel
theorem dX7_adjust_87 : decode cX7_adjust 87 = .ok (.invokevirtual 247, 3) := by decide +kernel
theorem dX7_adjust_90 : decode cX7_adjust 90 = .ok (.iload_n 1, 1) := by decide +kernel
theorem dX7_adjust_91 : decode cX7_adjust 91 = .ok (.ireturn, 1) := by decide +kernel
theorem dX7_digest_0 : decode cX7_digest 0 = .ok (.aload_n 0, 1) := by decide +kernel
theorem dX7_digest_1 : decode cX7_digest 1 = .ok (.invokevirtual 110, 3) := by decide +kernel
theorem dX7_digest_4 : decode cX7_digest 4 = .ok (.astore_n 1, 1) := by decide +kernel
theorem dX7_digest_5 : decode cX7_digest 5 = .ok (.ldc2_w 250, 3) := by decide +kernel
theorem dX7_digest_8 : decode cX7_digest 8 = .ok (.lstore_n 2, 1) := by decide +kernel
theorem dX7_digest_9 : decode cX7_digest 9 = .ok (.iconst 0, 1) := by decide +kernel
theorem dX7_digest_10 : decode cX7_digest 10 = .ok (.istore 4, 2) := by decide +kernel
theorem dX7_digest_12 : decode cX7_digest 12 = .ok (.iload 4, 2) := by decide +kernel
theorem dX7_digest_14 : decode cX7_digest 14 = .ok (.iconst 4, 1) := by decide +kernel
theorem dX7_digest_15 : decode cX7_digest 15 = .ok (.if_icmp .ge 21, 3) := by decide +kernel
theorem dX7_digest_18 : decode cX7_digest 18 = .ok (.lload_n 2, 1) := by decide +kernel
theorem dX7_digest_19 : decode cX7_digest 19 = .ok (.aload_n 0, 1) := by decide +kernel
theorem dX7_digest_20 : decode cX7_digest 20 = .ok (.iload 4, 2) := by decide +kernel
theorem dX7_digest_22 : decode cX7_digest 22 = .ok (.invokevirtual 107, 3) := by decide +kernel
theorem dX7_digest_25 : decode cX7_digest 25 = .ok (.i2l, 1) := by decide +kernel
theorem dX7_digest_26 : decode cX7_digest 26 = .ok (.invokestatic 252, 3) := by decide +kernel
theorem dX7_digest_29 : decode cX7_digest 29 = .ok (.lstore_n 2, 1) := by decide +kernel
theorem dX7_digest_30 : decode cX7_digest 30 = .ok (.iinc 4 1, 3) := by decide +kernel
theorem dX7_digest_33 : decode cX7_digest 33 = .ok (.goto (-21), 3) := by decide +kernel
theorem dX7_digest_36 : decode cX7_digest 36 = .ok (.lload_n 2, 1) := by decide +kernel
theorem dX7_digest_37 : decode cX7_digest 37 = .ok (.aload_n 0, 1) := by decide +kernel
theorem dX7_digest_38 : decode cX7_digest 38 = .ok (.getfield 10, 3) := by decide +kernel
theorem dX7_digest_41 : decode cX7_digest 41 = .ok (.getfield 92, 3) := by decide +kernel
theorem dX7_digest_44 : decode cX7_digest 44 = .ok (.i2l, 1) := by decide +kernel
theorem dX7_digest_45 : decode cX7_digest 45 = .ok (.invokestatic 252, 3) := by decide +kernel
theorem dX7_digest_48 : decode cX7_digest 48 = .ok (.lstore_n 2, 1) := by decide +kernel
theorem dX7_digest_49 : decode cX7_digest 49 = .ok (.lload_n 2, 1) := by decide +kernel
theorem dX7_digest_50 : decode cX7_digest 50 = .ok (.aload_n 1, 1) := by decide +kernel
theorem dX7_digest_51 : decode cX7_digest 51 = .ok (.invokestatic 255, 3) := by decide +kernel
theorem dX7_digest_54 : decode cX7_digest 54 = .ok (.lstore_n 2, 1) := by decide +kernel
theorem dX7_digest_55 : decode cX7_digest 55 = .ok (.iconst 0, 1) := by decide +kernel
theorem dX7_digest_56 : decode cX7_digest 56 = .ok (.istore 4, 2) := by decide +kernel
theorem dX7_digest_58 : decode cX7_digest 58 = .ok (.iload 4, 2) := by decide +kernel
theorem dX7_digest_60 : decode cX7_digest 60 = .ok (.aload_n 0, 1) := by decide +kernel
theorem dX7_digest_61 : decode cX7_digest 61 = .ok (.getfield 26, 3) := by decide +kernel
theorem dX7_digest_64 : decode cX7_digest 64 = .ok (.invokevirtual 55, 3) := by decide +kernel
theorem dX7_digest_67 : decode cX7_digest 67 = .ok (.if_icmp .ge 27, 3) := by decide +kernel
theorem dX7_digest_70 : decode cX7_digest 70 = .ok (.lload_n 2, 1) := by decide +kernel
theorem dX7_digest_71 : decode cX7_digest 71 = .ok (.aload_n 1, 1) := by decide +kernel
theorem dX7_digest_72 : decode cX7_digest 72 = .ok (.aload_n 0, 1) := by decide +kernel
theorem dX7_digest_73 : decode cX7_digest 73 = .ok (.getfield 26, 3) := by decide +kernel
theorem dX7_digest_76 : decode cX7_digest 76 = .ok (.iload 4, 2) := by decide +kernel
theorem dX7_digest_78 : decode cX7_digest 78 = .ok (.invokevirtual 82, 3) := by decide +kernel
theorem dX7_digest_81 : decode cX7_digest 81 = .ok (.checkcast 140, 3) := by decide +kernel
theorem dX7_digest_84 : decode cX7_digest 84 = .ok (.invokestatic 259, 3) := by decide +kernel
theorem dX7_digest_87 : decode cX7_digest 87 = .ok (.lstore_n 2, 1) := by decide +kernel
theorem dX7_digest_88 : decode cX7_digest 88 = .ok (.iinc 4 1, 3) := by decide +kernel
theorem dX7_digest_91 : decode cX7_digest 91 = .ok (.goto (-33), 3) := by decide +kernel
theorem dX7_digest_94 : decode cX7_digest 94 = .ok (.iconst 0, 1) := by decide +kernel
theorem dX7_digest_95 : decode cX7_digest 95 = .ok (.istore 4, 2) := by decide +kernel
theorem dX7_digest_97 : decode cX7_digest 97 = .ok (.iload 4, 2) := by decide +kernel
theorem dX7_digest_99 : decode cX7_digest 99 = .ok (.iconst 5, 1) := by decide +kernel
theorem dX7_digest_100 : decode cX7_digest 100 = .ok (.if_icmp .ge 21, 3) := by decide +kernel
theorem dX7_digest_103 : decode cX7_digest 103 = .ok (.lload_n 2, 1) := by decide +kernel
theorem dX7_digest_104 : decode cX7_digest 104 = .ok (.aload_n 1, 1) := by decide +kernel
theorem dX7_digest_105 : decode cX7_digest 105 = .ok (.iload 4, 2) := by decide +kernel
theorem dX7_digest_107 : decode cX7_digest 107 = .ok (.invokevirtual 135, 3) := by decide +kernel
theorem dX7_digest_110 : decode cX7_digest 110 = .ok (.i2l, 1) := by decide +kernel
theorem dX7_digest_111 : decode cX7_digest 111 = .ok (.invokestatic 252, 3) := by decide +kernel
theorem dX7_digest_114 : decode cX7_digest 114 = .ok (.lstore_n 2, 1) := by decide +kernel
theorem dX7_digest_115 : decode cX7_digest 115 = .ok (.iinc 4 1, 3) := by decide +kernel
theorem dX7_digest_118 : decode cX7_digest 118 = .ok (.goto (-21), 3) := by decide +kernel
theorem dX7_digest_121 : decode cX7_digest 121 = .ok (.lload_n 2, 1) := by decide +kernel
theorem dX7_digest_122 : decode cX7_digest 122 = .ok (.lreturn, 1) := by decide +kernel
theorem dX7_isWithin_0 : decode cX7_isWithin 0 = .ok (.iload_n 0, 1) := by decide +kernel
theorem dX7_isWithin_1 : decode cX7_isWithin 1 = .ok (.iload_n 1, 1) := by decide +kernel
theorem dX7_isWithin_2 : decode cX7_isWithin 2 = .ok (.if_icmp .lt 12, 3) := by decide +kernel
theorem dX7_isWithin_5 : decode cX7_isWithin 5 = .ok (.iload_n 0, 1) := by decide +kernel
theorem dX7_isWithin_6 : decode cX7_isWithin 6 = .ok (.iload_n 2, 1) := by decide +kernel
theorem dX7_isWithin_7 : decode cX7_isWithin 7 = .ok (.if_icmp .gt 7, 3) := by decide +kernel
theorem dX7_isWithin_10 : decode cX7_isWithin 10 = .ok (.iconst 1, 1) := by decide +kernel
theorem dX7_isWithin_11 : decode cX7_isWithin 11 = .ok (.goto 4, 3) := by decide +kernel
theorem dX7_isWithin_14 : decode cX7_isWithin 14 = .ok (.iconst 0, 1) := by decide +kernel
theorem dX7_isWithin_15 : decode cX7_isWithin 15 = .ok (.ireturn, 1) := by decide +kernel
theorem dX7_isMinute_0 : decode cX7_isMinute 0 = .ok (.iload_n 0, 1) := by decide +kernel
theorem dX7_isMinute_1 : decode cX7_isMinute 1 = .ok (.iconst 0, 1) := by decide +kernel
theorem dX7_isMinute_2 : decode cX7_isMinute 2 = .ok (.sipush 4319, 3) := by decide +kernel
theorem dX7_isMinute_5 : decode cX7_isMinute 5 = .ok (.invokestatic 37, 3) := by decide +kernel
theorem dX7_isMinute_8 : decode cX7_isMinute 8 = .ok (.ireturn, 1) := by decide +kernel
theorem dX7_quotient_0 : decode cX7_quotient 0 = .ok (.lload_n 2, 1) := by decide +kernel
theorem dX7_quotient_1 : decode cX7_quotient 1 = .ok (.lconst 0, 1) := by decide +kernel
theorem dX7_quotient_2 : decode cX7_quotient 2 = .ok (.lcmp, 1) := by decide +kernel
theorem dX7_quotient_3 : decode cX7_quotient 3 = .ok (.ifCond .ne 7, 3) := by decide +kernel
theorem dX7_quotient_6 : decode cX7_quotient 6 = .ok (.lconst 0, 1) := by decide +kernel
theorem dX7_quotient_7 : decode cX7_quotient 7 = .ok (.goto 6, 3) := by decide +kernel
theorem dX7_quotient_10 : decode cX7_quotient 10 = .ok (.lload_n 0, 1) := by decide +kernel
theorem dX7_quotient_11 : decode cX7_quotient 11 = .ok (.lload_n 2, 1) := by decide +kernel
theorem dX7_quotient_12 : decode cX7_quotient 12 = .ok (.ldiv, 1) := by decide +kernel
theorem dX7_quotient_13 : decode cX7_quotient 13 = .ok (.lreturn, 1) := by decide +kernel
theorem dX7_hasWave_0 : decode cX7_hasWave 0 = .ok (.iload_n 1, 1) := by decide +kernel
theorem dX7_hasWave_1 : decode cX7_hasWave 1 = .ok (.ifCond .lt 21, 3) := by decide +kernel
theorem dX7_hasWave_4 : decode cX7_hasWave 4 = .ok (.iload_n 1, 1) := by decide +kernel
theorem dX7_hasWave_5 : decode cX7_hasWave 5 = .ok (.aload_n 0, 1) := by decide +kernel
theorem dX7_hasWave_6 : decode cX7_hasWave 6 = .ok (.getfield 10, 3) := by decide +kernel
theorem dX7_hasWave_9 : decode cX7_hasWave 9 = .ok (.getfield 52, 3) := by decide +kernel
theorem dX7_hasWave_12 : decode cX7_hasWave 12 = .ok (.invokevirtual 55, 3) := by decide +kernel
theorem dX7_hasWave_15 : decode cX7_hasWave 15 = .ok (.if_icmp .ge 7, 3) := by decide +kernel
theorem dX7_hasWave_18 : decode cX7_hasWave 18 = .ok (.iconst 1, 1) := by decide +kernel
theorem dX7_hasWave_19 : decode cX7_hasWave 19 = .ok (.goto 4, 3) := by decide +kernel
theorem dX7_hasWave_22 : decode cX7_hasWave 22 = .ok (.iconst 0, 1) := by decide +kernel
theorem dX7_hasWave_23 : decode cX7_hasWave 23 = .ok (.ireturn, 1) := by decide +kernel
theorem dX7_hasPort_0 : decode cX7_hasPort 0 = .ok (.iload_n 1, 1) := by decide +kernel
theorem dX7_hasPort_1 : decode cX7_hasPort 1 = .ok (.ifCond .lt 18, 3) := by decide +kernel
theorem dX7_hasPort_4 : decode cX7_hasPort 4 = .ok (.iload_n 1, 1) := by decide +kernel
theorem dX7_hasPort_5 : decode cX7_hasPort 5 = .ok (.aload_n 0, 1) := by decide +kernel
theorem dX7_hasPort_6 : decode cX7_hasPort 6 = .ok (.getfield 26, 3) := by decide +kernel
theorem dX7_hasPort_9 : decode cX7_hasPort 9 = .ok (.invokevirtual 55, 3) := by decide +kernel
theorem dX7_hasPort_12 : decode cX7_hasPort 12 = .ok (.if_icmp .ge 7, 3) := by decide +kernel
theorem dX7_hasPort_15 : decode cX7_hasPort 15 = .ok (.iconst 1, 1) := by decide +kernel
theorem dX7_hasPort_16 : decode cX7_hasPort 16 = .ok (.goto 4, 3) := by decide +kernel
theorem dX7_hasPort_19 : decode cX7_hasPort 19 = .ok (.iconst 0, 1) := by decide +kernel
theorem dX7_hasPort_20 : decode cX7_hasPort 20 = .ok (.ireturn, 1) := by decide +kernel
theorem dX7_currentTable_0 : decode cX7_currentTable 0 = .ok (.aload_n 0, 1) := by decide +kernel
theorem dX7_currentTable_1 : decode cX7_currentTable 1 = .ok (.getfield 33, 3) := by decide +kernel
theorem dX7_currentTable_4 : decode cX7_currentTable 4 = .ok (.ifCond .eq 19, 3) := by decide +kernel
theorem dX7_currentTable_7 : decode cX7_currentTable 7 = .ok (.aload_n 0, 1) := by decide +kernel
theorem dX7_currentTable_8 : decode cX7_currentTable 8 = .ok (.getfield 19, 3) := by decide +kernel
theorem dX7_currentTable_11 : decode cX7_currentTable 11 = .ok (.aload_n 0, 1) := by decide +kernel
theorem dX7_currentTable_12 : decode cX7_currentTable 12 = .ok (.getfield 10, 3) := by decide +kernel
theorem dX7_currentTable_15 : decode cX7_currentTable 15 = .ok (.invokevirtual 263, 3) := by decide +kernel
theorem dX7_currentTable_18 : decode cX7_currentTable 18 = .ok (.aload_n 0, 1) := by decide +kernel
theorem dX7_currentTable_19 : decode cX7_currentTable 19 = .ok (.iconst 0, 1) := by decide +kernel
theorem dX7_currentTable_20 : decode cX7_currentTable 20 = .ok (.putfield 33, 3) := by decide +kernel
theorem dX7_currentTable_23 : decode cX7_currentTable 23 = .ok (.aload_n 0, 1) := by decide +kernel
theorem dX7_currentTable_24 : decode cX7_currentTable 24 = .ok (.getfield 19, 3) := by decide +kernel
theorem dX7_currentTable_27 : decode cX7_currentTable 27 = .ok (.areturn, 1) := by decide +kernel
theorem dX7_numberOf_0 : decode cX7_numberOf 0 = .ok (.iload_n 1, 1) := by decide +kernel
theorem dX7_numberOf_1 : decode cX7_numberOf 1 = .ok (.tableswitch 54 0 2 #[27, 38, 46], 27) := by decide +kernel
theorem dX7_numberOf_28 : decode cX7_numberOf 28 = .ok (.aload_n 0, 1) := by decide +kernel
theorem dX7_numberOf_29 : decode cX7_numberOf 29 = .ok (.getfield 10, 3) := by decide +kernel
theorem dX7_numberOf_32 : decode cX7_numberOf 32 = .ok (.getfield 52, 3) := by decide +kernel
theorem dX7_numberOf_35 : decode cX7_numberOf 35 = .ok (.invokevirtual 55, 3) := by decide +kernel
theorem dX7_numberOf_38 : decode cX7_numberOf 38 = .ok (.ireturn, 1) := by decide +kernel
theorem dX7_numberOf_39 : decode cX7_numberOf 39 = .ok (.aload_n 0, 1) := by decide +kernel
theorem dX7_numberOf_40 : decode cX7_numberOf 40 = .ok (.invokevirtual 110, 3) := by decide +kernel
theorem dX7_numberOf_43 : decode cX7_numberOf 43 = .ok (.getfield 130, 3) := by decide +kernel
theorem dX7_numberOf_46 : decode cX7_numberOf 46 = .ok (.ireturn, 1) := by decide +kernel
theorem dX7_numberOf_47 : decode cX7_numberOf 47 = .ok (.aload_n 0, 1) := by decide +kernel
theorem dX7_numberOf_48 : decode cX7_numberOf 48 = .ok (.getfield 26, 3) := by decide +kernel
theorem dX7_numberOf_51 : decode cX7_numberOf 51 = .ok (.invokevirtual 55, 3) := by decide +kernel
theorem dX7_numberOf_54 : decode cX7_numberOf 54 = .ok (.ireturn, 1) := by decide +kernel
theorem dX7_numberOf_55 : decode cX7_numberOf 55 = .ok (.aload_n 0, 1) := by decide +kernel
theorem dX7_numberOf_56 : decode cX7_numberOf 56 = .ok (.getfield 30, 3) := by decide +kernel
theorem dX7_numberOf_59 : decode cX7_numberOf 59 = .ok (.invokevirtual 55, 3) := by decide +kernel
theorem dX7_numberOf_62 : decode cX7_numberOf 62 = .ok (.ireturn, 1) := by decide +kernel
theorem dX7_tallyChiefPort_0 : decode cX7_tallyChiefPort 0 = .ok (.aload_n 0, 1) := by decide +kernel
theorem dX7_tallyChiefPort_1 : decode cX7_tallyChiefPort 1 = .ok (.invokevirtual 110, 3) := by decide +kernel
theorem dX7_tallyChiefPort_4 : decode cX7_tallyChiefPort 4 = .ok (.astore 5, 2) := by decide +kernel
theorem dX7_tallyChiefPort_6 : decode cX7_tallyChiefPort 6 = .ok (.iload_n 3, 1) := by decide +kernel
theorem dX7_tallyChiefPort_7 : decode cX7_tallyChiefPort 7 = .ok (.istore 6, 2) := by decide +kernel
theorem dX7_tallyChiefPort_9 : decode cX7_tallyChiefPort 9 = .ok (.iload 6, 2) := by decide +kernel
theorem dX7_tallyChiefPort_11 : decode cX7_tallyChiefPort 11 = .ok (.iload 4, 2) := by decide +kernel
theorem dX7_tallyChiefPort_13 : decode cX7_tallyChiefPort 13 = .ok (.if_icmp .gt 31, 3) := by decide +kernel
theorem dX7_tallyChiefPort_16 : decode cX7_tallyChiefPort 16 = .ok (.aload_n 1, 1) := by decide +kernel
theorem dX7_tallyChiefPort_17 : decode cX7_tallyChiefPort 17 = .ok (.iload 6, 2) := by decide +kernel
theorem dX7_tallyChiefPort_19 : decode cX7_tallyChiefPort 19 = .ok (.aload 5, 2) := by decide +kernel
theorem dX7_tallyChiefPort_21 : decode cX7_tallyChiefPort 21 = .ok (.iload 6, 2) := by decide +kernel
theorem dX7_tallyChiefPort_23 : decode cX7_tallyChiefPort 23 = .ok (.invokevirtual 267, 3) := by decide +kernel
theorem dX7_tallyChiefPort_26 : decode cX7_tallyChiefPort 26 = .ok (.iload_n 2, 1) := by decide +kernel
theorem dX7_tallyChiefPort_27 : decode cX7_tallyChiefPort 27 = .ok (.if_icmp .lt 7, 3) := by decide +kernel
theorem dX7_tallyChiefPort_30 : decode cX7_tallyChiefPort 30 = .ok (.iconst 1, 1) := by decide +kernel
theorem dX7_tallyChiefPort_31 : decode cX7_tallyChiefPort 31 = .ok (.goto 4, 3) := by decide +kernel
theorem dX7_tallyChiefPort_34 : decode cX7_tallyChiefPort 34 = .ok (.iconst 0, 1) := by decide +kernel
theorem dX7_tallyChiefPort_35 : decode cX7_tallyChiefPort 35 = .ok (.invokevirtual 268, 3) := by decide +kernel
theorem dX7_tallyChiefPort_38 : decode cX7_tallyChiefPort 38 = .ok (.iinc 6 1, 3) := by decide +kernel
theorem dX7_tallyChiefPort_41 : decode cX7_tallyChiefPort 41 = .ok (.goto (-32), 3) := by decide +kernel
theorem dX7_tallyChiefPort_44 : decode cX7_tallyChiefPort 44 = .ok (.return_, 1) := by decide +kernel
theorem dX7_tallyPort_0 : decode cX7_tallyPort 0 = .ok (.aload_n 0, 1) := by decide +kernel
theorem dX7_tallyPort_1 : decode cX7_tallyPort 1 = .ok (.invokevirtual 110, 3) := by decide +kernel
theorem dX7_tallyPort_4 : decode cX7_tallyPort 4 = .ok (.astore 6, 2) := by decide +kernel
theorem dX7_tallyPort_6 : decode cX7_tallyPort 6 = .ok (.aload_n 2, 1) := by decide +kernel
theorem dX7_tallyPort_7 : decode cX7_tallyPort 7 = .ok (.aload 6, 2) := by decide +kernel
theorem dX7_tallyPort_9 : decode cX7_tallyPort 9 = .ok (.invokevirtual 169, 3) := by decide +kernel
theorem dX7_tallyPort_12 : decode cX7_tallyPort 12 = .ok (.ifCond .ne 4, 3) := by decide +kernel
theorem dX7_tallyPort_15 : decode cX7_tallyPort 15 = .ok (.return_, 1) := by decide +kernel
theorem dX7_tallyPort_16 : decode cX7_tallyPort 16 = .ok (.iconst (-1), 1) := by decide +kernel
theorem dX7_tallyPort_17 : decode cX7_tallyPort 17 = .ok (.istore 7, 2) := by decide +kernel
theorem dX7_tallyPort_19 : decode cX7_tallyPort 19 = .ok (.iload 4, 2) := by decide +kernel
theorem dX7_tallyPort_21 : decode cX7_tallyPort 21 = .ok (.istore 8, 2) := by decide +kernel
theorem dX7_tallyPort_23 : decode cX7_tallyPort 23 = .ok (.iload 8, 2) := by decide +kernel
theorem dX7_tallyPort_25 : decode cX7_tallyPort 25 = .ok (.iload 5, 2) := by decide +kernel
theorem dX7_tallyPort_27 : decode cX7_tallyPort 27 = .ok (.if_icmp .gt 60, 3) := by decide +kernel
theorem dX7_tallyPort_30 : decode cX7_tallyPort 30 = .ok (.aload_n 2, 1) := by decide +kernel
theorem dX7_tallyPort_31 : decode cX7_tallyPort 31 = .ok (.aload 6, 2) := by decide +kernel
theorem dX7_tallyPort_33 : decode cX7_tallyPort 33 = .ok (.iload 7, 2) := by decide +kernel
theorem dX7_tallyPort_35 : decode cX7_tallyPort 35 = .ok (.iload 8, 2) := by decide +kernel
theorem dX7_tallyPort_37 : decode cX7_tallyPort 37 = .ok (.invokevirtual 180, 3) := by decide +kernel
theorem dX7_tallyPort_40 : decode cX7_tallyPort 40 = .ok (.istore 7, 2) := by decide +kernel
theorem dX7_tallyPort_42 : decode cX7_tallyPort 42 = .ok (.aload 6, 2) := by decide +kernel
theorem dX7_tallyPort_44 : decode cX7_tallyPort 44 = .ok (.iload 7, 2) := by decide +kernel
theorem dX7_tallyPort_46 : decode cX7_tallyPort 46 = .ok (.invokevirtual 184, 3) := by decide +kernel
theorem dX7_tallyPort_49 : decode cX7_tallyPort 49 = .ok (.istore 9, 2) := by decide +kernel
theorem dX7_tallyPort_51 : decode cX7_tallyPort 51 = .ok (.aload_n 1, 1) := by decide +kernel
theorem dX7_tallyPort_52 : decode cX7_tallyPort 52 = .ok (.iload 8, 2) := by decide +kernel
theorem dX7_tallyPort_54 : decode cX7_tallyPort 54 = .ok (.iload 9, 2) := by decide +kernel
theorem dX7_tallyPort_56 : decode cX7_tallyPort 56 = .ok (.ifCond .eq 21, 3) := by decide +kernel
theorem dX7_tallyPort_59 : decode cX7_tallyPort 59 = .ok (.aload_n 2, 1) := by decide +kernel
theorem dX7_tallyPort_60 : decode cX7_tallyPort 60 = .ok (.aload 6, 2) := by decide +kernel
theorem dX7_tallyPort_62 : decode cX7_tallyPort 62 = .ok (.iload 7, 2) := by decide +kernel
theorem dX7_tallyPort_64 : decode cX7_tallyPort 64 = .ok (.iload 8, 2) := by decide +kernel
theorem dX7_tallyPort_66 : decode cX7_tallyPort 66 = .ok (.invokevirtual 189, 3) := by decide +kernel
theorem dX7_tallyPort_69 : decode cX7_tallyPort 69 = .ok (.iload_n 3, 1) := by decide +kernel
theorem dX7_tallyPort_70 : decode cX7_tallyPort 70 = .ok (.if_icmp .lt 7, 3) := by decide +kernel
theorem dX7_tallyPort_73 : decode cX7_tallyPort 73 = .ok (.iconst 1, 1) := by decide +kernel
theorem dX7_tallyPort_74 : decode cX7_tallyPort 74 = .ok (.goto 4, 3) := by decide +kernel
theorem dX7_tallyPort_77 : decode cX7_tallyPort 77 = .ok (.iconst 0, 1) := by decide +kernel
theorem dX7_tallyPort_78 : decode cX7_tallyPort 78 = .ok (.invokevirtual 268, 3) := by decide +kernel
theorem dX7_tallyPort_81 : decode cX7_tallyPort 81 = .ok (.iinc 8 1, 3) := by decide +kernel
theorem dX7_tallyPort_84 : decode cX7_tallyPort 84 = .ok (.goto (-61), 3) := by decide +kernel
theorem dX7_tallyPort_87 : decode cX7_tallyPort 87 = .ok (.return_, 1) := by decide +kernel
theorem dX7_differenceOf_0 : decode cX7_differenceOf 0 = .ok (.iload_n 1, 1) := by decide +kernel
theorem dX7_differenceOf_1 : decode cX7_differenceOf 1 = .ok (.ifCond .lt 14, 3) := by decide +kernel
theorem dX7_differenceOf_4 : decode cX7_differenceOf 4 = .ok (.iload_n 1, 1) := by decide +kernel
theorem dX7_differenceOf_5 : decode cX7_differenceOf 5 = .ok (.aload_n 0, 1) := by decide +kernel
theorem dX7_differenceOf_6 : decode cX7_differenceOf 6 = .ok (.getfield 30, 3) := by decide +kernel
theorem dX7_differenceOf_9 : decode cX7_differenceOf 9 = .ok (.invokevirtual 55, 3) := by decide +kernel
theorem dX7_differenceOf_12 : decode cX7_differenceOf 12 = .ok (.if_icmp .lt 5, 3) := by decide +kernel
theorem dX7_differenceOf_15 : decode cX7_differenceOf 15 = .ok (.lconst 0, 1) := by decide +kernel
theorem dX7_differenceOf_16 : decode cX7_differenceOf 16 = .ok (.lreturn, 1) := by decide +kernel
theorem dX7_differenceOf_17 : decode cX7_differenceOf 17 = .ok (.aload_n 0, 1) := by decide +kernel
theorem dX7_differenceOf_18 : decode cX7_differenceOf 18 = .ok (.getfield 30, 3) := by decide +kernel
theorem dX7_differenceOf_21 : decode cX7_differenceOf 21 = .ok (.iload_n 1, 1) := by decide +kernel
theorem dX7_differenceOf_22 : decode cX7_differenceOf 22 = .ok (.invokevirtual 82, 3) := by decide +kernel
theorem dX7_differenceOf_25 : decode cX7_differenceOf 25 = .ok (.checkcast 214, 3) := by decide +kernel
theorem dX7_differenceOf_28 : decode cX7_differenceOf 28 = .ok (.astore_n 2, 1) := by decide +kernel
theorem dX7_differenceOf_29 : decode cX7_differenceOf 29 = .ok (.aload_n 2, 1) := by decide +kernel
theorem dX7_differenceOf_30 : decode cX7_differenceOf 30 = .ok (.getfield 272, 3) := by decide +kernel
theorem dX7_differenceOf_33 : decode cX7_differenceOf 33 = .ok (.i2l, 1) := by decide +kernel
theorem dX7_differenceOf_34 : decode cX7_differenceOf 34 = .ok (.aload_n 0, 1) := by decide +kernel
theorem dX7_differenceOf_35 : decode cX7_differenceOf 35 = .ok (.getfield 10, 3) := by decide +kernel
theorem dX7_differenceOf_38 : decode cX7_differenceOf 38 = .ok (.aload_n 2, 1) := by decide +kernel
theorem dX7_differenceOf_39 : decode cX7_differenceOf 39 = .ok (.getfield 275, 3) := by decide +kernel
theorem dX7_differenceOf_42 : decode cX7_differenceOf 42 = .ok (.invokevirtual 100, 3) := by decide +kernel
theorem dX7_differenceOf_45 : decode cX7_differenceOf 45 = .ok (.i2l, 1) := by decide +kernel
theorem dX7_differenceOf_46 : decode cX7_differenceOf 46 = .ok (.lsub, 1) := by decide +kernel
theorem dX7_differenceOf_47 : decode cX7_differenceOf 47 = .ok (.lreturn, 1) := by decide +kernel
theorem dX7_sumOfDifferences_0 : decode cX7_sumOfDifferences 0 = .ok (.lconst 0, 1) := by decide +kernel
theorem dX7_sumOfDifferences_1 : decode cX7_sumOfDifferences 1 = .ok (.lstore_n 1, 1) := by decide +kernel
theorem dX7_sumOfDifferences_2 : decode cX7_sumOfDifferences 2 = .ok (.iconst 0, 1) := by decide +kernel
theorem dX7_sumOfDifferences_3 : decode cX7_sumOfDifferences 3 = .ok (.istore_n 3, 1) := by decide +kernel
theorem dX7_sumOfDifferences_4 : decode cX7_sumOfDifferences 4 = .ok (.iload_n 3, 1) := by decide +kernel
theorem dX7_sumOfDifferences_5 : decode cX7_sumOfDifferences 5 = .ok (.aload_n 0, 1) := by decide +kernel
theorem dX7_sumOfDifferences_6 : decode cX7_sumOfDifferences 6 = .ok (.getfield 30, 3) := by decide +kernel
theorem dX7_sumOfDifferences_9 : decode cX7_sumOfDifferences 9 = .ok (.invokevirtual 55, 3) := by decide +kernel
theorem dX7_sumOfDifferences_12 : decode cX7_sumOfDifferences 12 = .ok (.if_icmp .ge 17, 3) := by decide +kernel
theorem dX7_sumOfDifferences_15 : decode cX7_sumOfDifferences 15 = .ok (.lload_n 1, 1) := by decide +kernel
theorem dX7_sumOfDifferences_16 : decode cX7_sumOfDifferences 16 = .ok (.aload_n 0, 1) := by decide +kernel
theorem dX7_sumOfDifferences_17 : decode cX7_sumOfDifferences 17 = .ok (.iload_n 3, 1) := by decide +kernel
theorem dX7_sumOfDifferences_18 : decode cX7_sumOfDifferences 18 = .ok (.invokevirtual 225, 3) := by decide +kernel
theorem dX7_sumOfDifferences_21 : decode cX7_sumOfDifferences 21 = .ok (.ladd, 1) := by decide +kernel
theorem dX7_sumOfDifferences_22 : decode cX7_sumOfDifferences 22 = .ok (.lstore_n 1, 1) := by decide +kernel
theorem dX7_sumOfDifferences_23 : decode cX7_sumOfDifferences 23 = .ok (.iinc 3 1, 3) := by decide +kernel
theorem dX7_sumOfDifferences_26 : decode cX7_sumOfDifferences 26 = .ok (.goto (-22), 3) := by decide +kernel
theorem dX7_sumOfDifferences_29 : decode cX7_sumOfDifferences 29 = .ok (.lload_n 1, 1) := by decide +kernel
theorem dX7_sumOfDifferences_30 : decode cX7_sumOfDifferences 30 = .ok (.lreturn, 1) := by decide +kernel
theorem dX7_mixed_0 : decode cX7_mixed 0 = .ok (.lload_n 0, 1) := by decide +kernel
theorem dX7_mixed_1 : decode cX7_mixed 1 = .ok (.ldc2_w 278, 3) := by decide +kernel
theorem dX7_mixed_4 : decode cX7_mixed 4 = .ok (.lmul, 1) := by decide +kernel
theorem dX7_mixed_5 : decode cX7_mixed 5 = .ok (.lload_n 2, 1) := by decide +kernel
theorem dX7_mixed_6 : decode cX7_mixed 6 = .ok (.ladd, 1) := by decide +kernel
theorem dX7_mixed_7 : decode cX7_mixed 7 = .ok (.lreturn, 1) := by decide +kernel
theorem dX7_mixedWithWaters_0 : decode cX7_mixedWithWaters 0 = .ok (.lload_n 0, 1) := by decide +kernel
theorem dX7_mixedWithWaters_1 : decode cX7_mixedWithWaters 1 = .ok (.lstore_n 3, 1) := by decide +kernel
theorem dX7_mixedWithWaters_2 : decode cX7_mixedWithWaters 2 = .ok (.iconst 0, 1) := by decide +kernel
theorem dX7_mixedWithWaters_3 : decode cX7_mixedWithWaters 3 = .ok (.istore 5, 2) := by decide +kernel
theorem dX7_mixedWithWaters_5 : decode cX7_mixedWithWaters 5 = .ok (.iload 5, 2) := by decide +kernel
theorem dX7_mixedWithWaters_7 : decode cX7_mixedWithWaters 7 = .ok (.aload_n 2, 1) := by decide +kernel
theorem dX7_mixedWithWaters_8 : decode cX7_mixedWithWaters 8 = .ok (.getfield 130, 3) := by decide +kernel
theorem dX7_mixedWithWaters_11 : decode cX7_mixedWithWaters 11 = .ok (.if_icmp .ge 52, 3) := by decide +kernel
theorem dX7_mixedWithWaters_14 : decode cX7_mixedWithWaters 14 = .ok (.lload_n 3, 1) := by decide +kernel
theorem dX7_mixedWithWaters_15 : decode cX7_mixedWithWaters 15 = .ok (.aload_n 2, 1) := by decide +kernel
theorem dX7_mixedWithWaters_16 : decode cX7_mixedWithWaters 16 = .ok (.iload 5, 2) := by decide +kernel
theorem dX7_mixedWithWaters_18 : decode cX7_mixedWithWaters 18 = .ok (.invokevirtual 119, 3) := by decide +kernel
theorem dX7_mixedWithWaters_21 : decode cX7_mixedWithWaters 21 = .ok (.i2l, 1) := by decide +kernel
theorem dX7_mixedWithWaters_22 : decode cX7_mixedWithWaters 22 = .ok (.invokestatic 252, 3) := by decide +kernel
theorem dX7_mixedWithWaters_25 : decode cX7_mixedWithWaters 25 = .ok (.lstore_n 3, 1) := by decide +kernel
theorem dX7_mixedWithWaters_26 : decode cX7_mixedWithWaters 26 = .ok (.lload_n 3, 1) := by decide +kernel
theorem dX7_mixedWithWaters_27 : decode cX7_mixedWithWaters 27 = .ok (.aload_n 2, 1) := by decide +kernel
theorem dX7_mixedWithWaters_28 : decode cX7_mixedWithWaters 28 = .ok (.iload 5, 2) := by decide +kernel
theorem dX7_mixedWithWaters_30 : decode cX7_mixedWithWaters 30 = .ok (.invokevirtual 122, 3) := by decide +kernel
theorem dX7_mixedWithWaters_33 : decode cX7_mixedWithWaters 33 = .ok (.i2l, 1) := by decide +kernel
theorem dX7_mixedWithWaters_34 : decode cX7_mixedWithWaters 34 = .ok (.invokestatic 252, 3) := by decide +kernel
theorem dX7_mixedWithWaters_37 : decode cX7_mixedWithWaters 37 = .ok (.lstore_n 3, 1) := by decide +kernel
theorem dX7_mixedWithWaters_38 : decode cX7_mixedWithWaters 38 = .ok (.lload_n 3, 1) := by decide +kernel
theorem dX7_mixedWithWaters_39 : decode cX7_mixedWithWaters 39 = .ok (.aload_n 2, 1) := by decide +kernel
theorem dX7_mixedWithWaters_40 : decode cX7_mixedWithWaters 40 = .ok (.iload 5, 2) := by decide +kernel
theorem dX7_mixedWithWaters_42 : decode cX7_mixedWithWaters 42 = .ok (.invokevirtual 125, 3) := by decide +kernel
theorem dX7_mixedWithWaters_45 : decode cX7_mixedWithWaters 45 = .ok (.ifCond .eq 7, 3) := by decide +kernel
theorem dX7_mixedWithWaters_48 : decode cX7_mixedWithWaters 48 = .ok (.lconst 1, 1) := by decide +kernel
theorem dX7_mixedWithWaters_49 : decode cX7_mixedWithWaters 49 = .ok (.goto 4, 3) := by decide +kernel
theorem dX7_mixedWithWaters_52 : decode cX7_mixedWithWaters 52 = .ok (.lconst 0, 1) := by decide +kernel
theorem dX7_mixedWithWaters_53 : decode cX7_mixedWithWaters 53 = .ok (.invokestatic 252, 3) := by decide +kernel
theorem dX7_mixedWithWaters_56 : decode cX7_mixedWithWaters 56 = .ok (.lstore_n 3, 1) := by decide +kernel
theorem dX7_mixedWithWaters_57 : decode cX7_mixedWithWaters 57 = .ok (.iinc 5 1, 3) := by decide +kernel
theorem dX7_mixedWithWaters_60 : decode cX7_mixedWithWaters 60 = .ok (.goto (-55), 3) := by decide +kernel
theorem dX7_mixedWithWaters_63 : decode cX7_mixedWithWaters 63 = .ok (.lload_n 3, 1) := by decide +kernel
theorem dX7_mixedWithWaters_64 : decode cX7_mixedWithWaters 64 = .ok (.lreturn, 1) := by decide +kernel
theorem dX7_mixedWithPort_0 : decode cX7_mixedWithPort 0 = .ok (.lload_n 0, 1) := by decide +kernel
theorem dX7_mixedWithPort_1 : decode cX7_mixedWithPort 1 = .ok (.aload_n 3, 1) := by decide +kernel
theorem dX7_mixedWithPort_2 : decode cX7_mixedWithPort 2 = .ok (.aload_n 2, 1) := by decide +kernel
theorem dX7_mixedWithPort_3 : decode cX7_mixedWithPort 3 = .ok (.invokevirtual 169, 3) := by decide +kernel
theorem dX7_mixedWithPort_6 : decode cX7_mixedWithPort 6 = .ok (.ifCond .eq 7, 3) := by decide +kernel
theorem dX7_mixedWithPort_9 : decode cX7_mixedWithPort 9 = .ok (.lconst 1, 1) := by decide +kernel
theorem dX7_mixedWithPort_10 : decode cX7_mixedWithPort 10 = .ok (.goto 4, 3) := by decide +kernel
theorem dX7_mixedWithPort_13 : decode cX7_mixedWithPort 13 = .ok (.lconst 0, 1) := by decide +kernel
theorem dX7_mixedWithPort_14 : decode cX7_mixedWithPort 14 = .ok (.invokestatic 252, 3) := by decide +kernel
theorem dX7_mixedWithPort_17 : decode cX7_mixedWithPort 17 = .ok (.lstore 4, 2) := by decide +kernel
theorem dX7_mixedWithPort_19 : decode cX7_mixedWithPort 19 = .ok (.iconst 0, 1) := by decide +kernel
theorem dX7_mixedWithPort_20 : decode cX7_mixedWithPort 20 = .ok (.istore 6, 2) := by decide +kernel
theorem dX7_mixedWithPort_22 : decode cX7_mixedWithPort 22 = .ok (.iload 6, 2) := by decide +kernel
theorem dX7_mixedWithPort_24 : decode cX7_mixedWithPort 24 = .ok (.aload_n 2, 1) := by decide +kernel
theorem dX7_mixedWithPort_25 : decode cX7_mixedWithPort 25 = .ok (.getfield 130, 3) := by decide +kernel
theorem dX7_mixedWithPort_28 : decode cX7_mixedWithPort 28 = .ok (.if_icmp .ge 39, 3) := by decide +kernel
theorem dX7_mixedWithPort_31 : decode cX7_mixedWithPort 31 = .ok (.lload 4, 2) := by decide +kernel
theorem dX7_mixedWithPort_33 : decode cX7_mixedWithPort 33 = .ok (.aload_n 3, 1) := by decide +kernel
theorem dX7_mixedWithPort_34 : decode cX7_mixedWithPort 34 = .ok (.aload_n 2, 1) := by decide +kernel
theorem dX7_mixedWithPort_35 : decode cX7_mixedWithPort 35 = .ok (.iload 6, 2) := by decide +kernel
theorem dX7_mixedWithPort_37 : decode cX7_mixedWithPort 37 = .ok (.invokevirtual 173, 3) := by decide +kernel
theorem dX7_mixedWithPort_40 : decode cX7_mixedWithPort 40 = .ok (.i2l, 1) := by decide +kernel
theorem dX7_mixedWithPort_41 : decode cX7_mixedWithPort 41 = .ok (.invokestatic 252, 3) := by decide +kernel
theorem dX7_mixedWithPort_44 : decode cX7_mixedWithPort 44 = .ok (.lstore 4, 2) := by decide +kernel
theorem dX7_mixedWithPort_46 : decode cX7_mixedWithPort 46 = .ok (.lload 4, 2) := by decide +kernel
theorem dX7_mixedWithPort_48 : decode cX7_mixedWithPort 48 = .ok (.aload_n 3, 1) := by decide +kernel
theorem dX7_mixedWithPort_49 : decode cX7_mixedWithPort 49 = .ok (.aload_n 2, 1) := by decide +kernel
theorem dX7_mixedWithPort_50 : decode cX7_mixedWithPort 50 = .ok (.iload 6, 2) := by decide +kernel
theorem dX7_mixedWithPort_52 : decode cX7_mixedWithPort 52 = .ok (.invokevirtual 176, 3) := by decide +kernel
theorem dX7_mixedWithPort_55 : decode cX7_mixedWithPort 55 = .ok (.i2l, 1) := by decide +kernel
theorem dX7_mixedWithPort_56 : decode cX7_mixedWithPort 56 = .ok (.invokestatic 252, 3) := by decide +kernel
theorem dX7_mixedWithPort_59 : decode cX7_mixedWithPort 59 = .ok (.lstore 4, 2) := by decide +kernel
theorem dX7_mixedWithPort_61 : decode cX7_mixedWithPort 61 = .ok (.iinc 6 1, 3) := by decide +kernel
theorem dX7_mixedWithPort_64 : decode cX7_mixedWithPort 64 = .ok (.goto (-42), 3) := by decide +kernel
theorem dX7_mixedWithPort_67 : decode cX7_mixedWithPort 67 = .ok (.lload 4, 2) := by decide +kernel
theorem dX7_mixedWithPort_69 : decode cX7_mixedWithPort 69 = .ok (.lreturn, 1) := by decide +kernel
theorem dX8_init_0 : decode cX8_init 0 = .ok (.aload_n 0, 1) := by decide +kernel
theorem dX8_init_1 : decode cX8_init 1 = .ok (.invokespecial 1, 3) := by decide +kernel
theorem dX8_init_4 : decode cX8_init 4 = .ok (.aload_n 0, 1) := by decide +kernel
theorem dX8_init_5 : decode cX8_init 5 = .ok (.bipush 8, 2) := by decide +kernel
theorem dX8_init_7 : decode cX8_init 7 = .ok (.newarray .int, 2) := by decide +kernel
theorem dX8_init_9 : decode cX8_init 9 = .ok (.putfield 9, 3) := by decide +kernel
theorem dX8_init_12 : decode cX8_init 12 = .ok (.aload_n 0, 1) := by decide +kernel
theorem dX8_init_13 : decode cX8_init 13 = .ok (.bipush 8, 2) := by decide +kernel
theorem dX8_init_15 : decode cX8_init 15 = .ok (.newarray .int, 2) := by decide +kernel
theorem dX8_init_17 : decode cX8_init 17 = .ok (.putfield 13, 3) := by decide +kernel
theorem dX8_init_20 : decode cX8_init 20 = .ok (.aload_n 0, 1) := by decide +kernel
theorem dX8_init_21 : decode cX8_init 21 = .ok (.bipush 8, 2) := by decide +kernel
theorem dX8_init_23 : decode cX8_init 23 = .ok (.newarray .int, 2) := by decide +kernel
theorem dX8_init_25 : decode cX8_init 25 = .ok (.putfield 16, 3) := by decide +kernel
theorem dX8_init_28 : decode cX8_init 28 = .ok (.aload_n 0, 1) := by decide +kernel
theorem dX8_init_29 : decode cX8_init 29 = .ok (.bipush 30, 2) := by decide +kernel
theorem dX8_init_31 : decode cX8_init 31 = .ok (.newarray .int, 2) := by decide +kernel
theorem dX8_init_33 : decode cX8_init 33 = .ok (.putfield 19, 3) := by decide +kernel
theorem dX8_init_36 : decode cX8_init 36 = .ok (.aload_n 0, 1) := by decide +kernel
theorem dX8_init_37 : decode cX8_init 37 = .ok (.bipush 40, 2) := by decide +kernel
theorem dX8_init_39 : decode cX8_init 39 = .ok (.newarray .int, 2) := by decide +kernel
theorem dX8_init_41 : decode cX8_init 41 = .ok (.putfield 22, 3) := by decide +kernel
theorem dX8_init_44 : decode cX8_init 44 = .ok (.aload_n 0, 1) := by decide +kernel
theorem dX8_init_45 : decode cX8_init 45 = .ok (.bipush 40, 2) := by decide +kernel
theorem dX8_init_47 : decode cX8_init 47 = .ok (.newarray .int, 2) := by decide +kernel
theorem dX8_init_49 : decode cX8_init 49 = .ok (.putfield 25, 3) := by decide +kernel
theorem dX8_init_52 : decode cX8_init 52 = .ok (.aload_n 0, 1) := by decide +kernel
theorem dX8_init_53 : decode cX8_init 53 = .ok (.sipush 4320, 3) := by decide +kernel
theorem dX8_init_56 : decode cX8_init 56 = .ok (.newarray .long, 2) := by decide +kernel
theorem dX8_init_58 : decode cX8_init 58 = .ok (.putfield 28, 3) := by decide +kernel
theorem dX8_init_61 : decode cX8_init 61 = .ok (.aload_n 0, 1) := by decide +kernel
theorem dX8_init_62 : decode cX8_init 62 = .ok (.sipush 4320, 3) := by decide +kernel
theorem dX8_init_65 : decode cX8_init 65 = .ok (.newarray .int, 2) := by decide +kernel
theorem dX8_init_67 : decode cX8_init 67 = .ok (.putfield 32, 3) := by decide +kernel
theorem dX8_init_70 : decode cX8_init 70 = .ok (.return_, 1) := by decide +kernel
theorem dX8_thrown_0 : decode cX8_thrown 0 = .ok (.aload_n 0, 1) := by decide +kernel
theorem dX8_thrown_1 : decode cX8_thrown 1 = .ok (.getfield 35, 3) := by decide +kernel
theorem dX8_thrown_4 : decode cX8_thrown 4 = .ok (.ireturn, 1) := by decide +kernel
theorem dX8_fail_0 : decode cX8_fail 0 = .ok (.aload_n 0, 1) := by decide +kernel
theorem dX8_fail_1 : decode cX8_fail 1 = .ok (.iload_n 1, 1) := by decide +kernel
theorem dX8_fail_2 : decode cX8_fail 2 = .ok (.putfield 35, 3) := by decide +kernel
theorem dX8_fail_5 : decode cX8_fail 5 = .ok (.iconst 0, 1) := by decide +kernel
theorem dX8_fail_6 : decode cX8_fail 6 = .ok (.ireturn, 1) := by decide +kernel
theorem dX8_isIn_0 : decode cX8_isIn 0 = .ok (.lload_n 0, 1) := by decide +kernel
theorem dX8_isIn_1 : decode cX8_isIn 1 = .ok (.lload_n 2, 1) := by decide +kernel
theorem dX8_isIn_2 : decode cX8_isIn 2 = .ok (.lcmp, 1) := by decide +kernel
theorem dX8_isIn_3 : decode cX8_isIn 3 = .ok (.ifCond .lt 14, 3) := by decide +kernel
theorem dX8_isIn_6 : decode cX8_isIn 6 = .ok (.lload_n 0, 1) := by decide +kernel
theorem dX8_isIn_7 : decode cX8_isIn 7 = .ok (.lload 4, 2) := by decide +kernel
theorem dX8_isIn_9 : decode cX8_isIn 9 = .ok (.lcmp, 1) := by decide +kernel
theorem dX8_isIn_10 : decode cX8_isIn 10 = .ok (.ifCond .gt 7, 3) := by decide +kernel
theorem dX8_isIn_13 : decode cX8_isIn 13 = .ok (.iconst 1, 1) := by decide +kernel
theorem dX8_isIn_14 : decode cX8_isIn 14 = .ok (.goto 4, 3) := by decide +kernel
theorem dX8_isIn_17 : decode cX8_isIn 17 = .ok (.iconst 0, 1) := by decide +kernel
theorem dX8_isIn_18 : decode cX8_isIn 18 = .ok (.ireturn, 1) := by decide +kernel
theorem dX8_isTime_0 : decode cX8_isTime 0 = .ok (.iload_n 0, 1) := by decide +kernel
theorem dX8_isTime_1 : decode cX8_isTime 1 = .ok (.i2l, 1) := by decide +kernel
theorem dX8_isTime_2 : decode cX8_isTime 2 = .ok (.lconst 0, 1) := by decide +kernel
theorem dX8_isTime_3 : decode cX8_isTime 3 = .ok (.ldc2_w 39, 3) := by decide +kernel
theorem dX8_isTime_6 : decode cX8_isTime 6 = .ok (.invokestatic 41, 3) := by decide +kernel
theorem dX8_isTime_9 : decode cX8_isTime 9 = .ok (.ireturn, 1) := by decide +kernel
theorem dX8_isWave_0 : decode cX8_isWave 0 = .ok (.iload_n 1, 1) := by decide +kernel
theorem dX8_isWave_1 : decode cX8_isWave 1 = .ok (.i2l, 1) := by decide +kernel
theorem dX8_isWave_2 : decode cX8_isWave 2 = .ok (.lconst 0, 1) := by decide +kernel
theorem dX8_isWave_3 : decode cX8_isWave 3 = .ok (.aload_n 0, 1) := by decide +kernel
theorem dX8_isWave_4 : decode cX8_isWave 4 = .ok (.getfield 45, 3) := by decide +kernel
theorem dX8_isWave_7 : decode cX8_isWave 7 = .ok (.iconst 1, 1) := by decide +kernel
theorem dX8_isWave_8 : decode cX8_isWave 8 = .ok (.isub, 1) := by decide +kernel
theorem dX8_isWave_9 : decode cX8_isWave 9 = .ok (.i2l, 1) := by decide +kernel
theorem dX8_isWave_10 : decode cX8_isWave 10 = .ok (.invokestatic 41, 3) := by decide +kernel
theorem dX8_isWave_13 : decode cX8_isWave 13 = .ok (.ireturn, 1) := by decide +kernel
theorem dX8_isPort_0 : decode cX8_isPort 0 = .ok (.iload_n 1, 1) := by decide +kernel
theorem dX8_isPort_1 : decode cX8_isPort 1 = .ok (.i2l, 1) := by decide +kernel
theorem dX8_isPort_2 : decode cX8_isPort 2 = .ok (.lconst 0, 1) := by decide +kernel
theorem dX8_isPort_3 : decode cX8_isPort 3 = .ok (.aload_n 0, 1) := by decide +kernel
theorem dX8_isPort_4 : decode cX8_isPort 4 = .ok (.getfield 48, 3) := by decide +kernel
theorem dX8_isPort_7 : decode cX8_isPort 7 = .ok (.iconst 1, 1) := by decide +kernel
theorem dX8_isPort_8 : decode cX8_isPort 8 = .ok (.isub, 1) := by decide +kernel
theorem dX8_isPort_9 : decode cX8_isPort 9 = .ok (.i2l, 1) := by decide +kernel
theorem dX8_isPort_10 : decode cX8_isPort 10 = .ok (.invokestatic 41, 3) := by decide +kernel
theorem dX8_isPort_13 : decode cX8_isPort 13 = .ok (.ireturn, 1) := by decide +kernel
theorem dX8_addWave_0 : decode cX8_addWave 0 = .ok (.aload_n 0, 1) := by decide +kernel
theorem dX8_addWave_1 : decode cX8_addWave 1 = .ok (.iconst 0, 1) := by decide +kernel
theorem dX8_addWave_2 : decode cX8_addWave 2 = .ok (.putfield 35, 3) := by decide +kernel
theorem dX8_addWave_5 : decode cX8_addWave 5 = .ok (.iload_n 1, 1) := by decide +kernel
theorem dX8_addWave_6 : decode cX8_addWave 6 = .ok (.i2l, 1) := by decide +kernel
theorem dX8_addWave_7 : decode cX8_addWave 7 = .ok (.lconst 0, 1) := by decide +kernel
theorem dX8_addWave_8 : decode cX8_addWave 8 = .ok (.ldc2_w 51, 3) := by decide +kernel
theorem dX8_addWave_11 : decode cX8_addWave 11 = .ok (.invokestatic 41, 3) := by decide +kernel
theorem dX8_addWave_14 : decode cX8_addWave 14 = .ok (.ifCond .eq 30, 3) := by decide +kernel
theorem dX8_addWave_17 : decode cX8_addWave 17 = .ok (.iload_n 2, 1) := by decide +kernel
theorem dX8_addWave_18 : decode cX8_addWave 18 = .ok (.i2l, 1) := by decide +kernel
theorem dX8_addWave_19 : decode cX8_addWave 19 = .ok (.ldc2_w 53, 3) := by decide +kernel
theorem dX8_addWave_22 : decode cX8_addWave 22 = .ok (.ldc2_w 55, 3) := by decide +kernel
theorem dX8_addWave_25 : decode cX8_addWave 25 = .ok (.invokestatic 41, 3) := by decide +kernel
theorem dX8_addWave_28 : decode cX8_addWave 28 = .ok (.ifCond .eq 16, 3) := by decide +kernel
theorem dX8_addWave_31 : decode cX8_addWave 31 = .ok (.iload_n 3, 1) := by decide +kernel
theorem dX8_addWave_32 : decode cX8_addWave 32 = .ok (.i2l, 1) := by decide +kernel
theorem dX8_addWave_33 : decode cX8_addWave 33 = .ok (.lconst 0, 1) := by decide +kernel
theorem dX8_addWave_34 : decode cX8_addWave 34 = .ok (.iload_n 2, 1) := by decide +kernel
theorem dX8_addWave_35 : decode cX8_addWave 35 = .ok (.iconst 1, 1) := by decide +kernel
theorem dX8_addWave_36 : decode cX8_addWave 36 = .ok (.isub, 1) := by decide +kernel
theorem dX8_addWave_37 : decode cX8_addWave 37 = .ok (.i2l, 1) := by decide +kernel
theorem dX8_addWave_38 : decode cX8_addWave 38 = .ok (.invokestatic 41, 3) := by decide +kernel
theorem dX8_addWave_41 : decode cX8_addWave 41 = .ok (.ifCond .ne 9, 3) := by decide +kernel
theorem dX8_addWave_44 : decode cX8_addWave 44 = .ok (.aload_n 0, 1) := by decide +kernel
theorem dX8_addWave_45 : decode cX8_addWave 45 = .ok (.iconst 1, 1) := by decide +kernel
theorem dX8_addWave_46 : decode cX8_addWave 46 = .ok (.invokevirtual 57, 3) := by decide +kernel
theorem dX8_addWave_49 : decode cX8_addWave 49 = .ok (.ireturn, 1) := by decide +kernel
theorem dX8_addWave_50 : decode cX8_addWave 50 = .ok (.aload_n 0, 1) := by decide +kernel
theorem dX8_addWave_51 : decode cX8_addWave 51 = .ok (.getfield 45, 3) := by decide +kernel
theorem dX8_addWave_54 : decode cX8_addWave 54 = .ok (.bipush 8, 2) := by decide +kernel
theorem dX8_addWave_56 : decode cX8_addWave 56 = .ok (.if_icmp .ne 9, 3) := by decide +kernel
theorem dX8_addWave_59 : decode cX8_addWave 59 = .ok (.aload_n 0, 1) := by decide +kernel
theorem dX8_addWave_60 : decode cX8_addWave 60 = .ok (.iconst 2, 1) := by decide +kernel
theorem dX8_addWave_61 : decode cX8_addWave 61 = .ok (.invokevirtual 57, 3) := by decide +kernel
theorem dX8_addWave_64 : decode cX8_addWave 64 = .ok (.ireturn, 1) := by decide +kernel
theorem dX8_addWave_65 : decode cX8_addWave 65 = .ok (.aload_n 0, 1) := by decide +kernel
theorem dX8_addWave_66 : decode cX8_addWave 66 = .ok (.getfield 9, 3) := by decide +kernel
theorem dX8_addWave_69 : decode cX8_addWave 69 = .ok (.aload_n 0, 1) := by decide +kernel
theorem dX8_addWave_70 : decode cX8_addWave 70 = .ok (.getfield 45, 3) := by decide +kernel
theorem dX8_addWave_73 : decode cX8_addWave 73 = .ok (.iload_n 1, 1) := by decide +kernel
theorem dX8_addWave_74 : decode cX8_addWave 74 = .ok (.iastore, 1) := by decide +kernel
theorem dX8_addWave_75 : decode cX8_addWave 75 = .ok (.aload_n 0, 1) := by decide +kernel
theorem dX8_addWave_76 : decode cX8_addWave 76 = .ok (.getfield 13, 3) := by decide +kernel
theorem dX8_addWave_79 : decode cX8_addWave 79 = .ok (.aload_n 0, 1) := by decide +kernel
theorem dX8_addWave_80 : decode cX8_addWave 80 = .ok (.getfield 45, 3) := by decide +kernel
theorem dX8_addWave_83 : decode cX8_addWave 83 = .ok (.iload_n 2, 1) := by decide +kernel
theorem dX8_addWave_84 : decode cX8_addWave 84 = .ok (.iastore, 1) := by decide +kernel
theorem dX8_addWave_85 : decode cX8_addWave 85 = .ok (.aload_n 0, 1) := by decide +kernel
theorem dX8_addWave_86 : decode cX8_addWave 86 = .ok (.getfield 16, 3) := by decide +kernel
theorem dX8_addWave_89 : decode cX8_addWave 89 = .ok (.aload_n 0, 1) := by decide +kernel
theorem dX8_addWave_90 : decode cX8_addWave 90 = .ok (.getfield 45, 3) := by decide +kernel
theorem dX8_addWave_93 : decode cX8_addWave 93 = .ok (.iload_n 3, 1) := by decide +kernel
theorem dX8_addWave_94 : decode cX8_addWave 94 = .ok (.iastore, 1) := by decide +kernel
theorem dX8_addWave_95 : decode cX8_addWave 95 = .ok (.aload_n 0, 1) := by decide +kernel
theorem dX8_addWave_96 : decode cX8_addWave 96 = .ok (.dup, 1) := by decide +kernel
theorem dX8_addWave_97 : decode cX8_addWave 97 = .ok (.getfield 45, 3) := by decide +kernel
theorem dX8_addWave_100 : decode cX8_addWave 100 = .ok (.iconst 1, 1) := by decide +kernel
theorem dX8_addWave_101 : decode cX8_addWave 101 = .ok (.iadd, 1) := by decide +kernel
theorem dX8_addWave_102 : decode cX8_addWave 102 = .ok (.putfield 45, 3) := by decide +kernel
theorem dX8_addWave_105 : decode cX8_addWave 105 = .ok (.aload_n 0, 1) := by decide +kernel
theorem dX8_addWave_106 : decode cX8_addWave 106 = .ok (.iconst 0, 1) := by decide +kernel
theorem dX8_addWave_107 : decode cX8_addWave 107 = .ok (.putfield 61, 3) := by decide +kernel
theorem dX8_addWave_110 : decode cX8_addWave 110 = .ok (.aload_n 0, 1) := by decide +kernel
theorem dX8_addWave_111 : decode cX8_addWave 111 = .ok (.getfield 45, 3) := by decide +kernel
theorem dX8_addWave_114 : decode cX8_addWave 114 = .ok (.iconst 1, 1) := by decide +kernel
theorem dX8_addWave_115 : decode cX8_addWave 115 = .ok (.isub, 1) := by decide +kernel
theorem dX8_addWave_116 : decode cX8_addWave 116 = .ok (.ireturn, 1) := by decide +kernel
theorem dX8_setRange_0 : decode cX8_setRange 0 = .ok (.aload_n 0, 1) := by decide +kernel
theorem dX8_setRange_1 : decode cX8_setRange 1 = .ok (.iconst 0, 1) := by decide +kernel
theorem dX8_setRange_2 : decode cX8_setRange 2 = .ok (.putfield 35, 3) := by decide +kernel
theorem dX8_setRange_5 : decode cX8_setRange 5 = .ok (.aload_n 0, 1) := by decide +kernel
theorem dX8_setRange_6 : decode cX8_setRange 6 = .ok (.iload_n 1, 1) := by decide +kernel
theorem dX8_setRange_7 : decode cX8_setRange 7 = .ok (.invokevirtual 65, 3) := by decide +kernel
theorem dX8_setRange_10 : decode cX8_setRange 10 = .ok (.ifCond .ne 9, 3) := by decide +kernel
theorem dX8_setRange_13 : decode cX8_setRange 13 = .ok (.aload_n 0, 1) := by decide +kernel
theorem dX8_setRange_14 : decode cX8_setRange 14 = .ok (.iconst 1, 1) := by decide +kernel
theorem dX8_setRange_15 : decode cX8_setRange 15 = .ok (.invokevirtual 57, 3) := by decide +kernel
theorem dX8_setRange_18 : decode cX8_setRange 18 = .ok (.ireturn, 1) := by decide +kernel
theorem dX8_setRange_19 : decode cX8_setRange 19 = .ok (.iload_n 2, 1) := by decide +kernel
theorem dX8_setRange_20 : decode cX8_setRange 20 = .ok (.i2l, 1) := by decide +kernel
theorem dX8_setRange_21 : decode cX8_setRange 21 = .ok (.lconst 0, 1) := by decide +kernel
theorem dX8_setRange_22 : decode cX8_setRange 22 = .ok (.ldc2_w 51, 3) := by decide +kernel
theorem dX8_setRange_25 : decode cX8_setRange 25 = .ok (.invokestatic 41, 3) := by decide +kernel
theorem dX8_setRange_28 : decode cX8_setRange 28 = .ok (.ifCond .ne 9, 3) := by decide +kernel
theorem dX8_setRange_31 : decode cX8_setRange 31 = .ok (.aload_n 0, 1) := by decide +kernel
theorem dX8_setRange_32 : decode cX8_setRange 32 = .ok (.iconst 2, 1) := by decide +kernel
theorem dX8_setRange_33 : decode cX8_setRange 33 = .ok (.invokevirtual 57, 3) := by decide +kernel
theorem dX8_setRange_36 : decode cX8_setRange 36 = .ok (.ireturn, 1) := by decide +kernel
theorem dX8_setRange_37 : decode cX8_setRange 37 = .ok (.aload_n 0, 1) := by decide +kernel
theorem dX8_setRange_38 : decode cX8_setRange 38 = .ok (.getfield 9, 3) := by decide +kernel
theorem dX8_setRange_41 : decode cX8_setRange 41 = .ok (.iload_n 1, 1) := by decide +kernel
theorem dX8_setRange_42 : decode cX8_setRange 42 = .ok (.iaload, 1) := by decide +kernel
theorem dX8_setRange_43 : decode cX8_setRange 43 = .ok (.istore_n 3, 1) := by decide +kernel
theorem dX8_setRange_44 : decode cX8_setRange 44 = .ok (.aload_n 0, 1) := by decide +kernel
theorem dX8_setRange_45 : decode cX8_setRange 45 = .ok (.getfield 9, 3) := by decide +kernel
theorem dX8_setRange_48 : decode cX8_setRange 48 = .ok (.iload_n 1, 1) := by decide +kernel
theorem dX8_setRange_49 : decode cX8_setRange 49 = .ok (.iload_n 2, 1) := by decide +kernel
theorem dX8_setRange_50 : decode cX8_setRange 50 = .ok (.iastore, 1) := by decide +kernel
theorem dX8_setRange_51 : decode cX8_setRange 51 = .ok (.aload_n 0, 1) := by decide +kernel
theorem dX8_setRange_52 : decode cX8_setRange 52 = .ok (.iconst 0, 1) := by decide +kernel
theorem dX8_setRange_53 : decode cX8_setRange 53 = .ok (.putfield 61, 3) := by decide +kernel
theorem dX8_setRange_56 : decode cX8_setRange 56 = .ok (.iload_n 3, 1) := by decide +kernel
theorem dX8_setRange_57 : decode cX8_setRange 57 = .ok (.ireturn, 1) := by decide +kernel
theorem dX8_setLevel_0 : decode cX8_setLevel 0 = .ok (.aload_n 0, 1) := by decide +kernel
theorem dX8_setLevel_1 : decode cX8_setLevel 1 = .ok (.iconst 0, 1) := by decide +kernel
theorem dX8_setLevel_2 : decode cX8_setLevel 2 = .ok (.putfield 35, 3) := by decide +kernel
theorem dX8_setLevel_5 : decode cX8_setLevel 5 = .ok (.iload_n 1, 1) := by decide +kernel
theorem dX8_setLevel_6 : decode cX8_setLevel 6 = .ok (.i2l, 1) := by decide +kernel
theorem dX8_setLevel_7 : decode cX8_setLevel 7 = .ok (.ldc2_w 69, 3) := by decide +kernel
theorem dX8_setLevel_10 : decode cX8_setLevel 10 = .ok (.ldc2_w 71, 3) := by decide +kernel
theorem dX8_setLevel_13 : decode cX8_setLevel 13 = .ok (.invokestatic 41, 3) := by decide +kernel
theorem dX8_setLevel_16 : decode cX8_setLevel 16 = .ok (.ifCond .ne 9, 3) := by decide +kernel
theorem dX8_setLevel_19 : decode cX8_setLevel 19 = .ok (.aload_n 0, 1) := by decide +kernel
theorem dX8_setLevel_20 : decode cX8_setLevel 20 = .ok (.iconst 1, 1) := by decide +kernel
theorem dX8_setLevel_21 : decode cX8_setLevel 21 = .ok (.invokevirtual 57, 3) := by decide +kernel
theorem dX8_setLevel_24 : decode cX8_setLevel 24 = .ok (.ireturn, 1) := by decide +kernel
theorem dX8_setLevel_25 : decode cX8_setLevel 25 = .ok (.aload_n 0, 1) := by decide +kernel
