theorem dX8_datum_30 : decode cX8_datum 30 = .ok (.ireturn, 1) := by decide +kernel
theorem dX8_addPort_0 : decode cX8_addPort 0 = .ok (.aload_n 0, 1) := by decide +kernel
theorem dX8_addPort_1 : decode cX8_addPort 1 = .ok (.iconst 0, 1) := by decide +kernel
theorem dX8_addPort_2 : decode cX8_addPort 2 = .ok (.putfield 35, 3) := by decide +kernel
theorem dX8_addPort_5 : decode cX8_addPort 5 = .ok (.aload_n 0, 1) := by decide +kernel
theorem dX8_addPort_6 : decode cX8_addPort 6 = .ok (.getfield 48, 3) := by decide +kernel
theorem dX8_addPort_9 : decode cX8_addPort 9 = .ok (.bipush 6, 2) := by decide +kernel
theorem dX8_addPort_11 : decode cX8_addPort 11 = .ok (.if_icmp .ne 9, 3) := by decide +kernel
theorem dX8_addPort_14 : decode cX8_addPort 14 = .ok (.aload_n 0, 1) := by decide +kernel
theorem dX8_addPort_15 : decode cX8_addPort 15 = .ok (.iconst 1, 1) := by decide +kernel
theorem dX8_addPort_16 : decode cX8_addPort 16 = .ok (.invokevirtual 57, 3) := by decide +kernel
theorem dX8_addPort_19 : decode cX8_addPort 19 = .ok (.ireturn, 1) := by decide +kernel
theorem dX8_addPort_20 : decode cX8_addPort 20 = .ok (.aload_n 0, 1) := by decide +kernel
theorem dX8_addPort_21 : decode cX8_addPort 21 = .ok (.getfield 19, 3) := by decide +kernel
theorem dX8_addPort_24 : decode cX8_addPort 24 = .ok (.iconst 5, 1) := by decide +kernel
theorem dX8_addPort_25 : decode cX8_addPort 25 = .ok (.aload_n 0, 1) := by decide +kernel
theorem dX8_addPort_26 : decode cX8_addPort 26 = .ok (.getfield 48, 3) := by decide +kernel
theorem dX8_addPort_29 : decode cX8_addPort 29 = .ok (.imul, 1) := by decide +kernel
theorem dX8_addPort_30 : decode cX8_addPort 30 = .ok (.iconst 1, 1) := by decide +kernel
theorem dX8_addPort_31 : decode cX8_addPort 31 = .ok (.iadd, 1) := by decide +kernel
theorem dX8_addPort_32 : decode cX8_addPort 32 = .ok (.bipush 100, 2) := by decide +kernel
theorem dX8_addPort_34 : decode cX8_addPort 34 = .ok (.iastore, 1) := by decide +kernel
theorem dX8_addPort_35 : decode cX8_addPort 35 = .ok (.aload_n 0, 1) := by decide +kernel
theorem dX8_addPort_36 : decode cX8_addPort 36 = .ok (.getfield 19, 3) := by decide +kernel
theorem dX8_addPort_39 : decode cX8_addPort 39 = .ok (.iconst 5, 1) := by decide +kernel
theorem dX8_addPort_40 : decode cX8_addPort 40 = .ok (.aload_n 0, 1) := by decide +kernel
theorem dX8_addPort_41 : decode cX8_addPort 41 = .ok (.getfield 48, 3) := by decide +kernel
theorem dX8_addPort_44 : decode cX8_addPort 44 = .ok (.imul, 1) := by decide +kernel
theorem dX8_addPort_45 : decode cX8_addPort 45 = .ok (.iconst 3, 1) := by decide +kernel
theorem dX8_addPort_46 : decode cX8_addPort 46 = .ok (.iadd, 1) := by decide +kernel
theorem dX8_addPort_47 : decode cX8_addPort 47 = .ok (.bipush 100, 2) := by decide +kernel
theorem dX8_addPort_49 : decode cX8_addPort 49 = .ok (.iastore, 1) := by decide +kernel
theorem dX8_addPort_50 : decode cX8_addPort 50 = .ok (.aload_n 0, 1) := by decide +kernel
theorem dX8_addPort_51 : decode cX8_addPort 51 = .ok (.dup, 1) := by decide +kernel
theorem dX8_addPort_52 : decode cX8_addPort 52 = .ok (.getfield 48, 3) := by decide +kernel
theorem dX8_addPort_55 : decode cX8_addPort 55 = .ok (.iconst 1, 1) := by decide +kernel
theorem dX8_addPort_56 : decode cX8_addPort 56 = .ok (.iadd, 1) := by decide +kernel
theorem dX8_addPort_57 : decode cX8_addPort 57 = .ok (.putfield 48, 3) := by decide +kernel
theorem dX8_addPort_60 : decode cX8_addPort 60 = .ok (.aload_n 0, 1) := by decide +kernel
theorem dX8_addPort_61 : decode cX8_addPort 61 = .ok (.getfield 48, 3) := by decide +kernel
theorem dX8_addPort_64 : decode cX8_addPort 64 = .ok (.iconst 1, 1) := by decide +kernel
theorem dX8_addPort_65 : decode cX8_addPort 65 = .ok (.isub, 1) := by decide +kernel
theorem dX8_addPort_66 : decode cX8_addPort 66 = .ok (.ireturn, 1) := by decide +kernel
theorem dX8_setPort_0 : decode cX8_setPort 0 = .ok (.aload_n 0, 1) := by decide +kernel
theorem dX8_setPort_1 : decode cX8_setPort 1 = .ok (.iconst 0, 1) := by decide +kernel
theorem dX8_setPort_2 : decode cX8_setPort 2 = .ok (.putfield 35, 3) := by decide +kernel
theorem dX8_setPort_5 : decode cX8_setPort 5 = .ok (.aload_n 0, 1) := by decide +kernel
theorem dX8_setPort_6 : decode cX8_setPort 6 = .ok (.iload_n 1, 1) := by decide +kernel
theorem dX8_setPort_7 : decode cX8_setPort 7 = .ok (.invokevirtual 133, 3) := by decide +kernel
theorem dX8_setPort_10 : decode cX8_setPort 10 = .ok (.ifCond .ne 9, 3) := by decide +kernel
theorem dX8_setPort_13 : decode cX8_setPort 13 = .ok (.aload_n 0, 1) := by decide +kernel
theorem dX8_setPort_14 : decode cX8_setPort 14 = .ok (.iconst 1, 1) := by decide +kernel
theorem dX8_setPort_15 : decode cX8_setPort 15 = .ok (.invokevirtual 57, 3) := by decide +kernel
theorem dX8_setPort_18 : decode cX8_setPort 18 = .ok (.ireturn, 1) := by decide +kernel
theorem dX8_setPort_19 : decode cX8_setPort 19 = .ok (.iload_n 3, 1) := by decide +kernel
theorem dX8_setPort_20 : decode cX8_setPort 20 = .ok (.i2l, 1) := by decide +kernel
theorem dX8_setPort_21 : decode cX8_setPort 21 = .ok (.ldc2_w 136, 3) := by decide +kernel
theorem dX8_setPort_24 : decode cX8_setPort 24 = .ok (.ldc2_w 138, 3) := by decide +kernel
theorem dX8_setPort_27 : decode cX8_setPort 27 = .ok (.invokestatic 41, 3) := by decide +kernel
theorem dX8_setPort_30 : decode cX8_setPort 30 = .ok (.ifCond .eq 16, 3) := by decide +kernel
theorem dX8_setPort_33 : decode cX8_setPort 33 = .ok (.iload 4, 2) := by decide +kernel
theorem dX8_setPort_35 : decode cX8_setPort 35 = .ok (.i2l, 1) := by decide +kernel
theorem dX8_setPort_36 : decode cX8_setPort 36 = .ok (.lconst 0, 1) := by decide +kernel
theorem dX8_setPort_37 : decode cX8_setPort 37 = .ok (.ldc2_w 138, 3) := by decide +kernel
theorem dX8_setPort_40 : decode cX8_setPort 40 = .ok (.invokestatic 41, 3) := by decide +kernel
theorem dX8_setPort_43 : decode cX8_setPort 43 = .ok (.ifCond .ne 9, 3) := by decide +kernel
theorem dX8_setPort_46 : decode cX8_setPort 46 = .ok (.aload_n 0, 1) := by decide +kernel
theorem dX8_setPort_47 : decode cX8_setPort 47 = .ok (.iconst 2, 1) := by decide +kernel
theorem dX8_setPort_48 : decode cX8_setPort 48 = .ok (.invokevirtual 57, 3) := by decide +kernel
theorem dX8_setPort_51 : decode cX8_setPort 51 = .ok (.ireturn, 1) := by decide +kernel
theorem dX8_setPort_52 : decode cX8_setPort 52 = .ok (.iconst 5, 1) := by decide +kernel
theorem dX8_setPort_53 : decode cX8_setPort 53 = .ok (.iload_n 1, 1) := by decide +kernel
theorem dX8_setPort_54 : decode cX8_setPort 54 = .ok (.imul, 1) := by decide +kernel
theorem dX8_setPort_55 : decode cX8_setPort 55 = .ok (.iload_n 2, 1) := by decide +kernel
theorem dX8_setPort_56 : decode cX8_setPort 56 = .ok (.ifCond .eq 7, 3) := by decide +kernel
theorem dX8_setPort_59 : decode cX8_setPort 59 = .ok (.iconst 2, 1) := by decide +kernel
theorem dX8_setPort_60 : decode cX8_setPort 60 = .ok (.goto 4, 3) := by decide +kernel
theorem dX8_setPort_63 : decode cX8_setPort 63 = .ok (.iconst 0, 1) := by decide +kernel
theorem dX8_setPort_64 : decode cX8_setPort 64 = .ok (.iadd, 1) := by decide +kernel
theorem dX8_setPort_65 : decode cX8_setPort 65 = .ok (.istore 5, 2) := by decide +kernel
theorem dX8_setPort_67 : decode cX8_setPort 67 = .ok (.aload_n 0, 1) := by decide +kernel
theorem dX8_setPort_68 : decode cX8_setPort 68 = .ok (.getfield 19, 3) := by decide +kernel
theorem dX8_setPort_71 : decode cX8_setPort 71 = .ok (.iload 5, 2) := by decide +kernel
theorem dX8_setPort_73 : decode cX8_setPort 73 = .ok (.iconst 1, 1) := by decide +kernel
theorem dX8_setPort_74 : decode cX8_setPort 74 = .ok (.iadd, 1) := by decide +kernel
theorem dX8_setPort_75 : decode cX8_setPort 75 = .ok (.iaload, 1) := by decide +kernel
theorem dX8_setPort_76 : decode cX8_setPort 76 = .ok (.istore 6, 2) := by decide +kernel
theorem dX8_setPort_78 : decode cX8_setPort 78 = .ok (.aload_n 0, 1) := by decide +kernel
theorem dX8_setPort_79 : decode cX8_setPort 79 = .ok (.getfield 19, 3) := by decide +kernel
theorem dX8_setPort_82 : decode cX8_setPort 82 = .ok (.iload 5, 2) := by decide +kernel
theorem dX8_setPort_84 : decode cX8_setPort 84 = .ok (.iload_n 3, 1) := by decide +kernel
theorem dX8_setPort_85 : decode cX8_setPort 85 = .ok (.iastore, 1) := by decide +kernel
theorem dX8_setPort_86 : decode cX8_setPort 86 = .ok (.aload_n 0, 1) := by decide +kernel
theorem dX8_setPort_87 : decode cX8_setPort 87 = .ok (.getfield 19, 3) := by decide +kernel
theorem dX8_setPort_90 : decode cX8_setPort 90 = .ok (.iload 5, 2) := by decide +kernel
theorem dX8_setPort_92 : decode cX8_setPort 92 = .ok (.iconst 1, 1) := by decide +kernel
theorem dX8_setPort_93 : decode cX8_setPort 93 = .ok (.iadd, 1) := by decide +kernel
theorem dX8_setPort_94 : decode cX8_setPort 94 = .ok (.iload 4, 2) := by decide +kernel
theorem dX8_setPort_96 : decode cX8_setPort 96 = .ok (.iastore, 1) := by decide +kernel
theorem dX8_setPort_97 : decode cX8_setPort 97 = .ok (.iload 6, 2) := by decide +kernel
theorem dX8_setPort_99 : decode cX8_setPort 99 = .ok (.ireturn, 1) := by decide +kernel
theorem dX8_setAddition_0 : decode cX8_setAddition 0 = .ok (.aload_n 0, 1) := by decide +kernel
theorem dX8_setAddition_1 : decode cX8_setAddition 1 = .ok (.iconst 0, 1) := by decide +kernel
theorem dX8_setAddition_2 : decode cX8_setAddition 2 = .ok (.putfield 35, 3) := by decide +kernel
theorem dX8_setAddition_5 : decode cX8_setAddition 5 = .ok (.aload_n 0, 1) := by decide +kernel
theorem dX8_setAddition_6 : decode cX8_setAddition 6 = .ok (.iload_n 1, 1) := by decide +kernel
theorem dX8_setAddition_7 : decode cX8_setAddition 7 = .ok (.invokevirtual 133, 3) := by decide +kernel
theorem dX8_setAddition_10 : decode cX8_setAddition 10 = .ok (.ifCond .ne 9, 3) := by decide +kernel
theorem dX8_setAddition_13 : decode cX8_setAddition 13 = .ok (.aload_n 0, 1) := by decide +kernel
theorem dX8_setAddition_14 : decode cX8_setAddition 14 = .ok (.iconst 1, 1) := by decide +kernel
theorem dX8_setAddition_15 : decode cX8_setAddition 15 = .ok (.invokevirtual 57, 3) := by decide +kernel
theorem dX8_setAddition_18 : decode cX8_setAddition 18 = .ok (.ireturn, 1) := by decide +kernel
theorem dX8_setAddition_19 : decode cX8_setAddition 19 = .ok (.iload_n 2, 1) := by decide +kernel
theorem dX8_setAddition_20 : decode cX8_setAddition 20 = .ok (.i2l, 1) := by decide +kernel
theorem dX8_setAddition_21 : decode cX8_setAddition 21 = .ok (.ldc2_w 140, 3) := by decide +kernel
theorem dX8_setAddition_24 : decode cX8_setAddition 24 = .ok (.ldc2_w 142, 3) := by decide +kernel
theorem dX8_setAddition_27 : decode cX8_setAddition 27 = .ok (.invokestatic 41, 3) := by decide +kernel
theorem dX8_setAddition_30 : decode cX8_setAddition 30 = .ok (.ifCond .ne 9, 3) := by decide +kernel
theorem dX8_setAddition_33 : decode cX8_setAddition 33 = .ok (.aload_n 0, 1) := by decide +kernel
theorem dX8_setAddition_34 : decode cX8_setAddition 34 = .ok (.iconst 2, 1) := by decide +kernel
theorem dX8_setAddition_35 : decode cX8_setAddition 35 = .ok (.invokevirtual 57, 3) := by decide +kernel
theorem dX8_setAddition_38 : decode cX8_setAddition 38 = .ok (.ireturn, 1) := by decide +kernel
theorem dX8_setAddition_39 : decode cX8_setAddition 39 = .ok (.aload_n 0, 1) := by decide +kernel
theorem dX8_setAddition_40 : decode cX8_setAddition 40 = .ok (.getfield 19, 3) := by decide +kernel
theorem dX8_setAddition_43 : decode cX8_setAddition 43 = .ok (.iconst 5, 1) := by decide +kernel
theorem dX8_setAddition_44 : decode cX8_setAddition 44 = .ok (.iload_n 1, 1) := by decide +kernel
theorem dX8_setAddition_45 : decode cX8_setAddition 45 = .ok (.imul, 1) := by decide +kernel
theorem dX8_setAddition_46 : decode cX8_setAddition 46 = .ok (.iconst 4, 1) := by decide +kernel
theorem dX8_setAddition_47 : decode cX8_setAddition 47 = .ok (.iadd, 1) := by decide +kernel
theorem dX8_setAddition_48 : decode cX8_setAddition 48 = .ok (.iaload, 1) := by decide +kernel
theorem dX8_setAddition_49 : decode cX8_setAddition 49 = .ok (.istore_n 3, 1) := by decide +kernel
theorem dX8_setAddition_50 : decode cX8_setAddition 50 = .ok (.aload_n 0, 1) := by decide +kernel
theorem dX8_setAddition_51 : decode cX8_setAddition 51 = .ok (.getfield 19, 3) := by decide +kernel
theorem dX8_setAddition_54 : decode cX8_setAddition 54 = .ok (.iconst 5, 1) := by decide +kernel
theorem dX8_setAddition_55 : decode cX8_setAddition 55 = .ok (.iload_n 1, 1) := by decide +kernel
theorem dX8_setAddition_56 : decode cX8_setAddition 56 = .ok (.imul, 1) := by decide +kernel
theorem dX8_setAddition_57 : decode cX8_setAddition 57 = .ok (.iconst 4, 1) := by decide +kernel
theorem dX8_setAddition_58 : decode cX8_setAddition 58 = .ok (.iadd, 1) := by decide +kernel
theorem dX8_setAddition_59 : decode cX8_setAddition 59 = .ok (.iload_n 2, 1) := by decide +kernel
theorem dX8_setAddition_60 : decode cX8_setAddition 60 = .ok (.iastore, 1) := by decide +kernel
theorem dX8_setAddition_61 : decode cX8_setAddition 61 = .ok (.iload_n 3, 1) := by decide +kernel
theorem dX8_setAddition_62 : decode cX8_setAddition 62 = .ok (.ireturn, 1) := by decide +kernel
theorem dX8_timeAt_0 : decode cX8_timeAt 0 = .ok (.aload_n 0, 1) := by decide +kernel
theorem dX8_timeAt_1 : decode cX8_timeAt 1 = .ok (.getfield 32, 3) := by decide +kernel
theorem dX8_timeAt_4 : decode cX8_timeAt 4 = .ok (.iload_n 2, 1) := by decide +kernel
theorem dX8_timeAt_5 : decode cX8_timeAt 5 = .ok (.iaload, 1) := by decide +kernel
theorem dX8_timeAt_6 : decode cX8_timeAt 6 = .ok (.aload_n 0, 1) := by decide +kernel
theorem dX8_timeAt_7 : decode cX8_timeAt 7 = .ok (.getfield 19, 3) := by decide +kernel
theorem dX8_timeAt_10 : decode cX8_timeAt 10 = .ok (.iconst 5, 1) := by decide +kernel
theorem dX8_timeAt_11 : decode cX8_timeAt 11 = .ok (.iload_n 1, 1) := by decide +kernel
theorem dX8_timeAt_12 : decode cX8_timeAt 12 = .ok (.imul, 1) := by decide +kernel
theorem dX8_timeAt_13 : decode cX8_timeAt 13 = .ok (.aload_n 0, 1) := by decide +kernel
theorem dX8_timeAt_14 : decode cX8_timeAt 14 = .ok (.iload_n 2, 1) := by decide +kernel
theorem dX8_timeAt_15 : decode cX8_timeAt 15 = .ok (.invokevirtual 101, 3) := by decide +kernel
theorem dX8_timeAt_18 : decode cX8_timeAt 18 = .ok (.ifCond .eq 7, 3) := by decide +kernel
theorem dX8_timeAt_21 : decode cX8_timeAt 21 = .ok (.iconst 2, 1) := by decide +kernel
theorem dX8_timeAt_22 : decode cX8_timeAt 22 = .ok (.goto 4, 3) := by decide +kernel
theorem dX8_timeAt_25 : decode cX8_timeAt 25 = .ok (.iconst 0, 1) := by decide +kernel
theorem dX8_timeAt_26 : decode cX8_timeAt 26 = .ok (.iadd, 1) := by decide +kernel
theorem dX8_timeAt_27 : decode cX8_timeAt 27 = .ok (.iaload, 1) := by decide +kernel
theorem dX8_timeAt_28 : decode cX8_timeAt 28 = .ok (.iadd, 1) := by decide +kernel
theorem dX8_timeAt_29 : decode cX8_timeAt 29 = .ok (.ireturn, 1) := by decide +kernel
theorem dX8_heightAt_0 : decode cX8_heightAt 0 = .ok (.aload_n 0, 1) := by decide +kernel
theorem dX8_heightAt_1 : decode cX8_heightAt 1 = .ok (.getfield 28, 3) := by decide +kernel
theorem dX8_heightAt_4 : decode cX8_heightAt 4 = .ok (.aload_n 0, 1) := by decide +kernel
theorem dX8_heightAt_5 : decode cX8_heightAt 5 = .ok (.getfield 32, 3) := by decide +kernel
theorem dX8_heightAt_8 : decode cX8_heightAt 8 = .ok (.iload_n 2, 1) := by decide +kernel
theorem dX8_heightAt_9 : decode cX8_heightAt 9 = .ok (.iaload, 1) := by decide +kernel
theorem dX8_heightAt_10 : decode cX8_heightAt 10 = .ok (.laload, 1) := by decide +kernel
theorem dX8_heightAt_11 : decode cX8_heightAt 11 = .ok (.aload_n 0, 1) := by decide +kernel
theorem dX8_heightAt_12 : decode cX8_heightAt 12 = .ok (.getfield 19, 3) := by decide +kernel
theorem dX8_heightAt_15 : decode cX8_heightAt 15 = .ok (.iconst 5, 1) := by decide +kernel
theorem dX8_heightAt_16 : decode cX8_heightAt 16 = .ok (.iload_n 1, 1) := by decide +kernel
theorem dX8_heightAt_17 : decode cX8_heightAt 17 = .ok (.imul, 1) := by decide +kernel
theorem dX8_heightAt_18 : decode cX8_heightAt 18 = .ok (.aload_n 0, 1) := by decide +kernel
theorem dX8_heightAt_19 : decode cX8_heightAt 19 = .ok (.iload_n 2, 1) := by decide +kernel
theorem dX8_heightAt_20 : decode cX8_heightAt 20 = .ok (.invokevirtual 101, 3) := by decide +kernel
theorem dX8_heightAt_23 : decode cX8_heightAt 23 = .ok (.ifCond .eq 7, 3) := by decide +kernel
theorem dX8_heightAt_26 : decode cX8_heightAt 26 = .ok (.iconst 3, 1) := by decide +kernel
theorem dX8_heightAt_27 : decode cX8_heightAt 27 = .ok (.goto 4, 3) := by decide +kernel
theorem dX8_heightAt_30 : decode cX8_heightAt 30 = .ok (.iconst 1, 1) := by decide +kernel
theorem dX8_heightAt_31 : decode cX8_heightAt 31 = .ok (.iadd, 1) := by decide +kernel
theorem dX8_heightAt_32 : decode cX8_heightAt 32 = .ok (.iaload, 1) := by decide +kernel
theorem dX8_heightAt_33 : decode cX8_heightAt 33 = .ok (.i2l, 1) := by decide +kernel
theorem dX8_heightAt_34 : decode cX8_heightAt 34 = .ok (.lmul, 1) := by decide +kernel
theorem dX8_heightAt_35 : decode cX8_heightAt 35 = .ok (.ldc2_w 144, 3) := by decide +kernel
theorem dX8_heightAt_38 : decode cX8_heightAt 38 = .ok (.ldiv, 1) := by decide +kernel
theorem dX8_heightAt_39 : decode cX8_heightAt 39 = .ok (.aload_n 0, 1) := by decide +kernel
theorem dX8_heightAt_40 : decode cX8_heightAt 40 = .ok (.getfield 19, 3) := by decide +kernel
theorem dX8_heightAt_43 : decode cX8_heightAt 43 = .ok (.iconst 5, 1) := by decide +kernel
theorem dX8_heightAt_44 : decode cX8_heightAt 44 = .ok (.iload_n 1, 1) := by decide +kernel
theorem dX8_heightAt_45 : decode cX8_heightAt 45 = .ok (.imul, 1) := by decide +kernel
theorem dX8_heightAt_46 : decode cX8_heightAt 46 = .ok (.iconst 4, 1) := by decide +kernel
theorem dX8_heightAt_47 : decode cX8_heightAt 47 = .ok (.iadd, 1) := by decide +kernel
theorem dX8_heightAt_48 : decode cX8_heightAt 48 = .ok (.iaload, 1) := by decide +kernel
theorem dX8_heightAt_49 : decode cX8_heightAt 49 = .ok (.i2l, 1) := by decide +kernel
theorem dX8_heightAt_50 : decode cX8_heightAt 50 = .ok (.ladd, 1) := by decide +kernel
theorem dX8_heightAt_51 : decode cX8_heightAt 51 = .ok (.lreturn, 1) := by decide +kernel
theorem dX8_isOrdered_0 : decode cX8_isOrdered 0 = .ok (.aload_n 0, 1) := by decide +kernel
theorem dX8_isOrdered_1 : decode cX8_isOrdered 1 = .ok (.invokevirtual 90, 3) := by decide +kernel
theorem dX8_isOrdered_4 : decode cX8_isOrdered 4 = .ok (.iconst 1, 1) := by decide +kernel
theorem dX8_isOrdered_5 : decode cX8_isOrdered 5 = .ok (.istore_n 2, 1) := by decide +kernel
theorem dX8_isOrdered_6 : decode cX8_isOrdered 6 = .ok (.iconst 1, 1) := by decide +kernel
theorem dX8_isOrdered_7 : decode cX8_isOrdered 7 = .ok (.istore_n 3, 1) := by decide +kernel
theorem dX8_isOrdered_8 : decode cX8_isOrdered 8 = .ok (.iload_n 3, 1) := by decide +kernel
theorem dX8_isOrdered_9 : decode cX8_isOrdered 9 = .ok (.aload_n 0, 1) := by decide +kernel
theorem dX8_isOrdered_10 : decode cX8_isOrdered 10 = .ok (.getfield 84, 3) := by decide +kernel
theorem dX8_isOrdered_13 : decode cX8_isOrdered 13 = .ok (.if_icmp .ge 36, 3) := by decide +kernel
theorem dX8_isOrdered_16 : decode cX8_isOrdered 16 = .ok (.iload_n 2, 1) := by decide +kernel
theorem dX8_isOrdered_17 : decode cX8_isOrdered 17 = .ok (.ifCond .eq 24, 3) := by decide +kernel
theorem dX8_isOrdered_20 : decode cX8_isOrdered 20 = .ok (.aload_n 0, 1) := by decide +kernel
theorem dX8_isOrdered_21 : decode cX8_isOrdered 21 = .ok (.iload_n 1, 1) := by decide +kernel
theorem dX8_isOrdered_22 : decode cX8_isOrdered 22 = .ok (.iload_n 3, 1) := by decide +kernel
theorem dX8_isOrdered_23 : decode cX8_isOrdered 23 = .ok (.invokevirtual 146, 3) := by decide +kernel
theorem dX8_isOrdered_26 : decode cX8_isOrdered 26 = .ok (.aload_n 0, 1) := by decide +kernel
theorem dX8_isOrdered_27 : decode cX8_isOrdered 27 = .ok (.iload_n 1, 1) := by decide +kernel
theorem dX8_isOrdered_28 : decode cX8_isOrdered 28 = .ok (.iload_n 3, 1) := by decide +kernel
theorem dX8_isOrdered_29 : decode cX8_isOrdered 29 = .ok (.iconst 1, 1) := by decide +kernel
theorem dX8_isOrdered_30 : decode cX8_isOrdered 30 = .ok (.isub, 1) := by decide +kernel
theorem dX8_isOrdered_31 : decode cX8_isOrdered 31 = .ok (.invokevirtual 146, 3) := by decide +kernel
theorem dX8_isOrdered_34 : decode cX8_isOrdered 34 = .ok (.if_icmp .le 7, 3) := by decide +kernel
theorem dX8_isOrdered_37 : decode cX8_isOrdered 37 = .ok (.iconst 1, 1) := by decide +kernel
theorem dX8_isOrdered_38 : decode cX8_isOrdered 38 = .ok (.goto 4, 3) := by decide +kernel
theorem dX8_isOrdered_41 : decode cX8_isOrdered 41 = .ok (.iconst 0, 1) := by decide +kernel
theorem dX8_isOrdered_42 : decode cX8_isOrdered 42 = .ok (.istore_n 2, 1) := by decide +kernel
theorem dX8_isOrdered_43 : decode cX8_isOrdered 43 = .ok (.iinc 3 1, 3) := by decide +kernel
theorem dX8_isOrdered_46 : decode cX8_isOrdered 46 = .ok (.goto (-38), 3) := by decide +kernel
theorem dX8_isOrdered_49 : decode cX8_isOrdered 49 = .ok (.iload_n 2, 1) := by decide +kernel
theorem dX8_isOrdered_50 : decode cX8_isOrdered 50 = .ok (.ireturn, 1) := by decide +kernel
theorem dX8_isInOrder_0 : decode cX8_isInOrder 0 = .ok (.aload_n 0, 1) := by decide +kernel
theorem dX8_isInOrder_1 : decode cX8_isInOrder 1 = .ok (.aload_n 0, 1) := by decide +kernel
theorem dX8_isInOrder_2 : decode cX8_isInOrder 2 = .ok (.iload_n 1, 1) := by decide +kernel
theorem dX8_isInOrder_3 : decode cX8_isInOrder 3 = .ok (.invokevirtual 133, 3) := by decide +kernel
theorem dX8_isInOrder_6 : decode cX8_isInOrder 6 = .ok (.ifCond .eq 7, 3) := by decide +kernel
theorem dX8_isInOrder_9 : decode cX8_isInOrder 9 = .ok (.iconst 0, 1) := by decide +kernel
theorem dX8_isInOrder_10 : decode cX8_isInOrder 10 = .ok (.goto 4, 3) := by decide +kernel
theorem dX8_isInOrder_13 : decode cX8_isInOrder 13 = .ok (.iconst 1, 1) := by decide +kernel
theorem dX8_isInOrder_14 : decode cX8_isInOrder 14 = .ok (.putfield 35, 3) := by decide +kernel
theorem dX8_isInOrder_17 : decode cX8_isInOrder 17 = .ok (.aload_n 0, 1) := by decide +kernel
theorem dX8_isInOrder_18 : decode cX8_isInOrder 18 = .ok (.getfield 35, 3) := by decide +kernel
theorem dX8_isInOrder_21 : decode cX8_isInOrder 21 = .ok (.ifCond .ne 15, 3) := by decide +kernel
theorem dX8_isInOrder_24 : decode cX8_isInOrder 24 = .ok (.aload_n 0, 1) := by decide +kernel
theorem dX8_isInOrder_25 : decode cX8_isInOrder 25 = .ok (.iload_n 1, 1) := by decide +kernel
theorem dX8_isInOrder_26 : decode cX8_isInOrder 26 = .ok (.invokevirtual 149, 3) := by decide +kernel
theorem dX8_isInOrder_29 : decode cX8_isInOrder 29 = .ok (.ifCond .eq 7, 3) := by decide +kernel
theorem dX8_isInOrder_32 : decode cX8_isInOrder 32 = .ok (.iconst 1, 1) := by decide +kernel
theorem dX8_isInOrder_33 : decode cX8_isInOrder 33 = .ok (.goto 4, 3) := by decide +kernel
theorem dX8_isInOrder_36 : decode cX8_isInOrder 36 = .ok (.iconst 0, 1) := by decide +kernel
theorem dX8_isInOrder_37 : decode cX8_isInOrder 37 = .ok (.ireturn, 1) := by decide +kernel
theorem dX8_portWater_0 : decode cX8_portWater 0 = .ok (.aload_n 0, 1) := by decide +kernel
theorem dX8_portWater_1 : decode cX8_portWater 1 = .ok (.iconst 0, 1) := by decide +kernel
theorem dX8_portWater_2 : decode cX8_portWater 2 = .ok (.putfield 35, 3) := by decide +kernel
theorem dX8_portWater_5 : decode cX8_portWater 5 = .ok (.aload_n 0, 1) := by decide +kernel
theorem dX8_portWater_6 : decode cX8_portWater 6 = .ok (.invokevirtual 90, 3) := by decide +kernel
theorem dX8_portWater_9 : decode cX8_portWater 9 = .ok (.aload_n 0, 1) := by decide +kernel
theorem dX8_portWater_10 : decode cX8_portWater 10 = .ok (.iload_n 1, 1) := by decide +kernel
theorem dX8_portWater_11 : decode cX8_portWater 11 = .ok (.invokevirtual 133, 3) := by decide +kernel
theorem dX8_portWater_14 : decode cX8_portWater 14 = .ok (.ifCond .eq 19, 3) := by decide +kernel
theorem dX8_portWater_17 : decode cX8_portWater 17 = .ok (.iload_n 2, 1) := by decide +kernel
theorem dX8_portWater_18 : decode cX8_portWater 18 = .ok (.i2l, 1) := by decide +kernel
theorem dX8_portWater_19 : decode cX8_portWater 19 = .ok (.lconst 0, 1) := by decide +kernel
theorem dX8_portWater_20 : decode cX8_portWater 20 = .ok (.aload_n 0, 1) := by decide +kernel
theorem dX8_portWater_21 : decode cX8_portWater 21 = .ok (.getfield 84, 3) := by decide +kernel
theorem dX8_portWater_24 : decode cX8_portWater 24 = .ok (.iconst 1, 1) := by decide +kernel
theorem dX8_portWater_25 : decode cX8_portWater 25 = .ok (.isub, 1) := by decide +kernel
theorem dX8_portWater_26 : decode cX8_portWater 26 = .ok (.i2l, 1) := by decide +kernel
theorem dX8_portWater_27 : decode cX8_portWater 27 = .ok (.invokestatic 41, 3) := by decide +kernel
theorem dX8_portWater_30 : decode cX8_portWater 30 = .ok (.ifCond .ne 9, 3) := by decide +kernel
theorem dX8_portWater_33 : decode cX8_portWater 33 = .ok (.aload_n 0, 1) := by decide +kernel
theorem dX8_portWater_34 : decode cX8_portWater 34 = .ok (.iconst 1, 1) := by decide +kernel
theorem dX8_portWater_35 : decode cX8_portWater 35 = .ok (.invokevirtual 57, 3) := by decide +kernel
theorem dX8_portWater_38 : decode cX8_portWater 38 = .ok (.ireturn, 1) := by decide +kernel
theorem dX8_portWater_39 : decode cX8_portWater 39 = .ok (.iload_n 3, 1) := by decide +kernel
theorem dX8_portWater_40 : decode cX8_portWater 40 = .ok (.ifCond .eq 12, 3) := by decide +kernel
theorem dX8_portWater_43 : decode cX8_portWater 43 = .ok (.aload_n 0, 1) := by decide +kernel
theorem dX8_portWater_44 : decode cX8_portWater 44 = .ok (.iload_n 1, 1) := by decide +kernel
theorem dX8_portWater_45 : decode cX8_portWater 45 = .ok (.iload_n 2, 1) := by decide +kernel
theorem dX8_portWater_46 : decode cX8_portWater 46 = .ok (.invokevirtual 146, 3) := by decide +kernel
theorem dX8_portWater_49 : decode cX8_portWater 49 = .ok (.goto 10, 3) := by decide +kernel
theorem dX8_portWater_52 : decode cX8_portWater 52 = .ok (.aload_n 0, 1) := by decide +kernel
theorem dX8_portWater_53 : decode cX8_portWater 53 = .ok (.iload_n 1, 1) := by decide +kernel
theorem dX8_portWater_54 : decode cX8_portWater 54 = .ok (.iload_n 2, 1) := by decide +kernel
theorem dX8_portWater_55 : decode cX8_portWater 55 = .ok (.invokevirtual 152, 3) := by decide +kernel
theorem dX8_portWater_58 : decode cX8_portWater 58 = .ok (.l2i, 1) := by decide +kernel
theorem dX8_portWater_59 : decode cX8_portWater 59 = .ok (.ireturn, 1) := by decide +kernel
theorem dX8_waterAhead_0 : decode cX8_waterAhead 0 = .ok (.aload_n 0, 1) := by decide +kernel
theorem dX8_waterAhead_1 : decode cX8_waterAhead 1 = .ok (.iload_n 1, 1) := by decide +kernel
theorem dX8_waterAhead_2 : decode cX8_waterAhead 2 = .ok (.invokevirtual 149, 3) := by decide +kernel
theorem dX8_waterAhead_5 : decode cX8_waterAhead 5 = .ok (.ifCond .ne 5, 3) := by decide +kernel
theorem dX8_waterAhead_8 : decode cX8_waterAhead 8 = .ok (.iconst (-1), 1) := by decide +kernel
theorem dX8_waterAhead_9 : decode cX8_waterAhead 9 = .ok (.ireturn, 1) := by decide +kernel
theorem dX8_waterAhead_10 : decode cX8_waterAhead 10 = .ok (.iconst (-1), 1) := by decide +kernel
theorem dX8_waterAhead_11 : decode cX8_waterAhead 11 = .ok (.istore_n 3, 1) := by decide +kernel
theorem dX8_waterAhead_12 : decode cX8_waterAhead 12 = .ok (.iload_n 3, 1) := by decide +kernel
theorem dX8_waterAhead_13 : decode cX8_waterAhead 13 = .ok (.iconst 1, 1) := by decide +kernel
theorem dX8_waterAhead_14 : decode cX8_waterAhead 14 = .ok (.iadd, 1) := by decide +kernel
theorem dX8_waterAhead_15 : decode cX8_waterAhead 15 = .ok (.aload_n 0, 1) := by decide +kernel
theorem dX8_waterAhead_16 : decode cX8_waterAhead 16 = .ok (.getfield 84, 3) := by decide +kernel
theorem dX8_waterAhead_19 : decode cX8_waterAhead 19 = .ok (.if_icmp .ge 21, 3) := by decide +kernel
theorem dX8_waterAhead_22 : decode cX8_waterAhead 22 = .ok (.aload_n 0, 1) := by decide +kernel
theorem dX8_waterAhead_23 : decode cX8_waterAhead 23 = .ok (.iload_n 1, 1) := by decide +kernel
theorem dX8_waterAhead_24 : decode cX8_waterAhead 24 = .ok (.iload_n 3, 1) := by decide +kernel
theorem dX8_waterAhead_25 : decode cX8_waterAhead 25 = .ok (.iconst 1, 1) := by decide +kernel
theorem dX8_waterAhead_26 : decode cX8_waterAhead 26 = .ok (.iadd, 1) := by decide +kernel
theorem dX8_waterAhead_27 : decode cX8_waterAhead 27 = .ok (.invokevirtual 146, 3) := by decide +kernel
theorem dX8_waterAhead_30 : decode cX8_waterAhead 30 = .ok (.iload_n 2, 1) := by decide +kernel
theorem dX8_waterAhead_31 : decode cX8_waterAhead 31 = .ok (.if_icmp .gt 9, 3) := by decide +kernel
theorem dX8_waterAhead_34 : decode cX8_waterAhead 34 = .ok (.iinc 3 1, 3) := by decide +kernel
theorem dX8_waterAhead_37 : decode cX8_waterAhead 37 = .ok (.goto (-25), 3) := by decide +kernel
theorem dX8_waterAhead_40 : decode cX8_waterAhead 40 = .ok (.iload_n 3, 1) := by decide +kernel
theorem dX8_waterAhead_41 : decode cX8_waterAhead 41 = .ok (.iconst 1, 1) := by decide +kernel
theorem dX8_waterAhead_42 : decode cX8_waterAhead 42 = .ok (.iadd, 1) := by decide +kernel
theorem dX8_waterAhead_43 : decode cX8_waterAhead 43 = .ok (.aload_n 0, 1) := by decide +kernel
theorem dX8_waterAhead_44 : decode cX8_waterAhead 44 = .ok (.getfield 84, 3) := by decide +kernel
theorem dX8_waterAhead_47 : decode cX8_waterAhead 47 = .ok (.if_icmp .ge 7, 3) := by decide +kernel
theorem dX8_waterAhead_50 : decode cX8_waterAhead 50 = .ok (.iload_n 3, 1) := by decide +kernel
theorem dX8_waterAhead_51 : decode cX8_waterAhead 51 = .ok (.goto 4, 3) := by decide +kernel
theorem dX8_waterAhead_54 : decode cX8_waterAhead 54 = .ok (.iconst (-1), 1) := by decide +kernel
theorem dX8_waterAhead_55 : decode cX8_waterAhead 55 = .ok (.ireturn, 1) := by decide +kernel
theorem dX8_between_0 : decode cX8_between 0 = .ok (.aload_n 0, 1) := by decide +kernel
theorem dX8_between_1 : decode cX8_between 1 = .ok (.iload_n 1, 1) := by decide +kernel
theorem dX8_between_2 : decode cX8_between 2 = .ok (.iload_n 2, 1) := by decide +kernel
theorem dX8_between_3 : decode cX8_between 3 = .ok (.iconst 1, 1) := by decide +kernel
theorem dX8_between_4 : decode cX8_between 4 = .ok (.iadd, 1) := by decide +kernel
theorem dX8_between_5 : decode cX8_between 5 = .ok (.invokevirtual 146, 3) := by decide +kernel
theorem dX8_between_8 : decode cX8_between 8 = .ok (.aload_n 0, 1) := by decide +kernel
theorem dX8_between_9 : decode cX8_between 9 = .ok (.iload_n 1, 1) := by decide +kernel
theorem dX8_between_10 : decode cX8_between 10 = .ok (.iload_n 2, 1) := by decide +kernel
theorem dX8_between_11 : decode cX8_between 11 = .ok (.invokevirtual 146, 3) := by decide +kernel
theorem dX8_between_14 : decode cX8_between 14 = .ok (.isub, 1) := by decide +kernel
theorem dX8_between_15 : decode cX8_between 15 = .ok (.i2l, 1) := by decide +kernel
theorem dX8_between_16 : decode cX8_between 16 = .ok (.lstore 4, 2) := by decide +kernel
theorem dX8_between_18 : decode cX8_between 18 = .ok (.iload_n 3, 1) := by decide +kernel
theorem dX8_between_19 : decode cX8_between 19 = .ok (.aload_n 0, 1) := by decide +kernel
theorem dX8_between_20 : decode cX8_between 20 = .ok (.iload_n 1, 1) := by decide +kernel
theorem dX8_between_21 : decode cX8_between 21 = .ok (.iload_n 2, 1) := by decide +kernel
theorem dX8_between_22 : decode cX8_between 22 = .ok (.invokevirtual 146, 3) := by decide +kernel
theorem dX8_between_25 : decode cX8_between 25 = .ok (.isub, 1) := by decide +kernel
theorem dX8_between_26 : decode cX8_between 26 = .ok (.i2l, 1) := by decide +kernel
theorem dX8_between_27 : decode cX8_between 27 = .ok (.lstore 6, 2) := by decide +kernel
theorem dX8_between_29 : decode cX8_between 29 = .ok (.ldc2_w 155, 3) := by decide +kernel
theorem dX8_between_32 : decode cX8_between 32 = .ok (.lload 6, 2) := by decide +kernel
theorem dX8_between_34 : decode cX8_between 34 = .ok (.lmul, 1) := by decide +kernel
theorem dX8_between_35 : decode cX8_between 35 = .ok (.lload 4, 2) := by decide +kernel
theorem dX8_between_37 : decode cX8_between 37 = .ok (.ldiv, 1) := by decide +kernel
theorem dX8_between_38 : decode cX8_between 38 = .ok (.l2i, 1) := by decide +kernel
theorem dX8_between_39 : decode cX8_between 39 = .ok (.istore 8, 2) := by decide +kernel
theorem dX8_between_41 : decode cX8_between 41 = .ok (.aload_n 0, 1) := by decide +kernel
theorem dX8_between_42 : decode cX8_between 42 = .ok (.iload_n 1, 1) := by decide +kernel
theorem dX8_between_43 : decode cX8_between 43 = .ok (.iload_n 2, 1) := by decide +kernel
theorem dX8_between_44 : decode cX8_between 44 = .ok (.invokevirtual 152, 3) := by decide +kernel
theorem dX8_between_47 : decode cX8_between 47 = .ok (.aload_n 0, 1) := by decide +kernel
theorem dX8_between_48 : decode cX8_between 48 = .ok (.iload_n 1, 1) := by decide +kernel
theorem dX8_between_49 : decode cX8_between 49 = .ok (.iload_n 2, 1) := by decide +kernel
theorem dX8_between_50 : decode cX8_between 50 = .ok (.iconst 1, 1) := by decide +kernel
theorem dX8_between_51 : decode cX8_between 51 = .ok (.iadd, 1) := by decide +kernel
theorem dX8_between_52 : decode cX8_between 52 = .ok (.invokevirtual 152, 3) := by decide +kernel
theorem dX8_between_55 : decode cX8_between 55 = .ok (.aload_n 0, 1) := by decide +kernel
theorem dX8_between_56 : decode cX8_between 56 = .ok (.iload_n 1, 1) := by decide +kernel
theorem dX8_between_57 : decode cX8_between 57 = .ok (.iload_n 2, 1) := by decide +kernel
theorem dX8_between_58 : decode cX8_between 58 = .ok (.invokevirtual 152, 3) := by decide +kernel
theorem dX8_between_61 : decode cX8_between 61 = .ok (.lsub, 1) := by decide +kernel
theorem dX8_between_62 : decode cX8_between 62 = .ok (.getstatic 157, 3) := by decide +kernel
theorem dX8_between_65 : decode cX8_between 65 = .ok (.iload 8, 2) := by decide +kernel
theorem dX8_between_67 : decode cX8_between 67 = .ok (.iaload, 1) := by decide +kernel
theorem dX8_between_68 : decode cX8_between 68 = .ok (.i2l, 1) := by decide +kernel
theorem dX8_between_69 : decode cX8_between 69 = .ok (.lload 4, 2) := by decide +kernel
theorem dX8_between_71 : decode cX8_between 71 = .ok (.lmul, 1) := by decide +kernel
theorem dX8_between_72 : decode cX8_between 72 = .ok (.getstatic 160, 3) := by decide +kernel
theorem dX8_between_75 : decode cX8_between 75 = .ok (.iload 8, 2) := by decide +kernel
theorem dX8_between_77 : decode cX8_between 77 = .ok (.iaload, 1) := by decide +kernel
theorem dX8_between_78 : decode cX8_between 78 = .ok (.i2l, 1) := by decide +kernel
theorem dX8_between_79 : decode cX8_between 79 = .ok (.ldc2_w 155, 3) := by decide +kernel
theorem dX8_between_82 : decode cX8_between 82 = .ok (.lload 6, 2) := by decide +kernel
theorem dX8_between_84 : decode cX8_between 84 = .ok (.lmul, 1) := by decide +kernel
theorem dX8_between_85 : decode cX8_between 85 = .ok (.iload 8, 2) := by decide +kernel
theorem dX8_between_87 : decode cX8_between 87 = .ok (.i2l, 1) := by decide +kernel
theorem dX8_between_88 : decode cX8_between 88 = .ok (.lload 4, 2) := by decide +kernel
theorem dX8_between_90 : decode cX8_between 90 = .ok (.lmul, 1) := by decide +kernel
theorem dX8_between_91 : decode cX8_between 91 = .ok (.lsub, 1) := by decide +kernel
theorem dX8_between_92 : decode cX8_between 92 = .ok (.lmul, 1) := by decide +kernel
theorem dX8_between_93 : decode cX8_between 93 = .ok (.ladd, 1) := by decide +kernel
theorem dX8_between_94 : decode cX8_between 94 = .ok (.lmul, 1) := by decide +kernel
theorem dX8_between_95 : decode cX8_between 95 = .ok (.ldc2_w 163, 3) := by decide +kernel
theorem dX8_between_98 : decode cX8_between 98 = .ok (.lload 4, 2) := by decide +kernel
theorem dX8_between_100 : decode cX8_between 100 = .ok (.lmul, 1) := by decide +kernel
theorem dX8_between_101 : decode cX8_between 101 = .ok (.ldiv, 1) := by decide +kernel
theorem dX8_between_102 : decode cX8_between 102 = .ok (.ladd, 1) := by decide +kernel
theorem dX8_between_103 : decode cX8_between 103 = .ok (.lreturn, 1) := by decide +kernel
theorem dX8_portHeight_0 : decode cX8_portHeight 0 = .ok (.aload_n 0, 1) := by decide +kernel
theorem dX8_portHeight_1 : decode cX8_portHeight 1 = .ok (.iconst 0, 1) := by decide +kernel
theorem dX8_portHeight_2 : decode cX8_portHeight 2 = .ok (.putfield 35, 3) := by decide +kernel
theorem dX8_portHeight_5 : decode cX8_portHeight 5 = .ok (.aload_n 0, 1) := by decide +kernel
theorem dX8_portHeight_6 : decode cX8_portHeight 6 = .ok (.iload_n 1, 1) := by decide +kernel
theorem dX8_portHeight_7 : decode cX8_portHeight 7 = .ok (.invokevirtual 133, 3) := by decide +kernel
theorem dX8_portHeight_10 : decode cX8_portHeight 10 = .ok (.ifCond .ne 9, 3) := by decide +kernel
theorem dX8_portHeight_13 : decode cX8_portHeight 13 = .ok (.aload_n 0, 1) := by decide +kernel
theorem dX8_portHeight_14 : decode cX8_portHeight 14 = .ok (.iconst 1, 1) := by decide +kernel
theorem dX8_portHeight_15 : decode cX8_portHeight 15 = .ok (.invokevirtual 57, 3) := by decide +kernel
theorem dX8_portHeight_18 : decode cX8_portHeight 18 = .ok (.ireturn, 1) := by decide +kernel
theorem dX8_portHeight_19 : decode cX8_portHeight 19 = .ok (.iload_n 2, 1) := by decide +kernel
theorem dX8_portHeight_20 : decode cX8_portHeight 20 = .ok (.invokestatic 87, 3) := by decide +kernel
theorem dX8_portHeight_23 : decode cX8_portHeight 23 = .ok (.ifCond .ne 9, 3) := by decide +kernel
theorem dX8_portHeight_26 : decode cX8_portHeight 26 = .ok (.aload_n 0, 1) := by decide +kernel
theorem dX8_portHeight_27 : decode cX8_portHeight 27 = .ok (.iconst 2, 1) := by decide +kernel
theorem dX8_portHeight_28 : decode cX8_portHeight 28 = .ok (.invokevirtual 57, 3) := by decide +kernel
theorem dX8_portHeight_31 : decode cX8_portHeight 31 = .ok (.ireturn, 1) := by decide +kernel
theorem dX8_portHeight_32 : decode cX8_portHeight 32 = .ok (.aload_n 0, 1) := by decide +kernel
theorem dX8_portHeight_33 : decode cX8_portHeight 33 = .ok (.iload_n 1, 1) := by decide +kernel
theorem dX8_portHeight_34 : decode cX8_portHeight 34 = .ok (.iload_n 2, 1) := by decide +kernel
theorem dX8_portHeight_35 : decode cX8_portHeight 35 = .ok (.invokevirtual 165, 3) := by decide +kernel
theorem dX8_portHeight_38 : decode cX8_portHeight 38 = .ok (.istore_n 3, 1) := by decide +kernel
theorem dX8_portHeight_39 : decode cX8_portHeight 39 = .ok (.iload_n 3, 1) := by decide +kernel
theorem dX8_portHeight_40 : decode cX8_portHeight 40 = .ok (.iconst (-1), 1) := by decide +kernel
theorem dX8_portHeight_41 : decode cX8_portHeight 41 = .ok (.if_icmp .ne 11, 3) := by decide +kernel
theorem dX8_portHeight_44 : decode cX8_portHeight 44 = .ok (.aload_n 0, 1) := by decide +kernel
theorem dX8_portHeight_45 : decode cX8_portHeight 45 = .ok (.iconst 3, 1) := by decide +kernel
theorem dX8_portHeight_46 : decode cX8_portHeight 46 = .ok (.invokevirtual 57, 3) := by decide +kernel
theorem dX8_portHeight_49 : decode cX8_portHeight 49 = .ok (.goto 11, 3) := by decide +kernel
theorem dX8_portHeight_52 : decode cX8_portHeight 52 = .ok (.aload_n 0, 1) := by decide +kernel
theorem dX8_portHeight_53 : decode cX8_portHeight 53 = .ok (.iload_n 1, 1) := by decide +kernel
theorem dX8_portHeight_54 : decode cX8_portHeight 54 = .ok (.iload_n 3, 1) := by decide +kernel
theorem dX8_portHeight_55 : decode cX8_portHeight 55 = .ok (.iload_n 2, 1) := by decide +kernel
theorem dX8_portHeight_56 : decode cX8_portHeight 56 = .ok (.invokevirtual 168, 3) := by decide +kernel
theorem dX8_portHeight_59 : decode cX8_portHeight 59 = .ok (.l2i, 1) := by decide +kernel
theorem dX8_portHeight_60 : decode cX8_portHeight 60 = .ok (.ireturn, 1) := by decide +kernel
theorem dX8_windows_0 : decode cX8_windows 0 = .ok (.aload_n 0, 1) := by decide +kernel
theorem dX8_windows_1 : decode cX8_windows 1 = .ok (.iconst 0, 1) := by decide +kernel
theorem dX8_windows_2 : decode cX8_windows 2 = .ok (.putfield 35, 3) := by decide +kernel
theorem dX8_windows_5 : decode cX8_windows 5 = .ok (.iload_n 1, 1) := by decide +kernel
theorem dX8_windows_6 : decode cX8_windows 6 = .ok (.iconst (-1), 1) := by decide +kernel
theorem dX8_windows_7 : decode cX8_windows 7 = .ok (.if_icmp .eq 11, 3) := by decide +kernel
theorem dX8_windows_10 : decode cX8_windows 10 = .ok (.aload_n 0, 1) := by decide +kernel
theorem dX8_windows_11 : decode cX8_windows 11 = .ok (.iload_n 1, 1) := by decide +kernel
theorem dX8_windows_12 : decode cX8_windows 12 = .ok (.invokevirtual 133, 3) := by decide +kernel
theorem dX8_windows_15 : decode cX8_windows 15 = .ok (.ifCond .eq 16, 3) := by decide +kernel
theorem dX8_windows_18 : decode cX8_windows 18 = .ok (.iload 5, 2) := by decide +kernel
theorem dX8_windows_20 : decode cX8_windows 20 = .ok (.i2l, 1) := by decide +kernel
theorem dX8_windows_21 : decode cX8_windows 21 = .ok (.lconst 0, 1) := by decide +kernel
theorem dX8_windows_22 : decode cX8_windows 22 = .ok (.ldc2_w 96, 3) := by decide +kernel
theorem dX8_windows_25 : decode cX8_windows 25 = .ok (.invokestatic 41, 3) := by decide +kernel
theorem dX8_windows_28 : decode cX8_windows 28 = .ok (.ifCond .ne 9, 3) := by decide +kernel
theorem dX8_windows_31 : decode cX8_windows 31 = .ok (.aload_n 0, 1) := by decide +kernel
theorem dX8_windows_32 : decode cX8_windows 32 = .ok (.iconst 1, 1) := by decide +kernel
theorem dX8_windows_33 : decode cX8_windows 33 = .ok (.invokevirtual 57, 3) := by decide +kernel
theorem dX8_windows_36 : decode cX8_windows 36 = .ok (.ireturn, 1) := by decide +kernel
theorem dX8_windows_37 : decode cX8_windows 37 = .ok (.iload_n 3, 1) := by decide +kernel
theorem dX8_windows_38 : decode cX8_windows 38 = .ok (.ifCond .lt 17, 3) := by decide +kernel
theorem dX8_windows_41 : decode cX8_windows 41 = .ok (.iload_n 3, 1) := by decide +kernel
theorem dX8_windows_42 : decode cX8_windows 42 = .ok (.iload 4, 2) := by decide +kernel
theorem dX8_windows_44 : decode cX8_windows 44 = .ok (.if_icmp .gt 11, 3) := by decide +kernel
theorem dX8_windows_47 : decode cX8_windows 47 = .ok (.iload 4, 2) := by decide +kernel
theorem dX8_windows_49 : decode cX8_windows 49 = .ok (.sipush 4320, 3) := by decide +kernel
theorem dX8_windows_52 : decode cX8_windows 52 = .ok (.if_icmp .lt 9, 3) := by decide +kernel
theorem dX8_windows_55 : decode cX8_windows 55 = .ok (.aload_n 0, 1) := by decide +kernel
theorem dX8_windows_56 : decode cX8_windows 56 = .ok (.iconst 2, 1) := by decide +kernel
theorem dX8_windows_57 : decode cX8_windows 57 = .ok (.invokevirtual 57, 3) := by decide +kernel
theorem dX8_windows_60 : decode cX8_windows 60 = .ok (.ireturn, 1) := by decide +kernel
theorem dX8_windows_61 : decode cX8_windows 61 = .ok (.aload_n 0, 1) := by decide +kernel
theorem dX8_windows_62 : decode cX8_windows 62 = .ok (.invokevirtual 90, 3) := by decide +kernel
theorem dX8_windows_65 : decode cX8_windows 65 = .ok (.iload_n 1, 1) := by decide +kernel
theorem dX8_windows_66 : decode cX8_windows 66 = .ok (.iconst (-1), 1) := by decide +kernel
theorem dX8_windows_67 : decode cX8_windows 67 = .ok (.if_icmp .eq 11, 3) := by decide +kernel
theorem dX8_windows_70 : decode cX8_windows 70 = .ok (.aload_n 0, 1) := by decide +kernel
theorem dX8_windows_71 : decode cX8_windows 71 = .ok (.iload_n 1, 1) := by decide +kernel
theorem dX8_windows_72 : decode cX8_windows 72 = .ok (.invokevirtual 149, 3) := by decide +kernel
theorem dX8_windows_75 : decode cX8_windows 75 = .ok (.ifCond .eq 7, 3) := by decide +kernel
theorem dX8_windows_78 : decode cX8_windows 78 = .ok (.iconst 1, 1) := by decide +kernel
theorem dX8_windows_79 : decode cX8_windows 79 = .ok (.goto 4, 3) := by decide +kernel
theorem dX8_windows_82 : decode cX8_windows 82 = .ok (.iconst 0, 1) := by decide +kernel
theorem dX8_windows_83 : decode cX8_windows 83 = .ok (.istore 6, 2) := by decide +kernel
theorem dX8_windows_85 : decode cX8_windows 85 = .ok (.iconst 4, 1) := by decide +kernel
theorem dX8_windows_86 : decode cX8_windows 86 = .ok (.newarray .int, 2) := by decide +kernel
theorem dX8_windows_88 : decode cX8_windows 88 = .ok (.dup, 1) := by decide +kernel
theorem dX8_windows_89 : decode cX8_windows 89 = .ok (.iconst 0, 1) := by decide +kernel
theorem dX8_windows_90 : decode cX8_windows 90 = .ok (.iconst 0, 1) := by decide +kernel
theorem dX8_windows_91 : decode cX8_windows 91 = .ok (.iastore, 1) := by decide +kernel
theorem dX8_windows_92 : decode cX8_windows 92 = .ok (.dup, 1) := by decide +kernel
theorem dX8_windows_93 : decode cX8_windows 93 = .ok (.iconst 1, 1) := by decide +kernel
theorem dX8_windows_94 : decode cX8_windows 94 = .ok (.iconst 0, 1) := by decide +kernel
theorem dX8_windows_95 : decode cX8_windows 95 = .ok (.iastore, 1) := by decide +kernel
theorem dX8_windows_96 : decode cX8_windows 96 = .ok (.dup, 1) := by decide +kernel
theorem dX8_windows_97 : decode cX8_windows 97 = .ok (.iconst 2, 1) := by decide +kernel
theorem dX8_windows_98 : decode cX8_windows 98 = .ok (.iconst (-1), 1) := by decide +kernel
theorem dX8_windows_99 : decode cX8_windows 99 = .ok (.iastore, 1) := by decide +kernel
theorem dX8_windows_100 : decode cX8_windows 100 = .ok (.dup, 1) := by decide +kernel
theorem dX8_windows_101 : decode cX8_windows 101 = .ok (.iconst 3, 1) := by decide +kernel
theorem dX8_windows_102 : decode cX8_windows 102 = .ok (.iconst 0, 1) := by decide +kernel
theorem dX8_windows_103 : decode cX8_windows 103 = .ok (.iastore, 1) := by decide +kernel
theorem dX8_windows_104 : decode cX8_windows 104 = .ok (.astore 7, 2) := by decide +kernel
theorem dX8_windows_106 : decode cX8_windows 106 = .ok (.iconst 0, 1) := by decide +kernel
theorem dX8_windows_107 : decode cX8_windows 107 = .ok (.istore 8, 2) := by decide +kernel
theorem dX8_windows_109 : decode cX8_windows 109 = .ok (.iconst (-1), 1) := by decide +kernel
theorem dX8_windows_110 : decode cX8_windows 110 = .ok (.istore 9, 2) := by decide +kernel
theorem dX8_windows_112 : decode cX8_windows 112 = .ok (.iload_n 3, 1) := by decide +kernel
theorem dX8_windows_113 : decode cX8_windows 113 = .ok (.istore 10, 2) := by decide +kernel
theorem dX8_windows_115 : decode cX8_windows 115 = .ok (.iload 10, 2) := by decide +kernel
theorem dX8_windows_117 : decode cX8_windows 117 = .ok (.iload 4, 2) := by decide +kernel
theorem dX8_windows_119 : decode cX8_windows 119 = .ok (.if_icmp .gt 186, 3) := by decide +kernel
theorem dX8_windows_122 : decode cX8_windows 122 = .ok (.iload_n 1, 1) := by decide +kernel
theorem dX8_windows_123 : decode cX8_windows 123 = .ok (.iconst (-1), 1) := by decide +kernel
theorem dX8_windows_124 : decode cX8_windows 124 = .ok (.if_icmp .ne 20, 3) := by decide +kernel
theorem dX8_windows_127 : decode cX8_windows 127 = .ok (.aload_n 0, 1) := by decide +kernel
theorem dX8_windows_128 : decode cX8_windows 128 = .ok (.getfield 28, 3) := by decide +kernel
theorem dX8_windows_131 : decode cX8_windows 131 = .ok (.iload 10, 2) := by decide +kernel
theorem dX8_windows_133 : decode cX8_windows 133 = .ok (.laload, 1) := by decide +kernel
theorem dX8_windows_134 : decode cX8_windows 134 = .ok (.iload_n 2, 1) := by decide +kernel
theorem dX8_windows_135 : decode cX8_windows 135 = .ok (.i2l, 1) := by decide +kernel
theorem dX8_windows_136 : decode cX8_windows 136 = .ok (.lcmp, 1) := by decide +kernel
theorem dX8_windows_137 : decode cX8_windows 137 = .ok (.ifCond .lt 7, 3) := by decide +kernel
theorem dX8_windows_140 : decode cX8_windows 140 = .ok (.iconst 1, 1) := by decide +kernel
theorem dX8_windows_141 : decode cX8_windows 141 = .ok (.goto 4, 3) := by decide +kernel
theorem dX8_windows_144 : decode cX8_windows 144 = .ok (.iconst 0, 1) := by decide +kernel
theorem dX8_windows_145 : decode cX8_windows 145 = .ok (.istore 11, 2) := by decide +kernel
theorem dX8_windows_147 : decode cX8_windows 147 = .ok (.iload_n 1, 1) := by decide +kernel
theorem dX8_windows_148 : decode cX8_windows 148 = .ok (.iconst (-1), 1) := by decide +kernel
theorem dX8_windows_149 : decode cX8_windows 149 = .ok (.if_icmp .eq 78, 3) := by decide +kernel
theorem dX8_windows_152 : decode cX8_windows 152 = .ok (.iload 6, 2) := by decide +kernel
theorem dX8_windows_154 : decode cX8_windows 154 = .ok (.ifCond .eq 73, 3) := by decide +kernel
theorem dX8_windows_157 : decode cX8_windows 157 = .ok (.iload 9, 2) := by decide +kernel
theorem dX8_windows_159 : decode cX8_windows 159 = .ok (.iconst 1, 1) := by decide +kernel
theorem dX8_windows_160 : decode cX8_windows 160 = .ok (.iadd, 1) := by decide +kernel
theorem dX8_windows_161 : decode cX8_windows 161 = .ok (.aload_n 0, 1) := by decide +kernel
theorem dX8_windows_162 : decode cX8_windows 162 = .ok (.getfield 84, 3) := by decide +kernel
theorem dX8_windows_165 : decode cX8_windows 165 = .ok (.if_icmp .ge 23, 3) := by decide +kernel
theorem dX8_windows_168 : decode cX8_windows 168 = .ok (.aload_n 0, 1) := by decide +kernel
theorem dX8_windows_169 : decode cX8_windows 169 = .ok (.iload_n 1, 1) := by decide +kernel
theorem dX8_windows_170 : decode cX8_windows 170 = .ok (.iload 9, 2) := by decide +kernel
theorem dX8_windows_172 : decode cX8_windows 172 = .ok (.iconst 1, 1) := by decide +kernel
theorem dX8_windows_173 : decode cX8_windows 173 = .ok (.iadd, 1) := by decide +kernel
theorem dX8_windows_174 : decode cX8_windows 174 = .ok (.invokevirtual 146, 3) := by decide +kernel
theorem dX8_windows_177 : decode cX8_windows 177 = .ok (.iload 10, 2) := by decide +kernel
theorem dX8_windows_179 : decode cX8_windows 179 = .ok (.if_icmp .gt 9, 3) := by decide +kernel
theorem dX8_windows_182 : decode cX8_windows 182 = .ok (.iinc 9 1, 3) := by decide +kernel
theorem dX8_windows_185 : decode cX8_windows 185 = .ok (.goto (-28), 3) := by decide +kernel
theorem dX8_windows_188 : decode cX8_windows 188 = .ok (.iload 9, 2) := by decide +kernel
theorem dX8_windows_190 : decode cX8_windows 190 = .ok (.iconst (-1), 1) := by decide +kernel
theorem dX8_windows_191 : decode cX8_windows 191 = .ok (.if_icmp .eq 33, 3) := by decide +kernel
theorem dX8_windows_194 : decode cX8_windows 194 = .ok (.iload 9, 2) := by decide +kernel
theorem dX8_windows_196 : decode cX8_windows 196 = .ok (.iconst 1, 1) := by decide +kernel
theorem dX8_windows_197 : decode cX8_windows 197 = .ok (.iadd, 1) := by decide +kernel
theorem dX8_windows_198 : decode cX8_windows 198 = .ok (.aload_n 0, 1) := by decide +kernel
theorem dX8_windows_199 : decode cX8_windows 199 = .ok (.getfield 84, 3) := by decide +kernel
theorem dX8_windows_202 : decode cX8_windows 202 = .ok (.if_icmp .ge 22, 3) := by decide +kernel
theorem dX8_windows_205 : decode cX8_windows 205 = .ok (.aload_n 0, 1) := by decide +kernel
theorem dX8_windows_206 : decode cX8_windows 206 = .ok (.iload_n 1, 1) := by decide +kernel
theorem dX8_windows_207 : decode cX8_windows 207 = .ok (.iload 9, 2) := by decide +kernel
theorem dX8_windows_209 : decode cX8_windows 209 = .ok (.iload 10, 2) := by decide +kernel
theorem dX8_windows_211 : decode cX8_windows 211 = .ok (.invokevirtual 168, 3) := by decide +kernel
theorem dX8_windows_214 : decode cX8_windows 214 = .ok (.iload_n 2, 1) := by decide +kernel
