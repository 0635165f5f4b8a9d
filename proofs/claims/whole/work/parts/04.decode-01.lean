theorem dX3_findWaters_58 : decode cX3_findWaters 58 = .ok (.goto 4, 3) := by decide +kernel
theorem dX3_findWaters_61 : decode cX3_findWaters 61 = .ok (.iconst 0, 1) := by decide +kernel
theorem dX3_findWaters_62 : decode cX3_findWaters 62 = .ok (.istore 4, 2) := by decide +kernel
theorem dX3_findWaters_64 : decode cX3_findWaters 64 = .ok (.iload_n 1, 1) := by decide +kernel
theorem dX3_findWaters_65 : decode cX3_findWaters 65 = .ok (.ifCond .le 23, 3) := by decide +kernel
theorem dX3_findWaters_68 : decode cX3_findWaters 68 = .ok (.iload 4, 2) := by decide +kernel
theorem dX3_findWaters_70 : decode cX3_findWaters 70 = .ok (.iload_n 2, 1) := by decide +kernel
theorem dX3_findWaters_71 : decode cX3_findWaters 71 = .ok (.if_icmp .eq 17, 3) := by decide +kernel
theorem dX3_findWaters_74 : decode cX3_findWaters 74 = .ok (.aload_n 0, 1) := by decide +kernel
theorem dX3_findWaters_75 : decode cX3_findWaters 75 = .ok (.iload_n 1, 1) := by decide +kernel
theorem dX3_findWaters_76 : decode cX3_findWaters 76 = .ok (.aload_n 0, 1) := by decide +kernel
theorem dX3_findWaters_77 : decode cX3_findWaters 77 = .ok (.getfield 9, 3) := by decide +kernel
theorem dX3_findWaters_80 : decode cX3_findWaters 80 = .ok (.iload_n 3, 1) := by decide +kernel
theorem dX3_findWaters_81 : decode cX3_findWaters 81 = .ok (.iconst 1, 1) := by decide +kernel
theorem dX3_findWaters_82 : decode cX3_findWaters 82 = .ok (.isub, 1) := by decide +kernel
theorem dX3_findWaters_83 : decode cX3_findWaters 83 = .ok (.iaload, 1) := by decide +kernel
theorem dX3_findWaters_84 : decode cX3_findWaters 84 = .ok (.iload_n 2, 1) := by decide +kernel
theorem dX3_findWaters_85 : decode cX3_findWaters 85 = .ok (.invokevirtual 38, 3) := by decide +kernel
theorem dX3_findWaters_88 : decode cX3_findWaters 88 = .ok (.iload_n 3, 1) := by decide +kernel
theorem dX3_findWaters_89 : decode cX3_findWaters 89 = .ok (.istore_n 1, 1) := by decide +kernel
theorem dX3_findWaters_90 : decode cX3_findWaters 90 = .ok (.iload 4, 2) := by decide +kernel
theorem dX3_findWaters_92 : decode cX3_findWaters 92 = .ok (.istore_n 2, 1) := by decide +kernel
theorem dX3_findWaters_93 : decode cX3_findWaters 93 = .ok (.iinc 3 1, 3) := by decide +kernel
theorem dX3_findWaters_96 : decode cX3_findWaters 96 = .ok (.goto (-85), 3) := by decide +kernel
theorem dX3_findWaters_99 : decode cX3_findWaters 99 = .ok (.return_, 1) := by decide +kernel
theorem dX3_noteWater_0 : decode cX3_noteWater 0 = .ok (.aload_n 0, 1) := by decide +kernel
theorem dX3_noteWater_1 : decode cX3_noteWater 1 = .ok (.getfield 34, 3) := by decide +kernel
theorem dX3_noteWater_4 : decode cX3_noteWater 4 = .ok (.sipush 4320, 3) := by decide +kernel
theorem dX3_noteWater_7 : decode cX3_noteWater 7 = .ok (.if_icmp .ge 43, 3) := by decide +kernel
theorem dX3_noteWater_10 : decode cX3_noteWater 10 = .ok (.aload_n 0, 1) := by decide +kernel
theorem dX3_noteWater_11 : decode cX3_noteWater 11 = .ok (.getfield 15, 3) := by decide +kernel
theorem dX3_noteWater_14 : decode cX3_noteWater 14 = .ok (.aload_n 0, 1) := by decide +kernel
theorem dX3_noteWater_15 : decode cX3_noteWater 15 = .ok (.getfield 34, 3) := by decide +kernel
theorem dX3_noteWater_18 : decode cX3_noteWater 18 = .ok (.iload_n 1, 1) := by decide +kernel
theorem dX3_noteWater_19 : decode cX3_noteWater 19 = .ok (.iastore, 1) := by decide +kernel
theorem dX3_noteWater_20 : decode cX3_noteWater 20 = .ok (.aload_n 0, 1) := by decide +kernel
theorem dX3_noteWater_21 : decode cX3_noteWater 21 = .ok (.getfield 18, 3) := by decide +kernel
theorem dX3_noteWater_24 : decode cX3_noteWater 24 = .ok (.aload_n 0, 1) := by decide +kernel
theorem dX3_noteWater_25 : decode cX3_noteWater 25 = .ok (.getfield 34, 3) := by decide +kernel
theorem dX3_noteWater_28 : decode cX3_noteWater 28 = .ok (.iload_n 2, 1) := by decide +kernel
theorem dX3_noteWater_29 : decode cX3_noteWater 29 = .ok (.iastore, 1) := by decide +kernel
theorem dX3_noteWater_30 : decode cX3_noteWater 30 = .ok (.aload_n 0, 1) := by decide +kernel
theorem dX3_noteWater_31 : decode cX3_noteWater 31 = .ok (.getfield 21, 3) := by decide +kernel
theorem dX3_noteWater_34 : decode cX3_noteWater 34 = .ok (.aload_n 0, 1) := by decide +kernel
theorem dX3_noteWater_35 : decode cX3_noteWater 35 = .ok (.getfield 34, 3) := by decide +kernel
theorem dX3_noteWater_38 : decode cX3_noteWater 38 = .ok (.iload_n 3, 1) := by decide +kernel
theorem dX3_noteWater_39 : decode cX3_noteWater 39 = .ok (.bastore, 1) := by decide +kernel
theorem dX3_noteWater_40 : decode cX3_noteWater 40 = .ok (.aload_n 0, 1) := by decide +kernel
theorem dX3_noteWater_41 : decode cX3_noteWater 41 = .ok (.dup, 1) := by decide +kernel
theorem dX3_noteWater_42 : decode cX3_noteWater 42 = .ok (.getfield 34, 3) := by decide +kernel
theorem dX3_noteWater_45 : decode cX3_noteWater 45 = .ok (.iconst 1, 1) := by decide +kernel
theorem dX3_noteWater_46 : decode cX3_noteWater 46 = .ok (.iadd, 1) := by decide +kernel
theorem dX3_noteWater_47 : decode cX3_noteWater 47 = .ok (.putfield 34, 3) := by decide +kernel
theorem dX3_noteWater_50 : decode cX3_noteWater 50 = .ok (.return_, 1) := by decide +kernel
theorem dX3_hasWater_0 : decode cX3_hasWater 0 = .ok (.iload_n 1, 1) := by decide +kernel
theorem dX3_hasWater_1 : decode cX3_hasWater 1 = .ok (.ifCond .lt 15, 3) := by decide +kernel
theorem dX3_hasWater_4 : decode cX3_hasWater 4 = .ok (.iload_n 1, 1) := by decide +kernel
theorem dX3_hasWater_5 : decode cX3_hasWater 5 = .ok (.aload_n 0, 1) := by decide +kernel
theorem dX3_hasWater_6 : decode cX3_hasWater 6 = .ok (.getfield 34, 3) := by decide +kernel
theorem dX3_hasWater_9 : decode cX3_hasWater 9 = .ok (.if_icmp .ge 7, 3) := by decide +kernel
theorem dX3_hasWater_12 : decode cX3_hasWater 12 = .ok (.iconst 1, 1) := by decide +kernel
theorem dX3_hasWater_13 : decode cX3_hasWater 13 = .ok (.goto 4, 3) := by decide +kernel
theorem dX3_hasWater_16 : decode cX3_hasWater 16 = .ok (.iconst 0, 1) := by decide +kernel
theorem dX3_hasWater_17 : decode cX3_hasWater 17 = .ok (.ireturn, 1) := by decide +kernel
theorem dX3_isBetweenWaters_0 : decode cX3_isBetweenWaters 0 = .ok (.iload_n 1, 1) := by decide +kernel
theorem dX3_isBetweenWaters_1 : decode cX3_isBetweenWaters 1 = .ok (.ifCond .lt 17, 3) := by decide +kernel
theorem dX3_isBetweenWaters_4 : decode cX3_isBetweenWaters 4 = .ok (.iload_n 1, 1) := by decide +kernel
theorem dX3_isBetweenWaters_5 : decode cX3_isBetweenWaters 5 = .ok (.aload_n 0, 1) := by decide +kernel
theorem dX3_isBetweenWaters_6 : decode cX3_isBetweenWaters 6 = .ok (.getfield 34, 3) := by decide +kernel
theorem dX3_isBetweenWaters_9 : decode cX3_isBetweenWaters 9 = .ok (.iconst 1, 1) := by decide +kernel
theorem dX3_isBetweenWaters_10 : decode cX3_isBetweenWaters 10 = .ok (.isub, 1) := by decide +kernel
theorem dX3_isBetweenWaters_11 : decode cX3_isBetweenWaters 11 = .ok (.if_icmp .ge 7, 3) := by decide +kernel
theorem dX3_isBetweenWaters_14 : decode cX3_isBetweenWaters 14 = .ok (.iconst 1, 1) := by decide +kernel
theorem dX3_isBetweenWaters_15 : decode cX3_isBetweenWaters 15 = .ok (.goto 4, 3) := by decide +kernel
theorem dX3_isBetweenWaters_18 : decode cX3_isBetweenWaters 18 = .ok (.iconst 0, 1) := by decide +kernel
theorem dX3_isBetweenWaters_19 : decode cX3_isBetweenWaters 19 = .ok (.ireturn, 1) := by decide +kernel
theorem dX3_heightAt_0 : decode cX3_heightAt 0 = .ok (.iload_n 1, 1) := by decide +kernel
theorem dX3_heightAt_1 : decode cX3_heightAt 1 = .ok (.invokestatic 42, 3) := by decide +kernel
theorem dX3_heightAt_4 : decode cX3_heightAt 4 = .ok (.ifCond .eq 12, 3) := by decide +kernel
theorem dX3_heightAt_7 : decode cX3_heightAt 7 = .ok (.aload_n 0, 1) := by decide +kernel
theorem dX3_heightAt_8 : decode cX3_heightAt 8 = .ok (.getfield 9, 3) := by decide +kernel
theorem dX3_heightAt_11 : decode cX3_heightAt 11 = .ok (.iload_n 1, 1) := by decide +kernel
theorem dX3_heightAt_12 : decode cX3_heightAt 12 = .ok (.iaload, 1) := by decide +kernel
theorem dX3_heightAt_13 : decode cX3_heightAt 13 = .ok (.goto 4, 3) := by decide +kernel
theorem dX3_heightAt_16 : decode cX3_heightAt 16 = .ok (.iconst 0, 1) := by decide +kernel
theorem dX3_heightAt_17 : decode cX3_heightAt 17 = .ok (.ireturn, 1) := by decide +kernel
theorem dX3_timeOf_0 : decode cX3_timeOf 0 = .ok (.aload_n 0, 1) := by decide +kernel
theorem dX3_timeOf_1 : decode cX3_timeOf 1 = .ok (.iload_n 1, 1) := by decide +kernel
theorem dX3_timeOf_2 : decode cX3_timeOf 2 = .ok (.invokevirtual 46, 3) := by decide +kernel
theorem dX3_timeOf_5 : decode cX3_timeOf 5 = .ok (.ifCond .eq 12, 3) := by decide +kernel
theorem dX3_timeOf_8 : decode cX3_timeOf 8 = .ok (.aload_n 0, 1) := by decide +kernel
theorem dX3_timeOf_9 : decode cX3_timeOf 9 = .ok (.getfield 15, 3) := by decide +kernel
theorem dX3_timeOf_12 : decode cX3_timeOf 12 = .ok (.iload_n 1, 1) := by decide +kernel
theorem dX3_timeOf_13 : decode cX3_timeOf 13 = .ok (.iaload, 1) := by decide +kernel
theorem dX3_timeOf_14 : decode cX3_timeOf 14 = .ok (.goto 4, 3) := by decide +kernel
theorem dX3_timeOf_17 : decode cX3_timeOf 17 = .ok (.iconst 0, 1) := by decide +kernel
theorem dX3_timeOf_18 : decode cX3_timeOf 18 = .ok (.ireturn, 1) := by decide +kernel
theorem dX3_heightOf_0 : decode cX3_heightOf 0 = .ok (.aload_n 0, 1) := by decide +kernel
theorem dX3_heightOf_1 : decode cX3_heightOf 1 = .ok (.iload_n 1, 1) := by decide +kernel
theorem dX3_heightOf_2 : decode cX3_heightOf 2 = .ok (.invokevirtual 46, 3) := by decide +kernel
theorem dX3_heightOf_5 : decode cX3_heightOf 5 = .ok (.ifCond .eq 12, 3) := by decide +kernel
theorem dX3_heightOf_8 : decode cX3_heightOf 8 = .ok (.aload_n 0, 1) := by decide +kernel
theorem dX3_heightOf_9 : decode cX3_heightOf 9 = .ok (.getfield 18, 3) := by decide +kernel
theorem dX3_heightOf_12 : decode cX3_heightOf 12 = .ok (.iload_n 1, 1) := by decide +kernel
theorem dX3_heightOf_13 : decode cX3_heightOf 13 = .ok (.iaload, 1) := by decide +kernel
theorem dX3_heightOf_14 : decode cX3_heightOf 14 = .ok (.goto 4, 3) := by decide +kernel
theorem dX3_heightOf_17 : decode cX3_heightOf 17 = .ok (.iconst 0, 1) := by decide +kernel
theorem dX3_heightOf_18 : decode cX3_heightOf 18 = .ok (.ireturn, 1) := by decide +kernel
theorem dX3_isHigh_0 : decode cX3_isHigh 0 = .ok (.aload_n 0, 1) := by decide +kernel
theorem dX3_isHigh_1 : decode cX3_isHigh 1 = .ok (.iload_n 1, 1) := by decide +kernel
theorem dX3_isHigh_2 : decode cX3_isHigh 2 = .ok (.invokevirtual 46, 3) := by decide +kernel
theorem dX3_isHigh_5 : decode cX3_isHigh 5 = .ok (.ifCond .eq 16, 3) := by decide +kernel
theorem dX3_isHigh_8 : decode cX3_isHigh 8 = .ok (.aload_n 0, 1) := by decide +kernel
theorem dX3_isHigh_9 : decode cX3_isHigh 9 = .ok (.getfield 21, 3) := by decide +kernel
theorem dX3_isHigh_12 : decode cX3_isHigh 12 = .ok (.iload_n 1, 1) := by decide +kernel
theorem dX3_isHigh_13 : decode cX3_isHigh 13 = .ok (.baload, 1) := by decide +kernel
theorem dX3_isHigh_14 : decode cX3_isHigh 14 = .ok (.ifCond .eq 7, 3) := by decide +kernel
theorem dX3_isHigh_17 : decode cX3_isHigh 17 = .ok (.iconst 1, 1) := by decide +kernel
theorem dX3_isHigh_18 : decode cX3_isHigh 18 = .ok (.goto 4, 3) := by decide +kernel
theorem dX3_isHigh_21 : decode cX3_isHigh 21 = .ok (.iconst 0, 1) := by decide +kernel
theorem dX3_isHigh_22 : decode cX3_isHigh 22 = .ok (.ireturn, 1) := by decide +kernel
theorem dX3_datumOf_0 : decode cX3_datumOf 0 = .ok (.iload_n 1, 1) := by decide +kernel
theorem dX3_datumOf_1 : decode cX3_datumOf 1 = .ok (.tableswitch 53 0 3 #[31, 36, 41, 47], 31) := by decide +kernel
theorem dX3_datumOf_32 : decode cX3_datumOf 32 = .ok (.aload_n 0, 1) := by decide +kernel
theorem dX3_datumOf_33 : decode cX3_datumOf 33 = .ok (.invokevirtual 49, 3) := by decide +kernel
theorem dX3_datumOf_36 : decode cX3_datumOf 36 = .ok (.ireturn, 1) := by decide +kernel
theorem dX3_datumOf_37 : decode cX3_datumOf 37 = .ok (.aload_n 0, 1) := by decide +kernel
theorem dX3_datumOf_38 : decode cX3_datumOf 38 = .ok (.invokevirtual 53, 3) := by decide +kernel
theorem dX3_datumOf_41 : decode cX3_datumOf 41 = .ok (.ireturn, 1) := by decide +kernel
theorem dX3_datumOf_42 : decode cX3_datumOf 42 = .ok (.aload_n 0, 1) := by decide +kernel
theorem dX3_datumOf_43 : decode cX3_datumOf 43 = .ok (.iconst 1, 1) := by decide +kernel
theorem dX3_datumOf_44 : decode cX3_datumOf 44 = .ok (.invokevirtual 56, 3) := by decide +kernel
theorem dX3_datumOf_47 : decode cX3_datumOf 47 = .ok (.ireturn, 1) := by decide +kernel
theorem dX3_datumOf_48 : decode cX3_datumOf 48 = .ok (.aload_n 0, 1) := by decide +kernel
theorem dX3_datumOf_49 : decode cX3_datumOf 49 = .ok (.iconst 0, 1) := by decide +kernel
theorem dX3_datumOf_50 : decode cX3_datumOf 50 = .ok (.invokevirtual 56, 3) := by decide +kernel
theorem dX3_datumOf_53 : decode cX3_datumOf 53 = .ok (.ireturn, 1) := by decide +kernel
theorem dX3_datumOf_54 : decode cX3_datumOf 54 = .ok (.aload_n 0, 1) := by decide +kernel
theorem dX3_datumOf_55 : decode cX3_datumOf 55 = .ok (.invokevirtual 60, 3) := by decide +kernel
theorem dX3_datumOf_58 : decode cX3_datumOf 58 = .ok (.ireturn, 1) := by decide +kernel
theorem dX3_greatestHeight_0 : decode cX3_greatestHeight 0 = .ok (.aload_n 0, 1) := by decide +kernel
theorem dX3_greatestHeight_1 : decode cX3_greatestHeight 1 = .ok (.iconst 0, 1) := by decide +kernel
theorem dX3_greatestHeight_2 : decode cX3_greatestHeight 2 = .ok (.invokevirtual 63, 3) := by decide +kernel
theorem dX3_greatestHeight_5 : decode cX3_greatestHeight 5 = .ok (.istore_n 1, 1) := by decide +kernel
theorem dX3_greatestHeight_6 : decode cX3_greatestHeight 6 = .ok (.aload_n 0, 1) := by decide +kernel
theorem dX3_greatestHeight_7 : decode cX3_greatestHeight 7 = .ok (.getfield 9, 3) := by decide +kernel
theorem dX3_greatestHeight_10 : decode cX3_greatestHeight 10 = .ok (.astore_n 2, 1) := by decide +kernel
theorem dX3_greatestHeight_11 : decode cX3_greatestHeight 11 = .ok (.aload_n 2, 1) := by decide +kernel
theorem dX3_greatestHeight_12 : decode cX3_greatestHeight 12 = .ok (.arraylength, 1) := by decide +kernel
theorem dX3_greatestHeight_13 : decode cX3_greatestHeight 13 = .ok (.istore_n 3, 1) := by decide +kernel
theorem dX3_greatestHeight_14 : decode cX3_greatestHeight 14 = .ok (.iconst 0, 1) := by decide +kernel
theorem dX3_greatestHeight_15 : decode cX3_greatestHeight 15 = .ok (.istore 4, 2) := by decide +kernel
theorem dX3_greatestHeight_17 : decode cX3_greatestHeight 17 = .ok (.iload 4, 2) := by decide +kernel
theorem dX3_greatestHeight_19 : decode cX3_greatestHeight 19 = .ok (.iload_n 3, 1) := by decide +kernel
theorem dX3_greatestHeight_20 : decode cX3_greatestHeight 20 = .ok (.if_icmp .ge 22, 3) := by decide +kernel
theorem dX3_greatestHeight_23 : decode cX3_greatestHeight 23 = .ok (.aload_n 2, 1) := by decide +kernel
theorem dX3_greatestHeight_24 : decode cX3_greatestHeight 24 = .ok (.iload 4, 2) := by decide +kernel
theorem dX3_greatestHeight_26 : decode cX3_greatestHeight 26 = .ok (.iaload, 1) := by decide +kernel
theorem dX3_greatestHeight_27 : decode cX3_greatestHeight 27 = .ok (.istore 5, 2) := by decide +kernel
theorem dX3_greatestHeight_29 : decode cX3_greatestHeight 29 = .ok (.iload_n 1, 1) := by decide +kernel
theorem dX3_greatestHeight_30 : decode cX3_greatestHeight 30 = .ok (.iload 5, 2) := by decide +kernel
theorem dX3_greatestHeight_32 : decode cX3_greatestHeight 32 = .ok (.invokestatic 64, 3) := by decide +kernel
theorem dX3_greatestHeight_35 : decode cX3_greatestHeight 35 = .ok (.istore_n 1, 1) := by decide +kernel
theorem dX3_greatestHeight_36 : decode cX3_greatestHeight 36 = .ok (.iinc 4 1, 3) := by decide +kernel
theorem dX3_greatestHeight_39 : decode cX3_greatestHeight 39 = .ok (.goto (-22), 3) := by decide +kernel
theorem dX3_greatestHeight_42 : decode cX3_greatestHeight 42 = .ok (.iload_n 1, 1) := by decide +kernel
theorem dX3_greatestHeight_43 : decode cX3_greatestHeight 43 = .ok (.ireturn, 1) := by decide +kernel
theorem dX3_leastHeight_0 : decode cX3_leastHeight 0 = .ok (.aload_n 0, 1) := by decide +kernel
theorem dX3_leastHeight_1 : decode cX3_leastHeight 1 = .ok (.iconst 0, 1) := by decide +kernel
theorem dX3_leastHeight_2 : decode cX3_leastHeight 2 = .ok (.invokevirtual 63, 3) := by decide +kernel
theorem dX3_leastHeight_5 : decode cX3_leastHeight 5 = .ok (.istore_n 1, 1) := by decide +kernel
theorem dX3_leastHeight_6 : decode cX3_leastHeight 6 = .ok (.aload_n 0, 1) := by decide +kernel
theorem dX3_leastHeight_7 : decode cX3_leastHeight 7 = .ok (.getfield 9, 3) := by decide +kernel
theorem dX3_leastHeight_10 : decode cX3_leastHeight 10 = .ok (.astore_n 2, 1) := by decide +kernel
theorem dX3_leastHeight_11 : decode cX3_leastHeight 11 = .ok (.aload_n 2, 1) := by decide +kernel
theorem dX3_leastHeight_12 : decode cX3_leastHeight 12 = .ok (.arraylength, 1) := by decide +kernel
theorem dX3_leastHeight_13 : decode cX3_leastHeight 13 = .ok (.istore_n 3, 1) := by decide +kernel
theorem dX3_leastHeight_14 : decode cX3_leastHeight 14 = .ok (.iconst 0, 1) := by decide +kernel
theorem dX3_leastHeight_15 : decode cX3_leastHeight 15 = .ok (.istore 4, 2) := by decide +kernel
theorem dX3_leastHeight_17 : decode cX3_leastHeight 17 = .ok (.iload 4, 2) := by decide +kernel
theorem dX3_leastHeight_19 : decode cX3_leastHeight 19 = .ok (.iload_n 3, 1) := by decide +kernel
theorem dX3_leastHeight_20 : decode cX3_leastHeight 20 = .ok (.if_icmp .ge 22, 3) := by decide +kernel
theorem dX3_leastHeight_23 : decode cX3_leastHeight 23 = .ok (.aload_n 2, 1) := by decide +kernel
theorem dX3_leastHeight_24 : decode cX3_leastHeight 24 = .ok (.iload 4, 2) := by decide +kernel
theorem dX3_leastHeight_26 : decode cX3_leastHeight 26 = .ok (.iaload, 1) := by decide +kernel
theorem dX3_leastHeight_27 : decode cX3_leastHeight 27 = .ok (.istore 5, 2) := by decide +kernel
theorem dX3_leastHeight_29 : decode cX3_leastHeight 29 = .ok (.iload_n 1, 1) := by decide +kernel
theorem dX3_leastHeight_30 : decode cX3_leastHeight 30 = .ok (.iload 5, 2) := by decide +kernel
theorem dX3_leastHeight_32 : decode cX3_leastHeight 32 = .ok (.invokestatic 70, 3) := by decide +kernel
theorem dX3_leastHeight_35 : decode cX3_leastHeight 35 = .ok (.istore_n 1, 1) := by decide +kernel
theorem dX3_leastHeight_36 : decode cX3_leastHeight 36 = .ok (.iinc 4 1, 3) := by decide +kernel
theorem dX3_leastHeight_39 : decode cX3_leastHeight 39 = .ok (.goto (-22), 3) := by decide +kernel
theorem dX3_leastHeight_42 : decode cX3_leastHeight 42 = .ok (.iload_n 1, 1) := by decide +kernel
theorem dX3_leastHeight_43 : decode cX3_leastHeight 43 = .ok (.ireturn, 1) := by decide +kernel
theorem dX3_meanOfWaters_0 : decode cX3_meanOfWaters 0 = .ok (.lconst 0, 1) := by decide +kernel
theorem dX3_meanOfWaters_1 : decode cX3_meanOfWaters 1 = .ok (.lstore_n 2, 1) := by decide +kernel
theorem dX3_meanOfWaters_2 : decode cX3_meanOfWaters 2 = .ok (.iconst 0, 1) := by decide +kernel
theorem dX3_meanOfWaters_3 : decode cX3_meanOfWaters 3 = .ok (.istore 4, 2) := by decide +kernel
theorem dX3_meanOfWaters_5 : decode cX3_meanOfWaters 5 = .ok (.iconst 0, 1) := by decide +kernel
theorem dX3_meanOfWaters_6 : decode cX3_meanOfWaters 6 = .ok (.istore 5, 2) := by decide +kernel
theorem dX3_meanOfWaters_8 : decode cX3_meanOfWaters 8 = .ok (.iload 5, 2) := by decide +kernel
theorem dX3_meanOfWaters_10 : decode cX3_meanOfWaters 10 = .ok (.aload_n 0, 1) := by decide +kernel
theorem dX3_meanOfWaters_11 : decode cX3_meanOfWaters 11 = .ok (.getfield 34, 3) := by decide +kernel
theorem dX3_meanOfWaters_14 : decode cX3_meanOfWaters 14 = .ok (.if_icmp .ge 32, 3) := by decide +kernel
theorem dX3_meanOfWaters_17 : decode cX3_meanOfWaters 17 = .ok (.aload_n 0, 1) := by decide +kernel
theorem dX3_meanOfWaters_18 : decode cX3_meanOfWaters 18 = .ok (.iload 5, 2) := by decide +kernel
theorem dX3_meanOfWaters_20 : decode cX3_meanOfWaters 20 = .ok (.invokevirtual 73, 3) := by decide +kernel
theorem dX3_meanOfWaters_23 : decode cX3_meanOfWaters 23 = .ok (.iload_n 1, 1) := by decide +kernel
theorem dX3_meanOfWaters_24 : decode cX3_meanOfWaters 24 = .ok (.if_icmp .ne 16, 3) := by decide +kernel
theorem dX3_meanOfWaters_27 : decode cX3_meanOfWaters 27 = .ok (.lload_n 2, 1) := by decide +kernel
theorem dX3_meanOfWaters_28 : decode cX3_meanOfWaters 28 = .ok (.aload_n 0, 1) := by decide +kernel
theorem dX3_meanOfWaters_29 : decode cX3_meanOfWaters 29 = .ok (.iload 5, 2) := by decide +kernel
theorem dX3_meanOfWaters_31 : decode cX3_meanOfWaters 31 = .ok (.invokevirtual 76, 3) := by decide +kernel
theorem dX3_meanOfWaters_34 : decode cX3_meanOfWaters 34 = .ok (.i2l, 1) := by decide +kernel
theorem dX3_meanOfWaters_35 : decode cX3_meanOfWaters 35 = .ok (.ladd, 1) := by decide +kernel
theorem dX3_meanOfWaters_36 : decode cX3_meanOfWaters 36 = .ok (.lstore_n 2, 1) := by decide +kernel
theorem dX3_meanOfWaters_37 : decode cX3_meanOfWaters 37 = .ok (.iinc 4 1, 3) := by decide +kernel
theorem dX3_meanOfWaters_40 : decode cX3_meanOfWaters 40 = .ok (.iinc 5 1, 3) := by decide +kernel
theorem dX3_meanOfWaters_43 : decode cX3_meanOfWaters 43 = .ok (.goto (-35), 3) := by decide +kernel
theorem dX3_meanOfWaters_46 : decode cX3_meanOfWaters 46 = .ok (.lload_n 2, 1) := by decide +kernel
theorem dX3_meanOfWaters_47 : decode cX3_meanOfWaters 47 = .ok (.iload 4, 2) := by decide +kernel
theorem dX3_meanOfWaters_49 : decode cX3_meanOfWaters 49 = .ok (.i2l, 1) := by decide +kernel
theorem dX3_meanOfWaters_50 : decode cX3_meanOfWaters 50 = .ok (.invokestatic 79, 3) := by decide +kernel
theorem dX3_meanOfWaters_53 : decode cX3_meanOfWaters 53 = .ok (.l2i, 1) := by decide +kernel
theorem dX3_meanOfWaters_54 : decode cX3_meanOfWaters 54 = .ok (.ireturn, 1) := by decide +kernel
theorem dX3_greatestDifference_0 : decode cX3_greatestDifference 0 = .ok (.iconst 0, 1) := by decide +kernel
theorem dX3_greatestDifference_1 : decode cX3_greatestDifference 1 = .ok (.istore_n 1, 1) := by decide +kernel
theorem dX3_greatestDifference_2 : decode cX3_greatestDifference 2 = .ok (.iconst 1, 1) := by decide +kernel
theorem dX3_greatestDifference_3 : decode cX3_greatestDifference 3 = .ok (.istore_n 2, 1) := by decide +kernel
theorem dX3_greatestDifference_4 : decode cX3_greatestDifference 4 = .ok (.iload_n 2, 1) := by decide +kernel
theorem dX3_greatestDifference_5 : decode cX3_greatestDifference 5 = .ok (.aload_n 0, 1) := by decide +kernel
theorem dX3_greatestDifference_6 : decode cX3_greatestDifference 6 = .ok (.getfield 34, 3) := by decide +kernel
theorem dX3_greatestDifference_9 : decode cX3_greatestDifference 9 = .ok (.if_icmp .ge 32, 3) := by decide +kernel
theorem dX3_greatestDifference_12 : decode cX3_greatestDifference 12 = .ok (.aload_n 0, 1) := by decide +kernel
theorem dX3_greatestDifference_13 : decode cX3_greatestDifference 13 = .ok (.iload_n 2, 1) := by decide +kernel
theorem dX3_greatestDifference_14 : decode cX3_greatestDifference 14 = .ok (.invokevirtual 76, 3) := by decide +kernel
theorem dX3_greatestDifference_17 : decode cX3_greatestDifference 17 = .ok (.aload_n 0, 1) := by decide +kernel
theorem dX3_greatestDifference_18 : decode cX3_greatestDifference 18 = .ok (.iload_n 2, 1) := by decide +kernel
theorem dX3_greatestDifference_19 : decode cX3_greatestDifference 19 = .ok (.iconst 1, 1) := by decide +kernel
theorem dX3_greatestDifference_20 : decode cX3_greatestDifference 20 = .ok (.isub, 1) := by decide +kernel
theorem dX3_greatestDifference_21 : decode cX3_greatestDifference 21 = .ok (.invokevirtual 76, 3) := by decide +kernel
theorem dX3_greatestDifference_24 : decode cX3_greatestDifference 24 = .ok (.isub, 1) := by decide +kernel
theorem dX3_greatestDifference_25 : decode cX3_greatestDifference 25 = .ok (.invokestatic 83, 3) := by decide +kernel
theorem dX3_greatestDifference_28 : decode cX3_greatestDifference 28 = .ok (.istore_n 3, 1) := by decide +kernel
theorem dX3_greatestDifference_29 : decode cX3_greatestDifference 29 = .ok (.iload_n 1, 1) := by decide +kernel
theorem dX3_greatestDifference_30 : decode cX3_greatestDifference 30 = .ok (.iload_n 3, 1) := by decide +kernel
theorem dX3_greatestDifference_31 : decode cX3_greatestDifference 31 = .ok (.invokestatic 64, 3) := by decide +kernel
theorem dX3_greatestDifference_34 : decode cX3_greatestDifference 34 = .ok (.istore_n 1, 1) := by decide +kernel
theorem dX3_greatestDifference_35 : decode cX3_greatestDifference 35 = .ok (.iinc 2 1, 3) := by decide +kernel
theorem dX3_greatestDifference_38 : decode cX3_greatestDifference 38 = .ok (.goto (-34), 3) := by decide +kernel
theorem dX3_greatestDifference_41 : decode cX3_greatestDifference 41 = .ok (.iload_n 1, 1) := by decide +kernel
theorem dX3_greatestDifference_42 : decode cX3_greatestDifference 42 = .ok (.ireturn, 1) := by decide +kernel
theorem dX4_init_0 : decode cX4_init 0 = .ok (.aload_n 0, 1) := by decide +kernel
theorem dX4_init_1 : decode cX4_init 1 = .ok (.invokespecial 1, 3) := by decide +kernel
theorem dX4_init_4 : decode cX4_init 4 = .ok (.aload_n 0, 1) := by decide +kernel
theorem dX4_init_5 : decode cX4_init 5 = .ok (.iconst (-1), 1) := by decide +kernel
theorem dX4_init_6 : decode cX4_init 6 = .ok (.putfield 7, 3) := by decide +kernel
theorem dX4_init_9 : decode cX4_init 9 = .ok (.return_, 1) := by decide +kernel
theorem dX4_note_0 : decode cX4_note 0 = .ok (.iload_n 2, 1) := by decide +kernel
theorem dX4_note_1 : decode cX4_note 1 = .ok (.ifCond .ne 9, 3) := by decide +kernel
theorem dX4_note_4 : decode cX4_note 4 = .ok (.aload_n 0, 1) := by decide +kernel
theorem dX4_note_5 : decode cX4_note 5 = .ok (.iconst 0, 1) := by decide +kernel
theorem dX4_note_6 : decode cX4_note 6 = .ok (.putfield 13, 3) := by decide +kernel
theorem dX4_note_9 : decode cX4_note 9 = .ok (.return_, 1) := by decide +kernel
theorem dX4_note_10 : decode cX4_note 10 = .ok (.aload_n 0, 1) := by decide +kernel
theorem dX4_note_11 : decode cX4_note 11 = .ok (.getfield 13, 3) := by decide +kernel
theorem dX4_note_14 : decode cX4_note 14 = .ok (.ifCond .ne 13, 3) := by decide +kernel
theorem dX4_note_17 : decode cX4_note 17 = .ok (.aload_n 0, 1) := by decide +kernel
theorem dX4_note_18 : decode cX4_note 18 = .ok (.dup, 1) := by decide +kernel
theorem dX4_note_19 : decode cX4_note 19 = .ok (.getfield 16, 3) := by decide +kernel
theorem dX4_note_22 : decode cX4_note 22 = .ok (.iconst 1, 1) := by decide +kernel
theorem dX4_note_23 : decode cX4_note 23 = .ok (.iadd, 1) := by decide +kernel
theorem dX4_note_24 : decode cX4_note 24 = .ok (.putfield 16, 3) := by decide +kernel
theorem dX4_note_27 : decode cX4_note 27 = .ok (.aload_n 0, 1) := by decide +kernel
theorem dX4_note_28 : decode cX4_note 28 = .ok (.getfield 7, 3) := by decide +kernel
theorem dX4_note_31 : decode cX4_note 31 = .ok (.ifCond .ge 8, 3) := by decide +kernel
theorem dX4_note_34 : decode cX4_note 34 = .ok (.aload_n 0, 1) := by decide +kernel
theorem dX4_note_35 : decode cX4_note 35 = .ok (.iload_n 1, 1) := by decide +kernel
theorem dX4_note_36 : decode cX4_note 36 = .ok (.putfield 7, 3) := by decide +kernel
theorem dX4_note_39 : decode cX4_note 39 = .ok (.aload_n 0, 1) := by decide +kernel
theorem dX4_note_40 : decode cX4_note 40 = .ok (.dup, 1) := by decide +kernel
theorem dX4_note_41 : decode cX4_note 41 = .ok (.getfield 19, 3) := by decide +kernel
theorem dX4_note_44 : decode cX4_note 44 = .ok (.iconst 1, 1) := by decide +kernel
theorem dX4_note_45 : decode cX4_note 45 = .ok (.iadd, 1) := by decide +kernel
theorem dX4_note_46 : decode cX4_note 46 = .ok (.putfield 19, 3) := by decide +kernel
theorem dX4_note_49 : decode cX4_note 49 = .ok (.aload_n 0, 1) := by decide +kernel
theorem dX4_note_50 : decode cX4_note 50 = .ok (.dup, 1) := by decide +kernel
theorem dX4_note_51 : decode cX4_note 51 = .ok (.getfield 13, 3) := by decide +kernel
theorem dX4_note_54 : decode cX4_note 54 = .ok (.iconst 1, 1) := by decide +kernel
theorem dX4_note_55 : decode cX4_note 55 = .ok (.iadd, 1) := by decide +kernel
theorem dX4_note_56 : decode cX4_note 56 = .ok (.putfield 13, 3) := by decide +kernel
theorem dX4_note_59 : decode cX4_note 59 = .ok (.aload_n 0, 1) := by decide +kernel
theorem dX4_note_60 : decode cX4_note 60 = .ok (.aload_n 0, 1) := by decide +kernel
theorem dX4_note_61 : decode cX4_note 61 = .ok (.getfield 22, 3) := by decide +kernel
theorem dX4_note_64 : decode cX4_note 64 = .ok (.aload_n 0, 1) := by decide +kernel
theorem dX4_note_65 : decode cX4_note 65 = .ok (.getfield 13, 3) := by decide +kernel
theorem dX4_note_68 : decode cX4_note 68 = .ok (.invokestatic 25, 3) := by decide +kernel
theorem dX4_note_71 : decode cX4_note 71 = .ok (.putfield 22, 3) := by decide +kernel
theorem dX4_note_74 : decode cX4_note 74 = .ok (.return_, 1) := by decide +kernel
theorem dX4_answer_0 : decode cX4_answer 0 = .ok (.iload_n 1, 1) := by decide +kernel
theorem dX4_answer_1 : decode cX4_answer 1 = .ok (.tableswitch 42 0 2 #[27, 32, 37], 27) := by decide +kernel
theorem dX4_answer_28 : decode cX4_answer 28 = .ok (.aload_n 0, 1) := by decide +kernel
theorem dX4_answer_29 : decode cX4_answer 29 = .ok (.getfield 16, 3) := by decide +kernel
theorem dX4_answer_32 : decode cX4_answer 32 = .ok (.ireturn, 1) := by decide +kernel
theorem dX4_answer_33 : decode cX4_answer 33 = .ok (.aload_n 0, 1) := by decide +kernel
theorem dX4_answer_34 : decode cX4_answer 34 = .ok (.getfield 19, 3) := by decide +kernel
theorem dX4_answer_37 : decode cX4_answer 37 = .ok (.ireturn, 1) := by decide +kernel
theorem dX4_answer_38 : decode cX4_answer 38 = .ok (.aload_n 0, 1) := by decide +kernel
theorem dX4_answer_39 : decode cX4_answer 39 = .ok (.getfield 7, 3) := by decide +kernel
theorem dX4_answer_42 : decode cX4_answer 42 = .ok (.ireturn, 1) := by decide +kernel
theorem dX4_answer_43 : decode cX4_answer 43 = .ok (.aload_n 0, 1) := by decide +kernel
theorem dX4_answer_44 : decode cX4_answer 44 = .ok (.getfield 22, 3) := by decide +kernel
theorem dX4_answer_47 : decode cX4_answer 47 = .ok (.ireturn, 1) := by decide +kernel
theorem dX5_init_0 : decode cX5_init 0 = .ok (.aload_n 0, 1) := by decide +kernel
theorem dX5_init_1 : decode cX5_init 1 = .ok (.invokespecial 1, 3) := by decide +kernel
theorem dX5_init_4 : decode cX5_init 4 = .ok (.aload_n 0, 1) := by decide +kernel
theorem dX5_init_5 : decode cX5_init 5 = .ok (.new 7, 3) := by decide +kernel
theorem dX5_init_8 : decode cX5_init 8 = .ok (.dup, 1) := by decide +kernel
theorem dX5_init_9 : decode cX5_init 9 = .ok (.invokespecial 9, 3) := by decide +kernel
theorem dX5_init_12 : decode cX5_init 12 = .ok (.putfield 10, 3) := by decide +kernel
theorem dX5_init_15 : decode cX5_init 15 = .ok (.return_, 1) := by decide +kernel
theorem dX5_heightAt_0 : decode cX5_heightAt 0 = .ok (.aload_n 0, 1) := by decide +kernel
theorem dX5_heightAt_1 : decode cX5_heightAt 1 = .ok (.getfield 16, 3) := by decide +kernel
theorem dX5_heightAt_4 : decode cX5_heightAt 4 = .ok (.istore_n 2, 1) := by decide +kernel
theorem dX5_heightAt_5 : decode cX5_heightAt 5 = .ok (.iconst 0, 1) := by decide +kernel
theorem dX5_heightAt_6 : decode cX5_heightAt 6 = .ok (.istore_n 3, 1) := by decide +kernel
theorem dX5_heightAt_7 : decode cX5_heightAt 7 = .ok (.iload_n 3, 1) := by decide +kernel
theorem dX5_heightAt_8 : decode cX5_heightAt 8 = .ok (.aload_n 0, 1) := by decide +kernel
theorem dX5_heightAt_9 : decode cX5_heightAt 9 = .ok (.getfield 10, 3) := by decide +kernel
theorem dX5_heightAt_12 : decode cX5_heightAt 12 = .ok (.invokevirtual 20, 3) := by decide +kernel
theorem dX5_heightAt_15 : decode cX5_heightAt 15 = .ok (.if_icmp .ge 27, 3) := by decide +kernel
theorem dX5_heightAt_18 : decode cX5_heightAt 18 = .ok (.iload_n 2, 1) := by decide +kernel
theorem dX5_heightAt_19 : decode cX5_heightAt 19 = .ok (.aload_n 0, 1) := by decide +kernel
theorem dX5_heightAt_20 : decode cX5_heightAt 20 = .ok (.getfield 10, 3) := by decide +kernel
theorem dX5_heightAt_23 : decode cX5_heightAt 23 = .ok (.iload_n 3, 1) := by decide +kernel
theorem dX5_heightAt_24 : decode cX5_heightAt 24 = .ok (.invokevirtual 24, 3) := by decide +kernel
theorem dX5_heightAt_27 : decode cX5_heightAt 27 = .ok (.checkcast 28, 3) := by decide +kernel
theorem dX5_heightAt_30 : decode cX5_heightAt 30 = .ok (.iload_n 1, 1) := by decide +kernel
theorem dX5_heightAt_31 : decode cX5_heightAt 31 = .ok (.invokevirtual 30, 3) := by decide +kernel
theorem dX5_heightAt_34 : decode cX5_heightAt 34 = .ok (.iadd, 1) := by decide +kernel
theorem dX5_heightAt_35 : decode cX5_heightAt 35 = .ok (.istore_n 2, 1) := by decide +kernel
theorem dX5_heightAt_36 : decode cX5_heightAt 36 = .ok (.iinc 3 1, 3) := by decide +kernel
theorem dX5_heightAt_39 : decode cX5_heightAt 39 = .ok (.goto (-32), 3) := by decide +kernel
theorem dX5_heightAt_42 : decode cX5_heightAt 42 = .ok (.iload_n 2, 1) := by decide +kernel
theorem dX5_heightAt_43 : decode cX5_heightAt 43 = .ok (.ireturn, 1) := by decide +kernel
theorem dX6_init_0 : decode cX6_init 0 = .ok (.aload_n 0, 1) := by decide +kernel
theorem dX6_init_1 : decode cX6_init 1 = .ok (.invokespecial 1, 3) := by decide +kernel
theorem dX6_init_4 : decode cX6_init 4 = .ok (.aload_n 0, 1) := by decide +kernel
theorem dX6_init_5 : decode cX6_init 5 = .ok (.iload_n 1, 1) := by decide +kernel
theorem dX6_init_6 : decode cX6_init 6 = .ok (.putfield 7, 3) := by decide +kernel
theorem dX6_init_9 : decode cX6_init 9 = .ok (.aload_n 0, 1) := by decide +kernel
theorem dX6_init_10 : decode cX6_init 10 = .ok (.iload_n 2, 1) := by decide +kernel
theorem dX6_init_11 : decode cX6_init 11 = .ok (.putfield 13, 3) := by decide +kernel
theorem dX6_init_14 : decode cX6_init 14 = .ok (.aload_n 0, 1) := by decide +kernel
theorem dX6_init_15 : decode cX6_init 15 = .ok (.iload_n 3, 1) := by decide +kernel
theorem dX6_init_16 : decode cX6_init 16 = .ok (.putfield 16, 3) := by decide +kernel
theorem dX6_init_19 : decode cX6_init 19 = .ok (.return_, 1) := by decide +kernel
theorem dX6_heightAt_0 : decode cX6_heightAt 0 = .ok (.aload_n 0, 1) := by decide +kernel
theorem dX6_heightAt_1 : decode cX6_heightAt 1 = .ok (.getfield 13, 3) := by decide +kernel
theorem dX6_heightAt_4 : decode cX6_heightAt 4 = .ok (.ifCond .gt 5, 3) := by decide +kernel
theorem dX6_heightAt_7 : decode cX6_heightAt 7 = .ok (.iconst 0, 1) := by decide +kernel
theorem dX6_heightAt_8 : decode cX6_heightAt 8 = .ok (.ireturn, 1) := by decide +kernel
theorem dX6_heightAt_9 : decode cX6_heightAt 9 = .ok (.iconst 2, 1) := by decide +kernel
theorem dX6_heightAt_10 : decode cX6_heightAt 10 = .ok (.iload_n 1, 1) := by decide +kernel
theorem dX6_heightAt_11 : decode cX6_heightAt 11 = .ok (.aload_n 0, 1) := by decide +kernel
theorem dX6_heightAt_12 : decode cX6_heightAt 12 = .ok (.getfield 16, 3) := by decide +kernel
theorem dX6_heightAt_15 : decode cX6_heightAt 15 = .ok (.iadd, 1) := by decide +kernel
theorem dX6_heightAt_16 : decode cX6_heightAt 16 = .ok (.aload_n 0, 1) := by decide +kernel
theorem dX6_heightAt_17 : decode cX6_heightAt 17 = .ok (.getfield 13, 3) := by decide +kernel
theorem dX6_heightAt_20 : decode cX6_heightAt 20 = .ok (.irem, 1) := by decide +kernel
theorem dX6_heightAt_21 : decode cX6_heightAt 21 = .ok (.imul, 1) := by decide +kernel
theorem dX6_heightAt_22 : decode cX6_heightAt 22 = .ok (.istore_n 2, 1) := by decide +kernel
theorem dX6_heightAt_23 : decode cX6_heightAt 23 = .ok (.iload_n 2, 1) := by decide +kernel
theorem dX6_heightAt_24 : decode cX6_heightAt 24 = .ok (.aload_n 0, 1) := by decide +kernel
theorem dX6_heightAt_25 : decode cX6_heightAt 25 = .ok (.getfield 13, 3) := by decide +kernel
theorem dX6_heightAt_28 : decode cX6_heightAt 28 = .ok (.if_icmp .ge 7, 3) := by decide +kernel
theorem dX6_heightAt_31 : decode cX6_heightAt 31 = .ok (.iconst 1, 1) := by decide +kernel
theorem dX6_heightAt_32 : decode cX6_heightAt 32 = .ok (.goto 4, 3) := by decide +kernel
theorem dX6_heightAt_35 : decode cX6_heightAt 35 = .ok (.iconst 0, 1) := by decide +kernel
theorem dX6_heightAt_36 : decode cX6_heightAt 36 = .ok (.istore_n 3, 1) := by decide +kernel
theorem dX6_heightAt_37 : decode cX6_heightAt 37 = .ok (.iload_n 3, 1) := by decide +kernel
theorem dX6_heightAt_38 : decode cX6_heightAt 38 = .ok (.ifCond .eq 8, 3) := by decide +kernel
theorem dX6_heightAt_41 : decode cX6_heightAt 41 = .ok (.iload_n 2, 1) := by decide +kernel
theorem dX6_heightAt_42 : decode cX6_heightAt 42 = .ok (.i2l, 1) := by decide +kernel
theorem dX6_heightAt_43 : decode cX6_heightAt 43 = .ok (.goto 10, 3) := by decide +kernel
theorem dX6_heightAt_46 : decode cX6_heightAt 46 = .ok (.iload_n 2, 1) := by decide +kernel
theorem dX6_heightAt_47 : decode cX6_heightAt 47 = .ok (.aload_n 0, 1) := by decide +kernel
theorem dX6_heightAt_48 : decode cX6_heightAt 48 = .ok (.getfield 13, 3) := by decide +kernel
theorem dX6_heightAt_51 : decode cX6_heightAt 51 = .ok (.isub, 1) := by decide +kernel
theorem dX6_heightAt_52 : decode cX6_heightAt 52 = .ok (.i2l, 1) := by decide +kernel
theorem dX6_heightAt_53 : decode cX6_heightAt 53 = .ok (.lstore 4, 2) := by decide +kernel
theorem dX6_heightAt_55 : decode cX6_heightAt 55 = .ok (.ldc2_w 19, 3) := by decide +kernel
theorem dX6_heightAt_58 : decode cX6_heightAt 58 = .ok (.aload_n 0, 1) := by decide +kernel
theorem dX6_heightAt_59 : decode cX6_heightAt 59 = .ok (.getfield 7, 3) := by decide +kernel
theorem dX6_heightAt_62 : decode cX6_heightAt 62 = .ok (.i2l, 1) := by decide +kernel
theorem dX6_heightAt_63 : decode cX6_heightAt 63 = .ok (.lmul, 1) := by decide +kernel
theorem dX6_heightAt_64 : decode cX6_heightAt 64 = .ok (.lload 4, 2) := by decide +kernel
theorem dX6_heightAt_66 : decode cX6_heightAt 66 = .ok (.lmul, 1) := by decide +kernel
theorem dX6_heightAt_67 : decode cX6_heightAt 67 = .ok (.aload_n 0, 1) := by decide +kernel
theorem dX6_heightAt_68 : decode cX6_heightAt 68 = .ok (.getfield 13, 3) := by decide +kernel
theorem dX6_heightAt_71 : decode cX6_heightAt 71 = .ok (.i2l, 1) := by decide +kernel
theorem dX6_heightAt_72 : decode cX6_heightAt 72 = .ok (.lload 4, 2) := by decide +kernel
theorem dX6_heightAt_74 : decode cX6_heightAt 74 = .ok (.lsub, 1) := by decide +kernel
theorem dX6_heightAt_75 : decode cX6_heightAt 75 = .ok (.lmul, 1) := by decide +kernel
theorem dX6_heightAt_76 : decode cX6_heightAt 76 = .ok (.aload_n 0, 1) := by decide +kernel
theorem dX6_heightAt_77 : decode cX6_heightAt 77 = .ok (.getfield 13, 3) := by decide +kernel
theorem dX6_heightAt_80 : decode cX6_heightAt 80 = .ok (.i2l, 1) := by decide +kernel
theorem dX6_heightAt_81 : decode cX6_heightAt 81 = .ok (.aload_n 0, 1) := by decide +kernel
theorem dX6_heightAt_82 : decode cX6_heightAt 82 = .ok (.getfield 13, 3) := by decide +kernel
theorem dX6_heightAt_85 : decode cX6_heightAt 85 = .ok (.i2l, 1) := by decide +kernel
theorem dX6_heightAt_86 : decode cX6_heightAt 86 = .ok (.lmul, 1) := by decide +kernel
theorem dX6_heightAt_87 : decode cX6_heightAt 87 = .ok (.ldiv, 1) := by decide +kernel
theorem dX6_heightAt_88 : decode cX6_heightAt 88 = .ok (.lstore 6, 2) := by decide +kernel
theorem dX6_heightAt_90 : decode cX6_heightAt 90 = .ok (.iload_n 3, 1) := by decide +kernel
theorem dX6_heightAt_91 : decode cX6_heightAt 91 = .ok (.ifCond .eq 8, 3) := by decide +kernel
theorem dX6_heightAt_94 : decode cX6_heightAt 94 = .ok (.lload 6, 2) := by decide +kernel
theorem dX6_heightAt_96 : decode cX6_heightAt 96 = .ok (.goto 6, 3) := by decide +kernel
theorem dX6_heightAt_99 : decode cX6_heightAt 99 = .ok (.lload 6, 2) := by decide +kernel
theorem dX6_heightAt_101 : decode cX6_heightAt 101 = .ok (.lneg, 1) := by decide +kernel
theorem dX6_heightAt_102 : decode cX6_heightAt 102 = .ok (.l2i, 1) := by decide +kernel
theorem dX6_heightAt_103 : decode cX6_heightAt 103 = .ok (.ireturn, 1) := by decide +kernel
theorem dX7_init_0 : decode cX7_init 0 = .ok (.aload_n 0, 1) := by decide +kernel
theorem dX7_init_1 : decode cX7_init 1 = .ok (.invokespecial 1, 3) := by decide +kernel
theorem dX7_init_4 : decode cX7_init 4 = .ok (.aload_n 0, 1) := by decide +kernel
theorem dX7_init_5 : decode cX7_init 5 = .ok (.new 7, 3) := by decide +kernel
theorem dX7_init_8 : decode cX7_init 8 = .ok (.dup, 1) := by decide +kernel
theorem dX7_init_9 : decode cX7_init 9 = .ok (.invokespecial 9, 3) := by decide +kernel
theorem dX7_init_12 : decode cX7_init 12 = .ok (.putfield 10, 3) := by decide +kernel
theorem dX7_init_15 : decode cX7_init 15 = .ok (.aload_n 0, 1) := by decide +kernel
theorem dX7_init_16 : decode cX7_init 16 = .ok (.new 16, 3) := by decide +kernel
theorem dX7_init_19 : decode cX7_init 19 = .ok (.dup, 1) := by decide +kernel
theorem dX7_init_20 : decode cX7_init 20 = .ok (.invokespecial 18, 3) := by decide +kernel
theorem dX7_init_23 : decode cX7_init 23 = .ok (.putfield 19, 3) := by decide +kernel
theorem dX7_init_26 : decode cX7_init 26 = .ok (.aload_n 0, 1) := by decide +kernel
theorem dX7_init_27 : decode cX7_init 27 = .ok (.new 23, 3) := by decide +kernel
theorem dX7_init_30 : decode cX7_init 30 = .ok (.dup, 1) := by decide +kernel
theorem dX7_init_31 : decode cX7_init 31 = .ok (.invokespecial 25, 3) := by decide +kernel
theorem dX7_init_34 : decode cX7_init 34 = .ok (.putfield 26, 3) := by decide +kernel
theorem dX7_init_37 : decode cX7_init 37 = .ok (.aload_n 0, 1) := by decide +kernel
theorem dX7_init_38 : decode cX7_init 38 = .ok (.new 23, 3) := by decide +kernel
theorem dX7_init_41 : decode cX7_init 41 = .ok (.dup, 1) := by decide +kernel
theorem dX7_init_42 : decode cX7_init 42 = .ok (.invokespecial 25, 3) := by decide +kernel
theorem dX7_init_45 : decode cX7_init 45 = .ok (.putfield 30, 3) := by decide +kernel
theorem dX7_init_48 : decode cX7_init 48 = .ok (.aload_n 0, 1) := by decide +kernel
theorem dX7_init_49 : decode cX7_init 49 = .ok (.iconst 1, 1) := by decide +kernel
theorem dX7_init_50 : decode cX7_init 50 = .ok (.putfield 33, 3) := by decide +kernel
theorem dX7_init_53 : decode cX7_init 53 = .ok (.return_, 1) := by decide +kernel
theorem dX7_addWave_0 : decode cX7_addWave 0 = .ok (.iload_n 1, 1) := by decide +kernel
theorem dX7_addWave_1 : decode cX7_addWave 1 = .ok (.iconst 0, 1) := by decide +kernel
theorem dX7_addWave_2 : decode cX7_addWave 2 = .ok (.sipush 5000, 3) := by decide +kernel
theorem dX7_addWave_5 : decode cX7_addWave 5 = .ok (.invokestatic 37, 3) := by decide +kernel
theorem dX7_addWave_8 : decode cX7_addWave 8 = .ok (.ifCond .ne 13, 3) := by decide +kernel
theorem dX7_addWave_11 : decode cX7_addWave 11 = .ok (.new 41, 3) := by decide +kernel
theorem dX7_addWave_14 : decode cX7_addWave 14 = .ok (.dup, 1) := by decide +kernel
theorem dX7_addWave_15 : decode cX7_addWave 15 = .ok (.ldc 43, 2) := by decide +kernel
theorem dX7_addWave_17 : decode cX7_addWave 17 = .ok (.invokespecial 45, 3) := by decide +kernel
theorem dX7_addWave_20 : decode cX7_addWave 20 = .ok (.athrow, 1) := by decide +kernel
theorem dX7_addWave_21 : decode cX7_addWave 21 = .ok (.iload_n 2, 1) := by decide +kernel
theorem dX7_addWave_22 : decode cX7_addWave 22 = .ok (.bipush 60, 2) := by decide +kernel
theorem dX7_addWave_24 : decode cX7_addWave 24 = .ok (.sipush 20000, 3) := by decide +kernel
theorem dX7_addWave_27 : decode cX7_addWave 27 = .ok (.invokestatic 37, 3) := by decide +kernel
theorem dX7_addWave_30 : decode cX7_addWave 30 = .ok (.ifCond .ne 13, 3) := by decide +kernel
theorem dX7_addWave_33 : decode cX7_addWave 33 = .ok (.new 41, 3) := by decide +kernel
theorem dX7_addWave_36 : decode cX7_addWave 36 = .ok (.dup, 1) := by decide +kernel
theorem dX7_addWave_37 : decode cX7_addWave 37 = .ok (.ldc 48, 2) := by decide +kernel
theorem dX7_addWave_39 : decode cX7_addWave 39 = .ok (.invokespecial 45, 3) := by decide +kernel
theorem dX7_addWave_42 : decode cX7_addWave 42 = .ok (.athrow, 1) := by decide +kernel
theorem dX7_addWave_43 : decode cX7_addWave 43 = .ok (.iload_n 3, 1) := by decide +kernel
theorem dX7_addWave_44 : decode cX7_addWave 44 = .ok (.iconst 0, 1) := by decide +kernel
theorem dX7_addWave_45 : decode cX7_addWave 45 = .ok (.iload_n 2, 1) := by decide +kernel
theorem dX7_addWave_46 : decode cX7_addWave 46 = .ok (.iconst 1, 1) := by decide +kernel
theorem dX7_addWave_47 : decode cX7_addWave 47 = .ok (.isub, 1) := by decide +kernel
theorem dX7_addWave_48 : decode cX7_addWave 48 = .ok (.invokestatic 37, 3) := by decide +kernel
theorem dX7_addWave_51 : decode cX7_addWave 51 = .ok (.ifCond .ne 13, 3) := by decide +kernel
theorem dX7_addWave_54 : decode cX7_addWave 54 = .ok (.new 41, 3) := by decide +kernel
theorem dX7_addWave_57 : decode cX7_addWave 57 = .ok (.dup, 1) := by decide +kernel
theorem dX7_addWave_58 : decode cX7_addWave 58 = .ok (.ldc 50, 2) := by decide +kernel
theorem dX7_addWave_60 : decode cX7_addWave 60 = .ok (.invokespecial 45, 3) := by decide +kernel
theorem dX7_addWave_63 : decode cX7_addWave 63 = .ok (.athrow, 1) := by decide +kernel
theorem dX7_addWave_64 : decode cX7_addWave 64 = .ok (.aload_n 0, 1) := by decide +kernel
theorem dX7_addWave_65 : decode cX7_addWave 65 = .ok (.getfield 10, 3) := by decide +kernel
theorem dX7_addWave_68 : decode cX7_addWave 68 = .ok (.getfield 52, 3) := by decide +kernel
theorem dX7_addWave_71 : decode cX7_addWave 71 = .ok (.invokevirtual 55, 3) := by decide +kernel
theorem dX7_addWave_74 : decode cX7_addWave 74 = .ok (.bipush 8, 2) := by decide +kernel
theorem dX7_addWave_76 : decode cX7_addWave 76 = .ok (.if_icmp .lt 13, 3) := by decide +kernel
theorem dX7_addWave_79 : decode cX7_addWave 79 = .ok (.new 59, 3) := by decide +kernel
theorem dX7_addWave_82 : decode cX7_addWave 82 = .ok (.dup, 1) := by decide +kernel
theorem dX7_addWave_83 : decode cX7_addWave 83 = .ok (.ldc 61, 2) := by decide +kernel
theorem dX7_addWave_85 : decode cX7_addWave 85 = .ok (.invokespecial 63, 3) := by decide +kernel
theorem dX7_addWave_88 : decode cX7_addWave 88 = .ok (.athrow, 1) := by decide +kernel
theorem dX7_addWave_89 : decode cX7_addWave 89 = .ok (.aload_n 0, 1) := by decide +kernel
theorem dX7_addWave_90 : decode cX7_addWave 90 = .ok (.getfield 10, 3) := by decide +kernel
theorem dX7_addWave_93 : decode cX7_addWave 93 = .ok (.getfield 52, 3) := by decide +kernel
theorem dX7_addWave_96 : decode cX7_addWave 96 = .ok (.new 64, 3) := by decide +kernel
theorem dX7_addWave_99 : decode cX7_addWave 99 = .ok (.dup, 1) := by decide +kernel
theorem dX7_addWave_100 : decode cX7_addWave 100 = .ok (.iload_n 1, 1) := by decide +kernel
theorem dX7_addWave_101 : decode cX7_addWave 101 = .ok (.iload_n 2, 1) := by decide +kernel
theorem dX7_addWave_102 : decode cX7_addWave 102 = .ok (.iload_n 3, 1) := by decide +kernel
theorem dX7_addWave_103 : decode cX7_addWave 103 = .ok (.invokespecial 66, 3) := by decide +kernel
theorem dX7_addWave_106 : decode cX7_addWave 106 = .ok (.invokevirtual 69, 3) := by decide +kernel
theorem dX7_addWave_109 : decode cX7_addWave 109 = .ok (.pop, 1) := by decide +kernel
theorem dX7_addWave_110 : decode cX7_addWave 110 = .ok (.aload_n 0, 1) := by decide +kernel
theorem dX7_addWave_111 : decode cX7_addWave 111 = .ok (.iconst 1, 1) := by decide +kernel
theorem dX7_addWave_112 : decode cX7_addWave 112 = .ok (.putfield 33, 3) := by decide +kernel
theorem dX7_addWave_115 : decode cX7_addWave 115 = .ok (.aload_n 0, 1) := by decide +kernel
theorem dX7_addWave_116 : decode cX7_addWave 116 = .ok (.getfield 10, 3) := by decide +kernel
theorem dX7_addWave_119 : decode cX7_addWave 119 = .ok (.getfield 52, 3) := by decide +kernel
theorem dX7_addWave_122 : decode cX7_addWave 122 = .ok (.invokevirtual 55, 3) := by decide +kernel
theorem dX7_addWave_125 : decode cX7_addWave 125 = .ok (.iconst 1, 1) := by decide +kernel
theorem dX7_addWave_126 : decode cX7_addWave 126 = .ok (.isub, 1) := by decide +kernel
theorem dX7_addWave_127 : decode cX7_addWave 127 = .ok (.ireturn, 1) := by decide +kernel
theorem dX7_setRange_0 : decode cX7_setRange 0 = .ok (.aload_n 0, 1) := by decide +kernel
theorem dX7_setRange_1 : decode cX7_setRange 1 = .ok (.iload_n 1, 1) := by decide +kernel
theorem dX7_setRange_2 : decode cX7_setRange 2 = .ok (.invokevirtual 73, 3) := by decide +kernel
theorem dX7_setRange_5 : decode cX7_setRange 5 = .ok (.ifCond .ne 13, 3) := by decide +kernel
theorem dX7_setRange_8 : decode cX7_setRange 8 = .ok (.new 77, 3) := by decide +kernel
theorem dX7_setRange_11 : decode cX7_setRange 11 = .ok (.dup, 1) := by decide +kernel
theorem dX7_setRange_12 : decode cX7_setRange 12 = .ok (.ldc 79, 2) := by decide +kernel
theorem dX7_setRange_14 : decode cX7_setRange 14 = .ok (.invokespecial 81, 3) := by decide +kernel
theorem dX7_setRange_17 : decode cX7_setRange 17 = .ok (.athrow, 1) := by decide +kernel
theorem dX7_setRange_18 : decode cX7_setRange 18 = .ok (.iload_n 2, 1) := by decide +kernel
theorem dX7_setRange_19 : decode cX7_setRange 19 = .ok (.iconst 0, 1) := by decide +kernel
theorem dX7_setRange_20 : decode cX7_setRange 20 = .ok (.sipush 5000, 3) := by decide +kernel
theorem dX7_setRange_23 : decode cX7_setRange 23 = .ok (.invokestatic 37, 3) := by decide +kernel
theorem dX7_setRange_26 : decode cX7_setRange 26 = .ok (.ifCond .ne 13, 3) := by decide +kernel
theorem dX7_setRange_29 : decode cX7_setRange 29 = .ok (.new 41, 3) := by decide +kernel
theorem dX7_setRange_32 : decode cX7_setRange 32 = .ok (.dup, 1) := by decide +kernel
theorem dX7_setRange_33 : decode cX7_setRange 33 = .ok (.ldc 43, 2) := by decide +kernel
theorem dX7_setRange_35 : decode cX7_setRange 35 = .ok (.invokespecial 45, 3) := by decide +kernel
theorem dX7_setRange_38 : decode cX7_setRange 38 = .ok (.athrow, 1) := by decide +kernel
theorem dX7_setRange_39 : decode cX7_setRange 39 = .ok (.aload_n 0, 1) := by decide +kernel
theorem dX7_setRange_40 : decode cX7_setRange 40 = .ok (.getfield 10, 3) := by decide +kernel
theorem dX7_setRange_43 : decode cX7_setRange 43 = .ok (.getfield 52, 3) := by decide +kernel
theorem dX7_setRange_46 : decode cX7_setRange 46 = .ok (.iload_n 1, 1) := by decide +kernel
theorem dX7_setRange_47 : decode cX7_setRange 47 = .ok (.invokevirtual 82, 3) := by decide +kernel
theorem dX7_setRange_50 : decode cX7_setRange 50 = .ok (.checkcast 64, 3) := by decide +kernel
theorem dX7_setRange_53 : decode cX7_setRange 53 = .ok (.astore_n 3, 1) := by decide +kernel
theorem dX7_setRange_54 : decode cX7_setRange 54 = .ok (.aload_n 3, 1) := by decide +kernel
theorem dX7_setRange_55 : decode cX7_setRange 55 = .ok (.getfield 86, 3) := by decide +kernel
theorem dX7_setRange_58 : decode cX7_setRange 58 = .ok (.istore 4, 2) := by decide +kernel
theorem dX7_setRange_60 : decode cX7_setRange 60 = .ok (.aload_n 3, 1) := by decide +kernel
theorem dX7_setRange_61 : decode cX7_setRange 61 = .ok (.iload_n 2, 1) := by decide +kernel
theorem dX7_setRange_62 : decode cX7_setRange 62 = .ok (.putfield 86, 3) := by decide +kernel
theorem dX7_setRange_65 : decode cX7_setRange 65 = .ok (.aload_n 0, 1) := by decide +kernel
theorem dX7_setRange_66 : decode cX7_setRange 66 = .ok (.iconst 1, 1) := by decide +kernel
theorem dX7_setRange_67 : decode cX7_setRange 67 = .ok (.putfield 33, 3) := by decide +kernel
theorem dX7_setRange_70 : decode cX7_setRange 70 = .ok (.iload 4, 2) := by decide +kernel
theorem dX7_setRange_72 : decode cX7_setRange 72 = .ok (.ireturn, 1) := by decide +kernel
theorem dX7_setLevel_0 : decode cX7_setLevel 0 = .ok (.iload_n 1, 1) := by decide +kernel
theorem dX7_setLevel_1 : decode cX7_setLevel 1 = .ok (.sipush (-10000), 3) := by decide +kernel
