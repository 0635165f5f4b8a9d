theorem dX3_noteWater_41 : decode cX3_noteWater 41 = .ok (.dup, 1) := by decide +kernel
theorem dX3_noteWater_42 : decode cX3_noteWater 42 = .ok (.getfield 34, 3) := by decide +kernel
theorem dX3_noteWater_45 : decode cX3_noteWater 45 = .ok (.iconst 1, 1) := by decide +kernel
theorem dX3_noteWater_46 : decode cX3_noteWater 46 = .ok (.iadd, 1) := by decide +kernel
theorem dX3_noteWater_47 : decode cX3_noteWater 47 = .ok (.putfield 34, 3) := by decide +kernel
theorem dX3_noteWater_50 : decode cX3_noteWater 50 = .ok (.return_, 1) := by decide +kernel
theorem dX3_hasWater_0 : decode cX3_hasWater 0 = .ok (.iload_n 1, 1) := by decide +kernel
theorem dX3_hasWater_1 : decode cX3_hasWater 1 = .ok (.ifCond .lt 15, 3) := by decide +kernel
theorem dX3_hasWater_4 : decode cX3_hasWater 4 = .ok (.iload_n 1, 1) := by decide +kernel
theorem dX3_hasWater_5 : decode cX3_hasWater 5 = .ok (.aload_n 0, 1) := by decide +kernel
theorem dX3_hasWater_6 : decode cX3_hasWater 6 = .ok (.getfield 34, 3) := by decide +kernel
theorem dX3_hasWater_9 : decode cX3_hasWater 9 = .ok (.if_icmp .ge 7, 3) := by decide +kernel
theorem dX3_hasWater_12 : decode cX3_hasWater 12 = .ok (.iconst 1, 1) := by decide +kernel
theorem dX3_hasWater_13 : decode cX3_hasWater 13 = .ok (.goto 4, 3) := by decide +kernel
theorem dX3_hasWater_16 : decode cX3_hasWater 16 = .ok (.iconst 0, 1) := by decide +kernel
theorem dX3_hasWater_17 : decode cX3_hasWater 17 = .ok (.ireturn, 1) := by decide +kernel
theorem dX3_isBetweenWaters_0 : decode cX3_isBetweenWaters 0 = .ok (.iload_n 1, 1) := by decide +kernel
theorem dX3_isBetweenWaters_1 : decode cX3_isBetweenWaters 1 = .ok (.ifCond .lt 17, 3) := by decide +kernel
theorem dX3_isBetweenWaters_4 : decode cX3_isBetweenWaters 4 = .ok (.iload_n 1, 1) := by decide +kernel
theorem dX3_isBetweenWaters_5 : decode cX3_isBetweenWaters 5 = .ok (.aload_n 0, 1) := by decide +kernel
theorem dX3_isBetweenWaters_6 : decode cX3_isBetweenWaters 6 = .ok (.getfield 34, 3) := by decide +kernel
theorem dX3_isBetweenWaters_9 : decode cX3_isBetweenWaters 9 = .ok (.iconst 1, 1) := by decide +kernel
theorem dX3_isBetweenWaters_10 : decode cX3_isBetweenWaters 10 = .ok (.isub, 1) := by decide +kernel
theorem dX3_isBetweenWaters_11 : decode cX3_isBetweenWaters 11 = .ok (.if_icmp .ge 7, 3) := by decide +kernel
theorem dX3_isBetweenWaters_14 : decode cX3_isBetweenWaters 14 = .ok (.iconst 1, 1) := by decide +kernel
theorem dX3_isBetweenWaters_15 : decode cX3_isBetweenWaters 15 = .ok (.goto 4, 3) := by decide +kernel
theorem dX3_isBetweenWaters_18 : decode cX3_isBetweenWaters 18 = .ok (.iconst 0, 1) := by decide +kernel
theorem dX3_isBetweenWaters_19 : decode cX3_isBetweenWaters 19 = .ok (.ireturn, 1) := by decide +kernel
theorem dX3_heightAt_0 : decode cX3_heightAt 0 = .ok (.iload_n 1, 1) := by decide +kernel
theorem dX3_heightAt_1 : decode cX3_heightAt 1 = .ok (.invokestatic 42, 3) := by decide +kernel
theorem dX3_heightAt_4 : decode cX3_heightAt 4 = .ok (.ifCond .eq 12, 3) := by decide +kernel
theorem dX3_heightAt_7 : decode cX3_heightAt 7 = .ok (.aload_n 0, 1) := by decide +kernel
theorem dX3_heightAt_8 : decode cX3_heightAt 8 = .ok (.getfield 9, 3) := by decide +kernel
theorem dX3_heightAt_11 : decode cX3_heightAt 11 = .ok (.iload_n 1, 1) := by decide +kernel
theorem dX3_heightAt_12 : decode cX3_heightAt 12 = .ok (.iaload, 1) := by decide +kernel
theorem dX3_heightAt_13 : decode cX3_heightAt 13 = .ok (.goto 4, 3) := by decide +kernel
theorem dX3_heightAt_16 : decode cX3_heightAt 16 = .ok (.iconst 0, 1) := by decide +kernel
theorem dX3_heightAt_17 : decode cX3_heightAt 17 = .ok (.ireturn, 1) := by decide +kernel
theorem dX3_timeOf_0 : decode cX3_timeOf 0 = .ok (.aload_n 0, 1) := by decide +kernel
theorem dX3_timeOf_1 : decode cX3_timeOf 1 = .ok (.iload_n 1, 1) := by decide +kernel
theorem dX3_timeOf_2 : decode cX3_timeOf 2 = .ok (.invokevirtual 46, 3) := by decide +kernel
theorem dX3_timeOf_5 : decode cX3_timeOf 5 = .ok (.ifCond .eq 12, 3) := by decide +kernel
theorem dX3_timeOf_8 : decode cX3_timeOf 8 = .ok (.aload_n 0, 1) := by decide +kernel
theorem dX3_timeOf_9 : decode cX3_timeOf 9 = .ok (.getfield 15, 3) := by decide +kernel
theorem dX3_timeOf_12 : decode cX3_timeOf 12 = .ok (.iload_n 1, 1) := by decide +kernel
theorem dX3_timeOf_13 : decode cX3_timeOf 13 = .ok (.iaload, 1) := by decide +kernel
theorem dX3_timeOf_14 : decode cX3_timeOf 14 = .ok (.goto 4, 3) := by decide +kernel
theorem dX3_timeOf_17 : decode cX3_timeOf 17 = .ok (.iconst 0, 1) := by decide +kernel
theorem dX3_timeOf_18 : decode cX3_timeOf 18 = .ok (.ireturn, 1) := by decide +kernel
theorem dX3_heightOf_0 : decode cX3_heightOf 0 = .ok (.aload_n 0, 1) := by decide +kernel
theorem dX3_heightOf_1 : decode cX3_heightOf 1 = .ok (.iload_n 1, 1) := by decide +kernel
theorem dX3_heightOf_2 : decode cX3_heightOf 2 = .ok (.invokevirtual 46, 3) := by decide +kernel
theorem dX3_heightOf_5 : decode cX3_heightOf 5 = .ok (.ifCond .eq 12, 3) := by decide +kernel
theorem dX3_heightOf_8 : decode cX3_heightOf 8 = .ok (.aload_n 0, 1) := by decide +kernel
theorem dX3_heightOf_9 : decode cX3_heightOf 9 = .ok (.getfield 18, 3) := by decide +kernel
theorem dX3_heightOf_12 : decode cX3_heightOf 12 = .ok (.iload_n 1, 1) := by decide +kernel
theorem dX3_heightOf_13 : decode cX3_heightOf 13 = .ok (.iaload, 1) := by decide +kernel
theorem dX3_heightOf_14 : decode cX3_heightOf 14 = .ok (.goto 4, 3) := by decide +kernel
theorem dX3_heightOf_17 : decode cX3_heightOf 17 = .ok (.iconst 0, 1) := by decide +kernel
theorem dX3_heightOf_18 : decode cX3_heightOf 18 = .ok (.ireturn, 1) := by decide +kernel
theorem dX3_isHigh_0 : decode cX3_isHigh 0 = .ok (.aload_n 0, 1) := by decide +kernel
theorem dX3_isHigh_1 : decode cX3_isHigh 1 = .ok (.iload_n 1, 1) := by decide +kernel
theorem dX3_isHigh_2 : decode cX3_isHigh 2 = .ok (.invokevirtual 46, 3) := by decide +kernel
theorem dX3_isHigh_5 : decode cX3_isHigh 5 = .ok (.ifCond .eq 16, 3) := by decide +kernel
theorem dX3_isHigh_8 : decode cX3_isHigh 8 = .ok (.aload_n 0, 1) := by decide +kernel
theorem dX3_isHigh_9 : decode cX3_isHigh 9 = .ok (.getfield 21, 3) := by decide +kernel
theorem dX3_isHigh_12 : decode cX3_isHigh 12 = .ok (.iload_n 1, 1) := by decide +kernel
theorem dX3_isHigh_13 : decode cX3_isHigh 13 = .ok (.baload, 1) := by decide +kernel
theorem dX3_isHigh_14 : decode cX3_isHigh 14 = .ok (.ifCond .eq 7, 3) := by decide +kernel
theorem dX3_isHigh_17 : decode cX3_isHigh 17 = .ok (.iconst 1, 1) := by decide +kernel
theorem dX3_isHigh_18 : decode cX3_isHigh 18 = .ok (.goto 4, 3) := by decide +kernel
theorem dX3_isHigh_21 : decode cX3_isHigh 21 = .ok (.iconst 0, 1) := by decide +kernel
theorem dX3_isHigh_22 : decode cX3_isHigh 22 = .ok (.ireturn, 1) := by decide +kernel
theorem dX3_datumOf_0 : decode cX3_datumOf 0 = .ok (.iload_n 1, 1) := by decide +kernel
theorem dX3_datumOf_1 : decode cX3_datumOf 1 = .ok (.tableswitch 53 0 3 #[31, 36, 41, 47], 31) := by decide +kernel
theorem dX3_datumOf_32 : decode cX3_datumOf 32 = .ok (.aload_n 0, 1) := by decide +kernel
theorem dX3_datumOf_33 : decode cX3_datumOf 33 = .ok (.invokevirtual 49, 3) := by decide +kernel
theorem dX3_datumOf_36 : decode cX3_datumOf 36 = .ok (.ireturn, 1) := by decide +kernel
theorem dX3_datumOf_37 : decode cX3_datumOf 37 = .ok (.aload_n 0, 1) := by decide +kernel
theorem dX3_datumOf_38 : decode cX3_datumOf 38 = .ok (.invokevirtual 53, 3) := by decide +kernel
theorem dX3_datumOf_41 : decode cX3_datumOf 41 = .ok (.ireturn, 1) := by decide +kernel
theorem dX3_datumOf_42 : decode cX3_datumOf 42 = .ok (.aload_n 0, 1) := by decide +kernel
theorem dX3_datumOf_43 : decode cX3_datumOf 43 = .ok (.iconst 1, 1) := by decide +kernel
theorem dX3_datumOf_44 : decode cX3_datumOf 44 = .ok (.invokevirtual 56, 3) := by decide +kernel
theorem dX3_datumOf_47 : decode cX3_datumOf 47 = .ok (.ireturn, 1) := by decide +kernel
theorem dX3_datumOf_48 : decode cX3_datumOf 48 = .ok (.aload_n 0, 1) := by decide +kernel
theorem dX3_datumOf_49 : decode cX3_datumOf 49 = .ok (.iconst 0, 1) := by decide +kernel
theorem dX3_datumOf_50 : decode cX3_datumOf 50 = .ok (.invokevirtual 56, 3) := by decide +kernel
theorem dX3_datumOf_53 : decode cX3_datumOf 53 = .ok (.ireturn, 1) := by decide +kernel
theorem dX3_datumOf_54 : decode cX3_datumOf 54 = .ok (.aload_n 0, 1) := by decide +kernel
theorem dX3_datumOf_55 : decode cX3_datumOf 55 = .ok (.invokevirtual 60, 3) := by decide +kernel
theorem dX3_datumOf_58 : decode cX3_datumOf 58 = .ok (.ireturn, 1) := by decide +kernel
theorem dX3_greatestHeight_0 : decode cX3_greatestHeight 0 = .ok (.aload_n 0, 1) := by decide +kernel
theorem dX3_greatestHeight_1 : decode cX3_greatestHeight 1 = .ok (.iconst 0, 1) := by decide +kernel
theorem dX3_greatestHeight_2 : decode cX3_greatestHeight 2 = .ok (.invokevirtual 63, 3) := by decide +kernel
theorem dX3_greatestHeight_5 : decode cX3_greatestHeight 5 = .ok (.istore_n 1, 1) := by decide +kernel
theorem dX3_greatestHeight_6 : decode cX3_greatestHeight 6 = .ok (.aload_n 0, 1) := by decide +kernel
theorem dX3_greatestHeight_7 : decode cX3_greatestHeight 7 = .ok (.getfield 9, 3) := by decide +kernel
theorem dX3_greatestHeight_10 : decode cX3_greatestHeight 10 = .ok (.astore_n 2, 1) := by decide +kernel
theorem dX3_greatestHeight_11 : decode cX3_greatestHeight 11 = .ok (.aload_n 2, 1) := by decide +kernel
theorem dX3_greatestHeight_12 : decode cX3_greatestHeight 12 = .ok (.arraylength, 1) := by decide +kernel
theorem dX3_greatestHeight_13 : decode cX3_greatestHeight 13 = .ok (.istore_n 3, 1) := by decide +kernel
theorem dX3_greatestHeight_14 : decode cX3_greatestHeight 14 = .ok (.iconst 0, 1) := by decide +kernel
theorem dX3_greatestHeight_15 : decode cX3_greatestHeight 15 = .ok (.istore 4, 2) := by decide +kernel
theorem dX3_greatestHeight_17 : decode cX3_greatestHeight 17 = .ok (.iload 4, 2) := by decide +kernel
theorem dX3_greatestHeight_19 : decode cX3_greatestHeight 19 = .ok (.iload_n 3, 1) := by decide +kernel
theorem dX3_greatestHeight_20 : decode cX3_greatestHeight 20 = .ok (.if_icmp .ge 22, 3) := by decide +kernel
theorem dX3_greatestHeight_23 : decode cX3_greatestHeight 23 = .ok (.aload_n 2, 1) := by decide +kernel
theorem dX3_greatestHeight_24 : decode cX3_greatestHeight 24 = .ok (.iload 4, 2) := by decide +kernel
theorem dX3_greatestHeight_26 : decode cX3_greatestHeight 26 = .ok (.iaload, 1) := by decide +kernel
theorem dX3_greatestHeight_27 : decode cX3_greatestHeight 27 = .ok (.istore 5, 2) := by decide +kernel
theorem dX3_greatestHeight_29 : decode cX3_greatestHeight 29 = .ok (.iload_n 1, 1) := by decide +kernel
theorem dX3_greatestHeight_30 : decode cX3_greatestHeight 30 = .ok (.iload 5, 2) := by decide +kernel
theorem dX3_greatestHeight_32 : decode cX3_greatestHeight 32 = .ok (.invokestatic 64, 3) := by decide +kernel
theorem dX3_greatestHeight_35 : decode cX3_greatestHeight 35 = .ok (.istore_n 1, 1) := by decide +kernel
theorem dX3_greatestHeight_36 : decode cX3_greatestHeight 36 = .ok (.iinc 4 1, 3) := by decide +kernel
theorem dX3_greatestHeight_39 : decode cX3_greatestHeight 39 = .ok (.goto (-22), 3) := by decide +kernel
theorem dX3_greatestHeight_42 : decode cX3_greatestHeight 42 = .ok (.iload_n 1, 1) := by decide +kernel
theorem dX3_greatestHeight_43 : decode cX3_greatestHeight 43 = .ok (.ireturn, 1) := by decide +kernel
theorem dX3_leastHeight_0 : decode cX3_leastHeight 0 = .ok (.aload_n 0, 1) := by decide +kernel
theorem dX3_leastHeight_1 : decode cX3_leastHeight 1 = .ok (.iconst 0, 1) := by decide +kernel
theorem dX3_leastHeight_2 : decode cX3_leastHeight 2 = .ok (.invokevirtual 63, 3) := by decide +kernel
theorem dX3_leastHeight_5 : decode cX3_leastHeight 5 = .ok (.istore_n 1, 1) := by decide +kernel
theorem dX3_leastHeight_6 : decode cX3_leastHeight 6 = .ok (.aload_n 0, 1) := by decide +kernel
theorem dX3_leastHeight_7 : decode cX3_leastHeight 7 = .ok (.getfield 9, 3) := by decide +kernel
theorem dX3_leastHeight_10 : decode cX3_leastHeight 10 = .ok (.astore_n 2, 1) := by decide +kernel
theorem dX3_leastHeight_11 : decode cX3_leastHeight 11 = .ok (.aload_n 2, 1) := by decide +kernel
theorem dX3_leastHeight_12 : decode cX3_leastHeight 12 = .ok (.arraylength, 1) := by decide +kernel
theorem dX3_leastHeight_13 : decode cX3_leastHeight 13 = .ok (.istore_n 3, 1) := by decide +kernel
theorem dX3_leastHeight_14 : decode cX3_leastHeight 14 = .ok (.iconst 0, 1) := by decide +kernel
theorem dX3_leastHeight_15 : decode cX3_leastHeight 15 = .ok (.istore 4, 2) := by decide +kernel
theorem dX3_leastHeight_17 : decode cX3_leastHeight 17 = .ok (.iload 4, 2) := by decide +kernel
theorem dX3_leastHeight_19 : decode cX3_leastHeight 19 = .ok (.iload_n 3, 1) := by decide +kernel
theorem dX3_leastHeight_20 : decode cX3_leastHeight 20 = .ok (.if_icmp .ge 22, 3) := by decide +kernel
theorem dX3_leastHeight_23 : decode cX3_leastHeight 23 = .ok (.aload_n 2, 1) := by decide +kernel
theorem dX3_leastHeight_24 : decode cX3_leastHeight 24 = .ok (.iload 4, 2) := by decide +kernel
theorem dX3_leastHeight_26 : decode cX3_leastHeight 26 = .ok (.iaload, 1) := by decide +kernel
theorem dX3_leastHeight_27 : decode cX3_leastHeight 27 = .ok (.istore 5, 2) := by decide +kernel
theorem dX3_leastHeight_29 : decode cX3_leastHeight 29 = .ok (.iload_n 1, 1) := by decide +kernel
theorem dX3_leastHeight_30 : decode cX3_leastHeight 30 = .ok (.iload 5, 2) := by decide +kernel
theorem dX3_leastHeight_32 : decode cX3_leastHeight 32 = .ok (.invokestatic 70, 3) := by decide +kernel
theorem dX3_leastHeight_35 : decode cX3_leastHeight 35 = .ok (.istore_n 1, 1) := by decide +kernel
theorem dX3_leastHeight_36 : decode cX3_leastHeight 36 = .ok (.iinc 4 1, 3) := by decide +kernel
theorem dX3_leastHeight_39 : decode cX3_leastHeight 39 = .ok (.goto (-22), 3) := by decide +kernel
theorem dX3_leastHeight_42 : decode cX3_leastHeight 42 = .ok (.iload_n 1, 1) := by decide +kernel
theorem dX3_leastHeight_43 : decode cX3_leastHeight 43 = .ok (.ireturn, 1) := by decide +kernel
theorem dX3_meanOfWaters_0 : decode cX3_meanOfWaters 0 = .ok (.lconst 0, 1) := by decide +kernel
theorem dX3_meanOfWaters_1 : decode cX3_meanOfWaters 1 = .ok (.lstore_n 2, 1) := by decide +kernel
theorem dX3_meanOfWaters_2 : decode cX3_meanOfWaters 2 = .ok (.iconst 0, 1) := by decide +kernel
theorem dX3_meanOfWaters_3 : decode cX3_meanOfWaters 3 = .ok (.istore 4, 2) := by decide +kernel
theorem dX3_meanOfWaters_5 : decode cX3_meanOfWaters 5 = .ok (.iconst 0, 1) := by decide +kernel
theorem dX3_meanOfWaters_6 : decode cX3_meanOfWaters 6 = .ok (.istore 5, 2) := by decide +kernel
theorem dX3_meanOfWaters_8 : decode cX3_meanOfWaters 8 = .ok (.iload 5, 2) := by decide +kernel
theorem dX3_meanOfWaters_10 : decode cX3_meanOfWaters 10 = .ok (.aload_n 0, 1) := by decide +kernel
theorem dX3_meanOfWaters_11 : decode cX3_meanOfWaters 11 = .ok (.getfield 34, 3) := by decide +kernel
theorem dX3_meanOfWaters_14 : decode cX3_meanOfWaters 14 = .ok (.if_icmp .ge 32, 3) := by decide +kernel
theorem dX3_meanOfWaters_17 : decode cX3_meanOfWaters 17 = .ok (.aload_n 0, 1) := by decide +kernel
theorem dX3_meanOfWaters_18 : decode cX3_meanOfWaters 18 = .ok (.iload 5, 2) := by decide +kernel
theorem dX3_meanOfWaters_20 : decode cX3_meanOfWaters 20 = .ok (.invokevirtual 73, 3) := by decide +kernel
theorem dX3_meanOfWaters_23 : decode cX3_meanOfWaters 23 = .ok (.iload_n 1, 1) := by decide +kernel
theorem dX3_meanOfWaters_24 : decode cX3_meanOfWaters 24 = .ok (.if_icmp .ne 16, 3) := by decide +kernel
theorem dX3_meanOfWaters_27 : decode cX3_meanOfWaters 27 = .ok (.lload_n 2, 1) := by decide +kernel
theorem dX3_meanOfWaters_28 : decode cX3_meanOfWaters 28 = .ok (.aload_n 0, 1) := by decide +kernel
theorem dX3_meanOfWaters_29 : decode cX3_meanOfWaters 29 = .ok (.iload 5, 2) := by decide +kernel
theorem dX3_meanOfWaters_31 : decode cX3_meanOfWaters 31 = .ok (.invokevirtual 76, 3) := by decide +kernel
theorem dX3_meanOfWaters_34 : decode cX3_meanOfWaters 34 = .ok (.i2l, 1) := by decide +kernel
theorem dX3_meanOfWaters_35 : decode cX3_meanOfWaters 35 = .ok (.ladd, 1) := by decide +kernel
theorem dX3_meanOfWaters_36 : decode cX3_meanOfWaters 36 = .ok (.lstore_n 2, 1) := by decide +kernel
theorem dX3_meanOfWaters_37 : decode cX3_meanOfWaters 37 = .ok (.iinc 4 1, 3) := by decide +kernel
theorem dX3_meanOfWaters_40 : decode cX3_meanOfWaters 40 = .ok (.iinc 5 1, 3) := by decide +kernel
theorem dX3_meanOfWaters_43 : decode cX3_meanOfWaters 43 = .ok (.goto (-35), 3) := by decide +kernel
theorem dX3_meanOfWaters_46 : decode cX3_meanOfWaters 46 = .ok (.lload_n 2, 1) := by decide +kernel
theorem dX3_meanOfWaters_47 : decode cX3_meanOfWaters 47 = .ok (.iload 4, 2) := by decide +kernel
theorem dX3_meanOfWaters_49 : decode cX3_meanOfWaters 49 = .ok (.i2l, 1) := by decide +kernel
theorem dX3_meanOfWaters_50 : decode cX3_meanOfWaters 50 = .ok (.invokestatic 79, 3) := by decide +kernel
theorem dX3_meanOfWaters_53 : decode cX3_meanOfWaters 53 = .ok (.l2i, 1) := by decide +kernel
theorem dX3_meanOfWaters_54 : decode cX3_meanOfWaters 54 = .ok (.ireturn, 1) := by decide +kernel
theorem dX3_greatestDifference_0 : decode cX3_greatestDifference 0 = .ok (.iconst 0, 1) := by decide +kernel
theorem dX3_greatestDifference_1 : decode cX3_greatestDifference 1 = .ok (.istore_n 1, 1) := by decide +kernel
theorem dX3_greatestDifference_2 : decode cX3_greatestDifference 2 = .ok (.iconst 1, 1) := by decide +kernel
theorem dX3_greatestDifference_3 : decode cX3_greatestDifference 3 = .ok (.istore_n 2, 1) := by decide +kernel
theorem dX3_greatestDifference_4 : decode cX3_greatestDifference 4 = .ok (.iload_n 2, 1) := by decide +kernel
theorem dX3_greatestDifference_5 : decode cX3_greatestDifference 5 = .ok (.aload_n 0, 1) := by decide +kernel
theorem dX3_greatestDifference_6 : decode cX3_greatestDifference 6 = .ok (.getfield 34, 3) := by decide +kernel
theorem dX3_greatestDifference_9 : decode cX3_greatestDifference 9 = .ok (.if_icmp .ge 32, 3) := by decide +kernel
theorem dX3_greatestDifference_12 : decode cX3_greatestDifference 12 = .ok (.aload_n 0, 1) := by decide +kernel
theorem dX3_greatestDifference_13 : decode cX3_greatestDifference 13 = .ok (.iload_n 2, 1) := by decide +kernel
theorem dX3_greatestDifference_14 : decode cX3_greatestDifference 14 = .ok (.invokevirtual 76, 3) := by decide +kernel
theorem dX3_greatestDifference_17 : decode cX3_greatestDifference 17 = .ok (.aload_n 0, 1) := by decide +kernel
theorem dX3_greatestDifference_18 : decode cX3_greatestDifference 18 = .ok (.iload_n 2, 1) := by decide +kernel
theorem dX3_greatestDifference_19 : decode cX3_greatestDifference 19 = .ok (.iconst 1, 1) := by decide +kernel
theorem dX3_greatestDifference_20 : decode cX3_greatestDifference 20 = .ok (.isub, 1) := by decide +kernel
theorem dX3_greatestDifference_21 : decode cX3_greatestDifference 21 = .ok (.invokevirtual 76, 3) := by decide +kernel
theorem dX3_greatestDifference_24 : decode cX3_greatestDifference 24 = .ok (.isub, 1) := by decide +kernel
theorem dX3_greatestDifference_25 : decode cX3_greatestDifference 25 = .ok (.invokestatic 83, 3) := by decide +kernel
theorem dX3_greatestDifference_28 : decode cX3_greatestDifference 28 = .ok (.istore_n 3, 1) := by decide +kernel
theorem dX3_greatestDifference_29 : decode cX3_greatestDifference 29 = .ok (.iload_n 1, 1) := by decide +kernel
theorem dX3_greatestDifference_30 : decode cX3_greatestDifference 30 = .ok (.iload_n 3, 1) := by decide +kernel
theorem dX3_greatestDifference_31 : decode cX3_greatestDifference 31 = .ok (.invokestatic 64, 3) := by decide +kernel
theorem dX3_greatestDifference_34 : decode cX3_greatestDifference 34 = .ok (.istore_n 1, 1) := by decide +kernel
theorem dX3_greatestDifference_35 : decode cX3_greatestDifference 35 = .ok (.iinc 2 1, 3) := by decide +kernel
theorem dX3_greatestDifference_38 : decode cX3_greatestDifference 38 = .ok (.goto (-34), 3) := by decide +kernel
theorem dX3_greatestDifference_41 : decode cX3_greatestDifference 41 = .ok (.iload_n 1, 1) := by decide +kernel
theorem dX3_greatestDifference_42 : decode cX3_greatestDifference 42 = .ok (.ireturn, 1) := by decide +kernel
theorem dX5_init_0 : decode cX5_init 0 = .ok (.aload_n 0, 1) := by decide +kernel
theorem dX5_init_1 : decode cX5_init 1 = .ok (.invokespecial 1, 3) := by decide +kernel
theorem dX5_init_4 : decode cX5_init 4 = .ok (.aload_n 0, 1) := by decide +kernel
theorem dX5_init_5 : decode cX5_init 5 = .ok (.new 7, 3) := by decide +kernel
theorem dX5_init_8 : decode cX5_init 8 = .ok (.dup, 1) := by decide +kernel
theorem dX5_init_9 : decode cX5_init 9 = .ok (.invokespecial 9, 3) := by decide +kernel
theorem dX5_init_12 : decode cX5_init 12 = .ok (.putfield 10, 3) := by decide +kernel
theorem dX5_init_15 : decode cX5_init 15 = .ok (.return_, 1) := by decide +kernel
theorem dX5_heightAt_0 : decode cX5_heightAt 0 = .ok (.aload_n 0, 1) := by decide +kernel
theorem dX5_heightAt_1 : decode cX5_heightAt 1 = .ok (.getfield 16, 3) := by decide +kernel
theorem dX5_heightAt_4 : decode cX5_heightAt 4 = .ok (.istore_n 2, 1) := by decide +kernel
theorem dX5_heightAt_5 : decode cX5_heightAt 5 = .ok (.iconst 0, 1) := by decide +kernel
theorem dX5_heightAt_6 : decode cX5_heightAt 6 = .ok (.istore_n 3, 1) := by decide +kernel
theorem dX5_heightAt_7 : decode cX5_heightAt 7 = .ok (.iload_n 3, 1) := by decide +kernel
theorem dX5_heightAt_8 : decode cX5_heightAt 8 = .ok (.aload_n 0, 1) := by decide +kernel
theorem dX5_heightAt_9 : decode cX5_heightAt 9 = .ok (.getfield 10, 3) := by decide +kernel
theorem dX5_heightAt_12 : decode cX5_heightAt 12 = .ok (.invokevirtual 20, 3) := by decide +kernel
theorem dX5_heightAt_15 : decode cX5_heightAt 15 = .ok (.if_icmp .ge 27, 3) := by decide +kernel
theorem dX5_heightAt_18 : decode cX5_heightAt 18 = .ok (.iload_n 2, 1) := by decide +kernel
theorem dX5_heightAt_19 : decode cX5_heightAt 19 = .ok (.aload_n 0, 1) := by decide +kernel
theorem dX5_heightAt_20 : decode cX5_heightAt 20 = .ok (.getfield 10, 3) := by decide +kernel
theorem dX5_heightAt_23 : decode cX5_heightAt 23 = .ok (.iload_n 3, 1) := by decide +kernel
theorem dX5_heightAt_24 : decode cX5_heightAt 24 = .ok (.invokevirtual 24, 3) := by decide +kernel
theorem dX5_heightAt_27 : decode cX5_heightAt 27 = .ok (.checkcast 28, 3) := by decide +kernel
theorem dX5_heightAt_30 : decode cX5_heightAt 30 = .ok (.iload_n 1, 1) := by decide +kernel
theorem dX5_heightAt_31 : decode cX5_heightAt 31 = .ok (.invokevirtual 30, 3) := by decide +kernel
theorem dX5_heightAt_34 : decode cX5_heightAt 34 = .ok (.iadd, 1) := by decide +kernel
theorem dX5_heightAt_35 : decode cX5_heightAt 35 = .ok (.istore_n 2, 1) := by decide +kernel
theorem dX5_heightAt_36 : decode cX5_heightAt 36 = .ok (.iinc 3 1, 3) := by decide +kernel
theorem dX5_heightAt_39 : decode cX5_heightAt 39 = .ok (.goto (-32), 3) := by decide +kernel
theorem dX5_heightAt_42 : decode cX5_heightAt 42 = .ok (.iload_n 2, 1) := by decide +kernel
theorem dX5_heightAt_43 : decode cX5_heightAt 43 = .ok (.ireturn, 1) := by decide +kernel
theorem dX6_init_0 : decode cX6_init 0 = .ok (.aload_n 0, 1) := by decide +kernel
theorem dX6_init_1 : decode cX6_init 1 = .ok (.invokespecial 1, 3) := by decide +kernel
theorem dX6_init_4 : decode cX6_init 4 = .ok (.aload_n 0, 1) := by decide +kernel
theorem dX6_init_5 : decode cX6_init 5 = .ok (.iload_n 1, 1) := by decide +kernel
theorem dX6_init_6 : decode cX6_init 6 = .ok (.putfield 7, 3) := by decide +kernel
theorem dX6_init_9 : decode cX6_init 9 = .ok (.aload_n 0, 1) := by decide +kernel
theorem dX6_init_10 : decode cX6_init 10 = .ok (.iload_n 2, 1) := by decide +kernel
theorem dX6_init_11 : decode cX6_init 11 = .ok (.putfield 13, 3) := by decide +kernel
theorem dX6_init_14 : decode cX6_init 14 = .ok (.aload_n 0, 1) := by decide +kernel
theorem dX6_init_15 : decode cX6_init 15 = .ok (.iload_n 3, 1) := by decide +kernel
theorem dX6_init_16 : decode cX6_init 16 = .ok (.putfield 16, 3) := by decide +kernel
theorem dX6_init_19 : decode cX6_init 19 = .ok (.return_, 1) := by decide +kernel
theorem dX6_heightAt_0 : decode cX6_heightAt 0 = .ok (.aload_n 0, 1) := by decide +kernel
theorem dX6_heightAt_1 : decode cX6_heightAt 1 = .ok (.getfield 13, 3) := by decide +kernel
theorem dX6_heightAt_4 : decode cX6_heightAt 4 = .ok (.ifCond .gt 5, 3) := by decide +kernel
theorem dX6_heightAt_7 : decode cX6_heightAt 7 = .ok (.iconst 0, 1) := by decide +kernel
theorem dX6_heightAt_8 : decode cX6_heightAt 8 = .ok (.ireturn, 1) := by decide +kernel
theorem dX6_heightAt_9 : decode cX6_heightAt 9 = .ok (.iconst 2, 1) := by decide +kernel
theorem dX6_heightAt_10 : decode cX6_heightAt 10 = .ok (.iload_n 1, 1) := by decide +kernel
theorem dX6_heightAt_11 : decode cX6_heightAt 11 = .ok (.aload_n 0, 1) := by decide +kernel
theorem dX6_heightAt_12 : decode cX6_heightAt 12 = .ok (.getfield 16, 3) := by decide +kernel
theorem dX6_heightAt_15 : decode cX6_heightAt 15 = .ok (.iadd, 1) := by decide +kernel
theorem dX6_heightAt_16 : decode cX6_heightAt 16 = .ok (.aload_n 0, 1) := by decide +kernel
theorem dX6_heightAt_17 : decode cX6_heightAt 17 = .ok (.getfield 13, 3) := by decide +kernel
theorem dX6_heightAt_20 : decode cX6_heightAt 20 = .ok (.irem, 1) := by decide +kernel
theorem dX6_heightAt_21 : decode cX6_heightAt 21 = .ok (.imul, 1) := by decide +kernel
theorem dX6_heightAt_22 : decode cX6_heightAt 22 = .ok (.istore_n 2, 1) := by decide +kernel
theorem dX6_heightAt_23 : decode cX6_heightAt 23 = .ok (.iload_n 2, 1) := by decide +kernel
theorem dX6_heightAt_24 : decode cX6_heightAt 24 = .ok (.aload_n 0, 1) := by decide +kernel
theorem dX6_heightAt_25 : decode cX6_heightAt 25 = .ok (.getfield 13, 3) := by decide +kernel
theorem dX6_heightAt_28 : decode cX6_heightAt 28 = .ok (.if_icmp .ge 7, 3) := by decide +kernel
theorem dX6_heightAt_31 : decode cX6_heightAt 31 = .ok (.iconst 1, 1) := by decide +kernel
theorem dX6_heightAt_32 : decode cX6_heightAt 32 = .ok (.goto 4, 3) := by decide +kernel
theorem dX6_heightAt_35 : decode cX6_heightAt 35 = .ok (.iconst 0, 1) := by decide +kernel
theorem dX6_heightAt_36 : decode cX6_heightAt 36 = .ok (.istore_n 3, 1) := by decide +kernel
theorem dX6_heightAt_37 : decode cX6_heightAt 37 = .ok (.iload_n 3, 1) := by decide +kernel
theorem dX6_heightAt_38 : decode cX6_heightAt 38 = .ok (.ifCond .eq 8, 3) := by decide +kernel
theorem dX6_heightAt_41 : decode cX6_heightAt 41 = .ok (.iload_n 2, 1) := by decide +kernel
theorem dX6_heightAt_42 : decode cX6_heightAt 42 = .ok (.i2l, 1) := by decide +kernel
theorem dX6_heightAt_43 : decode cX6_heightAt 43 = .ok (.goto 10, 3) := by decide +kernel
theorem dX6_heightAt_46 : decode cX6_heightAt 46 = .ok (.iload_n 2, 1) := by decide +kernel
theorem dX6_heightAt_47 : decode cX6_heightAt 47 = .ok (.aload_n 0, 1) := by decide +kernel
theorem dX6_heightAt_48 : decode cX6_heightAt 48 = .ok (.getfield 13, 3) := by decide +kernel
theorem dX6_heightAt_51 : decode cX6_heightAt 51 = .ok (.isub, 1) := by decide +kernel
theorem dX6_heightAt_52 : decode cX6_heightAt 52 = .ok (.i2l, 1) := by decide +kernel
theorem dX6_heightAt_53 : decode cX6_heightAt 53 = .ok (.lstore 4, 2) := by decide +kernel
theorem dX6_heightAt_55 : decode cX6_heightAt 55 = .ok (.ldc2_w 19, 3) := by decide +kernel
theorem dX6_heightAt_58 : decode cX6_heightAt 58 = .ok (.aload_n 0, 1) := by decide +kernel
theorem dX6_heightAt_59 : decode cX6_heightAt 59 = .ok (.getfield 7, 3) := by decide +kernel
theorem dX6_heightAt_62 : decode cX6_heightAt 62 = .ok (.i2l, 1) := by decide +kernel
theorem dX6_heightAt_63 : decode cX6_heightAt 63 = .ok (.lmul, 1) := by decide +kernel
theorem dX6_heightAt_64 : decode cX6_heightAt 64 = .ok (.lload 4, 2) := by decide +kernel
theorem dX6_heightAt_66 : decode cX6_heightAt 66 = .ok (.lmul, 1) := by decide +kernel
theorem dX6_heightAt_67 : decode cX6_heightAt 67 = .ok (.aload_n 0, 1) := by decide +kernel
theorem dX6_heightAt_68 : decode cX6_heightAt 68 = .ok (.getfield 13, 3) := by decide +kernel
theorem dX6_heightAt_71 : decode cX6_heightAt 71 = .ok (.i2l, 1) := by decide +kernel
theorem dX6_heightAt_72 : decode cX6_heightAt 72 = .ok (.lload 4, 2) := by decide +kernel
theorem dX6_heightAt_74 : decode cX6_heightAt 74 = .ok (.lsub, 1) := by decide +kernel
theorem dX6_heightAt_75 : decode cX6_heightAt 75 = .ok (.lmul, 1) := by decide +kernel
theorem dX6_heightAt_76 : decode cX6_heightAt 76 = .ok (.aload_n 0, 1) := by decide +kernel
theorem dX6_heightAt_77 : decode cX6_heightAt 77 = .ok (.getfield 13, 3) := by decide +kernel
theorem dX6_heightAt_80 : decode cX6_heightAt 80 = .ok (.i2l, 1) := by decide +kernel
theorem dX6_heightAt_81 : decode cX6_heightAt 81 = .ok (.aload_n 0, 1) := by decide +kernel
theorem dX6_heightAt_82 : decode cX6_heightAt 82 = .ok (.getfield 13, 3) := by decide +kernel
theorem dX6_heightAt_85 : decode cX6_heightAt 85 = .ok (.i2l, 1) := by decide +kernel
theorem dX6_heightAt_86 : decode cX6_heightAt 86 = .ok (.lmul, 1) := by decide +kernel
theorem dX6_heightAt_87 : decode cX6_heightAt 87 = .ok (.ldiv, 1) := by decide +kernel
theorem dX6_heightAt_88 : decode cX6_heightAt 88 = .ok (.lstore 6, 2) := by decide +kernel
theorem dX6_heightAt_90 : decode cX6_heightAt 90 = .ok (.iload_n 3, 1) := by decide +kernel
theorem dX6_heightAt_91 : decode cX6_heightAt 91 = .ok (.ifCond .eq 8, 3) := by decide +kernel
theorem dX6_heightAt_94 : decode cX6_heightAt 94 = .ok (.lload 6, 2) := by decide +kernel
theorem dX6_heightAt_96 : decode cX6_heightAt 96 = .ok (.goto 6, 3) := by decide +kernel
theorem dX6_heightAt_99 : decode cX6_heightAt 99 = .ok (.lload 6, 2) := by decide +kernel
theorem dX6_heightAt_101 : decode cX6_heightAt 101 = .ok (.lneg, 1) := by decide +kernel
theorem dX6_heightAt_102 : decode cX6_heightAt 102 = .ok (.l2i, 1) := by decide +kernel
theorem dX6_heightAt_103 : decode cX6_heightAt 103 = .ok (.ireturn, 1) := by decide +kernel
theorem dX7_init_0 : decode cX7_init 0 = .ok (.aload_n 0, 1) := by decide +kernel
theorem dX7_init_1 : decode cX7_init 1 = .ok (.invokespecial 1, 3) := by decide +kernel
theorem dX7_init_4 : decode cX7_init 4 = .ok (.aload_n 0, 1) := by decide +kernel
theorem dX7_init_5 : decode cX7_init 5 = .ok (.new 7, 3) := by decide +kernel
theorem dX7_init_8 : decode cX7_init 8 = .ok (.dup, 1) := by decide +kernel
theorem dX7_init_9 : decode cX7_init 9 = .ok (.invokespecial 9, 3) := by decide +kernel
theorem dX7_init_12 : decode cX7_init 12 = .ok (.putfield 10, 3) := by decide +kernel
theorem dX7_init_15 : decode cX7_init 15 = .ok (.aload_n 0, 1) := by decide +kernel
theorem dX7_init_16 : decode cX7_init 16 = .ok (.new 16, 3) := by decide +kernel
theorem dX7_init_19 : decode cX7_init 19 = .ok (.dup, 1) := by decide +kernel
theorem dX7_init_20 : decode cX7_init 20 = .ok (.invokespecial 18, 3) := by decide +kernel
theorem dX7_init_23 : decode cX7_init 23 = .ok (.putfield 19, 3) := by decide +kernel
theorem dX7_init_26 : decode cX7_init 26 = .ok (.aload_n 0, 1) := by decide +kernel
theorem dX7_init_27 : decode cX7_init 27 = .ok (.new 23, 3) := by decide +kernel
theorem dX7_init_30 : decode cX7_init 30 = .ok (.dup, 1) := by decide +kernel
theorem dX7_init_31 : decode cX7_init 31 = .ok (.invokespecial 25, 3) := by decide +kernel
theorem dX7_init_34 : decode cX7_init 34 = .ok (.putfield 26, 3) := by decide +kernel
theorem dX7_init_37 : decode cX7_init 37 = .ok (.aload_n 0, 1) := by decide +kernel
theorem dX7_init_38 : decode cX7_init 38 = .ok (.new 23, 3) := by decide +kernel
theorem dX7_init_41 : decode cX7_init 41 = .ok (.dup, 1) := by decide +kernel
theorem dX7_init_42 : decode cX7_init 42 = .ok (.invokespecial 25, 3) := by decide +kernel
theorem dX7_init_45 : decode cX7_init 45 = .ok (.putfield 30, 3) := by decide +kernel
theorem dX7_init_48 : decode cX7_init 48 = .ok (.aload_n 0, 1) := by decide +kernel
theorem dX7_init_49 : decode cX7_init 49 = .ok (.iconst 1, 1) := by decide +kernel
theorem dX7_init_50 : decode cX7_init 50 = .ok (.putfield 33, 3) := by decide +kernel
theorem dX7_init_53 : decode cX7_init 53 = .ok (.return_, 1) := by decide +kernel
theorem dX7_addWave_0 : decode cX7_addWave 0 = .ok (.iload_n 1, 1) := by decide +kernel
theorem dX7_addWave_1 : decode cX7_addWave 1 = .ok (.iconst 0, 1) := by decide +kernel
theorem dX7_addWave_2 : decode cX7_addWave 2 = .ok (.sipush 5000, 3) := by decide +kernel
theorem dX7_addWave_5 : decode cX7_addWave 5 = .ok (.invokestatic 37, 3) := by decide +kernel
theorem dX7_addWave_8 : decode cX7_addWave 8 = .ok (.ifCond .ne 13, 3) := by decide +kernel
theorem dX7_addWave_11 : decode cX7_addWave 11 = .ok (.new 41, 3) := by decide +kernel
theorem dX7_addWave_14 : decode cX7_addWave 14 = .ok (.dup, 1) := by decide +kernel
theorem dX7_addWave_15 : decode cX7_addWave 15 = .ok (.ldc 43, 2) := by decide +kernel
theorem dX7_addWave_17 : decode cX7_addWave 17 = .ok (.invokespecial 45, 3) := by decide +kernel
theorem dX7_addWave_20 : decode cX7_addWave 20 = .ok (.athrow, 1) := by decide +kernel
theorem dX7_addWave_21 : decode cX7_addWave 21 = .ok (.iload_n 2, 1) := by decide +kernel
theorem dX7_addWave_22 : decode cX7_addWave 22 = .ok (.bipush 60, 2) := by decide +kernel
theorem dX7_addWave_24 : decode cX7_addWave 24 = .ok (.sipush 20000, 3) := by decide +kernel
theorem dX7_addWave_27 : decode cX7_addWave 27 = .ok (.invokestatic 37, 3) := by decide +kernel
theorem dX7_addWave_30 : decode cX7_addWave 30 = .ok (.ifCond .ne 13, 3) := by decide +kernel
theorem dX7_addWave_33 : decode cX7_addWave 33 = .ok (.new 41, 3) := by decide +kernel
theorem dX7_addWave_36 : decode cX7_addWave 36 = .ok (.dup, 1) := by decide +kernel
theorem dX7_addWave_37 : decode cX7_addWave 37 = .ok (.ldc 48, 2) := by decide +kernel
theorem dX7_addWave_39 : decode cX7_addWave 39 = .ok (.invokespecial 45, 3) := by decide +kernel
theorem dX7_addWave_42 : decode cX7_addWave 42 = .ok (.athrow, 1) := by decide +kernel
theorem dX7_addWave_43 : decode cX7_addWave 43 = .ok (.iload_n 3, 1) := by decide +kernel
theorem dX7_addWave_44 : decode cX7_addWave 44 = .ok (.iconst 0, 1) := by decide +kernel
theorem dX7_addWave_45 : decode cX7_addWave 45 = .ok (.iload_n 2, 1) := by decide +kernel
theorem dX7_addWave_46 : decode cX7_addWave 46 = .ok (.iconst 1, 1) := by decide +kernel
theorem dX7_addWave_47 : decode cX7_addWave 47 = .ok (.isub, 1) := by decide +kernel
theorem dX7_addWave_48 : decode cX7_addWave 48 = .ok (.invokestatic 37, 3) := by decide +kernel
theorem dX7_addWave_51 : decode cX7_addWave 51 = .ok (.ifCond .ne 13, 3) := by decide +kernel
theorem dX7_addWave_54 : decode cX7_addWave 54 = .ok (.new 41, 3) := by decide +kernel
theorem dX7_addWave_57 : decode cX7_addWave 57 = .ok (.dup, 1) := by decide +kernel
theorem dX7_addWave_58 : decode cX7_addWave 58 = .ok (.ldc 50, 2) := by decide +kernel
theorem dX7_addWave_60 : decode cX7_addWave 60 = .ok (.invokespecial 45, 3) := by decide +kernel
theorem dX7_addWave_63 : decode cX7_addWave 63 = .ok (.athrow, 1) := by decide +kernel
theorem dX7_addWave_64 : decode cX7_addWave 64 = .ok (.aload_n 0, 1) := by decide +kernel
theorem dX7_addWave_65 : decode cX7_addWave 65 = .ok (.getfield 10, 3) := by decide +kernel
theorem dX7_addWave_68 : decode cX7_addWave 68 = .ok (.getfield 52, 3) := by decide +kernel
theorem dX7_addWave_71 : decode cX7_addWave 71 = .ok (.invokevirtual 55, 3) := by decide +kernel
theorem dX7_addWave_74 : decode cX7_addWave 74 = .ok (.bipush 8, 2) := by decide +kernel
theorem dX7_addWave_76 : decode cX7_addWave 76 = .ok (.if_icmp .lt 13, 3) := by decide +kernel
theorem dX7_addWave_79 : decode cX7_addWave 79 = .ok (.new 59, 3) := by decide +kernel
theorem dX7_addWave_82 : decode cX7_addWave 82 = .ok (.dup, 1) := by decide +kernel
theorem dX7_addWave_83 : decode cX7_addWave 83 = .ok (.ldc 61, 2) := by decide +kernel
theorem dX7_addWave_85 : decode cX7_addWave 85 = .ok (.invokespecial 63, 3) := by decide +kernel
theorem dX7_addWave_88 : decode cX7_addWave 88 = .ok (.athrow, 1) := by decide +kernel
theorem dX7_addWave_89 : decode cX7_addWave 89 = .ok (.aload_n 0, 1) := by decide +kernel
theorem dX7_addWave_90 : decode cX7_addWave 90 = .ok (.getfield 10, 3) := by decide +kernel
theorem dX7_addWave_93 : decode cX7_addWave 93 = .ok (.getfield 52, 3) := by decide +kernel
theorem dX7_addWave_96 : decode cX7_addWave 96 = .ok (.new 64, 3) := by decide +kernel
theorem dX7_addWave_99 : decode cX7_addWave 99 = .ok (.dup, 1) := by decide +kernel
theorem dX7_addWave_100 : decode cX7_addWave 100 = .ok (.iload_n 1, 1) := by decide +kernel
theorem dX7_addWave_101 : decode cX7_addWave 101 = .ok (.iload_n 2, 1) := by decide +kernel
theorem dX7_addWave_102 : decode cX7_addWave 102 = .ok (.iload_n 3, 1) := by decide +kernel
theorem dX7_addWave_103 : decode cX7_addWave 103 = .ok (.invokespecial 66, 3) := by decide +kernel
theorem dX7_addWave_106 : decode cX7_addWave 106 = .ok (.invokevirtual 69, 3) := by decide +kernel
theorem dX7_addWave_109 : decode cX7_addWave 109 = .ok (.pop, 1) := by decide +kernel
theorem dX7_addWave_110 : decode cX7_addWave 110 = .ok (.aload_n 0, 1) := by decide +kernel
theorem dX7_addWave_111 : decode cX7_addWave 111 = .ok (.iconst 1, 1) := by decide +kernel
theorem dX7_addWave_112 : decode cX7_addWave 112 = .ok (.putfield 33, 3) := by decide +kernel
theorem dX7_addWave_115 : decode cX7_addWave 115 = .ok (.aload_n 0, 1) := by decide +kernel
theorem dX7_addWave_116 : decode cX7_addWave 116 = .ok (.getfield 10, 3) := by decide +kernel
theorem dX7_addWave_119 : decode cX7_addWave 119 = .ok (.getfield 52, 3) := by decide +kernel
theorem dX7_addWave_122 : decode cX7_addWave 122 = .ok (.invokevirtual 55, 3) := by decide +kernel
theorem dX7_addWave_125 : decode cX7_addWave 125 = .ok (.iconst 1, 1) := by decide +kernel
theorem dX7_addWave_126 : decode cX7_addWave 126 = .ok (.isub, 1) := by decide +kernel
theorem dX7_addWave_127 : decode cX7_addWave 127 = .ok (.ireturn, 1) := by decide +kernel
theorem dX7_height_0 : decode cX7_height 0 = .ok (.iload_n 1, 1) := by decide +kernel
theorem dX7_height_1 : decode cX7_height 1 = .ok (.invokestatic 95, 3) := by decide +kernel
theorem dX7_height_4 : decode cX7_height 4 = .ok (.ifCond .ne 13, 3) := by decide +kernel
theorem dX7_height_7 : decode cX7_height 7 = .ok (.new 41, 3) := by decide +kernel
theorem dX7_height_10 : decode cX7_height 10 = .ok (.dup, 1) := by decide +kernel
theorem dX7_height_11 : decode cX7_height 11 = .ok (.ldc 98, 2) := by decide +kernel
theorem dX7_height_13 : decode cX7_height 13 = .ok (.invokespecial 45, 3) := by decide +kernel
theorem dX7_height_16 : decode cX7_height 16 = .ok (.athrow, 1) := by decide +kernel
theorem dX7_height_17 : decode cX7_height 17 = .ok (.aload_n 0, 1) := by decide +kernel
theorem dX7_height_18 : decode cX7_height 18 = .ok (.getfield 10, 3) := by decide +kernel
theorem dX7_height_21 : decode cX7_height 21 = .ok (.iload_n 1, 1) := by decide +kernel
theorem dX7_height_22 : decode cX7_height 22 = .ok (.invokevirtual 100, 3) := by decide +kernel
theorem dX7_height_25 : decode cX7_height 25 = .ok (.ireturn, 1) := by decide +kernel
theorem dX7_count_0 : decode cX7_count 0 = .ok (.iload_n 1, 1) := by decide +kernel
theorem dX7_count_1 : decode cX7_count 1 = .ok (.iconst 0, 1) := by decide +kernel
theorem dX7_count_2 : decode cX7_count 2 = .ok (.iconst 3, 1) := by decide +kernel
theorem dX7_count_3 : decode cX7_count 3 = .ok (.invokestatic 37, 3) := by decide +kernel
theorem dX7_count_6 : decode cX7_count 6 = .ok (.ifCond .ne 13, 3) := by decide +kernel
theorem dX7_count_9 : decode cX7_count 9 = .ok (.new 77, 3) := by decide +kernel
theorem dX7_count_12 : decode cX7_count 12 = .ok (.dup, 1) := by decide +kernel
theorem dX7_count_13 : decode cX7_count 13 = .ok (.ldc 105, 2) := by decide +kernel
theorem dX7_count_15 : decode cX7_count 15 = .ok (.invokespecial 81, 3) := by decide +kernel
theorem dX7_count_18 : decode cX7_count 18 = .ok (.athrow, 1) := by decide +kernel
theorem dX7_count_19 : decode cX7_count 19 = .ok (.aload_n 0, 1) := by decide +kernel
theorem dX7_count_20 : decode cX7_count 20 = .ok (.iload_n 1, 1) := by decide +kernel
theorem dX7_count_21 : decode cX7_count 21 = .ok (.invokevirtual 107, 3) := by decide +kernel
theorem dX7_count_24 : decode cX7_count 24 = .ok (.ireturn, 1) := by decide +kernel
theorem dX7_water_0 : decode cX7_water 0 = .ok (.aload_n 0, 1) := by decide +kernel
theorem dX7_water_1 : decode cX7_water 1 = .ok (.invokevirtual 110, 3) := by decide +kernel
theorem dX7_water_4 : decode cX7_water 4 = .ok (.astore_n 3, 1) := by decide +kernel
theorem dX7_water_5 : decode cX7_water 5 = .ok (.aload_n 3, 1) := by decide +kernel
theorem dX7_water_6 : decode cX7_water 6 = .ok (.iload_n 1, 1) := by decide +kernel
theorem dX7_water_7 : decode cX7_water 7 = .ok (.invokevirtual 114, 3) := by decide +kernel
theorem dX7_water_10 : decode cX7_water 10 = .ok (.ifCond .ne 13, 3) := by decide +kernel
theorem dX7_water_13 : decode cX7_water 13 = .ok (.new 77, 3) := by decide +kernel
theorem dX7_water_16 : decode cX7_water 16 = .ok (.dup, 1) := by decide +kernel
theorem dX7_water_17 : decode cX7_water 17 = .ok (.ldc 117, 2) := by decide +kernel
theorem dX7_water_19 : decode cX7_water 19 = .ok (.invokespecial 81, 3) := by decide +kernel
theorem dX7_water_22 : decode cX7_water 22 = .ok (.athrow, 1) := by decide +kernel
theorem dX7_water_23 : decode cX7_water 23 = .ok (.iload_n 2, 1) := by decide +kernel
theorem dX7_water_24 : decode cX7_water 24 = .ok (.tableswitch 54 0 2 #[28, 34, 40], 28) := by decide +kernel
theorem dX7_water_52 : decode cX7_water 52 = .ok (.aload_n 3, 1) := by decide +kernel
theorem dX7_water_53 : decode cX7_water 53 = .ok (.iload_n 1, 1) := by decide +kernel
theorem dX7_water_54 : decode cX7_water 54 = .ok (.invokevirtual 119, 3) := by decide +kernel
theorem dX7_water_57 : decode cX7_water 57 = .ok (.ireturn, 1) := by decide +kernel
theorem dX7_water_58 : decode cX7_water 58 = .ok (.aload_n 3, 1) := by decide +kernel
theorem dX7_water_59 : decode cX7_water 59 = .ok (.iload_n 1, 1) := by decide +kernel
theorem dX7_water_60 : decode cX7_water 60 = .ok (.invokevirtual 122, 3) := by decide +kernel
theorem dX7_water_63 : decode cX7_water 63 = .ok (.ireturn, 1) := by decide +kernel
theorem dX7_water_64 : decode cX7_water 64 = .ok (.aload_n 3, 1) := by decide +kernel
theorem dX7_water_65 : decode cX7_water 65 = .ok (.iload_n 1, 1) := by decide +kernel
theorem dX7_water_66 : decode cX7_water 66 = .ok (.invokevirtual 125, 3) := by decide +kernel
theorem dX7_water_69 : decode cX7_water 69 = .ok (.ifCond .eq 7, 3) := by decide +kernel
theorem dX7_water_72 : decode cX7_water 72 = .ok (.iconst 1, 1) := by decide +kernel
theorem dX7_water_73 : decode cX7_water 73 = .ok (.goto 4, 3) := by decide +kernel
theorem dX7_water_76 : decode cX7_water 76 = .ok (.iconst 0, 1) := by decide +kernel
theorem dX7_water_77 : decode cX7_water 77 = .ok (.ireturn, 1) := by decide +kernel
theorem dX7_water_78 : decode cX7_water 78 = .ok (.new 77, 3) := by decide +kernel
theorem dX7_water_81 : decode cX7_water 81 = .ok (.dup, 1) := by decide +kernel
theorem dX7_water_82 : decode cX7_water 82 = .ok (.ldc 128, 2) := by decide +kernel
theorem dX7_water_84 : decode cX7_water 84 = .ok (.invokespecial 81, 3) := by decide +kernel
theorem dX7_water_87 : decode cX7_water 87 = .ok (.athrow, 1) := by decide +kernel
theorem dX7_next_0 : decode cX7_next 0 = .ok (.iload_n 1, 1) := by decide +kernel
theorem dX7_next_1 : decode cX7_next 1 = .ok (.invokestatic 95, 3) := by decide +kernel
theorem dX7_next_4 : decode cX7_next 4 = .ok (.ifCond .ne 13, 3) := by decide +kernel
theorem dX7_next_7 : decode cX7_next 7 = .ok (.new 41, 3) := by decide +kernel
theorem dX7_next_10 : decode cX7_next 10 = .ok (.dup, 1) := by decide +kernel
theorem dX7_next_11 : decode cX7_next 11 = .ok (.ldc 98, 2) := by decide +kernel
theorem dX7_next_13 : decode cX7_next 13 = .ok (.invokespecial 45, 3) := by decide +kernel
theorem dX7_next_16 : decode cX7_next 16 = .ok (.athrow, 1) := by decide +kernel
theorem dX7_next_17 : decode cX7_next 17 = .ok (.aload_n 0, 1) := by decide +kernel
theorem dX7_next_18 : decode cX7_next 18 = .ok (.invokevirtual 110, 3) := by decide +kernel
theorem dX7_next_21 : decode cX7_next 21 = .ok (.astore_n 3, 1) := by decide +kernel
theorem dX7_next_22 : decode cX7_next 22 = .ok (.iconst 0, 1) := by decide +kernel
theorem dX7_next_23 : decode cX7_next 23 = .ok (.istore 4, 2) := by decide +kernel
theorem dX7_next_25 : decode cX7_next 25 = .ok (.iload 4, 2) := by decide +kernel
theorem dX7_next_27 : decode cX7_next 27 = .ok (.aload_n 3, 1) := by decide +kernel
theorem dX7_next_28 : decode cX7_next 28 = .ok (.getfield 130, 3) := by decide +kernel
theorem dX7_next_31 : decode cX7_next 31 = .ok (.if_icmp .ge 32, 3) := by decide +kernel
theorem dX7_next_34 : decode cX7_next 34 = .ok (.aload_n 3, 1) := by decide +kernel
theorem dX7_next_35 : decode cX7_next 35 = .ok (.iload 4, 2) := by decide +kernel
theorem dX7_next_37 : decode cX7_next 37 = .ok (.invokevirtual 119, 3) := by decide +kernel
theorem dX7_next_40 : decode cX7_next 40 = .ok (.iload_n 1, 1) := by decide +kernel
theorem dX7_next_41 : decode cX7_next 41 = .ok (.if_icmp .lt 16, 3) := by decide +kernel
theorem dX7_next_44 : decode cX7_next 44 = .ok (.aload_n 3, 1) := by decide +kernel
theorem dX7_next_45 : decode cX7_next 45 = .ok (.iload 4, 2) := by decide +kernel
theorem dX7_next_47 : decode cX7_next 47 = .ok (.invokevirtual 125, 3) := by decide +kernel
theorem dX7_next_50 : decode cX7_next 50 = .ok (.iload_n 2, 1) := by decide +kernel
theorem dX7_next_51 : decode cX7_next 51 = .ok (.if_icmp .ne 6, 3) := by decide +kernel
theorem dX7_next_54 : decode cX7_next 54 = .ok (.iload 4, 2) := by decide +kernel
theorem dX7_next_56 : decode cX7_next 56 = .ok (.ireturn, 1) := by decide +kernel
theorem dX7_next_57 : decode cX7_next 57 = .ok (.iinc 4 1, 3) := by decide +kernel
theorem dX7_next_60 : decode cX7_next 60 = .ok (.goto (-35), 3) := by decide +kernel
theorem dX7_next_63 : decode cX7_next 63 = .ok (.iconst (-1), 1) := by decide +kernel
theorem dX7_next_64 : decode cX7_next 64 = .ok (.ireturn, 1) := by decide +kernel
theorem dX7_datum_0 : decode cX7_datum 0 = .ok (.iload_n 1, 1) := by decide +kernel
theorem dX7_datum_1 : decode cX7_datum 1 = .ok (.iconst 0, 1) := by decide +kernel
theorem dX7_datum_2 : decode cX7_datum 2 = .ok (.iconst 4, 1) := by decide +kernel
theorem dX7_datum_3 : decode cX7_datum 3 = .ok (.invokestatic 37, 3) := by decide +kernel
theorem dX7_datum_6 : decode cX7_datum 6 = .ok (.ifCond .ne 13, 3) := by decide +kernel
theorem dX7_datum_9 : decode cX7_datum 9 = .ok (.new 77, 3) := by decide +kernel
theorem dX7_datum_12 : decode cX7_datum 12 = .ok (.dup, 1) := by decide +kernel
theorem dX7_datum_13 : decode cX7_datum 13 = .ok (.ldc 133, 2) := by decide +kernel
theorem dX7_datum_15 : decode cX7_datum 15 = .ok (.invokespecial 81, 3) := by decide +kernel
theorem dX7_datum_18 : decode cX7_datum 18 = .ok (.athrow, 1) := by decide +kernel
theorem dX7_datum_19 : decode cX7_datum 19 = .ok (.aload_n 0, 1) := by decide +kernel
theorem dX7_datum_20 : decode cX7_datum 20 = .ok (.invokevirtual 110, 3) := by decide +kernel
theorem dX7_datum_23 : decode cX7_datum 23 = .ok (.iload_n 1, 1) := by decide +kernel
theorem dX7_datum_24 : decode cX7_datum 24 = .ok (.invokevirtual 135, 3) := by decide +kernel
theorem dX7_datum_27 : decode cX7_datum 27 = .ok (.ireturn, 1) := by decide +kernel
theorem dX7_addPort_0 : decode cX7_addPort 0 = .ok (.aload_n 0, 1) := by decide +kernel
theorem dX7_addPort_1 : decode cX7_addPort 1 = .ok (.getfield 26, 3) := by decide +kernel
theorem dX7_addPort_4 : decode cX7_addPort 4 = .ok (.invokevirtual 55, 3) := by decide +kernel
theorem dX7_addPort_7 : decode cX7_addPort 7 = .ok (.bipush 6, 2) := by decide +kernel
theorem dX7_addPort_9 : decode cX7_addPort 9 = .ok (.if_icmp .lt 13, 3) := by decide +kernel
theorem dX7_addPort_12 : decode cX7_addPort 12 = .ok (.new 59, 3) := by decide +kernel
theorem dX7_addPort_15 : decode cX7_addPort 15 = .ok (.dup, 1) := by decide +kernel
theorem dX7_addPort_16 : decode cX7_addPort 16 = .ok (.ldc 138, 2) := by decide +kernel
theorem dX7_addPort_18 : decode cX7_addPort 18 = .ok (.invokespecial 63, 3) := by decide +kernel
theorem dX7_addPort_21 : decode cX7_addPort 21 = .ok (.athrow, 1) := by decide +kernel
theorem dX7_addPort_22 : decode cX7_addPort 22 = .ok (.aload_n 0, 1) := by decide +kernel
theorem dX7_addPort_23 : decode cX7_addPort 23 = .ok (.getfield 26, 3) := by decide +kernel
theorem dX7_addPort_26 : decode cX7_addPort 26 = .ok (.new 140, 3) := by decide +kernel
theorem dX7_addPort_29 : decode cX7_addPort 29 = .ok (.dup, 1) := by decide +kernel
theorem dX7_addPort_30 : decode cX7_addPort 30 = .ok (.invokespecial 142, 3) := by decide +kernel
theorem dX7_addPort_33 : decode cX7_addPort 33 = .ok (.invokevirtual 69, 3) := by decide +kernel
theorem dX7_addPort_36 : decode cX7_addPort 36 = .ok (.pop, 1) := by decide +kernel
theorem dX7_addPort_37 : decode cX7_addPort 37 = .ok (.aload_n 0, 1) := by decide +kernel
theorem dX7_addPort_38 : decode cX7_addPort 38 = .ok (.getfield 26, 3) := by decide +kernel
theorem dX7_addPort_41 : decode cX7_addPort 41 = .ok (.invokevirtual 55, 3) := by decide +kernel
theorem dX7_addPort_44 : decode cX7_addPort 44 = .ok (.iconst 1, 1) := by decide +kernel
theorem dX7_addPort_45 : decode cX7_addPort 45 = .ok (.isub, 1) := by decide +kernel
theorem dX7_addPort_46 : decode cX7_addPort 46 = .ok (.ireturn, 1) := by decide +kernel
theorem dX7_setPort_0 : decode cX7_setPort 0 = .ok (.aload_n 0, 1) := by decide +kernel
theorem dX7_setPort_1 : decode cX7_setPort 1 = .ok (.iload_n 1, 1) := by decide +kernel
theorem dX7_setPort_2 : decode cX7_setPort 2 = .ok (.invokevirtual 143, 3) := by decide +kernel
theorem dX7_setPort_5 : decode cX7_setPort 5 = .ok (.ifCond .ne 13, 3) := by decide +kernel
theorem dX7_setPort_8 : decode cX7_setPort 8 = .ok (.new 77, 3) := by decide +kernel
theorem dX7_setPort_11 : decode cX7_setPort 11 = .ok (.dup, 1) := by decide +kernel
theorem dX7_setPort_12 : decode cX7_setPort 12 = .ok (.ldc 146, 2) := by decide +kernel
theorem dX7_setPort_14 : decode cX7_setPort 14 = .ok (.invokespecial 81, 3) := by decide +kernel
theorem dX7_setPort_17 : decode cX7_setPort 17 = .ok (.athrow, 1) := by decide +kernel
theorem dX7_setPort_18 : decode cX7_setPort 18 = .ok (.iload_n 3, 1) := by decide +kernel
theorem dX7_setPort_19 : decode cX7_setPort 19 = .ok (.sipush (-300), 3) := by decide +kernel
theorem dX7_setPort_22 : decode cX7_setPort 22 = .ok (.sipush 300, 3) := by decide +kernel
theorem dX7_setPort_25 : decode cX7_setPort 25 = .ok (.invokestatic 37, 3) := by decide +kernel
theorem dX7_setPort_28 : decode cX7_setPort 28 = .ok (.ifCond .ne 13, 3) := by decide +kernel
theorem dX7_setPort_31 : decode cX7_setPort 31 = .ok (.new 41, 3) := by decide +kernel
