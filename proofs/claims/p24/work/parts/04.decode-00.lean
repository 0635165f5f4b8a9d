theorem dJ6_compare_7cf53_0 : decode cJ6_compare_7cf53 0 = .ok (.iload_n 0, 1) := by decide +kernel
theorem dJ6_compare_7cf53_1 : decode cJ6_compare_7cf53 1 = .ok (.iload_n 1, 1) := by decide +kernel
theorem dJ6_compare_7cf53_2 : decode cJ6_compare_7cf53 2 = .ok (.if_icmp .ge 7, 3) := by decide +kernel
theorem dJ6_compare_7cf53_5 : decode cJ6_compare_7cf53 5 = .ok (.iconst (-1), 1) := by decide +kernel
theorem dJ6_compare_7cf53_6 : decode cJ6_compare_7cf53 6 = .ok (.goto 13, 3) := by decide +kernel
theorem dJ6_compare_7cf53_9 : decode cJ6_compare_7cf53 9 = .ok (.iload_n 0, 1) := by decide +kernel
theorem dJ6_compare_7cf53_10 : decode cJ6_compare_7cf53 10 = .ok (.iload_n 1, 1) := by decide +kernel
theorem dJ6_compare_7cf53_11 : decode cJ6_compare_7cf53 11 = .ok (.if_icmp .ne 7, 3) := by decide +kernel
theorem dJ6_compare_7cf53_14 : decode cJ6_compare_7cf53 14 = .ok (.iconst 0, 1) := by decide +kernel
theorem dJ6_compare_7cf53_15 : decode cJ6_compare_7cf53 15 = .ok (.goto 4, 3) := by decide +kernel
theorem dJ6_compare_7cf53_18 : decode cJ6_compare_7cf53 18 = .ok (.iconst 1, 1) := by decide +kernel
theorem dJ6_compare_7cf53_19 : decode cJ6_compare_7cf53 19 = .ok (.ireturn, 1) := by decide +kernel
theorem dJ9_abs_0f7a4_0 : decode cJ9_abs_0f7a4 0 = .ok (.iload_n 0, 1) := by decide +kernel
theorem dJ9_abs_0f7a4_1 : decode cJ9_abs_0f7a4 1 = .ok (.ifCond .ge 8, 3) := by decide +kernel
theorem dJ9_abs_0f7a4_4 : decode cJ9_abs_0f7a4 4 = .ok (.iload_n 0, 1) := by decide +kernel
theorem dJ9_abs_0f7a4_5 : decode cJ9_abs_0f7a4 5 = .ok (.ineg, 1) := by decide +kernel
theorem dJ9_abs_0f7a4_6 : decode cJ9_abs_0f7a4 6 = .ok (.goto 4, 3) := by decide +kernel
theorem dJ9_abs_0f7a4_9 : decode cJ9_abs_0f7a4 9 = .ok (.iload_n 0, 1) := by decide +kernel
theorem dJ9_abs_0f7a4_10 : decode cJ9_abs_0f7a4 10 = .ok (.ireturn, 1) := by decide +kernel
theorem dJ9_max_7cf53_0 : decode cJ9_max_7cf53 0 = .ok (.iload_n 0, 1) := by decide +kernel
theorem dJ9_max_7cf53_1 : decode cJ9_max_7cf53 1 = .ok (.iload_n 1, 1) := by decide +kernel
theorem dJ9_max_7cf53_2 : decode cJ9_max_7cf53 2 = .ok (.if_icmp .lt 7, 3) := by decide +kernel
theorem dJ9_max_7cf53_5 : decode cJ9_max_7cf53 5 = .ok (.iload_n 0, 1) := by decide +kernel
theorem dJ9_max_7cf53_6 : decode cJ9_max_7cf53 6 = .ok (.goto 4, 3) := by decide +kernel
theorem dJ9_max_7cf53_9 : decode cJ9_max_7cf53 9 = .ok (.iload_n 1, 1) := by decide +kernel
theorem dJ9_max_7cf53_10 : decode cJ9_max_7cf53 10 = .ok (.ireturn, 1) := by decide +kernel
theorem dJ9_min_7cf53_0 : decode cJ9_min_7cf53 0 = .ok (.iload_n 0, 1) := by decide +kernel
theorem dJ9_min_7cf53_1 : decode cJ9_min_7cf53 1 = .ok (.iload_n 1, 1) := by decide +kernel
theorem dJ9_min_7cf53_2 : decode cJ9_min_7cf53 2 = .ok (.if_icmp .gt 7, 3) := by decide +kernel
theorem dJ9_min_7cf53_5 : decode cJ9_min_7cf53 5 = .ok (.iload_n 0, 1) := by decide +kernel
theorem dJ9_min_7cf53_6 : decode cJ9_min_7cf53 6 = .ok (.goto 4, 3) := by decide +kernel
theorem dJ9_min_7cf53_9 : decode cJ9_min_7cf53 9 = .ok (.iload_n 1, 1) := by decide +kernel
theorem dJ9_min_7cf53_10 : decode cJ9_min_7cf53 10 = .ok (.ireturn, 1) := by decide +kernel
theorem dJxa1e45_init_da8c8_0 : decode cJxa1e45_init_da8c8 0 = .ok (.aload_n 0, 1) := by decide +kernel
theorem dJxa1e45_init_da8c8_1 : decode cJxa1e45_init_da8c8 1 = .ok (.invokespecial 1, 3) := by decide +kernel
theorem dJxa1e45_init_da8c8_4 : decode cJxa1e45_init_da8c8 4 = .ok (.return_, 1) := by decide +kernel
theorem dJxc12de_init_da8c8_0 : decode cJxc12de_init_da8c8 0 = .ok (.aload_n 0, 1) := by decide +kernel
theorem dJxc12de_init_da8c8_1 : decode cJxc12de_init_da8c8 1 = .ok (.invokespecial 1, 3) := by decide +kernel
theorem dJxc12de_init_da8c8_4 : decode cJxc12de_init_da8c8 4 = .ok (.aload_n 0, 1) := by decide +kernel
theorem dJxc12de_init_da8c8_5 : decode cJxc12de_init_da8c8 5 = .ok (.iconst 0, 1) := by decide +kernel
theorem dJxc12de_init_da8c8_6 : decode cJxc12de_init_da8c8 6 = .ok (.putfield 7, 3) := by decide +kernel
theorem dJxc12de_init_da8c8_9 : decode cJxc12de_init_da8c8 9 = .ok (.return_, 1) := by decide +kernel
theorem dJx4a65c_init_da8c8_0 : decode cJx4a65c_init_da8c8 0 = .ok (.aload_n 0, 1) := by decide +kernel
theorem dJx4a65c_init_da8c8_1 : decode cJx4a65c_init_da8c8 1 = .ok (.invokespecial 1, 3) := by decide +kernel
theorem dJx4a65c_init_da8c8_4 : decode cJx4a65c_init_da8c8 4 = .ok (.aload_n 0, 1) := by decide +kernel
theorem dJx4a65c_init_da8c8_5 : decode cJx4a65c_init_da8c8 5 = .ok (.getstatic 39, 3) := by decide +kernel
theorem dJx4a65c_init_da8c8_8 : decode cJx4a65c_init_da8c8 8 = .ok (.putfield 9, 3) := by decide +kernel
theorem dJx4a65c_init_da8c8_11 : decode cJx4a65c_init_da8c8 11 = .ok (.return_, 1) := by decide +kernel
theorem dJx4a65c_grow_92f84_0 : decode cJx4a65c_grow_92f84 0 = .ok (.aload_n 0, 1) := by decide +kernel
theorem dJx4a65c_grow_92f84_1 : decode cJx4a65c_grow_92f84 1 = .ok (.getfield 9, 3) := by decide +kernel
theorem dJx4a65c_grow_92f84_4 : decode cJx4a65c_grow_92f84 4 = .ok (.arraylength, 1) := by decide +kernel
theorem dJx4a65c_grow_92f84_5 : decode cJx4a65c_grow_92f84 5 = .ok (.istore_n 2, 1) := by decide +kernel
theorem dJx4a65c_grow_92f84_6 : decode cJx4a65c_grow_92f84 6 = .ok (.iload_n 2, 1) := by decide +kernel
theorem dJx4a65c_grow_92f84_7 : decode cJx4a65c_grow_92f84 7 = .ok (.ifCond .gt 13, 3) := by decide +kernel
theorem dJx4a65c_grow_92f84_10 : decode cJx4a65c_grow_92f84 10 = .ok (.aload_n 0, 1) := by decide +kernel
theorem dJx4a65c_grow_92f84_11 : decode cJx4a65c_grow_92f84 11 = .ok (.getfield 9, 3) := by decide +kernel
theorem dJx4a65c_grow_92f84_14 : decode cJx4a65c_grow_92f84 14 = .ok (.getstatic 39, 3) := by decide +kernel
theorem dJx4a65c_grow_92f84_17 : decode cJx4a65c_grow_92f84 17 = .ok (.if_acmp .eq 28, 3) := by decide +kernel
theorem dJx4a65c_grow_92f84_20 : decode cJx4a65c_grow_92f84 20 = .ok (.iload_n 2, 1) := by decide +kernel
theorem dJx4a65c_grow_92f84_21 : decode cJx4a65c_grow_92f84 21 = .ok (.iload_n 1, 1) := by decide +kernel
theorem dJx4a65c_grow_92f84_22 : decode cJx4a65c_grow_92f84 22 = .ok (.iload_n 2, 1) := by decide +kernel
theorem dJx4a65c_grow_92f84_23 : decode cJx4a65c_grow_92f84 23 = .ok (.isub, 1) := by decide +kernel
theorem dJx4a65c_grow_92f84_24 : decode cJx4a65c_grow_92f84 24 = .ok (.iload_n 2, 1) := by decide +kernel
theorem dJx4a65c_grow_92f84_25 : decode cJx4a65c_grow_92f84 25 = .ok (.iconst 1, 1) := by decide +kernel
theorem dJx4a65c_grow_92f84_26 : decode cJx4a65c_grow_92f84 26 = .ok (.ishr, 1) := by decide +kernel
theorem dJx4a65c_grow_92f84_27 : decode cJx4a65c_grow_92f84 27 = .ok (.invokestatic 73, 3) := by decide +kernel
theorem dJx4a65c_grow_92f84_30 : decode cJx4a65c_grow_92f84 30 = .ok (.istore_n 3, 1) := by decide +kernel
theorem dJx4a65c_grow_92f84_31 : decode cJx4a65c_grow_92f84 31 = .ok (.aload_n 0, 1) := by decide +kernel
theorem dJx4a65c_grow_92f84_32 : decode cJx4a65c_grow_92f84 32 = .ok (.aload_n 0, 1) := by decide +kernel
theorem dJx4a65c_grow_92f84_33 : decode cJx4a65c_grow_92f84 33 = .ok (.getfield 9, 3) := by decide +kernel
theorem dJx4a65c_grow_92f84_36 : decode cJx4a65c_grow_92f84 36 = .ok (.iload_n 3, 1) := by decide +kernel
theorem dJx4a65c_grow_92f84_37 : decode cJx4a65c_grow_92f84 37 = .ok (.invokestatic 66, 3) := by decide +kernel
theorem dJx4a65c_grow_92f84_40 : decode cJx4a65c_grow_92f84 40 = .ok (.dup_x1, 1) := by decide +kernel
theorem dJx4a65c_grow_92f84_41 : decode cJx4a65c_grow_92f84 41 = .ok (.putfield 9, 3) := by decide +kernel
theorem dJx4a65c_grow_92f84_44 : decode cJx4a65c_grow_92f84 44 = .ok (.areturn, 1) := by decide +kernel
theorem dJx4a65c_grow_92f84_45 : decode cJx4a65c_grow_92f84 45 = .ok (.aload_n 0, 1) := by decide +kernel
theorem dJx4a65c_grow_92f84_46 : decode cJx4a65c_grow_92f84 46 = .ok (.bipush 10, 2) := by decide +kernel
theorem dJx4a65c_grow_92f84_48 : decode cJx4a65c_grow_92f84 48 = .ok (.iload_n 1, 1) := by decide +kernel
theorem dJx4a65c_grow_92f84_49 : decode cJx4a65c_grow_92f84 49 = .ok (.invokestatic 79, 3) := by decide +kernel
theorem dJx4a65c_grow_92f84_52 : decode cJx4a65c_grow_92f84 52 = .ok (.anewarray 7, 3) := by decide +kernel
theorem dJx4a65c_grow_92f84_55 : decode cJx4a65c_grow_92f84 55 = .ok (.dup_x1, 1) := by decide +kernel
theorem dJx4a65c_grow_92f84_56 : decode cJx4a65c_grow_92f84 56 = .ok (.putfield 9, 3) := by decide +kernel
theorem dJx4a65c_grow_92f84_59 : decode cJx4a65c_grow_92f84 59 = .ok (.areturn, 1) := by decide +kernel
theorem dJx4a65c_grow_d5877_0 : decode cJx4a65c_grow_d5877 0 = .ok (.aload_n 0, 1) := by decide +kernel
theorem dJx4a65c_grow_d5877_1 : decode cJx4a65c_grow_d5877 1 = .ok (.aload_n 0, 1) := by decide +kernel
theorem dJx4a65c_grow_d5877_2 : decode cJx4a65c_grow_d5877 2 = .ok (.getfield 48, 3) := by decide +kernel
theorem dJx4a65c_grow_d5877_5 : decode cJx4a65c_grow_d5877 5 = .ok (.iconst 1, 1) := by decide +kernel
theorem dJx4a65c_grow_d5877_6 : decode cJx4a65c_grow_d5877 6 = .ok (.iadd, 1) := by decide +kernel
theorem dJx4a65c_grow_d5877_7 : decode cJx4a65c_grow_d5877 7 = .ok (.invokevirtual 69, 3) := by decide +kernel
theorem dJx4a65c_grow_d5877_10 : decode cJx4a65c_grow_d5877 10 = .ok (.areturn, 1) := by decide +kernel
theorem dJx4a65c_size_8abf5_0 : decode cJx4a65c_size_8abf5 0 = .ok (.aload_n 0, 1) := by decide +kernel
theorem dJx4a65c_size_8abf5_1 : decode cJx4a65c_size_8abf5 1 = .ok (.getfield 48, 3) := by decide +kernel
theorem dJx4a65c_size_8abf5_4 : decode cJx4a65c_size_8abf5 4 = .ok (.ireturn, 1) := by decide +kernel
theorem dJx4a65c_elementData_915e3_0 : decode cJx4a65c_elementData_915e3 0 = .ok (.aload_n 0, 1) := by decide +kernel
theorem dJx4a65c_elementData_915e3_1 : decode cJx4a65c_elementData_915e3 1 = .ok (.getfield 9, 3) := by decide +kernel
theorem dJx4a65c_elementData_915e3_4 : decode cJx4a65c_elementData_915e3 4 = .ok (.iload_n 1, 1) := by decide +kernel
theorem dJx4a65c_elementData_915e3_5 : decode cJx4a65c_elementData_915e3 5 = .ok (.aaload, 1) := by decide +kernel
theorem dJx4a65c_elementData_915e3_6 : decode cJx4a65c_elementData_915e3 6 = .ok (.areturn, 1) := by decide +kernel
theorem dJx4a65c_get_915e3_0 : decode cJx4a65c_get_915e3 0 = .ok (.iload_n 1, 1) := by decide +kernel
theorem dJx4a65c_get_915e3_1 : decode cJx4a65c_get_915e3 1 = .ok (.aload_n 0, 1) := by decide +kernel
theorem dJx4a65c_get_915e3_2 : decode cJx4a65c_get_915e3 2 = .ok (.getfield 48, 3) := by decide +kernel
theorem dJx4a65c_get_915e3_5 : decode cJx4a65c_get_915e3 5 = .ok (.invokestatic 118, 3) := by decide +kernel
theorem dJx4a65c_get_915e3_8 : decode cJx4a65c_get_915e3 8 = .ok (.pop, 1) := by decide +kernel
theorem dJx4a65c_get_915e3_9 : decode cJx4a65c_get_915e3 9 = .ok (.aload_n 0, 1) := by decide +kernel
theorem dJx4a65c_get_915e3_10 : decode cJx4a65c_get_915e3 10 = .ok (.iload_n 1, 1) := by decide +kernel
theorem dJx4a65c_get_915e3_11 : decode cJx4a65c_get_915e3 11 = .ok (.invokevirtual 123, 3) := by decide +kernel
theorem dJx4a65c_get_915e3_14 : decode cJx4a65c_get_915e3 14 = .ok (.areturn, 1) := by decide +kernel
theorem dJx4a65c_add_72be8_0 : decode cJx4a65c_add_72be8 0 = .ok (.iload_n 3, 1) := by decide +kernel
theorem dJx4a65c_add_72be8_1 : decode cJx4a65c_add_72be8 1 = .ok (.aload_n 2, 1) := by decide +kernel
theorem dJx4a65c_add_72be8_2 : decode cJx4a65c_add_72be8 2 = .ok (.arraylength, 1) := by decide +kernel
theorem dJx4a65c_add_72be8_3 : decode cJx4a65c_add_72be8 3 = .ok (.if_icmp .ne 8, 3) := by decide +kernel
theorem dJx4a65c_add_72be8_6 : decode cJx4a65c_add_72be8 6 = .ok (.aload_n 0, 1) := by decide +kernel
theorem dJx4a65c_add_72be8_7 : decode cJx4a65c_add_72be8 7 = .ok (.invokevirtual 129, 3) := by decide +kernel
theorem dJx4a65c_add_72be8_10 : decode cJx4a65c_add_72be8 10 = .ok (.astore_n 2, 1) := by decide +kernel
theorem dJx4a65c_add_72be8_11 : decode cJx4a65c_add_72be8 11 = .ok (.aload_n 2, 1) := by decide +kernel
theorem dJx4a65c_add_72be8_12 : decode cJx4a65c_add_72be8 12 = .ok (.iload_n 3, 1) := by decide +kernel
theorem dJx4a65c_add_72be8_13 : decode cJx4a65c_add_72be8 13 = .ok (.aload_n 1, 1) := by decide +kernel
theorem dJx4a65c_add_72be8_14 : decode cJx4a65c_add_72be8 14 = .ok (.aastore, 1) := by decide +kernel
theorem dJx4a65c_add_72be8_15 : decode cJx4a65c_add_72be8 15 = .ok (.aload_n 0, 1) := by decide +kernel
theorem dJx4a65c_add_72be8_16 : decode cJx4a65c_add_72be8 16 = .ok (.iload_n 3, 1) := by decide +kernel
theorem dJx4a65c_add_72be8_17 : decode cJx4a65c_add_72be8 17 = .ok (.iconst 1, 1) := by decide +kernel
theorem dJx4a65c_add_72be8_18 : decode cJx4a65c_add_72be8 18 = .ok (.iadd, 1) := by decide +kernel
theorem dJx4a65c_add_72be8_19 : decode cJx4a65c_add_72be8 19 = .ok (.putfield 48, 3) := by decide +kernel
theorem dJx4a65c_add_72be8_22 : decode cJx4a65c_add_72be8 22 = .ok (.return_, 1) := by decide +kernel
theorem dJx4a65c_add_9ea2d_0 : decode cJx4a65c_add_9ea2d 0 = .ok (.aload_n 0, 1) := by decide +kernel
theorem dJx4a65c_add_9ea2d_1 : decode cJx4a65c_add_9ea2d 1 = .ok (.dup, 1) := by decide +kernel
theorem dJx4a65c_add_9ea2d_2 : decode cJx4a65c_add_9ea2d 2 = .ok (.getfield 63, 3) := by decide +kernel
theorem dJx4a65c_add_9ea2d_5 : decode cJx4a65c_add_9ea2d 5 = .ok (.iconst 1, 1) := by decide +kernel
theorem dJx4a65c_add_9ea2d_6 : decode cJx4a65c_add_9ea2d 6 = .ok (.iadd, 1) := by decide +kernel
theorem dJx4a65c_add_9ea2d_7 : decode cJx4a65c_add_9ea2d 7 = .ok (.putfield 63, 3) := by decide +kernel
theorem dJx4a65c_add_9ea2d_10 : decode cJx4a65c_add_9ea2d 10 = .ok (.aload_n 0, 1) := by decide +kernel
theorem dJx4a65c_add_9ea2d_11 : decode cJx4a65c_add_9ea2d 11 = .ok (.aload_n 1, 1) := by decide +kernel
theorem dJx4a65c_add_9ea2d_12 : decode cJx4a65c_add_9ea2d 12 = .ok (.aload_n 0, 1) := by decide +kernel
theorem dJx4a65c_add_9ea2d_13 : decode cJx4a65c_add_9ea2d 13 = .ok (.getfield 9, 3) := by decide +kernel
theorem dJx4a65c_add_9ea2d_16 : decode cJx4a65c_add_9ea2d 16 = .ok (.aload_n 0, 1) := by decide +kernel
theorem dJx4a65c_add_9ea2d_17 : decode cJx4a65c_add_9ea2d 17 = .ok (.getfield 48, 3) := by decide +kernel
theorem dJx4a65c_add_9ea2d_20 : decode cJx4a65c_add_9ea2d 20 = .ok (.invokevirtual 131, 3) := by decide +kernel
theorem dJx4a65c_add_9ea2d_23 : decode cJx4a65c_add_9ea2d 23 = .ok (.iconst 1, 1) := by decide +kernel
theorem dJx4a65c_add_9ea2d_24 : decode cJx4a65c_add_9ea2d 24 = .ok (.ireturn, 1) := by decide +kernel
theorem dJ7_copyOf_1904c_0 : decode cJ7_copyOf_1904c 0 = .ok (.aload_n 0, 1) := by decide +kernel
theorem dJ7_copyOf_1904c_1 : decode cJ7_copyOf_1904c 1 = .ok (.iload_n 1, 1) := by decide +kernel
theorem dJ7_copyOf_1904c_2 : decode cJ7_copyOf_1904c 2 = .ok (.aload_n 0, 1) := by decide +kernel
theorem dJ7_copyOf_1904c_3 : decode cJ7_copyOf_1904c 3 = .ok (.invokevirtual 86, 3) := by decide +kernel
theorem dJ7_copyOf_1904c_6 : decode cJ7_copyOf_1904c 6 = .ok (.invokestatic 300, 3) := by decide +kernel
theorem dJ7_copyOf_1904c_9 : decode cJ7_copyOf_1904c 9 = .ok (.areturn, 1) := by decide +kernel
theorem dJ7_copyOf_6403c_0 : decode cJ7_copyOf_6403c 0 = .ok (.aload_n 2, 1) := by decide +kernel
theorem dJ7_copyOf_6403c_1 : decode cJ7_copyOf_6403c 1 = .ok (.ldc 110, 2) := by decide +kernel
theorem dJ7_copyOf_6403c_3 : decode cJ7_copyOf_6403c 3 = .ok (.if_acmp .ne 10, 3) := by decide +kernel
theorem dJ7_copyOf_6403c_6 : decode cJ7_copyOf_6403c 6 = .ok (.iload_n 1, 1) := by decide +kernel
theorem dJ7_copyOf_6403c_7 : decode cJ7_copyOf_6403c 7 = .ok (.anewarray 2, 3) := by decide +kernel
theorem dJ7_copyOf_6403c_10 : decode cJ7_copyOf_6403c 10 = .ok (.goto 14, 3) := by decide +kernel
theorem dJ7_copyOf_6403c_13 : decode cJ7_copyOf_6403c 13 = .ok (.aload_n 2, 1) := by decide +kernel
theorem dJ7_copyOf_6403c_14 : decode cJ7_copyOf_6403c 14 = .ok (.invokevirtual 90, 3) := by decide +kernel
theorem dJ7_copyOf_6403c_17 : decode cJ7_copyOf_6403c 17 = .ok (.iload_n 1, 1) := by decide +kernel
theorem dJ7_copyOf_6403c_18 : decode cJ7_copyOf_6403c 18 = .ok (.invokestatic 95, 3) := by decide +kernel
theorem dJ7_copyOf_6403c_21 : decode cJ7_copyOf_6403c 21 = .ok (.checkcast 110, 3) := by decide +kernel
theorem dJ7_copyOf_6403c_24 : decode cJ7_copyOf_6403c 24 = .ok (.astore_n 3, 1) := by decide +kernel
theorem dJ7_copyOf_6403c_25 : decode cJ7_copyOf_6403c 25 = .ok (.aload_n 0, 1) := by decide +kernel
theorem dJ7_copyOf_6403c_26 : decode cJ7_copyOf_6403c 26 = .ok (.iconst 0, 1) := by decide +kernel
theorem dJ7_copyOf_6403c_27 : decode cJ7_copyOf_6403c 27 = .ok (.aload_n 3, 1) := by decide +kernel
theorem dJ7_copyOf_6403c_28 : decode cJ7_copyOf_6403c 28 = .ok (.iconst 0, 1) := by decide +kernel
theorem dJ7_copyOf_6403c_29 : decode cJ7_copyOf_6403c 29 = .ok (.aload_n 0, 1) := by decide +kernel
theorem dJ7_copyOf_6403c_30 : decode cJ7_copyOf_6403c 30 = .ok (.arraylength, 1) := by decide +kernel
theorem dJ7_copyOf_6403c_31 : decode cJ7_copyOf_6403c 31 = .ok (.iload_n 1, 1) := by decide +kernel
theorem dJ7_copyOf_6403c_32 : decode cJ7_copyOf_6403c 32 = .ok (.invokestatic 304, 3) := by decide +kernel
theorem dJ7_copyOf_6403c_35 : decode cJ7_copyOf_6403c 35 = .ok (.invokestatic 150, 3) := by decide +kernel
theorem dJ7_copyOf_6403c_38 : decode cJ7_copyOf_6403c 38 = .ok (.aload_n 3, 1) := by decide +kernel
theorem dJ7_copyOf_6403c_39 : decode cJ7_copyOf_6403c 39 = .ok (.areturn, 1) := by decide +kernel
theorem dJ15_checkIndex_7cf53_0 : decode cJ15_checkIndex_7cf53 0 = .ok (.iload_n 0, 1) := by decide +kernel
theorem dJ15_checkIndex_7cf53_1 : decode cJ15_checkIndex_7cf53 1 = .ok (.iload_n 1, 1) := by decide +kernel
theorem dJ15_checkIndex_7cf53_2 : decode cJ15_checkIndex_7cf53 2 = .ok (.aconst_null, 1) := by decide +kernel
theorem dJ15_checkIndex_7cf53_3 : decode cJ15_checkIndex_7cf53 3 = .ok (.invokestatic 105, 3) := by decide +kernel
theorem dJ15_checkIndex_7cf53_6 : decode cJ15_checkIndex_7cf53 6 = .ok (.ireturn, 1) := by decide +kernel
theorem dJ8_newLength_cabcc_0 : decode cJ8_newLength_cabcc 0 = .ok (.iload_n 0, 1) := by decide +kernel
theorem dJ8_newLength_cabcc_1 : decode cJ8_newLength_cabcc 1 = .ok (.iload_n 1, 1) := by decide +kernel
theorem dJ8_newLength_cabcc_2 : decode cJ8_newLength_cabcc 2 = .ok (.iload_n 2, 1) := by decide +kernel
theorem dJ8_newLength_cabcc_3 : decode cJ8_newLength_cabcc 3 = .ok (.invokestatic 194, 3) := by decide +kernel
theorem dJ8_newLength_cabcc_6 : decode cJ8_newLength_cabcc 6 = .ok (.iadd, 1) := by decide +kernel
theorem dJ8_newLength_cabcc_7 : decode cJ8_newLength_cabcc 7 = .ok (.istore_n 3, 1) := by decide +kernel
theorem dJ8_newLength_cabcc_8 : decode cJ8_newLength_cabcc 8 = .ok (.iconst 0, 1) := by decide +kernel
theorem dJ8_newLength_cabcc_9 : decode cJ8_newLength_cabcc 9 = .ok (.iload_n 3, 1) := by decide +kernel
theorem dJ8_newLength_cabcc_10 : decode cJ8_newLength_cabcc 10 = .ok (.if_icmp .ge 11, 3) := by decide +kernel
theorem dJ8_newLength_cabcc_13 : decode cJ8_newLength_cabcc 13 = .ok (.iload_n 3, 1) := by decide +kernel
theorem dJ8_newLength_cabcc_14 : decode cJ8_newLength_cabcc 14 = .ok (.ldc 200, 2) := by decide +kernel
theorem dJ8_newLength_cabcc_16 : decode cJ8_newLength_cabcc 16 = .ok (.if_icmp .gt 5, 3) := by decide +kernel
theorem dJ8_newLength_cabcc_19 : decode cJ8_newLength_cabcc 19 = .ok (.iload_n 3, 1) := by decide +kernel
theorem dJ8_newLength_cabcc_20 : decode cJ8_newLength_cabcc 20 = .ok (.ireturn, 1) := by decide +kernel
theorem dJ8_newLength_cabcc_21 : decode cJ8_newLength_cabcc 21 = .ok (.iload_n 0, 1) := by decide +kernel
theorem dJ8_newLength_cabcc_22 : decode cJ8_newLength_cabcc 22 = .ok (.iload_n 1, 1) := by decide +kernel
theorem dJ8_newLength_cabcc_23 : decode cJ8_newLength_cabcc 23 = .ok (.invokestatic 201, 3) := by decide +kernel
theorem dJ8_newLength_cabcc_26 : decode cJ8_newLength_cabcc 26 = .ok (.ireturn, 1) := by decide +kernel
theorem dJ8_hugeLength_7cf53_0 : decode cJ8_hugeLength_7cf53 0 = .ok (.iload_n 0, 1) := by decide +kernel
theorem dJ8_hugeLength_7cf53_1 : decode cJ8_hugeLength_7cf53 1 = .ok (.iload_n 1, 1) := by decide +kernel
theorem dJ8_hugeLength_7cf53_2 : decode cJ8_hugeLength_7cf53 2 = .ok (.iadd, 1) := by decide +kernel
theorem dJ8_hugeLength_7cf53_3 : decode cJ8_hugeLength_7cf53 3 = .ok (.istore_n 2, 1) := by decide +kernel
theorem dJ8_hugeLength_7cf53_4 : decode cJ8_hugeLength_7cf53 4 = .ok (.iload_n 2, 1) := by decide +kernel
theorem dJ8_hugeLength_7cf53_5 : decode cJ8_hugeLength_7cf53 5 = .ok (.ifCond .ge 44, 3) := by decide +kernel
theorem dJ8_hugeLength_7cf53_8 : decode cJ8_hugeLength_7cf53 8 = .ok (.new 204, 3) := by decide +kernel
theorem dJ8_hugeLength_7cf53_11 : decode cJ8_hugeLength_7cf53 11 = .ok (.dup, 1) := by decide +kernel
theorem dJ8_hugeLength_7cf53_12 : decode cJ8_hugeLength_7cf53 12 = .ok (.new 89, 3) := by decide +kernel
theorem dJ8_hugeLength_7cf53_15 : decode cJ8_hugeLength_7cf53 15 = .ok (.dup, 1) := by decide +kernel
theorem dJ8_hugeLength_7cf53_16 : decode cJ8_hugeLength_7cf53 16 = .ok (.invokespecial 91, 3) := by decide +kernel
theorem dJ8_hugeLength_7cf53_19 : decode cJ8_hugeLength_7cf53 19 = .ok (.ldc 206, 2) := by decide +kernel
theorem dJ8_hugeLength_7cf53_21 : decode cJ8_hugeLength_7cf53 21 = .ok (.invokevirtual 94, 3) := by decide +kernel
theorem dJ8_hugeLength_7cf53_24 : decode cJ8_hugeLength_7cf53 24 = .ok (.iload_n 0, 1) := by decide +kernel
theorem dJ8_hugeLength_7cf53_25 : decode cJ8_hugeLength_7cf53 25 = .ok (.invokevirtual 98, 3) := by decide +kernel
theorem dJ8_hugeLength_7cf53_28 : decode cJ8_hugeLength_7cf53 28 = .ok (.ldc 208, 2) := by decide +kernel
theorem dJ8_hugeLength_7cf53_30 : decode cJ8_hugeLength_7cf53 30 = .ok (.invokevirtual 94, 3) := by decide +kernel
theorem dJ8_hugeLength_7cf53_33 : decode cJ8_hugeLength_7cf53 33 = .ok (.iload_n 1, 1) := by decide +kernel
theorem dJ8_hugeLength_7cf53_34 : decode cJ8_hugeLength_7cf53 34 = .ok (.invokevirtual 98, 3) := by decide +kernel
theorem dJ8_hugeLength_7cf53_37 : decode cJ8_hugeLength_7cf53 37 = .ok (.ldc 210, 2) := by decide +kernel
theorem dJ8_hugeLength_7cf53_39 : decode cJ8_hugeLength_7cf53 39 = .ok (.invokevirtual 94, 3) := by decide +kernel
theorem dJ8_hugeLength_7cf53_42 : decode cJ8_hugeLength_7cf53 42 = .ok (.invokevirtual 101, 3) := by decide +kernel
theorem dJ8_hugeLength_7cf53_45 : decode cJ8_hugeLength_7cf53 45 = .ok (.invokespecial 212, 3) := by decide +kernel
theorem dJ8_hugeLength_7cf53_48 : decode cJ8_hugeLength_7cf53 48 = .ok (.athrow, 1) := by decide +kernel
theorem dJ8_hugeLength_7cf53_49 : decode cJ8_hugeLength_7cf53 49 = .ok (.iload_n 2, 1) := by decide +kernel
theorem dJ8_hugeLength_7cf53_50 : decode cJ8_hugeLength_7cf53 50 = .ok (.ldc 200, 2) := by decide +kernel
theorem dJ8_hugeLength_7cf53_52 : decode cJ8_hugeLength_7cf53 52 = .ok (.if_icmp .gt 6, 3) := by decide +kernel
theorem dJ8_hugeLength_7cf53_55 : decode cJ8_hugeLength_7cf53 55 = .ok (.ldc 200, 2) := by decide +kernel
theorem dJ8_hugeLength_7cf53_57 : decode cJ8_hugeLength_7cf53 57 = .ok (.ireturn, 1) := by decide +kernel
theorem dJ8_hugeLength_7cf53_58 : decode cJ8_hugeLength_7cf53 58 = .ok (.iload_n 2, 1) := by decide +kernel
theorem dJ8_hugeLength_7cf53_59 : decode cJ8_hugeLength_7cf53 59 = .ok (.ireturn, 1) := by decide +kernel
theorem dJ3_checkIndex_8e157_0 : decode cJ3_checkIndex_8e157 0 = .ok (.iload_n 0, 1) := by decide +kernel
theorem dJ3_checkIndex_8e157_1 : decode cJ3_checkIndex_8e157 1 = .ok (.ifCond .lt 8, 3) := by decide +kernel
theorem dJ3_checkIndex_8e157_4 : decode cJ3_checkIndex_8e157 4 = .ok (.iload_n 0, 1) := by decide +kernel
theorem dJ3_checkIndex_8e157_5 : decode cJ3_checkIndex_8e157 5 = .ok (.iload_n 1, 1) := by decide +kernel
theorem dJ3_checkIndex_8e157_6 : decode cJ3_checkIndex_8e157 6 = .ok (.if_icmp .lt 10, 3) := by decide +kernel
theorem dJ3_checkIndex_8e157_9 : decode cJ3_checkIndex_8e157 9 = .ok (.aload_n 2, 1) := by decide +kernel
theorem dJ3_checkIndex_8e157_10 : decode cJ3_checkIndex_8e157 10 = .ok (.iload_n 0, 1) := by decide +kernel
theorem dJ3_checkIndex_8e157_11 : decode cJ3_checkIndex_8e157 11 = .ok (.iload_n 1, 1) := by decide +kernel
theorem dJ3_checkIndex_8e157_12 : decode cJ3_checkIndex_8e157 12 = .ok (.invokestatic 95, 3) := by decide +kernel
theorem dJ3_checkIndex_8e157_15 : decode cJ3_checkIndex_8e157 15 = .ok (.athrow, 1) := by decide +kernel
theorem dJ3_checkIndex_8e157_16 : decode cJ3_checkIndex_8e157 16 = .ok (.iload_n 0, 1) := by decide +kernel
theorem dJ3_checkIndex_8e157_17 : decode cJ3_checkIndex_8e157 17 = .ok (.ireturn, 1) := by decide +kernel
theorem dX0_init_0 : decode cX0_init 0 = .ok (.aload_n 0, 1) := by decide +kernel
theorem dX0_init_1 : decode cX0_init 1 = .ok (.invokespecial 3, 3) := by decide +kernel
theorem dX0_init_4 : decode cX0_init 4 = .ok (.aload_n 0, 1) := by decide +kernel
theorem dX0_init_5 : decode cX0_init 5 = .ok (.bipush 100, 2) := by decide +kernel
theorem dX0_init_7 : decode cX0_init 7 = .ok (.putfield 9, 3) := by decide +kernel
theorem dX0_init_10 : decode cX0_init 10 = .ok (.return_, 1) := by decide +kernel
theorem dX1_init_0 : decode cX1_init 0 = .ok (.aload_n 0, 1) := by decide +kernel
theorem dX1_init_1 : decode cX1_init 1 = .ok (.invokespecial 3, 3) := by decide +kernel
theorem dX1_init_4 : decode cX1_init 4 = .ok (.aload_n 0, 1) := by decide +kernel
theorem dX1_init_5 : decode cX1_init 5 = .ok (.new 9, 3) := by decide +kernel
theorem dX1_init_8 : decode cX1_init 8 = .ok (.dup, 1) := by decide +kernel
theorem dX1_init_9 : decode cX1_init 9 = .ok (.invokespecial 11, 3) := by decide +kernel
theorem dX1_init_12 : decode cX1_init 12 = .ok (.putfield 12, 3) := by decide +kernel
theorem dX1_init_15 : decode cX1_init 15 = .ok (.aload_n 0, 1) := by decide +kernel
theorem dX1_init_16 : decode cX1_init 16 = .ok (.new 9, 3) := by decide +kernel
theorem dX1_init_19 : decode cX1_init 19 = .ok (.dup, 1) := by decide +kernel
theorem dX1_init_20 : decode cX1_init 20 = .ok (.invokespecial 11, 3) := by decide +kernel
theorem dX1_init_23 : decode cX1_init 23 = .ok (.putfield 18, 3) := by decide +kernel
theorem dX1_init_26 : decode cX1_init 26 = .ok (.return_, 1) := by decide +kernel
theorem dX1_followOf_0 : decode cX1_followOf 0 = .ok (.iload_n 1, 1) := by decide +kernel
theorem dX1_followOf_1 : decode cX1_followOf 1 = .ok (.ifCond .eq 10, 3) := by decide +kernel
theorem dX1_followOf_4 : decode cX1_followOf 4 = .ok (.aload_n 0, 1) := by decide +kernel
theorem dX1_followOf_5 : decode cX1_followOf 5 = .ok (.getfield 12, 3) := by decide +kernel
theorem dX1_followOf_8 : decode cX1_followOf 8 = .ok (.goto 7, 3) := by decide +kernel
theorem dX1_followOf_11 : decode cX1_followOf 11 = .ok (.aload_n 0, 1) := by decide +kernel
theorem dX1_followOf_12 : decode cX1_followOf 12 = .ok (.getfield 18, 3) := by decide +kernel
theorem dX1_followOf_15 : decode cX1_followOf 15 = .ok (.areturn, 1) := by decide +kernel
theorem dX1_timeOf_0 : decode cX1_timeOf 0 = .ok (.aload_n 1, 1) := by decide +kernel
theorem dX1_timeOf_1 : decode cX1_timeOf 1 = .ok (.iload_n 2, 1) := by decide +kernel
theorem dX1_timeOf_2 : decode cX1_timeOf 2 = .ok (.invokevirtual 21, 3) := by decide +kernel
theorem dX1_timeOf_5 : decode cX1_timeOf 5 = .ok (.aload_n 0, 1) := by decide +kernel
theorem dX1_timeOf_6 : decode cX1_timeOf 6 = .ok (.aload_n 1, 1) := by decide +kernel
theorem dX1_timeOf_7 : decode cX1_timeOf 7 = .ok (.iload_n 2, 1) := by decide +kernel
theorem dX1_timeOf_8 : decode cX1_timeOf 8 = .ok (.invokevirtual 27, 3) := by decide +kernel
theorem dX1_timeOf_11 : decode cX1_timeOf 11 = .ok (.invokevirtual 31, 3) := by decide +kernel
theorem dX1_timeOf_14 : decode cX1_timeOf 14 = .ok (.getfield 35, 3) := by decide +kernel
theorem dX1_timeOf_17 : decode cX1_timeOf 17 = .ok (.iadd, 1) := by decide +kernel
theorem dX1_timeOf_18 : decode cX1_timeOf 18 = .ok (.ireturn, 1) := by decide +kernel
theorem dX1_heightOf_0 : decode cX1_heightOf 0 = .ok (.aload_n 0, 1) := by decide +kernel
theorem dX1_heightOf_1 : decode cX1_heightOf 1 = .ok (.aload_n 1, 1) := by decide +kernel
theorem dX1_heightOf_2 : decode cX1_heightOf 2 = .ok (.iload_n 2, 1) := by decide +kernel
theorem dX1_heightOf_3 : decode cX1_heightOf 3 = .ok (.invokevirtual 27, 3) := by decide +kernel
theorem dX1_heightOf_6 : decode cX1_heightOf 6 = .ok (.invokevirtual 31, 3) := by decide +kernel
theorem dX1_heightOf_9 : decode cX1_heightOf 9 = .ok (.getfield 39, 3) := by decide +kernel
theorem dX1_heightOf_12 : decode cX1_heightOf 12 = .ok (.istore_n 3, 1) := by decide +kernel
theorem dX1_heightOf_13 : decode cX1_heightOf 13 = .ok (.aload_n 1, 1) := by decide +kernel
theorem dX1_heightOf_14 : decode cX1_heightOf 14 = .ok (.iload_n 2, 1) := by decide +kernel
theorem dX1_heightOf_15 : decode cX1_heightOf 15 = .ok (.invokevirtual 42, 3) := by decide +kernel
theorem dX1_heightOf_18 : decode cX1_heightOf 18 = .ok (.iload_n 3, 1) := by decide +kernel
theorem dX1_heightOf_19 : decode cX1_heightOf 19 = .ok (.imul, 1) := by decide +kernel
theorem dX1_heightOf_20 : decode cX1_heightOf 20 = .ok (.bipush 100, 2) := by decide +kernel
theorem dX1_heightOf_22 : decode cX1_heightOf 22 = .ok (.idiv, 1) := by decide +kernel
theorem dX1_heightOf_23 : decode cX1_heightOf 23 = .ok (.aload_n 0, 1) := by decide +kernel
theorem dX1_heightOf_24 : decode cX1_heightOf 24 = .ok (.getfield 45, 3) := by decide +kernel
theorem dX1_heightOf_27 : decode cX1_heightOf 27 = .ok (.iadd, 1) := by decide +kernel
theorem dX1_heightOf_28 : decode cX1_heightOf 28 = .ok (.ireturn, 1) := by decide +kernel
theorem dX1_isOrderly_0 : decode cX1_isOrderly 0 = .ok (.iconst 1, 1) := by decide +kernel
theorem dX1_isOrderly_1 : decode cX1_isOrderly 1 = .ok (.istore_n 2, 1) := by decide +kernel
theorem dX1_isOrderly_2 : decode cX1_isOrderly 2 = .ok (.iload_n 2, 1) := by decide +kernel
theorem dX1_isOrderly_3 : decode cX1_isOrderly 3 = .ok (.aload_n 1, 1) := by decide +kernel
theorem dX1_isOrderly_4 : decode cX1_isOrderly 4 = .ok (.getfield 48, 3) := by decide +kernel
theorem dX1_isOrderly_7 : decode cX1_isOrderly 7 = .ok (.if_icmp .ge 28, 3) := by decide +kernel
theorem dX1_isOrderly_10 : decode cX1_isOrderly 10 = .ok (.aload_n 0, 1) := by decide +kernel
theorem dX1_isOrderly_11 : decode cX1_isOrderly 11 = .ok (.aload_n 1, 1) := by decide +kernel
theorem dX1_isOrderly_12 : decode cX1_isOrderly 12 = .ok (.iload_n 2, 1) := by decide +kernel
theorem dX1_isOrderly_13 : decode cX1_isOrderly 13 = .ok (.invokevirtual 51, 3) := by decide +kernel
theorem dX1_isOrderly_16 : decode cX1_isOrderly 16 = .ok (.aload_n 0, 1) := by decide +kernel
theorem dX1_isOrderly_17 : decode cX1_isOrderly 17 = .ok (.aload_n 1, 1) := by decide +kernel
theorem dX1_isOrderly_18 : decode cX1_isOrderly 18 = .ok (.iload_n 2, 1) := by decide +kernel
theorem dX1_isOrderly_19 : decode cX1_isOrderly 19 = .ok (.iconst 1, 1) := by decide +kernel
theorem dX1_isOrderly_20 : decode cX1_isOrderly 20 = .ok (.isub, 1) := by decide +kernel
theorem dX1_isOrderly_21 : decode cX1_isOrderly 21 = .ok (.invokevirtual 51, 3) := by decide +kernel
theorem dX1_isOrderly_24 : decode cX1_isOrderly 24 = .ok (.if_icmp .gt 5, 3) := by decide +kernel
theorem dX1_isOrderly_27 : decode cX1_isOrderly 27 = .ok (.iconst 0, 1) := by decide +kernel
theorem dX1_isOrderly_28 : decode cX1_isOrderly 28 = .ok (.ireturn, 1) := by decide +kernel
theorem dX1_isOrderly_29 : decode cX1_isOrderly 29 = .ok (.iinc 2 1, 3) := by decide +kernel
theorem dX1_isOrderly_32 : decode cX1_isOrderly 32 = .ok (.goto (-30), 3) := by decide +kernel
theorem dX1_isOrderly_35 : decode cX1_isOrderly 35 = .ok (.iconst 1, 1) := by decide +kernel
theorem dX1_isOrderly_36 : decode cX1_isOrderly 36 = .ok (.ireturn, 1) := by decide +kernel
theorem dX1_latestWater_0 : decode cX1_latestWater 0 = .ok (.iload_n 2, 1) := by decide +kernel
theorem dX1_latestWater_1 : decode cX1_latestWater 1 = .ok (.istore 4, 2) := by decide +kernel
theorem dX1_latestWater_3 : decode cX1_latestWater 3 = .ok (.iload_n 2, 1) := by decide +kernel
theorem dX1_latestWater_4 : decode cX1_latestWater 4 = .ok (.iconst 1, 1) := by decide +kernel
theorem dX1_latestWater_5 : decode cX1_latestWater 5 = .ok (.iadd, 1) := by decide +kernel
theorem dX1_latestWater_6 : decode cX1_latestWater 6 = .ok (.istore 5, 2) := by decide +kernel
theorem dX1_latestWater_8 : decode cX1_latestWater 8 = .ok (.iload 5, 2) := by decide +kernel
theorem dX1_latestWater_10 : decode cX1_latestWater 10 = .ok (.aload_n 1, 1) := by decide +kernel
theorem dX1_latestWater_11 : decode cX1_latestWater 11 = .ok (.getfield 48, 3) := by decide +kernel
theorem dX1_latestWater_14 : decode cX1_latestWater 14 = .ok (.if_icmp .ge 27, 3) := by decide +kernel
theorem dX1_latestWater_17 : decode cX1_latestWater 17 = .ok (.aload_n 0, 1) := by decide +kernel
theorem dX1_latestWater_18 : decode cX1_latestWater 18 = .ok (.aload_n 1, 1) := by decide +kernel
theorem dX1_latestWater_19 : decode cX1_latestWater 19 = .ok (.iload 5, 2) := by decide +kernel
theorem dX1_latestWater_21 : decode cX1_latestWater 21 = .ok (.invokevirtual 51, 3) := by decide +kernel
theorem dX1_latestWater_24 : decode cX1_latestWater 24 = .ok (.iload_n 3, 1) := by decide +kernel
theorem dX1_latestWater_25 : decode cX1_latestWater 25 = .ok (.if_icmp .le 6, 3) := by decide +kernel
theorem dX1_latestWater_28 : decode cX1_latestWater 28 = .ok (.goto 13, 3) := by decide +kernel
theorem dX1_latestWater_31 : decode cX1_latestWater 31 = .ok (.iload 5, 2) := by decide +kernel
theorem dX1_latestWater_33 : decode cX1_latestWater 33 = .ok (.istore 4, 2) := by decide +kernel
theorem dX1_latestWater_35 : decode cX1_latestWater 35 = .ok (.iinc 5 1, 3) := by decide +kernel
theorem dX1_latestWater_38 : decode cX1_latestWater 38 = .ok (.goto (-30), 3) := by decide +kernel
theorem dX1_latestWater_41 : decode cX1_latestWater 41 = .ok (.iload 4, 2) := by decide +kernel
theorem dX1_latestWater_43 : decode cX1_latestWater 43 = .ok (.ireturn, 1) := by decide +kernel
theorem dX1_heightBehind_0 : decode cX1_heightBehind 0 = .ok (.aload_n 0, 1) := by decide +kernel
theorem dX1_heightBehind_1 : decode cX1_heightBehind 1 = .ok (.aload_n 1, 1) := by decide +kernel
theorem dX1_heightBehind_2 : decode cX1_heightBehind 2 = .ok (.iload_n 2, 1) := by decide +kernel
theorem dX1_heightBehind_3 : decode cX1_heightBehind 3 = .ok (.invokevirtual 51, 3) := by decide +kernel
theorem dX1_heightBehind_6 : decode cX1_heightBehind 6 = .ok (.i2l, 1) := by decide +kernel
theorem dX1_heightBehind_7 : decode cX1_heightBehind 7 = .ok (.lstore 4, 2) := by decide +kernel
theorem dX1_heightBehind_9 : decode cX1_heightBehind 9 = .ok (.aload_n 0, 1) := by decide +kernel
theorem dX1_heightBehind_10 : decode cX1_heightBehind 10 = .ok (.aload_n 1, 1) := by decide +kernel
theorem dX1_heightBehind_11 : decode cX1_heightBehind 11 = .ok (.iload_n 2, 1) := by decide +kernel
theorem dX1_heightBehind_12 : decode cX1_heightBehind 12 = .ok (.iconst 1, 1) := by decide +kernel
theorem dX1_heightBehind_13 : decode cX1_heightBehind 13 = .ok (.iadd, 1) := by decide +kernel
theorem dX1_heightBehind_14 : decode cX1_heightBehind 14 = .ok (.invokevirtual 51, 3) := by decide +kernel
theorem dX1_heightBehind_17 : decode cX1_heightBehind 17 = .ok (.i2l, 1) := by decide +kernel
theorem dX1_heightBehind_18 : decode cX1_heightBehind 18 = .ok (.lload 4, 2) := by decide +kernel
theorem dX1_heightBehind_20 : decode cX1_heightBehind 20 = .ok (.lsub, 1) := by decide +kernel
theorem dX1_heightBehind_21 : decode cX1_heightBehind 21 = .ok (.lstore 6, 2) := by decide +kernel
theorem dX1_heightBehind_23 : decode cX1_heightBehind 23 = .ok (.aload_n 0, 1) := by decide +kernel
theorem dX1_heightBehind_24 : decode cX1_heightBehind 24 = .ok (.aload_n 1, 1) := by decide +kernel
theorem dX1_heightBehind_25 : decode cX1_heightBehind 25 = .ok (.iload_n 2, 1) := by decide +kernel
theorem dX1_heightBehind_26 : decode cX1_heightBehind 26 = .ok (.invokevirtual 54, 3) := by decide +kernel
theorem dX1_heightBehind_29 : decode cX1_heightBehind 29 = .ok (.i2l, 1) := by decide +kernel
theorem dX1_heightBehind_30 : decode cX1_heightBehind 30 = .ok (.lstore 8, 2) := by decide +kernel
theorem dX1_heightBehind_32 : decode cX1_heightBehind 32 = .ok (.aload_n 0, 1) := by decide +kernel
theorem dX1_heightBehind_33 : decode cX1_heightBehind 33 = .ok (.aload_n 1, 1) := by decide +kernel
theorem dX1_heightBehind_34 : decode cX1_heightBehind 34 = .ok (.iload_n 2, 1) := by decide +kernel
theorem dX1_heightBehind_35 : decode cX1_heightBehind 35 = .ok (.iconst 1, 1) := by decide +kernel
theorem dX1_heightBehind_36 : decode cX1_heightBehind 36 = .ok (.iadd, 1) := by decide +kernel
theorem dX1_heightBehind_37 : decode cX1_heightBehind 37 = .ok (.invokevirtual 54, 3) := by decide +kernel
theorem dX1_heightBehind_40 : decode cX1_heightBehind 40 = .ok (.i2l, 1) := by decide +kernel
theorem dX1_heightBehind_41 : decode cX1_heightBehind 41 = .ok (.lload 8, 2) := by decide +kernel
theorem dX1_heightBehind_43 : decode cX1_heightBehind 43 = .ok (.lsub, 1) := by decide +kernel
theorem dX1_heightBehind_44 : decode cX1_heightBehind 44 = .ok (.lstore 10, 2) := by decide +kernel
theorem dX1_heightBehind_46 : decode cX1_heightBehind 46 = .ok (.iload_n 3, 1) := by decide +kernel
theorem dX1_heightBehind_47 : decode cX1_heightBehind 47 = .ok (.i2l, 1) := by decide +kernel
theorem dX1_heightBehind_48 : decode cX1_heightBehind 48 = .ok (.lload 4, 2) := by decide +kernel
theorem dX1_heightBehind_50 : decode cX1_heightBehind 50 = .ok (.lsub, 1) := by decide +kernel
theorem dX1_heightBehind_51 : decode cX1_heightBehind 51 = .ok (.lload 6, 2) := by decide +kernel
theorem dX1_heightBehind_53 : decode cX1_heightBehind 53 = .ok (.invokestatic 56, 3) := by decide +kernel
theorem dX1_heightBehind_56 : decode cX1_heightBehind 56 = .ok (.lstore 12, 2) := by decide +kernel
theorem dX1_heightBehind_58 : decode cX1_heightBehind 58 = .ok (.lload 8, 2) := by decide +kernel
theorem dX1_heightBehind_60 : decode cX1_heightBehind 60 = .ok (.lload 10, 2) := by decide +kernel
theorem dX1_heightBehind_62 : decode cX1_heightBehind 62 = .ok (.lload 12, 2) := by decide +kernel
theorem dX1_heightBehind_64 : decode cX1_heightBehind 64 = .ok (.lmul, 1) := by decide +kernel
theorem dX1_heightBehind_65 : decode cX1_heightBehind 65 = .ok (.ldc2_w 60, 3) := by decide +kernel
theorem dX1_heightBehind_68 : decode cX1_heightBehind 68 = .ok (.lload 6, 2) := by decide +kernel
theorem dX1_heightBehind_70 : decode cX1_heightBehind 70 = .ok (.lmul, 1) := by decide +kernel
theorem dX1_heightBehind_71 : decode cX1_heightBehind 71 = .ok (.invokestatic 62, 3) := by decide +kernel
theorem dX1_heightBehind_74 : decode cX1_heightBehind 74 = .ok (.ladd, 1) := by decide +kernel
theorem dX1_heightBehind_75 : decode cX1_heightBehind 75 = .ok (.l2i, 1) := by decide +kernel
theorem dX1_heightBehind_76 : decode cX1_heightBehind 76 = .ok (.ireturn, 1) := by decide +kernel
theorem dX1_twelfthsGone_0 : decode cX1_twelfthsGone 0 = .ok (.ldc2_w 65, 3) := by decide +kernel
theorem dX1_twelfthsGone_3 : decode cX1_twelfthsGone 3 = .ok (.lload_n 0, 1) := by decide +kernel
theorem dX1_twelfthsGone_4 : decode cX1_twelfthsGone 4 = .ok (.lmul, 1) := by decide +kernel
theorem dX1_twelfthsGone_5 : decode cX1_twelfthsGone 5 = .ok (.lload_n 2, 1) := by decide +kernel
theorem dX1_twelfthsGone_6 : decode cX1_twelfthsGone 6 = .ok (.invokestatic 62, 3) := by decide +kernel
theorem dX1_twelfthsGone_9 : decode cX1_twelfthsGone 9 = .ok (.l2i, 1) := by decide +kernel
theorem dX1_twelfthsGone_10 : decode cX1_twelfthsGone 10 = .ok (.istore 4, 2) := by decide +kernel
theorem dX1_twelfthsGone_12 : decode cX1_twelfthsGone 12 = .ok (.iload 4, 2) := by decide +kernel
theorem dX1_twelfthsGone_14 : decode cX1_twelfthsGone 14 = .ok (.ifCond .lt 21, 3) := by decide +kernel
theorem dX1_twelfthsGone_17 : decode cX1_twelfthsGone 17 = .ok (.iload 4, 2) := by decide +kernel
theorem dX1_twelfthsGone_19 : decode cX1_twelfthsGone 19 = .ok (.getstatic 67, 3) := by decide +kernel
theorem dX1_twelfthsGone_22 : decode cX1_twelfthsGone 22 = .ok (.arraylength, 1) := by decide +kernel
theorem dX1_twelfthsGone_23 : decode cX1_twelfthsGone 23 = .ok (.if_icmp .ge 12, 3) := by decide +kernel
theorem dX1_twelfthsGone_26 : decode cX1_twelfthsGone 26 = .ok (.iload 4, 2) := by decide +kernel
theorem dX1_twelfthsGone_28 : decode cX1_twelfthsGone 28 = .ok (.getstatic 71, 3) := by decide +kernel
theorem dX1_twelfthsGone_31 : decode cX1_twelfthsGone 31 = .ok (.arraylength, 1) := by decide +kernel
theorem dX1_twelfthsGone_32 : decode cX1_twelfthsGone 32 = .ok (.if_icmp .lt 5, 3) := by decide +kernel
theorem dX1_twelfthsGone_35 : decode cX1_twelfthsGone 35 = .ok (.lconst 0, 1) := by decide +kernel
theorem dX1_twelfthsGone_36 : decode cX1_twelfthsGone 36 = .ok (.lreturn, 1) := by decide +kernel
theorem dX1_twelfthsGone_37 : decode cX1_twelfthsGone 37 = .ok (.getstatic 71, 3) := by decide +kernel
theorem dX1_twelfthsGone_40 : decode cX1_twelfthsGone 40 = .ok (.iload 4, 2) := by decide +kernel
theorem dX1_twelfthsGone_42 : decode cX1_twelfthsGone 42 = .ok (.iaload, 1) := by decide +kernel
theorem dX1_twelfthsGone_43 : decode cX1_twelfthsGone 43 = .ok (.i2l, 1) := by decide +kernel
theorem dX1_twelfthsGone_44 : decode cX1_twelfthsGone 44 = .ok (.lload_n 2, 1) := by decide +kernel
theorem dX1_twelfthsGone_45 : decode cX1_twelfthsGone 45 = .ok (.lmul, 1) := by decide +kernel
theorem dX1_twelfthsGone_46 : decode cX1_twelfthsGone 46 = .ok (.getstatic 67, 3) := by decide +kernel
theorem dX1_twelfthsGone_49 : decode cX1_twelfthsGone 49 = .ok (.iload 4, 2) := by decide +kernel
theorem dX1_twelfthsGone_51 : decode cX1_twelfthsGone 51 = .ok (.iaload, 1) := by decide +kernel
theorem dX1_twelfthsGone_52 : decode cX1_twelfthsGone 52 = .ok (.i2l, 1) := by decide +kernel
theorem dX1_twelfthsGone_53 : decode cX1_twelfthsGone 53 = .ok (.ldc2_w 65, 3) := by decide +kernel
theorem dX1_twelfthsGone_56 : decode cX1_twelfthsGone 56 = .ok (.lload_n 0, 1) := by decide +kernel
theorem dX1_twelfthsGone_57 : decode cX1_twelfthsGone 57 = .ok (.lmul, 1) := by decide +kernel
theorem dX1_twelfthsGone_58 : decode cX1_twelfthsGone 58 = .ok (.iload 4, 2) := by decide +kernel
theorem dX1_twelfthsGone_60 : decode cX1_twelfthsGone 60 = .ok (.i2l, 1) := by decide +kernel
theorem dX1_twelfthsGone_61 : decode cX1_twelfthsGone 61 = .ok (.lload_n 2, 1) := by decide +kernel
theorem dX1_twelfthsGone_62 : decode cX1_twelfthsGone 62 = .ok (.lmul, 1) := by decide +kernel
theorem dX1_twelfthsGone_63 : decode cX1_twelfthsGone 63 = .ok (.lsub, 1) := by decide +kernel
theorem dX1_twelfthsGone_64 : decode cX1_twelfthsGone 64 = .ok (.lmul, 1) := by decide +kernel
theorem dX1_twelfthsGone_65 : decode cX1_twelfthsGone 65 = .ok (.ladd, 1) := by decide +kernel
theorem dX1_twelfthsGone_66 : decode cX1_twelfthsGone 66 = .ok (.lreturn, 1) := by decide +kernel
theorem dX3_init_0 : decode cX3_init 0 = .ok (.aload_n 0, 1) := by decide +kernel
theorem dX3_init_1 : decode cX3_init 1 = .ok (.invokespecial 3, 3) := by decide +kernel
theorem dX3_init_4 : decode cX3_init 4 = .ok (.aload_n 0, 1) := by decide +kernel
theorem dX3_init_5 : decode cX3_init 5 = .ok (.sipush 4320, 3) := by decide +kernel
theorem dX3_init_8 : decode cX3_init 8 = .ok (.newarray .int, 2) := by decide +kernel
theorem dX3_init_10 : decode cX3_init 10 = .ok (.putfield 9, 3) := by decide +kernel
theorem dX3_init_13 : decode cX3_init 13 = .ok (.aload_n 0, 1) := by decide +kernel
theorem dX3_init_14 : decode cX3_init 14 = .ok (.sipush 4320, 3) := by decide +kernel
theorem dX3_init_17 : decode cX3_init 17 = .ok (.newarray .int, 2) := by decide +kernel
theorem dX3_init_19 : decode cX3_init 19 = .ok (.putfield 15, 3) := by decide +kernel
theorem dX3_init_22 : decode cX3_init 22 = .ok (.aload_n 0, 1) := by decide +kernel
theorem dX3_init_23 : decode cX3_init 23 = .ok (.sipush 4320, 3) := by decide +kernel
theorem dX3_init_26 : decode cX3_init 26 = .ok (.newarray .int, 2) := by decide +kernel
theorem dX3_init_28 : decode cX3_init 28 = .ok (.putfield 18, 3) := by decide +kernel
theorem dX3_init_31 : decode cX3_init 31 = .ok (.aload_n 0, 1) := by decide +kernel
theorem dX3_init_32 : decode cX3_init 32 = .ok (.sipush 4320, 3) := by decide +kernel
theorem dX3_init_35 : decode cX3_init 35 = .ok (.newarray .boolean, 2) := by decide +kernel
theorem dX3_init_37 : decode cX3_init 37 = .ok (.putfield 21, 3) := by decide +kernel
theorem dX3_init_40 : decode cX3_init 40 = .ok (.return_, 1) := by decide +kernel
theorem dX3_fill_0 : decode cX3_fill 0 = .ok (.iconst 0, 1) := by decide +kernel
theorem dX3_fill_1 : decode cX3_fill 1 = .ok (.istore_n 2, 1) := by decide +kernel
theorem dX3_fill_2 : decode cX3_fill 2 = .ok (.iload_n 2, 1) := by decide +kernel
theorem dX3_fill_3 : decode cX3_fill 3 = .ok (.aload_n 0, 1) := by decide +kernel
theorem dX3_fill_4 : decode cX3_fill 4 = .ok (.getfield 9, 3) := by decide +kernel
theorem dX3_fill_7 : decode cX3_fill 7 = .ok (.arraylength, 1) := by decide +kernel
theorem dX3_fill_8 : decode cX3_fill 8 = .ok (.if_icmp .ge 20, 3) := by decide +kernel
theorem dX3_fill_11 : decode cX3_fill 11 = .ok (.aload_n 0, 1) := by decide +kernel
theorem dX3_fill_12 : decode cX3_fill 12 = .ok (.getfield 9, 3) := by decide +kernel
theorem dX3_fill_15 : decode cX3_fill 15 = .ok (.iload_n 2, 1) := by decide +kernel
theorem dX3_fill_16 : decode cX3_fill 16 = .ok (.aload_n 1, 1) := by decide +kernel
theorem dX3_fill_17 : decode cX3_fill 17 = .ok (.iload_n 2, 1) := by decide +kernel
theorem dX3_fill_18 : decode cX3_fill 18 = .ok (.invokevirtual 25, 3) := by decide +kernel
theorem dX3_fill_21 : decode cX3_fill 21 = .ok (.iastore, 1) := by decide +kernel
theorem dX3_fill_22 : decode cX3_fill 22 = .ok (.iinc 2 1, 3) := by decide +kernel
theorem dX3_fill_25 : decode cX3_fill 25 = .ok (.goto (-23), 3) := by decide +kernel
theorem dX3_fill_28 : decode cX3_fill 28 = .ok (.aload_n 0, 1) := by decide +kernel
theorem dX3_fill_29 : decode cX3_fill 29 = .ok (.invokevirtual 31, 3) := by decide +kernel
theorem dX3_fill_32 : decode cX3_fill 32 = .ok (.return_, 1) := by decide +kernel
theorem dX3_findWaters_0 : decode cX3_findWaters 0 = .ok (.aload_n 0, 1) := by decide +kernel
theorem dX3_findWaters_1 : decode cX3_findWaters 1 = .ok (.iconst 0, 1) := by decide +kernel
theorem dX3_findWaters_2 : decode cX3_findWaters 2 = .ok (.putfield 34, 3) := by decide +kernel
theorem dX3_findWaters_5 : decode cX3_findWaters 5 = .ok (.iconst 0, 1) := by decide +kernel
theorem dX3_findWaters_6 : decode cX3_findWaters 6 = .ok (.istore_n 1, 1) := by decide +kernel
theorem dX3_findWaters_7 : decode cX3_findWaters 7 = .ok (.iconst 0, 1) := by decide +kernel
theorem dX3_findWaters_8 : decode cX3_findWaters 8 = .ok (.istore_n 2, 1) := by decide +kernel
theorem dX3_findWaters_9 : decode cX3_findWaters 9 = .ok (.iconst 1, 1) := by decide +kernel
theorem dX3_findWaters_10 : decode cX3_findWaters 10 = .ok (.istore_n 3, 1) := by decide +kernel
theorem dX3_findWaters_11 : decode cX3_findWaters 11 = .ok (.iload_n 3, 1) := by decide +kernel
theorem dX3_findWaters_12 : decode cX3_findWaters 12 = .ok (.aload_n 0, 1) := by decide +kernel
theorem dX3_findWaters_13 : decode cX3_findWaters 13 = .ok (.getfield 9, 3) := by decide +kernel
theorem dX3_findWaters_16 : decode cX3_findWaters 16 = .ok (.arraylength, 1) := by decide +kernel
theorem dX3_findWaters_17 : decode cX3_findWaters 17 = .ok (.if_icmp .ge 82, 3) := by decide +kernel
theorem dX3_findWaters_20 : decode cX3_findWaters 20 = .ok (.aload_n 0, 1) := by decide +kernel
theorem dX3_findWaters_21 : decode cX3_findWaters 21 = .ok (.getfield 9, 3) := by decide +kernel
theorem dX3_findWaters_24 : decode cX3_findWaters 24 = .ok (.iload_n 3, 1) := by decide +kernel
theorem dX3_findWaters_25 : decode cX3_findWaters 25 = .ok (.iaload, 1) := by decide +kernel
theorem dX3_findWaters_26 : decode cX3_findWaters 26 = .ok (.aload_n 0, 1) := by decide +kernel
theorem dX3_findWaters_27 : decode cX3_findWaters 27 = .ok (.getfield 9, 3) := by decide +kernel
theorem dX3_findWaters_30 : decode cX3_findWaters 30 = .ok (.iload_n 3, 1) := by decide +kernel
theorem dX3_findWaters_31 : decode cX3_findWaters 31 = .ok (.iconst 1, 1) := by decide +kernel
theorem dX3_findWaters_32 : decode cX3_findWaters 32 = .ok (.isub, 1) := by decide +kernel
theorem dX3_findWaters_33 : decode cX3_findWaters 33 = .ok (.iaload, 1) := by decide +kernel
theorem dX3_findWaters_34 : decode cX3_findWaters 34 = .ok (.if_icmp .ne 6, 3) := by decide +kernel
theorem dX3_findWaters_37 : decode cX3_findWaters 37 = .ok (.goto 56, 3) := by decide +kernel
theorem dX3_findWaters_40 : decode cX3_findWaters 40 = .ok (.aload_n 0, 1) := by decide +kernel
theorem dX3_findWaters_41 : decode cX3_findWaters 41 = .ok (.getfield 9, 3) := by decide +kernel
theorem dX3_findWaters_44 : decode cX3_findWaters 44 = .ok (.iload_n 3, 1) := by decide +kernel
theorem dX3_findWaters_45 : decode cX3_findWaters 45 = .ok (.iaload, 1) := by decide +kernel
theorem dX3_findWaters_46 : decode cX3_findWaters 46 = .ok (.aload_n 0, 1) := by decide +kernel
theorem dX3_findWaters_47 : decode cX3_findWaters 47 = .ok (.getfield 9, 3) := by decide +kernel
theorem dX3_findWaters_50 : decode cX3_findWaters 50 = .ok (.iload_n 3, 1) := by decide +kernel
theorem dX3_findWaters_51 : decode cX3_findWaters 51 = .ok (.iconst 1, 1) := by decide +kernel
theorem dX3_findWaters_52 : decode cX3_findWaters 52 = .ok (.isub, 1) := by decide +kernel
theorem dX3_findWaters_53 : decode cX3_findWaters 53 = .ok (.iaload, 1) := by decide +kernel
theorem dX3_findWaters_54 : decode cX3_findWaters 54 = .ok (.if_icmp .le 7, 3) := by decide +kernel
theorem dX3_findWaters_57 : decode cX3_findWaters 57 = .ok (.iconst 1, 1) := by decide +kernel
theorem dX3_findWaters_58 : decode cX3_findWaters 58 = .ok (.goto 4, 3) := by decide +kernel
theorem dX3_findWaters_61 : decode cX3_findWaters 61 = .ok (.iconst 0, 1) := by decide +kernel
theorem dX3_findWaters_62 : decode cX3_findWaters 62 = .ok (.istore 4, 2) := by decide +kernel
theorem dX3_findWaters_64 : decode cX3_findWaters 64 = .ok (.iload_n 1, 1) := by decide +kernel
theorem dX3_findWaters_65 : decode cX3_findWaters 65 = .ok (.ifCond .le 23, 3) := by decide +kernel
theorem dX3_findWaters_68 : decode cX3_findWaters 68 = .ok (.iload 4, 2) := by decide +kernel
theorem dX3_findWaters_70 : decode cX3_findWaters 70 = .ok (.iload_n 2, 1) := by decide +kernel
theorem dX3_findWaters_71 : decode cX3_findWaters 71 = .ok (.if_icmp .eq 17, 3) := by decide +kernel
theorem dX3_findWaters_74 : decode cX3_findWaters 74 = .ok (.aload_n 0, 1) := by decide +kernel
theorem dX3_findWaters_75 : decode cX3_findWaters 75 = .ok (.iload_n 1, 1) := by decide +kernel
theorem dX3_findWaters_76 : decode cX3_findWaters 76 = .ok (.aload_n 0, 1) := by decide +kernel
theorem dX3_findWaters_77 : decode cX3_findWaters 77 = .ok (.getfield 9, 3) := by decide +kernel
theorem dX3_findWaters_80 : decode cX3_findWaters 80 = .ok (.iload_n 3, 1) := by decide +kernel
theorem dX3_findWaters_81 : decode cX3_findWaters 81 = .ok (.iconst 1, 1) := by decide +kernel
theorem dX3_findWaters_82 : decode cX3_findWaters 82 = .ok (.isub, 1) := by decide +kernel
theorem dX3_findWaters_83 : decode cX3_findWaters 83 = .ok (.iaload, 1) := by decide +kernel
theorem dX3_findWaters_84 : decode cX3_findWaters 84 = .ok (.iload_n 2, 1) := by decide +kernel
theorem dX3_findWaters_85 : decode cX3_findWaters 85 = .ok (.invokevirtual 38, 3) := by decide +kernel
theorem dX3_findWaters_88 : decode cX3_findWaters 88 = .ok (.iload_n 3, 1) := by decide +kernel
theorem dX3_findWaters_89 : decode cX3_findWaters 89 = .ok (.istore_n 1, 1) := by decide +kernel
theorem dX3_findWaters_90 : decode cX3_findWaters 90 = .ok (.iload 4, 2) := by decide +kernel
theorem dX3_findWaters_92 : decode cX3_findWaters 92 = .ok (.istore_n 2, 1) := by decide +kernel
theorem dX3_findWaters_93 : decode cX3_findWaters 93 = .ok (.iinc 3 1, 3) := by decide +kernel
theorem dX3_findWaters_96 : decode cX3_findWaters 96 = .ok (.goto (-85), 3) := by decide +kernel
theorem dX3_findWaters_99 : decode cX3_findWaters 99 = .ok (.return_, 1) := by decide +kernel
theorem dX3_noteWater_0 : decode cX3_noteWater 0 = .ok (.aload_n 0, 1) := by decide +kernel
theorem dX3_noteWater_1 : decode cX3_noteWater 1 = .ok (.getfield 34, 3) := by decide +kernel
theorem dX3_noteWater_4 : decode cX3_noteWater 4 = .ok (.sipush 4320, 3) := by decide +kernel
theorem dX3_noteWater_7 : decode cX3_noteWater 7 = .ok (.if_icmp .ge 43, 3) := by decide +kernel
theorem dX3_noteWater_10 : decode cX3_noteWater 10 = .ok (.aload_n 0, 1) := by decide +kernel
theorem dX3_noteWater_11 : decode cX3_noteWater 11 = .ok (.getfield 15, 3) := by decide +kernel
theorem dX3_noteWater_14 : decode cX3_noteWater 14 = .ok (.aload_n 0, 1) := by decide +kernel
theorem dX3_noteWater_15 : decode cX3_noteWater 15 = .ok (.getfield 34, 3) := by decide +kernel
theorem dX3_noteWater_18 : decode cX3_noteWater 18 = .ok (.iload_n 1, 1) := by decide +kernel
theorem dX3_noteWater_19 : decode cX3_noteWater 19 = .ok (.iastore, 1) := by decide +kernel
theorem dX3_noteWater_20 : decode cX3_noteWater 20 = .ok (.aload_n 0, 1) := by decide +kernel
theorem dX3_noteWater_21 : decode cX3_noteWater 21 = .ok (.getfield 18, 3) := by decide +kernel
theorem dX3_noteWater_24 : decode cX3_noteWater 24 = .ok (.aload_n 0, 1) := by decide +kernel
theorem dX3_noteWater_25 : decode cX3_noteWater 25 = .ok (.getfield 34, 3) := by decide +kernel
theorem dX3_noteWater_28 : decode cX3_noteWater 28 = .ok (.iload_n 2, 1) := by decide +kernel
theorem dX3_noteWater_29 : decode cX3_noteWater 29 = .ok (.iastore, 1) := by decide +kernel
theorem dX3_noteWater_30 : decode cX3_noteWater 30 = .ok (.aload_n 0, 1) := by decide +kernel
theorem dX3_noteWater_31 : decode cX3_noteWater 31 = .ok (.getfield 21, 3) := by decide +kernel
theorem dX3_noteWater_34 : decode cX3_noteWater 34 = .ok (.aload_n 0, 1) := by decide +kernel
theorem dX3_noteWater_35 : decode cX3_noteWater 35 = .ok (.getfield 34, 3) := by decide +kernel
theorem dX3_noteWater_38 : decode cX3_noteWater 38 = .ok (.iload_n 3, 1) := by decide +kernel
theorem dX3_noteWater_39 : decode cX3_noteWater 39 = .ok (.bastore, 1) := by decide +kernel
theorem dX3_noteWater_40 : decode cX3_noteWater 40 = .ok (.aload_n 0, 1) := by decide +kernel
